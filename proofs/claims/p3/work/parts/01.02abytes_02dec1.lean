section
/-! bytes of a method, and what an instruction is by them -/
def bA (c : ByteArray) (i v : Nat) : Prop := ∃ h : i < c.size, (c[i]'h).toNat = v
def bL (c : ByteArray) (i : Nat) (l : List Nat) : Prop := ∀ k v, l[k]? = some v → bA c (i + k) v
theorem bL_at {c : ByteArray} {i k : Nat} {l : List Nat} (j : Nat) {v : Nat} (h : bL c i l) (e : (l.drop k)[j]? = some v) : bA c (i + k + j) v := by
  rw [Nat.add_assoc]
  exact h (k + j) v (by rw [← e, List.getElem?_drop])
def bPre : List Nat → List UInt8 → Bool
  | [], _ => true
  | _ :: _, [] => false
  | v :: vs, b :: bs => Nat.beq b.toNat v && bPre vs bs
theorem bPre_at : ∀ (l : List Nat) (L : List UInt8), bPre l L = true → ∀ k v : Nat, l[k]? = some v → ∃ b : UInt8, L[k]? = some b ∧ b.toNat = v := by
  intro l
  induction l with
  | nil => intro L _ k v h; simp at h
  | cons x xs ih =>
    intro L h k v hk
    cases L with
    | nil => cases h
    | cons b bs =>
      have h' : (Nat.beq b.toNat x && bPre xs bs) = true := h
      rw [Bool.and_eq_true] at h'
      cases k with
      | zero =>
        have : x = v := by simpa using hk
        exact ⟨b, by simp, by rw [← this]; exact Nat.eq_of_beq_eq_true h'.1⟩
      | succ k => exact (ih bs h'.2 k v (by simpa using hk)).imp fun y hy => ⟨by simpa using hy.1, hy.2⟩
theorem bL_of {c : ByteArray} {i : Nat} {l : List Nat} (h : bPre l (c.data.toList.drop i) = true) : bL c i l := by
  intro k v hk
  obtain ⟨b, h1, h2⟩ := bPre_at l _ h k v hk
  rw [List.getElem?_drop, Array.getElem?_toList] at h1
  obtain ⟨h3, h4⟩ := Array.getElem?_eq_some_iff.mp h1
  exact ⟨h3, by rw [← h2, ← h4]; rfl⟩
theorem r_bind {α β : Type} {r : Jvm.ClassFile.Decoder α} {f : α → Jvm.ClassFile.Decoder β} {c : ByteArray} {p q : Nat} {x : α} (h : r c p = .ok (x, q)) : Jvm.ClassFile.Reader.runAt (r >>= f) c p = Jvm.ClassFile.Reader.runAt (f x) c q := by
  show Except.bind (r c p) _ = _
  rw [h]
  rfl
theorem u1_at {c : ByteArray} {p v : Nat} (h : bA c p v) : (Jvm.ClassFile.Reader.u1 : Jvm.ClassFile.Decoder Nat) c p = .ok (v, p + 1) := by
  obtain ⟨h, rfl⟩ := h
  show (if h : p < c.size then _ else _ : Jvm.ClassFile.Decoder Nat) c p = _
  rw [dif_pos h]
  rfl
theorem u2_at {c : ByteArray} {p a b : Nat} (h1 : bA c p a) (h2 : bA c (p + 1) b) : (Jvm.ClassFile.Reader.u2 : Jvm.ClassFile.Decoder Nat) c p = .ok (a * 256 + b, p + 2) := by
  show Except.bind ((Jvm.ClassFile.Reader.u1 : Jvm.ClassFile.Decoder Nat) c p) _ = _
  rw [u1_at h1]
  show Except.bind ((Jvm.ClassFile.Reader.u1 : Jvm.ClassFile.Decoder Nat) c (p + 1)) _ = _
  rw [u1_at h2]
  rfl
theorem s1_at {c : ByteArray} {p a : Nat} (h1 : bA c p a) : (Jvm.ClassFile.Reader.s1 : Jvm.ClassFile.Decoder Int) c p = .ok (Jvm.ClassFile.Reader.signed 8 a, p + 1) := by
  show Except.bind ((Jvm.ClassFile.Reader.u1 : Jvm.ClassFile.Decoder Nat) c p) _ = _
  rw [u1_at h1]
  rfl
theorem s2_at {c : ByteArray} {p a b : Nat} (h1 : bA c p a) (h2 : bA c (p + 1) b) : (Jvm.ClassFile.Reader.s2 : Jvm.ClassFile.Decoder Int) c p = .ok (Jvm.ClassFile.Reader.signed 16 (a * 256 + b), p + 2) := by
  show Except.bind ((Jvm.ClassFile.Reader.u2 : Jvm.ClassFile.Decoder Nat) c p) _ = _
  rw [u2_at h1 h2]
  rfl
theorem dec_of {c : ByteArray} {pc n : Nat} {x : Instr} (h : Jvm.ClassFile.Reader.runAt (Jvm.ClassFile.Decoder.instr pc) c pc = .ok (x, pc + n)) : decode c pc = .ok (x, n) := by
  unfold decode
  rw [h]
  show Except.ok (x, pc + n - pc) = _
  rw [Nat.add_sub_cancel_left]
theorem dk2 {c : ByteArray} {i k : Nat} {l r : List Nat} (h : bL c i l) (e : l.drop k = 2 :: r) : decode c (i + k) = .ok (.iconst (-1), 1) := by
  refine dec_of ((r_bind (u1_at (bL_at 0 h (by rw [e]; rfl)))).trans ?_)
  rfl
theorem dk3 {c : ByteArray} {i k : Nat} {l r : List Nat} (h : bL c i l) (e : l.drop k = 3 :: r) : decode c (i + k) = .ok (.iconst 0, 1) := by
  refine dec_of ((r_bind (u1_at (bL_at 0 h (by rw [e]; rfl)))).trans ?_)
  rfl
theorem dk4 {c : ByteArray} {i k : Nat} {l r : List Nat} (h : bL c i l) (e : l.drop k = 4 :: r) : decode c (i + k) = .ok (.iconst 1, 1) := by
  refine dec_of ((r_bind (u1_at (bL_at 0 h (by rw [e]; rfl)))).trans ?_)
  rfl
theorem dk5 {c : ByteArray} {i k : Nat} {l r : List Nat} (h : bL c i l) (e : l.drop k = 5 :: r) : decode c (i + k) = .ok (.iconst 2, 1) := by
  refine dec_of ((r_bind (u1_at (bL_at 0 h (by rw [e]; rfl)))).trans ?_)
  rfl
theorem dk6 {c : ByteArray} {i k : Nat} {l r : List Nat} (h : bL c i l) (e : l.drop k = 6 :: r) : decode c (i + k) = .ok (.iconst 3, 1) := by
  refine dec_of ((r_bind (u1_at (bL_at 0 h (by rw [e]; rfl)))).trans ?_)
  rfl
theorem dk7 {c : ByteArray} {i k : Nat} {l r : List Nat} (h : bL c i l) (e : l.drop k = 7 :: r) : decode c (i + k) = .ok (.iconst 4, 1) := by
  refine dec_of ((r_bind (u1_at (bL_at 0 h (by rw [e]; rfl)))).trans ?_)
  rfl
theorem dk8 {c : ByteArray} {i k : Nat} {l r : List Nat} (h : bL c i l) (e : l.drop k = 8 :: r) : decode c (i + k) = .ok (.iconst 5, 1) := by
  refine dec_of ((r_bind (u1_at (bL_at 0 h (by rw [e]; rfl)))).trans ?_)
  rfl
theorem dk9 {c : ByteArray} {i k : Nat} {l r : List Nat} (h : bL c i l) (e : l.drop k = 9 :: r) : decode c (i + k) = .ok (.lconst 0, 1) := by
  refine dec_of ((r_bind (u1_at (bL_at 0 h (by rw [e]; rfl)))).trans ?_)
  rfl
theorem dk10 {c : ByteArray} {i k : Nat} {l r : List Nat} (h : bL c i l) (e : l.drop k = 10 :: r) : decode c (i + k) = .ok (.lconst 1, 1) := by
  refine dec_of ((r_bind (u1_at (bL_at 0 h (by rw [e]; rfl)))).trans ?_)
  rfl
theorem dk16 {c : ByteArray} {i k a : Nat} {x : Int} {l r : List Nat} (h : bL c i l) (e : l.drop k = 16 :: a :: r) (hx : Jvm.ClassFile.Reader.signed 8 a = x) : decode c (i + k) = .ok (.bipush x, 2) := by
  subst hx
  refine dec_of ((r_bind (u1_at (bL_at 0 h (by rw [e]; rfl)))).trans ?_)
  exact (r_bind (s1_at (bL_at 1 h (by rw [e]; rfl)))).trans rfl
theorem dk17 {c : ByteArray} {i k a b : Nat} {x : Int} {l r : List Nat} (h : bL c i l) (e : l.drop k = 17 :: a :: b :: r) (hx : Jvm.ClassFile.Reader.signed 16 (a * 256 + b) = x) : decode c (i + k) = .ok (.sipush x, 3) := by
  subst hx
  refine dec_of ((r_bind (u1_at (bL_at 0 h (by rw [e]; rfl)))).trans ?_)
  exact (r_bind (s2_at (bL_at 1 h (by rw [e]; rfl)) (bL_at 2 h (by rw [e]; rfl)))).trans rfl
theorem dk18 {c : ByteArray} {i k a x : Nat} {l r : List Nat} (h : bL c i l) (e : l.drop k = 18 :: a :: r) (hx : a = x) : decode c (i + k) = .ok (.ldc x, 2) := by
  subst hx
  refine dec_of ((r_bind (u1_at (bL_at 0 h (by rw [e]; rfl)))).trans ?_)
  exact (r_bind (u1_at (bL_at 1 h (by rw [e]; rfl)))).trans rfl
theorem dk19 {c : ByteArray} {i k a b x : Nat} {l r : List Nat} (h : bL c i l) (e : l.drop k = 19 :: a :: b :: r) (hx : a * 256 + b = x) : decode c (i + k) = .ok (.ldc_w x, 3) := by
  subst hx
  refine dec_of ((r_bind (u1_at (bL_at 0 h (by rw [e]; rfl)))).trans ?_)
  exact (r_bind (u2_at (bL_at 1 h (by rw [e]; rfl)) (bL_at 2 h (by rw [e]; rfl)))).trans rfl
theorem dk20 {c : ByteArray} {i k a b x : Nat} {l r : List Nat} (h : bL c i l) (e : l.drop k = 20 :: a :: b :: r) (hx : a * 256 + b = x) : decode c (i + k) = .ok (.ldc2_w x, 3) := by
  subst hx
  refine dec_of ((r_bind (u1_at (bL_at 0 h (by rw [e]; rfl)))).trans ?_)
  exact (r_bind (u2_at (bL_at 1 h (by rw [e]; rfl)) (bL_at 2 h (by rw [e]; rfl)))).trans rfl
theorem dk21 {c : ByteArray} {i k a x : Nat} {l r : List Nat} (h : bL c i l) (e : l.drop k = 21 :: a :: r) (hx : a = x) : decode c (i + k) = .ok (.iload x, 2) := by
  subst hx
  refine dec_of ((r_bind (u1_at (bL_at 0 h (by rw [e]; rfl)))).trans ?_)
  exact (r_bind (u1_at (bL_at 1 h (by rw [e]; rfl)))).trans rfl
theorem dk22 {c : ByteArray} {i k a x : Nat} {l r : List Nat} (h : bL c i l) (e : l.drop k = 22 :: a :: r) (hx : a = x) : decode c (i + k) = .ok (.lload x, 2) := by
  subst hx
  refine dec_of ((r_bind (u1_at (bL_at 0 h (by rw [e]; rfl)))).trans ?_)
  exact (r_bind (u1_at (bL_at 1 h (by rw [e]; rfl)))).trans rfl
theorem dk26 {c : ByteArray} {i k : Nat} {l r : List Nat} (h : bL c i l) (e : l.drop k = 26 :: r) : decode c (i + k) = .ok (.iload_n 0, 1) := by
  refine dec_of ((r_bind (u1_at (bL_at 0 h (by rw [e]; rfl)))).trans ?_)
  rfl
theorem dk27 {c : ByteArray} {i k : Nat} {l r : List Nat} (h : bL c i l) (e : l.drop k = 27 :: r) : decode c (i + k) = .ok (.iload_n 1, 1) := by
  refine dec_of ((r_bind (u1_at (bL_at 0 h (by rw [e]; rfl)))).trans ?_)
  rfl
theorem dk28 {c : ByteArray} {i k : Nat} {l r : List Nat} (h : bL c i l) (e : l.drop k = 28 :: r) : decode c (i + k) = .ok (.iload_n 2, 1) := by
  refine dec_of ((r_bind (u1_at (bL_at 0 h (by rw [e]; rfl)))).trans ?_)
  rfl
theorem dk29 {c : ByteArray} {i k : Nat} {l r : List Nat} (h : bL c i l) (e : l.drop k = 29 :: r) : decode c (i + k) = .ok (.iload_n 3, 1) := by
  refine dec_of ((r_bind (u1_at (bL_at 0 h (by rw [e]; rfl)))).trans ?_)
  rfl
theorem dk30 {c : ByteArray} {i k : Nat} {l r : List Nat} (h : bL c i l) (e : l.drop k = 30 :: r) : decode c (i + k) = .ok (.lload_n 0, 1) := by
  refine dec_of ((r_bind (u1_at (bL_at 0 h (by rw [e]; rfl)))).trans ?_)
  rfl
theorem dk31 {c : ByteArray} {i k : Nat} {l r : List Nat} (h : bL c i l) (e : l.drop k = 31 :: r) : decode c (i + k) = .ok (.lload_n 1, 1) := by
  refine dec_of ((r_bind (u1_at (bL_at 0 h (by rw [e]; rfl)))).trans ?_)
  rfl
theorem dk32 {c : ByteArray} {i k : Nat} {l r : List Nat} (h : bL c i l) (e : l.drop k = 32 :: r) : decode c (i + k) = .ok (.lload_n 2, 1) := by
  refine dec_of ((r_bind (u1_at (bL_at 0 h (by rw [e]; rfl)))).trans ?_)
  rfl
theorem dk33 {c : ByteArray} {i k : Nat} {l r : List Nat} (h : bL c i l) (e : l.drop k = 33 :: r) : decode c (i + k) = .ok (.lload_n 3, 1) := by
  refine dec_of ((r_bind (u1_at (bL_at 0 h (by rw [e]; rfl)))).trans ?_)
  rfl
theorem dk42 {c : ByteArray} {i k : Nat} {l r : List Nat} (h : bL c i l) (e : l.drop k = 42 :: r) : decode c (i + k) = .ok (.aload_n 0, 1) := by
  refine dec_of ((r_bind (u1_at (bL_at 0 h (by rw [e]; rfl)))).trans ?_)
  rfl
theorem dk43 {c : ByteArray} {i k : Nat} {l r : List Nat} (h : bL c i l) (e : l.drop k = 43 :: r) : decode c (i + k) = .ok (.aload_n 1, 1) := by
  refine dec_of ((r_bind (u1_at (bL_at 0 h (by rw [e]; rfl)))).trans ?_)
  rfl
theorem dk44 {c : ByteArray} {i k : Nat} {l r : List Nat} (h : bL c i l) (e : l.drop k = 44 :: r) : decode c (i + k) = .ok (.aload_n 2, 1) := by
  refine dec_of ((r_bind (u1_at (bL_at 0 h (by rw [e]; rfl)))).trans ?_)
  rfl
theorem dk45 {c : ByteArray} {i k : Nat} {l r : List Nat} (h : bL c i l) (e : l.drop k = 45 :: r) : decode c (i + k) = .ok (.aload_n 3, 1) := by
  refine dec_of ((r_bind (u1_at (bL_at 0 h (by rw [e]; rfl)))).trans ?_)
  rfl
theorem dk46 {c : ByteArray} {i k : Nat} {l r : List Nat} (h : bL c i l) (e : l.drop k = 46 :: r) : decode c (i + k) = .ok (.iaload, 1) := by
  refine dec_of ((r_bind (u1_at (bL_at 0 h (by rw [e]; rfl)))).trans ?_)
  rfl
theorem dk47 {c : ByteArray} {i k : Nat} {l r : List Nat} (h : bL c i l) (e : l.drop k = 47 :: r) : decode c (i + k) = .ok (.laload, 1) := by
  refine dec_of ((r_bind (u1_at (bL_at 0 h (by rw [e]; rfl)))).trans ?_)
  rfl
theorem dk50 {c : ByteArray} {i k : Nat} {l r : List Nat} (h : bL c i l) (e : l.drop k = 50 :: r) : decode c (i + k) = .ok (.aaload, 1) := by
  refine dec_of ((r_bind (u1_at (bL_at 0 h (by rw [e]; rfl)))).trans ?_)
  rfl
theorem dk51 {c : ByteArray} {i k : Nat} {l r : List Nat} (h : bL c i l) (e : l.drop k = 51 :: r) : decode c (i + k) = .ok (.baload, 1) := by
  refine dec_of ((r_bind (u1_at (bL_at 0 h (by rw [e]; rfl)))).trans ?_)
  rfl
theorem dk54 {c : ByteArray} {i k a x : Nat} {l r : List Nat} (h : bL c i l) (e : l.drop k = 54 :: a :: r) (hx : a = x) : decode c (i + k) = .ok (.istore x, 2) := by
  subst hx
  refine dec_of ((r_bind (u1_at (bL_at 0 h (by rw [e]; rfl)))).trans ?_)
  exact (r_bind (u1_at (bL_at 1 h (by rw [e]; rfl)))).trans rfl
theorem dk55 {c : ByteArray} {i k a x : Nat} {l r : List Nat} (h : bL c i l) (e : l.drop k = 55 :: a :: r) (hx : a = x) : decode c (i + k) = .ok (.lstore x, 2) := by
  subst hx
  refine dec_of ((r_bind (u1_at (bL_at 0 h (by rw [e]; rfl)))).trans ?_)
  exact (r_bind (u1_at (bL_at 1 h (by rw [e]; rfl)))).trans rfl
theorem dk59 {c : ByteArray} {i k : Nat} {l r : List Nat} (h : bL c i l) (e : l.drop k = 59 :: r) : decode c (i + k) = .ok (.istore_n 0, 1) := by
  refine dec_of ((r_bind (u1_at (bL_at 0 h (by rw [e]; rfl)))).trans ?_)
  rfl
theorem dk60 {c : ByteArray} {i k : Nat} {l r : List Nat} (h : bL c i l) (e : l.drop k = 60 :: r) : decode c (i + k) = .ok (.istore_n 1, 1) := by
  refine dec_of ((r_bind (u1_at (bL_at 0 h (by rw [e]; rfl)))).trans ?_)
  rfl
theorem dk61 {c : ByteArray} {i k : Nat} {l r : List Nat} (h : bL c i l) (e : l.drop k = 61 :: r) : decode c (i + k) = .ok (.istore_n 2, 1) := by
  refine dec_of ((r_bind (u1_at (bL_at 0 h (by rw [e]; rfl)))).trans ?_)
  rfl
theorem dk62 {c : ByteArray} {i k : Nat} {l r : List Nat} (h : bL c i l) (e : l.drop k = 62 :: r) : decode c (i + k) = .ok (.istore_n 3, 1) := by
  refine dec_of ((r_bind (u1_at (bL_at 0 h (by rw [e]; rfl)))).trans ?_)
  rfl
theorem dk76 {c : ByteArray} {i k : Nat} {l r : List Nat} (h : bL c i l) (e : l.drop k = 76 :: r) : decode c (i + k) = .ok (.astore_n 1, 1) := by
  refine dec_of ((r_bind (u1_at (bL_at 0 h (by rw [e]; rfl)))).trans ?_)
  rfl
theorem dk77 {c : ByteArray} {i k : Nat} {l r : List Nat} (h : bL c i l) (e : l.drop k = 77 :: r) : decode c (i + k) = .ok (.astore_n 2, 1) := by
  refine dec_of ((r_bind (u1_at (bL_at 0 h (by rw [e]; rfl)))).trans ?_)
  rfl
theorem dk79 {c : ByteArray} {i k : Nat} {l r : List Nat} (h : bL c i l) (e : l.drop k = 79 :: r) : decode c (i + k) = .ok (.iastore, 1) := by
  refine dec_of ((r_bind (u1_at (bL_at 0 h (by rw [e]; rfl)))).trans ?_)
  rfl
theorem dk80 {c : ByteArray} {i k : Nat} {l r : List Nat} (h : bL c i l) (e : l.drop k = 80 :: r) : decode c (i + k) = .ok (.lastore, 1) := by
  refine dec_of ((r_bind (u1_at (bL_at 0 h (by rw [e]; rfl)))).trans ?_)
  rfl
theorem dk83 {c : ByteArray} {i k : Nat} {l r : List Nat} (h : bL c i l) (e : l.drop k = 83 :: r) : decode c (i + k) = .ok (.aastore, 1) := by
  refine dec_of ((r_bind (u1_at (bL_at 0 h (by rw [e]; rfl)))).trans ?_)
  rfl
theorem dk84 {c : ByteArray} {i k : Nat} {l r : List Nat} (h : bL c i l) (e : l.drop k = 84 :: r) : decode c (i + k) = .ok (.bastore, 1) := by
  refine dec_of ((r_bind (u1_at (bL_at 0 h (by rw [e]; rfl)))).trans ?_)
  rfl
theorem dk87 {c : ByteArray} {i k : Nat} {l r : List Nat} (h : bL c i l) (e : l.drop k = 87 :: r) : decode c (i + k) = .ok (.pop, 1) := by
  refine dec_of ((r_bind (u1_at (bL_at 0 h (by rw [e]; rfl)))).trans ?_)
  rfl
theorem dk89 {c : ByteArray} {i k : Nat} {l r : List Nat} (h : bL c i l) (e : l.drop k = 89 :: r) : decode c (i + k) = .ok (.dup, 1) := by
  refine dec_of ((r_bind (u1_at (bL_at 0 h (by rw [e]; rfl)))).trans ?_)
  rfl
theorem dk92 {c : ByteArray} {i k : Nat} {l r : List Nat} (h : bL c i l) (e : l.drop k = 92 :: r) : decode c (i + k) = .ok (.dup2, 1) := by
  refine dec_of ((r_bind (u1_at (bL_at 0 h (by rw [e]; rfl)))).trans ?_)
  rfl
theorem dk96 {c : ByteArray} {i k : Nat} {l r : List Nat} (h : bL c i l) (e : l.drop k = 96 :: r) : decode c (i + k) = .ok (.iadd, 1) := by
  refine dec_of ((r_bind (u1_at (bL_at 0 h (by rw [e]; rfl)))).trans ?_)
  rfl
theorem dk97 {c : ByteArray} {i k : Nat} {l r : List Nat} (h : bL c i l) (e : l.drop k = 97 :: r) : decode c (i + k) = .ok (.ladd, 1) := by
  refine dec_of ((r_bind (u1_at (bL_at 0 h (by rw [e]; rfl)))).trans ?_)
  rfl
theorem dk100 {c : ByteArray} {i k : Nat} {l r : List Nat} (h : bL c i l) (e : l.drop k = 100 :: r) : decode c (i + k) = .ok (.isub, 1) := by
  refine dec_of ((r_bind (u1_at (bL_at 0 h (by rw [e]; rfl)))).trans ?_)
  rfl
theorem dk104 {c : ByteArray} {i k : Nat} {l r : List Nat} (h : bL c i l) (e : l.drop k = 104 :: r) : decode c (i + k) = .ok (.imul, 1) := by
  refine dec_of ((r_bind (u1_at (bL_at 0 h (by rw [e]; rfl)))).trans ?_)
  rfl
theorem dk105 {c : ByteArray} {i k : Nat} {l r : List Nat} (h : bL c i l) (e : l.drop k = 105 :: r) : decode c (i + k) = .ok (.lmul, 1) := by
  refine dec_of ((r_bind (u1_at (bL_at 0 h (by rw [e]; rfl)))).trans ?_)
  rfl
theorem dk108 {c : ByteArray} {i k : Nat} {l r : List Nat} (h : bL c i l) (e : l.drop k = 108 :: r) : decode c (i + k) = .ok (.idiv, 1) := by
  refine dec_of ((r_bind (u1_at (bL_at 0 h (by rw [e]; rfl)))).trans ?_)
  rfl
theorem dk109 {c : ByteArray} {i k : Nat} {l r : List Nat} (h : bL c i l) (e : l.drop k = 109 :: r) : decode c (i + k) = .ok (.ldiv, 1) := by
  refine dec_of ((r_bind (u1_at (bL_at 0 h (by rw [e]; rfl)))).trans ?_)
  rfl
theorem dk112 {c : ByteArray} {i k : Nat} {l r : List Nat} (h : bL c i l) (e : l.drop k = 112 :: r) : decode c (i + k) = .ok (.irem, 1) := by
  refine dec_of ((r_bind (u1_at (bL_at 0 h (by rw [e]; rfl)))).trans ?_)
  rfl
theorem dk113 {c : ByteArray} {i k : Nat} {l r : List Nat} (h : bL c i l) (e : l.drop k = 113 :: r) : decode c (i + k) = .ok (.lrem, 1) := by
  refine dec_of ((r_bind (u1_at (bL_at 0 h (by rw [e]; rfl)))).trans ?_)
  rfl
theorem dk116 {c : ByteArray} {i k : Nat} {l r : List Nat} (h : bL c i l) (e : l.drop k = 116 :: r) : decode c (i + k) = .ok (.ineg, 1) := by
  refine dec_of ((r_bind (u1_at (bL_at 0 h (by rw [e]; rfl)))).trans ?_)
  rfl
theorem dk120 {c : ByteArray} {i k : Nat} {l r : List Nat} (h : bL c i l) (e : l.drop k = 120 :: r) : decode c (i + k) = .ok (.ishl, 1) := by
  refine dec_of ((r_bind (u1_at (bL_at 0 h (by rw [e]; rfl)))).trans ?_)
  rfl
theorem dk121 {c : ByteArray} {i k : Nat} {l r : List Nat} (h : bL c i l) (e : l.drop k = 121 :: r) : decode c (i + k) = .ok (.lshl, 1) := by
  refine dec_of ((r_bind (u1_at (bL_at 0 h (by rw [e]; rfl)))).trans ?_)
  rfl
theorem dk122 {c : ByteArray} {i k : Nat} {l r : List Nat} (h : bL c i l) (e : l.drop k = 122 :: r) : decode c (i + k) = .ok (.ishr, 1) := by
  refine dec_of ((r_bind (u1_at (bL_at 0 h (by rw [e]; rfl)))).trans ?_)
  rfl
theorem dk123 {c : ByteArray} {i k : Nat} {l r : List Nat} (h : bL c i l) (e : l.drop k = 123 :: r) : decode c (i + k) = .ok (.lshr, 1) := by
  refine dec_of ((r_bind (u1_at (bL_at 0 h (by rw [e]; rfl)))).trans ?_)
  rfl
theorem dk124 {c : ByteArray} {i k : Nat} {l r : List Nat} (h : bL c i l) (e : l.drop k = 124 :: r) : decode c (i + k) = .ok (.iushr, 1) := by
  refine dec_of ((r_bind (u1_at (bL_at 0 h (by rw [e]; rfl)))).trans ?_)
  rfl
theorem dk126 {c : ByteArray} {i k : Nat} {l r : List Nat} (h : bL c i l) (e : l.drop k = 126 :: r) : decode c (i + k) = .ok (.iand, 1) := by
  refine dec_of ((r_bind (u1_at (bL_at 0 h (by rw [e]; rfl)))).trans ?_)
  rfl
theorem dk127 {c : ByteArray} {i k : Nat} {l r : List Nat} (h : bL c i l) (e : l.drop k = 127 :: r) : decode c (i + k) = .ok (.land, 1) := by
  refine dec_of ((r_bind (u1_at (bL_at 0 h (by rw [e]; rfl)))).trans ?_)
  rfl
theorem dk128 {c : ByteArray} {i k : Nat} {l r : List Nat} (h : bL c i l) (e : l.drop k = 128 :: r) : decode c (i + k) = .ok (.ior, 1) := by
  refine dec_of ((r_bind (u1_at (bL_at 0 h (by rw [e]; rfl)))).trans ?_)
  rfl
theorem dk129 {c : ByteArray} {i k : Nat} {l r : List Nat} (h : bL c i l) (e : l.drop k = 129 :: r) : decode c (i + k) = .ok (.lor, 1) := by
  refine dec_of ((r_bind (u1_at (bL_at 0 h (by rw [e]; rfl)))).trans ?_)
  rfl
theorem dk130 {c : ByteArray} {i k : Nat} {l r : List Nat} (h : bL c i l) (e : l.drop k = 130 :: r) : decode c (i + k) = .ok (.ixor, 1) := by
  refine dec_of ((r_bind (u1_at (bL_at 0 h (by rw [e]; rfl)))).trans ?_)
  rfl
theorem dk132 {c : ByteArray} {i k a b y : Nat} {x : Int} {l r : List Nat} (h : bL c i l) (e : l.drop k = 132 :: a :: b :: r) (hy : a = y) (hx : Jvm.ClassFile.Reader.signed 8 b = x) : decode c (i + k) = .ok (.iinc y x, 3) := by
  subst hx
  subst hy
  refine dec_of ((r_bind (u1_at (bL_at 0 h (by rw [e]; rfl)))).trans ?_)
  refine (r_bind (u1_at (bL_at 1 h (by rw [e]; rfl)))).trans ?_
  exact (r_bind (s1_at (bL_at 2 h (by rw [e]; rfl)))).trans rfl
theorem dk133 {c : ByteArray} {i k : Nat} {l r : List Nat} (h : bL c i l) (e : l.drop k = 133 :: r) : decode c (i + k) = .ok (.i2l, 1) := by
  refine dec_of ((r_bind (u1_at (bL_at 0 h (by rw [e]; rfl)))).trans ?_)
  rfl
theorem dk136 {c : ByteArray} {i k : Nat} {l r : List Nat} (h : bL c i l) (e : l.drop k = 136 :: r) : decode c (i + k) = .ok (.l2i, 1) := by
  refine dec_of ((r_bind (u1_at (bL_at 0 h (by rw [e]; rfl)))).trans ?_)
  rfl
theorem dk145 {c : ByteArray} {i k : Nat} {l r : List Nat} (h : bL c i l) (e : l.drop k = 145 :: r) : decode c (i + k) = .ok (.i2b, 1) := by
  refine dec_of ((r_bind (u1_at (bL_at 0 h (by rw [e]; rfl)))).trans ?_)
  rfl
theorem dk146 {c : ByteArray} {i k : Nat} {l r : List Nat} (h : bL c i l) (e : l.drop k = 146 :: r) : decode c (i + k) = .ok (.i2c, 1) := by
  refine dec_of ((r_bind (u1_at (bL_at 0 h (by rw [e]; rfl)))).trans ?_)
  rfl
theorem dk147 {c : ByteArray} {i k : Nat} {l r : List Nat} (h : bL c i l) (e : l.drop k = 147 :: r) : decode c (i + k) = .ok (.i2s, 1) := by
  refine dec_of ((r_bind (u1_at (bL_at 0 h (by rw [e]; rfl)))).trans ?_)
  rfl
theorem dk148 {c : ByteArray} {i k : Nat} {l r : List Nat} (h : bL c i l) (e : l.drop k = 148 :: r) : decode c (i + k) = .ok (.lcmp, 1) := by
  refine dec_of ((r_bind (u1_at (bL_at 0 h (by rw [e]; rfl)))).trans ?_)
  rfl
theorem dk153 {c : ByteArray} {i k a b : Nat} {x : Int} {l r : List Nat} (h : bL c i l) (e : l.drop k = 153 :: a :: b :: r) (hx : Jvm.ClassFile.Reader.signed 16 (a * 256 + b) = x) : decode c (i + k) = .ok (.ifCond .eq x, 3) := by
  subst hx
  refine dec_of ((r_bind (u1_at (bL_at 0 h (by rw [e]; rfl)))).trans ?_)
  exact (r_bind (s2_at (bL_at 1 h (by rw [e]; rfl)) (bL_at 2 h (by rw [e]; rfl)))).trans rfl
theorem dk154 {c : ByteArray} {i k a b : Nat} {x : Int} {l r : List Nat} (h : bL c i l) (e : l.drop k = 154 :: a :: b :: r) (hx : Jvm.ClassFile.Reader.signed 16 (a * 256 + b) = x) : decode c (i + k) = .ok (.ifCond .ne x, 3) := by
  subst hx
  refine dec_of ((r_bind (u1_at (bL_at 0 h (by rw [e]; rfl)))).trans ?_)
  exact (r_bind (s2_at (bL_at 1 h (by rw [e]; rfl)) (bL_at 2 h (by rw [e]; rfl)))).trans rfl
theorem dk155 {c : ByteArray} {i k a b : Nat} {x : Int} {l r : List Nat} (h : bL c i l) (e : l.drop k = 155 :: a :: b :: r) (hx : Jvm.ClassFile.Reader.signed 16 (a * 256 + b) = x) : decode c (i + k) = .ok (.ifCond .lt x, 3) := by
  subst hx
  refine dec_of ((r_bind (u1_at (bL_at 0 h (by rw [e]; rfl)))).trans ?_)
  exact (r_bind (s2_at (bL_at 1 h (by rw [e]; rfl)) (bL_at 2 h (by rw [e]; rfl)))).trans rfl
theorem dk156 {c : ByteArray} {i k a b : Nat} {x : Int} {l r : List Nat} (h : bL c i l) (e : l.drop k = 156 :: a :: b :: r) (hx : Jvm.ClassFile.Reader.signed 16 (a * 256 + b) = x) : decode c (i + k) = .ok (.ifCond .ge x, 3) := by
  subst hx
  refine dec_of ((r_bind (u1_at (bL_at 0 h (by rw [e]; rfl)))).trans ?_)
  exact (r_bind (s2_at (bL_at 1 h (by rw [e]; rfl)) (bL_at 2 h (by rw [e]; rfl)))).trans rfl
theorem dk157 {c : ByteArray} {i k a b : Nat} {x : Int} {l r : List Nat} (h : bL c i l) (e : l.drop k = 157 :: a :: b :: r) (hx : Jvm.ClassFile.Reader.signed 16 (a * 256 + b) = x) : decode c (i + k) = .ok (.ifCond .gt x, 3) := by
  subst hx
  refine dec_of ((r_bind (u1_at (bL_at 0 h (by rw [e]; rfl)))).trans ?_)
  exact (r_bind (s2_at (bL_at 1 h (by rw [e]; rfl)) (bL_at 2 h (by rw [e]; rfl)))).trans rfl
theorem dk158 {c : ByteArray} {i k a b : Nat} {x : Int} {l r : List Nat} (h : bL c i l) (e : l.drop k = 158 :: a :: b :: r) (hx : Jvm.ClassFile.Reader.signed 16 (a * 256 + b) = x) : decode c (i + k) = .ok (.ifCond .le x, 3) := by
  subst hx
  refine dec_of ((r_bind (u1_at (bL_at 0 h (by rw [e]; rfl)))).trans ?_)
  exact (r_bind (s2_at (bL_at 1 h (by rw [e]; rfl)) (bL_at 2 h (by rw [e]; rfl)))).trans rfl
theorem dk159 {c : ByteArray} {i k a b : Nat} {x : Int} {l r : List Nat} (h : bL c i l) (e : l.drop k = 159 :: a :: b :: r) (hx : Jvm.ClassFile.Reader.signed 16 (a * 256 + b) = x) : decode c (i + k) = .ok (.if_icmp .eq x, 3) := by
  subst hx
  refine dec_of ((r_bind (u1_at (bL_at 0 h (by rw [e]; rfl)))).trans ?_)
  exact (r_bind (s2_at (bL_at 1 h (by rw [e]; rfl)) (bL_at 2 h (by rw [e]; rfl)))).trans rfl
theorem dk160 {c : ByteArray} {i k a b : Nat} {x : Int} {l r : List Nat} (h : bL c i l) (e : l.drop k = 160 :: a :: b :: r) (hx : Jvm.ClassFile.Reader.signed 16 (a * 256 + b) = x) : decode c (i + k) = .ok (.if_icmp .ne x, 3) := by
  subst hx
  refine dec_of ((r_bind (u1_at (bL_at 0 h (by rw [e]; rfl)))).trans ?_)
  exact (r_bind (s2_at (bL_at 1 h (by rw [e]; rfl)) (bL_at 2 h (by rw [e]; rfl)))).trans rfl
theorem dk161 {c : ByteArray} {i k a b : Nat} {x : Int} {l r : List Nat} (h : bL c i l) (e : l.drop k = 161 :: a :: b :: r) (hx : Jvm.ClassFile.Reader.signed 16 (a * 256 + b) = x) : decode c (i + k) = .ok (.if_icmp .lt x, 3) := by
  subst hx
  refine dec_of ((r_bind (u1_at (bL_at 0 h (by rw [e]; rfl)))).trans ?_)
  exact (r_bind (s2_at (bL_at 1 h (by rw [e]; rfl)) (bL_at 2 h (by rw [e]; rfl)))).trans rfl
theorem dk162 {c : ByteArray} {i k a b : Nat} {x : Int} {l r : List Nat} (h : bL c i l) (e : l.drop k = 162 :: a :: b :: r) (hx : Jvm.ClassFile.Reader.signed 16 (a * 256 + b) = x) : decode c (i + k) = .ok (.if_icmp .ge x, 3) := by
  subst hx
  refine dec_of ((r_bind (u1_at (bL_at 0 h (by rw [e]; rfl)))).trans ?_)
  exact (r_bind (s2_at (bL_at 1 h (by rw [e]; rfl)) (bL_at 2 h (by rw [e]; rfl)))).trans rfl
theorem dk163 {c : ByteArray} {i k a b : Nat} {x : Int} {l r : List Nat} (h : bL c i l) (e : l.drop k = 163 :: a :: b :: r) (hx : Jvm.ClassFile.Reader.signed 16 (a * 256 + b) = x) : decode c (i + k) = .ok (.if_icmp .gt x, 3) := by
  subst hx
  refine dec_of ((r_bind (u1_at (bL_at 0 h (by rw [e]; rfl)))).trans ?_)
  exact (r_bind (s2_at (bL_at 1 h (by rw [e]; rfl)) (bL_at 2 h (by rw [e]; rfl)))).trans rfl
theorem dk164 {c : ByteArray} {i k a b : Nat} {x : Int} {l r : List Nat} (h : bL c i l) (e : l.drop k = 164 :: a :: b :: r) (hx : Jvm.ClassFile.Reader.signed 16 (a * 256 + b) = x) : decode c (i + k) = .ok (.if_icmp .le x, 3) := by
  subst hx
  refine dec_of ((r_bind (u1_at (bL_at 0 h (by rw [e]; rfl)))).trans ?_)
  exact (r_bind (s2_at (bL_at 1 h (by rw [e]; rfl)) (bL_at 2 h (by rw [e]; rfl)))).trans rfl
theorem dk167 {c : ByteArray} {i k a b : Nat} {x : Int} {l r : List Nat} (h : bL c i l) (e : l.drop k = 167 :: a :: b :: r) (hx : Jvm.ClassFile.Reader.signed 16 (a * 256 + b) = x) : decode c (i + k) = .ok (.goto x, 3) := by
  subst hx
  refine dec_of ((r_bind (u1_at (bL_at 0 h (by rw [e]; rfl)))).trans ?_)
  exact (r_bind (s2_at (bL_at 1 h (by rw [e]; rfl)) (bL_at 2 h (by rw [e]; rfl)))).trans rfl
theorem dk172 {c : ByteArray} {i k : Nat} {l r : List Nat} (h : bL c i l) (e : l.drop k = 172 :: r) : decode c (i + k) = .ok (.ireturn, 1) := by
  refine dec_of ((r_bind (u1_at (bL_at 0 h (by rw [e]; rfl)))).trans ?_)
  rfl
theorem dk173 {c : ByteArray} {i k : Nat} {l r : List Nat} (h : bL c i l) (e : l.drop k = 173 :: r) : decode c (i + k) = .ok (.lreturn, 1) := by
  refine dec_of ((r_bind (u1_at (bL_at 0 h (by rw [e]; rfl)))).trans ?_)
  rfl
theorem dk176 {c : ByteArray} {i k : Nat} {l r : List Nat} (h : bL c i l) (e : l.drop k = 176 :: r) : decode c (i + k) = .ok (.areturn, 1) := by
  refine dec_of ((r_bind (u1_at (bL_at 0 h (by rw [e]; rfl)))).trans ?_)
  rfl
theorem dk177 {c : ByteArray} {i k : Nat} {l r : List Nat} (h : bL c i l) (e : l.drop k = 177 :: r) : decode c (i + k) = .ok (.return_, 1) := by
  refine dec_of ((r_bind (u1_at (bL_at 0 h (by rw [e]; rfl)))).trans ?_)
  rfl
theorem dk178 {c : ByteArray} {i k a b x : Nat} {l r : List Nat} (h : bL c i l) (e : l.drop k = 178 :: a :: b :: r) (hx : a * 256 + b = x) : decode c (i + k) = .ok (.getstatic x, 3) := by
  subst hx
  refine dec_of ((r_bind (u1_at (bL_at 0 h (by rw [e]; rfl)))).trans ?_)
  exact (r_bind (u2_at (bL_at 1 h (by rw [e]; rfl)) (bL_at 2 h (by rw [e]; rfl)))).trans rfl
theorem dk180 {c : ByteArray} {i k a b x : Nat} {l r : List Nat} (h : bL c i l) (e : l.drop k = 180 :: a :: b :: r) (hx : a * 256 + b = x) : decode c (i + k) = .ok (.getfield x, 3) := by
  subst hx
  refine dec_of ((r_bind (u1_at (bL_at 0 h (by rw [e]; rfl)))).trans ?_)
  exact (r_bind (u2_at (bL_at 1 h (by rw [e]; rfl)) (bL_at 2 h (by rw [e]; rfl)))).trans rfl
theorem dk181 {c : ByteArray} {i k a b x : Nat} {l r : List Nat} (h : bL c i l) (e : l.drop k = 181 :: a :: b :: r) (hx : a * 256 + b = x) : decode c (i + k) = .ok (.putfield x, 3) := by
  subst hx
  refine dec_of ((r_bind (u1_at (bL_at 0 h (by rw [e]; rfl)))).trans ?_)
  exact (r_bind (u2_at (bL_at 1 h (by rw [e]; rfl)) (bL_at 2 h (by rw [e]; rfl)))).trans rfl
theorem dk182 {c : ByteArray} {i k a b x : Nat} {l r : List Nat} (h : bL c i l) (e : l.drop k = 182 :: a :: b :: r) (hx : a * 256 + b = x) : decode c (i + k) = .ok (.invokevirtual x, 3) := by
  subst hx
  refine dec_of ((r_bind (u1_at (bL_at 0 h (by rw [e]; rfl)))).trans ?_)
  exact (r_bind (u2_at (bL_at 1 h (by rw [e]; rfl)) (bL_at 2 h (by rw [e]; rfl)))).trans rfl
theorem dk183 {c : ByteArray} {i k a b x : Nat} {l r : List Nat} (h : bL c i l) (e : l.drop k = 183 :: a :: b :: r) (hx : a * 256 + b = x) : decode c (i + k) = .ok (.invokespecial x, 3) := by
  subst hx
  refine dec_of ((r_bind (u1_at (bL_at 0 h (by rw [e]; rfl)))).trans ?_)
  exact (r_bind (u2_at (bL_at 1 h (by rw [e]; rfl)) (bL_at 2 h (by rw [e]; rfl)))).trans rfl
theorem dk184 {c : ByteArray} {i k a b x : Nat} {l r : List Nat} (h : bL c i l) (e : l.drop k = 184 :: a :: b :: r) (hx : a * 256 + b = x) : decode c (i + k) = .ok (.invokestatic x, 3) := by
  subst hx
  refine dec_of ((r_bind (u1_at (bL_at 0 h (by rw [e]; rfl)))).trans ?_)
  exact (r_bind (u2_at (bL_at 1 h (by rw [e]; rfl)) (bL_at 2 h (by rw [e]; rfl)))).trans rfl
theorem dk187 {c : ByteArray} {i k a b x : Nat} {l r : List Nat} (h : bL c i l) (e : l.drop k = 187 :: a :: b :: r) (hx : a * 256 + b = x) : decode c (i + k) = .ok (.new x, 3) := by
  subst hx
  refine dec_of ((r_bind (u1_at (bL_at 0 h (by rw [e]; rfl)))).trans ?_)
  exact (r_bind (u2_at (bL_at 1 h (by rw [e]; rfl)) (bL_at 2 h (by rw [e]; rfl)))).trans rfl
theorem dk189 {c : ByteArray} {i k a b x : Nat} {l r : List Nat} (h : bL c i l) (e : l.drop k = 189 :: a :: b :: r) (hx : a * 256 + b = x) : decode c (i + k) = .ok (.anewarray x, 3) := by
  subst hx
  refine dec_of ((r_bind (u1_at (bL_at 0 h (by rw [e]; rfl)))).trans ?_)
  exact (r_bind (u2_at (bL_at 1 h (by rw [e]; rfl)) (bL_at 2 h (by rw [e]; rfl)))).trans rfl
theorem dk190 {c : ByteArray} {i k : Nat} {l r : List Nat} (h : bL c i l) (e : l.drop k = 190 :: r) : decode c (i + k) = .ok (.arraylength, 1) := by
  refine dec_of ((r_bind (u1_at (bL_at 0 h (by rw [e]; rfl)))).trans ?_)
  rfl
theorem dk191 {c : ByteArray} {i k : Nat} {l r : List Nat} (h : bL c i l) (e : l.drop k = 191 :: r) : decode c (i + k) = .ok (.athrow, 1) := by
  refine dec_of ((r_bind (u1_at (bL_at 0 h (by rw [e]; rfl)))).trans ?_)
  rfl
end
section
theorem bX0_init_0 : bL cX0_init 0 [42, 183, 0, 3, 42, 43, 181, 0, 9, 42, 44, 181, 0, 15, 177] := bL_of (by decide +kernel)
theorem dX0_init_0 : decode cX0_init 0 = .ok (.aload_n 0, 1) := dk42 (k := 0) bX0_init_0 rfl
theorem dX0_init_1 : decode cX0_init 1 = .ok (.invokespecial 3, 3) := dk183 (k := 1) bX0_init_0 rfl rfl
theorem dX0_init_4 : decode cX0_init 4 = .ok (.aload_n 0, 1) := dk42 (k := 4) bX0_init_0 rfl
theorem dX0_init_5 : decode cX0_init 5 = .ok (.aload_n 1, 1) := dk43 (k := 5) bX0_init_0 rfl
theorem dX0_init_6 : decode cX0_init 6 = .ok (.putfield 9, 3) := dk181 (k := 6) bX0_init_0 rfl rfl
theorem dX0_init_9 : decode cX0_init 9 = .ok (.aload_n 0, 1) := dk42 (k := 9) bX0_init_0 rfl
theorem dX0_init_10 : decode cX0_init 10 = .ok (.aload_n 2, 1) := dk44 (k := 10) bX0_init_0 rfl
theorem dX0_init_11 : decode cX0_init 11 = .ok (.putfield 15, 3) := dk181 (k := 11) bX0_init_0 rfl rfl
theorem dX0_init_14 : decode cX0_init 14 = .ok (.return_, 1) := dk177 (k := 14) bX0_init_0 rfl
theorem bX0_gainAfter_0 : bL cX0_gainAfter 0 [42, 180, 0, 15, 42, 180, 0, 9, 180, 0, 19, 182, 0, 24, 3, 62, 29, 28, 162, 0, 17, 42, 180, 0, 15] := bL_of (by decide +kernel)
theorem dX0_gainAfter_0 : decode cX0_gainAfter 0 = .ok (.aload_n 0, 1) := dk42 (k := 0) bX0_gainAfter_0 rfl
theorem dX0_gainAfter_1 : decode cX0_gainAfter 1 = .ok (.getfield 15, 3) := dk180 (k := 1) bX0_gainAfter_0 rfl rfl
theorem dX0_gainAfter_4 : decode cX0_gainAfter 4 = .ok (.aload_n 0, 1) := dk42 (k := 4) bX0_gainAfter_0 rfl
theorem dX0_gainAfter_5 : decode cX0_gainAfter 5 = .ok (.getfield 9, 3) := dk180 (k := 5) bX0_gainAfter_0 rfl rfl
theorem dX0_gainAfter_8 : decode cX0_gainAfter 8 = .ok (.getfield 19, 3) := dk180 (k := 8) bX0_gainAfter_0 rfl rfl
theorem dX0_gainAfter_11 : decode cX0_gainAfter 11 = .ok (.invokevirtual 24, 3) := dk182 (k := 11) bX0_gainAfter_0 rfl rfl
theorem dX0_gainAfter_14 : decode cX0_gainAfter 14 = .ok (.iconst 0, 1) := dk3 (k := 14) bX0_gainAfter_0 rfl
theorem dX0_gainAfter_15 : decode cX0_gainAfter 15 = .ok (.istore_n 3, 1) := dk62 (k := 15) bX0_gainAfter_0 rfl
theorem dX0_gainAfter_16 : decode cX0_gainAfter 16 = .ok (.iload_n 3, 1) := dk29 (k := 16) bX0_gainAfter_0 rfl
theorem dX0_gainAfter_17 : decode cX0_gainAfter 17 = .ok (.iload_n 2, 1) := dk28 (k := 17) bX0_gainAfter_0 rfl
theorem dX0_gainAfter_18 : decode cX0_gainAfter 18 = .ok (.if_icmp .ge 17, 3) := dk162 (k := 18) bX0_gainAfter_0 rfl (by decide)
theorem dX0_gainAfter_21 : decode cX0_gainAfter 21 = .ok (.aload_n 0, 1) := dk42 (k := 21) bX0_gainAfter_0 rfl
theorem dX0_gainAfter_22 : decode cX0_gainAfter 22 = .ok (.getfield 15, 3) := dk180 (k := 22) bX0_gainAfter_0 rfl rfl
theorem bX0_gainAfter_25 : bL cX0_gainAfter 25 [182, 0, 30, 87, 132, 3, 1, 167, 255, 240, 42, 180, 0, 9, 180, 0, 34, 42, 180, 0, 15, 27, 182, 0, 38] := bL_of (by decide +kernel)
theorem dX0_gainAfter_25 : decode cX0_gainAfter 25 = .ok (.invokevirtual 30, 3) := dk182 (k := 0) bX0_gainAfter_25 rfl rfl
theorem dX0_gainAfter_28 : decode cX0_gainAfter 28 = .ok (.pop, 1) := dk87 (k := 3) bX0_gainAfter_25 rfl
theorem dX0_gainAfter_29 : decode cX0_gainAfter 29 = .ok (.iinc 3 1, 3) := dk132 (k := 4) bX0_gainAfter_25 rfl rfl (by decide)
theorem dX0_gainAfter_32 : decode cX0_gainAfter 32 = .ok (.goto (-16), 3) := dk167 (k := 7) bX0_gainAfter_25 rfl (by decide)
theorem dX0_gainAfter_35 : decode cX0_gainAfter 35 = .ok (.aload_n 0, 1) := dk42 (k := 10) bX0_gainAfter_25 rfl
theorem dX0_gainAfter_36 : decode cX0_gainAfter 36 = .ok (.getfield 9, 3) := dk180 (k := 11) bX0_gainAfter_25 rfl rfl
theorem dX0_gainAfter_39 : decode cX0_gainAfter 39 = .ok (.getfield 34, 3) := dk180 (k := 14) bX0_gainAfter_25 rfl rfl
theorem dX0_gainAfter_42 : decode cX0_gainAfter 42 = .ok (.aload_n 0, 1) := dk42 (k := 17) bX0_gainAfter_25 rfl
theorem dX0_gainAfter_43 : decode cX0_gainAfter 43 = .ok (.getfield 15, 3) := dk180 (k := 18) bX0_gainAfter_25 rfl rfl
theorem dX0_gainAfter_46 : decode cX0_gainAfter 46 = .ok (.iload_n 1, 1) := dk27 (k := 21) bX0_gainAfter_25 rfl
theorem dX0_gainAfter_47 : decode cX0_gainAfter 47 = .ok (.invokevirtual 38, 3) := dk182 (k := 22) bX0_gainAfter_25 rfl rfl
theorem bX0_gainAfter_50 : bL cX0_gainAfter 50 [172] := bL_of (by decide +kernel)
theorem dX0_gainAfter_50 : decode cX0_gainAfter 50 = .ok (.ireturn, 1) := dk172 (k := 0) bX0_gainAfter_50 rfl
theorem bX0_wishedFeet_0 : bL cX0_wishedFeet 0 [42, 180, 0, 15, 42, 180, 0, 9, 180, 0, 19, 182, 0, 24, 3, 61, 42, 180, 0, 9, 180, 0, 34, 42] := bL_of (by decide +kernel)
theorem dX0_wishedFeet_0 : decode cX0_wishedFeet 0 = .ok (.aload_n 0, 1) := dk42 (k := 0) bX0_wishedFeet_0 rfl
theorem dX0_wishedFeet_1 : decode cX0_wishedFeet 1 = .ok (.getfield 15, 3) := dk180 (k := 1) bX0_wishedFeet_0 rfl rfl
theorem dX0_wishedFeet_4 : decode cX0_wishedFeet 4 = .ok (.aload_n 0, 1) := dk42 (k := 4) bX0_wishedFeet_0 rfl
theorem dX0_wishedFeet_5 : decode cX0_wishedFeet 5 = .ok (.getfield 9, 3) := dk180 (k := 5) bX0_wishedFeet_0 rfl rfl
theorem dX0_wishedFeet_8 : decode cX0_wishedFeet 8 = .ok (.getfield 19, 3) := dk180 (k := 8) bX0_wishedFeet_0 rfl rfl
theorem dX0_wishedFeet_11 : decode cX0_wishedFeet 11 = .ok (.invokevirtual 24, 3) := dk182 (k := 11) bX0_wishedFeet_0 rfl rfl
theorem dX0_wishedFeet_14 : decode cX0_wishedFeet 14 = .ok (.iconst 0, 1) := dk3 (k := 14) bX0_wishedFeet_0 rfl
theorem dX0_wishedFeet_15 : decode cX0_wishedFeet 15 = .ok (.istore_n 2, 1) := dk61 (k := 15) bX0_wishedFeet_0 rfl
theorem dX0_wishedFeet_16 : decode cX0_wishedFeet 16 = .ok (.aload_n 0, 1) := dk42 (k := 16) bX0_wishedFeet_0 rfl
theorem dX0_wishedFeet_17 : decode cX0_wishedFeet 17 = .ok (.getfield 9, 3) := dk180 (k := 17) bX0_wishedFeet_0 rfl rfl
theorem dX0_wishedFeet_20 : decode cX0_wishedFeet 20 = .ok (.getfield 34, 3) := dk180 (k := 20) bX0_wishedFeet_0 rfl rfl
theorem dX0_wishedFeet_23 : decode cX0_wishedFeet 23 = .ok (.aload_n 0, 1) := dk42 (k := 23) bX0_wishedFeet_0 rfl
theorem bX0_wishedFeet_24 : bL cX0_wishedFeet 24 [180, 0, 15, 27, 182, 0, 38, 62, 4, 54, 4, 21, 4, 16, 20, 163, 0, 46, 42, 180, 0, 15, 182, 0, 30] := bL_of (by decide +kernel)
theorem dX0_wishedFeet_24 : decode cX0_wishedFeet 24 = .ok (.getfield 15, 3) := dk180 (k := 0) bX0_wishedFeet_24 rfl rfl
theorem dX0_wishedFeet_27 : decode cX0_wishedFeet 27 = .ok (.iload_n 1, 1) := dk27 (k := 3) bX0_wishedFeet_24 rfl
theorem dX0_wishedFeet_28 : decode cX0_wishedFeet 28 = .ok (.invokevirtual 38, 3) := dk182 (k := 4) bX0_wishedFeet_24 rfl rfl
theorem dX0_wishedFeet_31 : decode cX0_wishedFeet 31 = .ok (.istore_n 3, 1) := dk62 (k := 7) bX0_wishedFeet_24 rfl
theorem dX0_wishedFeet_32 : decode cX0_wishedFeet 32 = .ok (.iconst 1, 1) := dk4 (k := 8) bX0_wishedFeet_24 rfl
theorem dX0_wishedFeet_33 : decode cX0_wishedFeet 33 = .ok (.istore 4, 2) := dk54 (k := 9) bX0_wishedFeet_24 rfl rfl
theorem dX0_wishedFeet_35 : decode cX0_wishedFeet 35 = .ok (.iload 4, 2) := dk21 (k := 11) bX0_wishedFeet_24 rfl rfl
theorem dX0_wishedFeet_37 : decode cX0_wishedFeet 37 = .ok (.bipush 20, 2) := dk16 (k := 13) bX0_wishedFeet_24 rfl (by decide)
theorem dX0_wishedFeet_39 : decode cX0_wishedFeet 39 = .ok (.if_icmp .gt 46, 3) := dk163 (k := 15) bX0_wishedFeet_24 rfl (by decide)
theorem dX0_wishedFeet_42 : decode cX0_wishedFeet 42 = .ok (.aload_n 0, 1) := dk42 (k := 18) bX0_wishedFeet_24 rfl
theorem dX0_wishedFeet_43 : decode cX0_wishedFeet 43 = .ok (.getfield 15, 3) := dk180 (k := 19) bX0_wishedFeet_24 rfl rfl
theorem dX0_wishedFeet_46 : decode cX0_wishedFeet 46 = .ok (.invokevirtual 30, 3) := dk182 (k := 22) bX0_wishedFeet_24 rfl rfl
theorem bX0_wishedFeet_49 : bL cX0_wishedFeet 49 [87, 42, 180, 0, 9, 180, 0, 34, 42, 180, 0, 15, 27, 182, 0, 38, 54, 5, 21, 5, 29, 164, 0, 9] := bL_of (by decide +kernel)
theorem dX0_wishedFeet_49 : decode cX0_wishedFeet 49 = .ok (.pop, 1) := dk87 (k := 0) bX0_wishedFeet_49 rfl
theorem dX0_wishedFeet_50 : decode cX0_wishedFeet 50 = .ok (.aload_n 0, 1) := dk42 (k := 1) bX0_wishedFeet_49 rfl
theorem dX0_wishedFeet_51 : decode cX0_wishedFeet 51 = .ok (.getfield 9, 3) := dk180 (k := 2) bX0_wishedFeet_49 rfl rfl
theorem dX0_wishedFeet_54 : decode cX0_wishedFeet 54 = .ok (.getfield 34, 3) := dk180 (k := 5) bX0_wishedFeet_49 rfl rfl
theorem dX0_wishedFeet_57 : decode cX0_wishedFeet 57 = .ok (.aload_n 0, 1) := dk42 (k := 8) bX0_wishedFeet_49 rfl
theorem dX0_wishedFeet_58 : decode cX0_wishedFeet 58 = .ok (.getfield 15, 3) := dk180 (k := 9) bX0_wishedFeet_49 rfl rfl
theorem dX0_wishedFeet_61 : decode cX0_wishedFeet 61 = .ok (.iload_n 1, 1) := dk27 (k := 12) bX0_wishedFeet_49 rfl
theorem dX0_wishedFeet_62 : decode cX0_wishedFeet 62 = .ok (.invokevirtual 38, 3) := dk182 (k := 13) bX0_wishedFeet_49 rfl rfl
theorem dX0_wishedFeet_65 : decode cX0_wishedFeet 65 = .ok (.istore 5, 2) := dk54 (k := 16) bX0_wishedFeet_49 rfl rfl
theorem dX0_wishedFeet_67 : decode cX0_wishedFeet 67 = .ok (.iload 5, 2) := dk21 (k := 18) bX0_wishedFeet_49 rfl rfl
theorem dX0_wishedFeet_69 : decode cX0_wishedFeet 69 = .ok (.iload_n 3, 1) := dk29 (k := 20) bX0_wishedFeet_49 rfl
theorem dX0_wishedFeet_70 : decode cX0_wishedFeet 70 = .ok (.if_icmp .le 9, 3) := dk164 (k := 21) bX0_wishedFeet_49 rfl (by decide)
theorem bX0_wishedFeet_73 : bL cX0_wishedFeet 73 [21, 5, 62, 21, 4, 61, 132, 4, 1, 167, 255, 209, 28, 172] := bL_of (by decide +kernel)
theorem dX0_wishedFeet_73 : decode cX0_wishedFeet 73 = .ok (.iload 5, 2) := dk21 (k := 0) bX0_wishedFeet_73 rfl rfl
theorem dX0_wishedFeet_75 : decode cX0_wishedFeet 75 = .ok (.istore_n 3, 1) := dk62 (k := 2) bX0_wishedFeet_73 rfl
theorem dX0_wishedFeet_76 : decode cX0_wishedFeet 76 = .ok (.iload 4, 2) := dk21 (k := 3) bX0_wishedFeet_73 rfl rfl
theorem dX0_wishedFeet_78 : decode cX0_wishedFeet 78 = .ok (.istore_n 2, 1) := dk61 (k := 5) bX0_wishedFeet_73 rfl
theorem dX0_wishedFeet_79 : decode cX0_wishedFeet 79 = .ok (.iinc 4 1, 3) := dk132 (k := 6) bX0_wishedFeet_73 rfl rfl (by decide)
theorem dX0_wishedFeet_82 : decode cX0_wishedFeet 82 = .ok (.goto (-47), 3) := dk167 (k := 9) bX0_wishedFeet_73 rfl (by decide)
theorem dX0_wishedFeet_85 : decode cX0_wishedFeet 85 = .ok (.iload_n 2, 1) := dk28 (k := 12) bX0_wishedFeet_73 rfl
theorem dX0_wishedFeet_86 : decode cX0_wishedFeet 86 = .ok (.ireturn, 1) := dk172 (k := 13) bX0_wishedFeet_73 rfl
theorem bX0_namesOnTrial_0 : bL cX0_namesOnTrial 0 [42, 180, 0, 9, 180, 0, 34, 42, 180, 0, 9, 180, 0, 34, 42, 180, 0, 9, 180, 0, 34, 42, 180, 0, 15] := bL_of (by decide +kernel)
theorem dX0_namesOnTrial_0 : decode cX0_namesOnTrial 0 = .ok (.aload_n 0, 1) := dk42 (k := 0) bX0_namesOnTrial_0 rfl
theorem dX0_namesOnTrial_1 : decode cX0_namesOnTrial 1 = .ok (.getfield 9, 3) := dk180 (k := 1) bX0_namesOnTrial_0 rfl rfl
theorem dX0_namesOnTrial_4 : decode cX0_namesOnTrial 4 = .ok (.getfield 34, 3) := dk180 (k := 4) bX0_namesOnTrial_0 rfl rfl
theorem dX0_namesOnTrial_7 : decode cX0_namesOnTrial 7 = .ok (.aload_n 0, 1) := dk42 (k := 7) bX0_namesOnTrial_0 rfl
theorem dX0_namesOnTrial_8 : decode cX0_namesOnTrial 8 = .ok (.getfield 9, 3) := dk180 (k := 8) bX0_namesOnTrial_0 rfl rfl
theorem dX0_namesOnTrial_11 : decode cX0_namesOnTrial 11 = .ok (.getfield 34, 3) := dk180 (k := 11) bX0_namesOnTrial_0 rfl rfl
theorem dX0_namesOnTrial_14 : decode cX0_namesOnTrial 14 = .ok (.aload_n 0, 1) := dk42 (k := 14) bX0_namesOnTrial_0 rfl
theorem dX0_namesOnTrial_15 : decode cX0_namesOnTrial 15 = .ok (.getfield 9, 3) := dk180 (k := 15) bX0_namesOnTrial_0 rfl rfl
theorem dX0_namesOnTrial_18 : decode cX0_namesOnTrial 18 = .ok (.getfield 34, 3) := dk180 (k := 18) bX0_namesOnTrial_0 rfl rfl
theorem dX0_namesOnTrial_21 : decode cX0_namesOnTrial 21 = .ok (.aload_n 0, 1) := dk42 (k := 21) bX0_namesOnTrial_0 rfl
theorem dX0_namesOnTrial_22 : decode cX0_namesOnTrial 22 = .ok (.getfield 15, 3) := dk180 (k := 22) bX0_namesOnTrial_0 rfl rfl
theorem bX0_namesOnTrial_25 : bL cX0_namesOnTrial 25 [2, 182, 0, 44, 3, 182, 0, 47, 182, 0, 51, 172] := bL_of (by decide +kernel)
theorem dX0_namesOnTrial_25 : decode cX0_namesOnTrial 25 = .ok (.iconst (-1), 1) := dk2 (k := 0) bX0_namesOnTrial_25 rfl
theorem dX0_namesOnTrial_26 : decode cX0_namesOnTrial 26 = .ok (.invokevirtual 44, 3) := dk182 (k := 1) bX0_namesOnTrial_25 rfl rfl
theorem dX0_namesOnTrial_29 : decode cX0_namesOnTrial 29 = .ok (.iconst 0, 1) := dk3 (k := 4) bX0_namesOnTrial_25 rfl
theorem dX0_namesOnTrial_30 : decode cX0_namesOnTrial 30 = .ok (.invokevirtual 47, 3) := dk182 (k := 5) bX0_namesOnTrial_25 rfl rfl
theorem dX0_namesOnTrial_33 : decode cX0_namesOnTrial 33 = .ok (.invokevirtual 51, 3) := dk182 (k := 8) bX0_namesOnTrial_25 rfl rfl
theorem dX0_namesOnTrial_36 : decode cX0_namesOnTrial 36 = .ok (.ireturn, 1) := dk172 (k := 11) bX0_namesOnTrial_25 rfl
theorem bX0_followLaw_0 : bL cX0_followLaw 0 [42, 180, 0, 15, 42, 180, 0, 9, 180, 0, 19, 182, 0, 24, 3, 61, 28, 16, 60, 162, 0, 29, 42, 182, 0, 55] := bL_of (by decide +kernel)
theorem dX0_followLaw_0 : decode cX0_followLaw 0 = .ok (.aload_n 0, 1) := dk42 (k := 0) bX0_followLaw_0 rfl
theorem dX0_followLaw_1 : decode cX0_followLaw 1 = .ok (.getfield 15, 3) := dk180 (k := 1) bX0_followLaw_0 rfl rfl
theorem dX0_followLaw_4 : decode cX0_followLaw 4 = .ok (.aload_n 0, 1) := dk42 (k := 4) bX0_followLaw_0 rfl
theorem dX0_followLaw_5 : decode cX0_followLaw 5 = .ok (.getfield 9, 3) := dk180 (k := 5) bX0_followLaw_0 rfl rfl
theorem dX0_followLaw_8 : decode cX0_followLaw 8 = .ok (.getfield 19, 3) := dk180 (k := 8) bX0_followLaw_0 rfl rfl
theorem dX0_followLaw_11 : decode cX0_followLaw 11 = .ok (.invokevirtual 24, 3) := dk182 (k := 11) bX0_followLaw_0 rfl rfl
theorem dX0_followLaw_14 : decode cX0_followLaw 14 = .ok (.iconst 0, 1) := dk3 (k := 14) bX0_followLaw_0 rfl
theorem dX0_followLaw_15 : decode cX0_followLaw 15 = .ok (.istore_n 2, 1) := dk61 (k := 15) bX0_followLaw_0 rfl
theorem dX0_followLaw_16 : decode cX0_followLaw 16 = .ok (.iload_n 2, 1) := dk28 (k := 16) bX0_followLaw_0 rfl
theorem dX0_followLaw_17 : decode cX0_followLaw 17 = .ok (.bipush 60, 2) := dk16 (k := 17) bX0_followLaw_0 rfl (by decide)
theorem dX0_followLaw_19 : decode cX0_followLaw 19 = .ok (.if_icmp .ge 29, 3) := dk162 (k := 19) bX0_followLaw_0 rfl (by decide)
theorem dX0_followLaw_22 : decode cX0_followLaw 22 = .ok (.aload_n 0, 1) := dk42 (k := 22) bX0_followLaw_0 rfl
theorem dX0_followLaw_23 : decode cX0_followLaw 23 = .ok (.invokevirtual 55, 3) := dk182 (k := 23) bX0_followLaw_0 rfl rfl
theorem bX0_followLaw_26 : bL cX0_followLaw 26 [27, 161, 0, 13, 42, 180, 0, 15, 182, 0, 30, 154, 0, 5, 28, 172, 132, 2, 1, 167, 255, 227, 16, 60] := bL_of (by decide +kernel)
theorem dX0_followLaw_26 : decode cX0_followLaw 26 = .ok (.iload_n 1, 1) := dk27 (k := 0) bX0_followLaw_26 rfl
theorem dX0_followLaw_27 : decode cX0_followLaw 27 = .ok (.if_icmp .lt 13, 3) := dk161 (k := 1) bX0_followLaw_26 rfl (by decide)
theorem dX0_followLaw_30 : decode cX0_followLaw 30 = .ok (.aload_n 0, 1) := dk42 (k := 4) bX0_followLaw_26 rfl
theorem dX0_followLaw_31 : decode cX0_followLaw 31 = .ok (.getfield 15, 3) := dk180 (k := 5) bX0_followLaw_26 rfl rfl
theorem dX0_followLaw_34 : decode cX0_followLaw 34 = .ok (.invokevirtual 30, 3) := dk182 (k := 8) bX0_followLaw_26 rfl rfl
theorem dX0_followLaw_37 : decode cX0_followLaw 37 = .ok (.ifCond .ne 5, 3) := dk154 (k := 11) bX0_followLaw_26 rfl (by decide)
theorem dX0_followLaw_40 : decode cX0_followLaw 40 = .ok (.iload_n 2, 1) := dk28 (k := 14) bX0_followLaw_26 rfl
theorem dX0_followLaw_41 : decode cX0_followLaw 41 = .ok (.ireturn, 1) := dk172 (k := 15) bX0_followLaw_26 rfl
theorem dX0_followLaw_42 : decode cX0_followLaw 42 = .ok (.iinc 2 1, 3) := dk132 (k := 16) bX0_followLaw_26 rfl rfl (by decide)
theorem dX0_followLaw_45 : decode cX0_followLaw 45 = .ok (.goto (-29), 3) := dk167 (k := 19) bX0_followLaw_26 rfl (by decide)
theorem dX0_followLaw_48 : decode cX0_followLaw 48 = .ok (.bipush 60, 2) := dk16 (k := 22) bX0_followLaw_26 rfl (by decide)
theorem bX0_followLaw_50 : bL cX0_followLaw 50 [172] := bL_of (by decide +kernel)
theorem dX0_followLaw_50 : decode cX0_followLaw 50 = .ok (.ireturn, 1) := dk172 (k := 0) bX0_followLaw_50 rfl
theorem bX0_greatestLaw_0 : bL cX0_greatestLaw 0 [42, 180, 0, 15, 42, 180, 0, 9, 180, 0, 19, 182, 0, 24, 17, 3, 231, 61, 3, 62, 29, 27, 162, 0, 40] := bL_of (by decide +kernel)
theorem dX0_greatestLaw_0 : decode cX0_greatestLaw 0 = .ok (.aload_n 0, 1) := dk42 (k := 0) bX0_greatestLaw_0 rfl
theorem dX0_greatestLaw_1 : decode cX0_greatestLaw 1 = .ok (.getfield 15, 3) := dk180 (k := 1) bX0_greatestLaw_0 rfl rfl
theorem dX0_greatestLaw_4 : decode cX0_greatestLaw 4 = .ok (.aload_n 0, 1) := dk42 (k := 4) bX0_greatestLaw_0 rfl
theorem dX0_greatestLaw_5 : decode cX0_greatestLaw 5 = .ok (.getfield 9, 3) := dk180 (k := 5) bX0_greatestLaw_0 rfl rfl
theorem dX0_greatestLaw_8 : decode cX0_greatestLaw 8 = .ok (.getfield 19, 3) := dk180 (k := 8) bX0_greatestLaw_0 rfl rfl
theorem dX0_greatestLaw_11 : decode cX0_greatestLaw 11 = .ok (.invokevirtual 24, 3) := dk182 (k := 11) bX0_greatestLaw_0 rfl rfl
theorem dX0_greatestLaw_14 : decode cX0_greatestLaw 14 = .ok (.sipush 999, 3) := dk17 (k := 14) bX0_greatestLaw_0 rfl (by decide)
theorem dX0_greatestLaw_17 : decode cX0_greatestLaw 17 = .ok (.istore_n 2, 1) := dk61 (k := 17) bX0_greatestLaw_0 rfl
theorem dX0_greatestLaw_18 : decode cX0_greatestLaw 18 = .ok (.iconst 0, 1) := dk3 (k := 18) bX0_greatestLaw_0 rfl
theorem dX0_greatestLaw_19 : decode cX0_greatestLaw 19 = .ok (.istore_n 3, 1) := dk62 (k := 19) bX0_greatestLaw_0 rfl
theorem dX0_greatestLaw_20 : decode cX0_greatestLaw 20 = .ok (.iload_n 3, 1) := dk29 (k := 20) bX0_greatestLaw_0 rfl
theorem dX0_greatestLaw_21 : decode cX0_greatestLaw 21 = .ok (.iload_n 1, 1) := dk27 (k := 21) bX0_greatestLaw_0 rfl
theorem dX0_greatestLaw_22 : decode cX0_greatestLaw 22 = .ok (.if_icmp .ge 40, 3) := dk162 (k := 22) bX0_greatestLaw_0 rfl (by decide)
theorem bX0_greatestLaw_25 : bL cX0_greatestLaw 25 [42, 182, 0, 55, 54, 4, 21, 4, 4, 161, 0, 13, 42, 180, 0, 15, 182, 0, 30, 154, 0, 5, 2, 172] := bL_of (by decide +kernel)
theorem dX0_greatestLaw_25 : decode cX0_greatestLaw 25 = .ok (.aload_n 0, 1) := dk42 (k := 0) bX0_greatestLaw_25 rfl
theorem dX0_greatestLaw_26 : decode cX0_greatestLaw 26 = .ok (.invokevirtual 55, 3) := dk182 (k := 1) bX0_greatestLaw_25 rfl rfl
theorem dX0_greatestLaw_29 : decode cX0_greatestLaw 29 = .ok (.istore 4, 2) := dk54 (k := 4) bX0_greatestLaw_25 rfl rfl
theorem dX0_greatestLaw_31 : decode cX0_greatestLaw 31 = .ok (.iload 4, 2) := dk21 (k := 6) bX0_greatestLaw_25 rfl rfl
theorem dX0_greatestLaw_33 : decode cX0_greatestLaw 33 = .ok (.iconst 1, 1) := dk4 (k := 8) bX0_greatestLaw_25 rfl
theorem dX0_greatestLaw_34 : decode cX0_greatestLaw 34 = .ok (.if_icmp .lt 13, 3) := dk161 (k := 9) bX0_greatestLaw_25 rfl (by decide)
theorem dX0_greatestLaw_37 : decode cX0_greatestLaw 37 = .ok (.aload_n 0, 1) := dk42 (k := 12) bX0_greatestLaw_25 rfl
theorem dX0_greatestLaw_38 : decode cX0_greatestLaw 38 = .ok (.getfield 15, 3) := dk180 (k := 13) bX0_greatestLaw_25 rfl rfl
theorem dX0_greatestLaw_41 : decode cX0_greatestLaw 41 = .ok (.invokevirtual 30, 3) := dk182 (k := 16) bX0_greatestLaw_25 rfl rfl
theorem dX0_greatestLaw_44 : decode cX0_greatestLaw 44 = .ok (.ifCond .ne 5, 3) := dk154 (k := 19) bX0_greatestLaw_25 rfl (by decide)
theorem dX0_greatestLaw_47 : decode cX0_greatestLaw 47 = .ok (.iconst (-1), 1) := dk2 (k := 22) bX0_greatestLaw_25 rfl
theorem dX0_greatestLaw_48 : decode cX0_greatestLaw 48 = .ok (.ireturn, 1) := dk172 (k := 23) bX0_greatestLaw_25 rfl
theorem bX0_greatestLaw_49 : bL cX0_greatestLaw 49 [28, 21, 4, 184, 0, 59, 61, 132, 3, 1, 167, 255, 217, 28, 172] := bL_of (by decide +kernel)
theorem dX0_greatestLaw_49 : decode cX0_greatestLaw 49 = .ok (.iload_n 2, 1) := dk28 (k := 0) bX0_greatestLaw_49 rfl
theorem dX0_greatestLaw_50 : decode cX0_greatestLaw 50 = .ok (.iload 4, 2) := dk21 (k := 1) bX0_greatestLaw_49 rfl rfl
theorem dX0_greatestLaw_52 : decode cX0_greatestLaw 52 = .ok (.invokestatic 59, 3) := dk184 (k := 3) bX0_greatestLaw_49 rfl rfl
theorem dX0_greatestLaw_55 : decode cX0_greatestLaw 55 = .ok (.istore_n 2, 1) := dk61 (k := 6) bX0_greatestLaw_49 rfl
theorem dX0_greatestLaw_56 : decode cX0_greatestLaw 56 = .ok (.iinc 3 1, 3) := dk132 (k := 7) bX0_greatestLaw_49 rfl rfl (by decide)
theorem dX0_greatestLaw_59 : decode cX0_greatestLaw 59 = .ok (.goto (-39), 3) := dk167 (k := 10) bX0_greatestLaw_49 rfl (by decide)
theorem dX0_greatestLaw_62 : decode cX0_greatestLaw 62 = .ok (.iload_n 2, 1) := dk28 (k := 13) bX0_greatestLaw_49 rfl
theorem dX0_greatestLaw_63 : decode cX0_greatestLaw 63 = .ok (.ireturn, 1) := dk172 (k := 14) bX0_greatestLaw_49 rfl
theorem bX0_drawMonths_0 : bL cX0_drawMonths 0 [42, 180, 0, 15, 42, 180, 0, 9, 180, 0, 19, 182, 0, 24, 42, 180, 0, 9, 180, 0, 34, 180, 0, 64] := bL_of (by decide +kernel)
theorem dX0_drawMonths_0 : decode cX0_drawMonths 0 = .ok (.aload_n 0, 1) := dk42 (k := 0) bX0_drawMonths_0 rfl
theorem dX0_drawMonths_1 : decode cX0_drawMonths 1 = .ok (.getfield 15, 3) := dk180 (k := 1) bX0_drawMonths_0 rfl rfl
theorem dX0_drawMonths_4 : decode cX0_drawMonths 4 = .ok (.aload_n 0, 1) := dk42 (k := 4) bX0_drawMonths_0 rfl
theorem dX0_drawMonths_5 : decode cX0_drawMonths 5 = .ok (.getfield 9, 3) := dk180 (k := 5) bX0_drawMonths_0 rfl rfl
theorem dX0_drawMonths_8 : decode cX0_drawMonths 8 = .ok (.getfield 19, 3) := dk180 (k := 8) bX0_drawMonths_0 rfl rfl
theorem dX0_drawMonths_11 : decode cX0_drawMonths 11 = .ok (.invokevirtual 24, 3) := dk182 (k := 11) bX0_drawMonths_0 rfl rfl
theorem dX0_drawMonths_14 : decode cX0_drawMonths 14 = .ok (.aload_n 0, 1) := dk42 (k := 14) bX0_drawMonths_0 rfl
theorem dX0_drawMonths_15 : decode cX0_drawMonths 15 = .ok (.getfield 9, 3) := dk180 (k := 15) bX0_drawMonths_0 rfl rfl
theorem dX0_drawMonths_18 : decode cX0_drawMonths 18 = .ok (.getfield 34, 3) := dk180 (k := 18) bX0_drawMonths_0 rfl rfl
theorem dX0_drawMonths_21 : decode cX0_drawMonths 21 = .ok (.getfield 64, 3) := dk180 (k := 21) bX0_drawMonths_0 rfl rfl
theorem bX0_drawMonths_24 : bL cX0_drawMonths 24 [54, 4, 21, 4, 4, 162, 0, 5, 3, 172, 27, 133, 55, 5, 3, 54, 7, 42, 180, 0, 9, 180, 0, 34] := bL_of (by decide +kernel)
theorem dX0_drawMonths_24 : decode cX0_drawMonths 24 = .ok (.istore 4, 2) := dk54 (k := 0) bX0_drawMonths_24 rfl rfl
theorem dX0_drawMonths_26 : decode cX0_drawMonths 26 = .ok (.iload 4, 2) := dk21 (k := 2) bX0_drawMonths_24 rfl rfl
theorem dX0_drawMonths_28 : decode cX0_drawMonths 28 = .ok (.iconst 1, 1) := dk4 (k := 4) bX0_drawMonths_24 rfl
theorem dX0_drawMonths_29 : decode cX0_drawMonths 29 = .ok (.if_icmp .ge 5, 3) := dk162 (k := 5) bX0_drawMonths_24 rfl (by decide)
theorem dX0_drawMonths_32 : decode cX0_drawMonths 32 = .ok (.iconst 0, 1) := dk3 (k := 8) bX0_drawMonths_24 rfl
theorem dX0_drawMonths_33 : decode cX0_drawMonths 33 = .ok (.ireturn, 1) := dk172 (k := 9) bX0_drawMonths_24 rfl
theorem dX0_drawMonths_34 : decode cX0_drawMonths 34 = .ok (.iload_n 1, 1) := dk27 (k := 10) bX0_drawMonths_24 rfl
theorem dX0_drawMonths_35 : decode cX0_drawMonths 35 = .ok (.i2l, 1) := dk133 (k := 11) bX0_drawMonths_24 rfl
theorem dX0_drawMonths_36 : decode cX0_drawMonths 36 = .ok (.lstore 5, 2) := dk55 (k := 12) bX0_drawMonths_24 rfl rfl
theorem dX0_drawMonths_38 : decode cX0_drawMonths 38 = .ok (.iconst 0, 1) := dk3 (k := 14) bX0_drawMonths_24 rfl
theorem dX0_drawMonths_39 : decode cX0_drawMonths 39 = .ok (.istore 7, 2) := dk54 (k := 15) bX0_drawMonths_24 rfl rfl
theorem dX0_drawMonths_41 : decode cX0_drawMonths 41 = .ok (.aload_n 0, 1) := dk42 (k := 17) bX0_drawMonths_24 rfl
theorem dX0_drawMonths_42 : decode cX0_drawMonths 42 = .ok (.getfield 9, 3) := dk180 (k := 18) bX0_drawMonths_24 rfl rfl
theorem dX0_drawMonths_45 : decode cX0_drawMonths 45 = .ok (.getfield 34, 3) := dk180 (k := 21) bX0_drawMonths_24 rfl rfl
theorem bX0_drawMonths_48 : bL cX0_drawMonths 48 [42, 180, 0, 15, 2, 182, 0, 44, 54, 8, 3, 54, 9, 21, 9, 28, 162, 0, 114, 21, 7, 29, 162, 0, 108] := bL_of (by decide +kernel)
theorem dX0_drawMonths_48 : decode cX0_drawMonths 48 = .ok (.aload_n 0, 1) := dk42 (k := 0) bX0_drawMonths_48 rfl
theorem dX0_drawMonths_49 : decode cX0_drawMonths 49 = .ok (.getfield 15, 3) := dk180 (k := 1) bX0_drawMonths_48 rfl rfl
theorem dX0_drawMonths_52 : decode cX0_drawMonths 52 = .ok (.iconst (-1), 1) := dk2 (k := 4) bX0_drawMonths_48 rfl
theorem dX0_drawMonths_53 : decode cX0_drawMonths 53 = .ok (.invokevirtual 44, 3) := dk182 (k := 5) bX0_drawMonths_48 rfl rfl
theorem dX0_drawMonths_56 : decode cX0_drawMonths 56 = .ok (.istore 8, 2) := dk54 (k := 8) bX0_drawMonths_48 rfl rfl
theorem dX0_drawMonths_58 : decode cX0_drawMonths 58 = .ok (.iconst 0, 1) := dk3 (k := 10) bX0_drawMonths_48 rfl
theorem dX0_drawMonths_59 : decode cX0_drawMonths 59 = .ok (.istore 9, 2) := dk54 (k := 11) bX0_drawMonths_48 rfl rfl
theorem dX0_drawMonths_61 : decode cX0_drawMonths 61 = .ok (.iload 9, 2) := dk21 (k := 13) bX0_drawMonths_48 rfl rfl
theorem dX0_drawMonths_63 : decode cX0_drawMonths 63 = .ok (.iload_n 2, 1) := dk28 (k := 15) bX0_drawMonths_48 rfl
theorem dX0_drawMonths_64 : decode cX0_drawMonths 64 = .ok (.if_icmp .ge 114, 3) := dk162 (k := 16) bX0_drawMonths_48 rfl (by decide)
theorem dX0_drawMonths_67 : decode cX0_drawMonths 67 = .ok (.iload 7, 2) := dk21 (k := 19) bX0_drawMonths_48 rfl rfl
theorem dX0_drawMonths_69 : decode cX0_drawMonths 69 = .ok (.iload_n 3, 1) := dk29 (k := 21) bX0_drawMonths_48 rfl
theorem dX0_drawMonths_70 : decode cX0_drawMonths 70 = .ok (.if_icmp .ge 108, 3) := dk162 (k := 22) bX0_drawMonths_48 rfl (by decide)
theorem bX0_drawMonths_73 : bL cX0_drawMonths 73 [20, 0, 68, 22, 5, 105, 20, 0, 70, 97, 20, 0, 72, 127, 55, 5, 4, 22, 5, 20, 0, 74, 109, 21, 4] := bL_of (by decide +kernel)
theorem dX0_drawMonths_73 : decode cX0_drawMonths 73 = .ok (.ldc2_w 68, 3) := dk20 (k := 0) bX0_drawMonths_73 rfl rfl
theorem dX0_drawMonths_76 : decode cX0_drawMonths 76 = .ok (.lload 5, 2) := dk22 (k := 3) bX0_drawMonths_73 rfl rfl
theorem dX0_drawMonths_78 : decode cX0_drawMonths 78 = .ok (.lmul, 1) := dk105 (k := 5) bX0_drawMonths_73 rfl
theorem dX0_drawMonths_79 : decode cX0_drawMonths 79 = .ok (.ldc2_w 70, 3) := dk20 (k := 6) bX0_drawMonths_73 rfl rfl
theorem dX0_drawMonths_82 : decode cX0_drawMonths 82 = .ok (.ladd, 1) := dk97 (k := 9) bX0_drawMonths_73 rfl
theorem dX0_drawMonths_83 : decode cX0_drawMonths 83 = .ok (.ldc2_w 72, 3) := dk20 (k := 10) bX0_drawMonths_73 rfl rfl
theorem dX0_drawMonths_86 : decode cX0_drawMonths 86 = .ok (.land, 1) := dk127 (k := 13) bX0_drawMonths_73 rfl
theorem dX0_drawMonths_87 : decode cX0_drawMonths 87 = .ok (.lstore 5, 2) := dk55 (k := 14) bX0_drawMonths_73 rfl rfl
theorem dX0_drawMonths_89 : decode cX0_drawMonths 89 = .ok (.iconst 1, 1) := dk4 (k := 16) bX0_drawMonths_73 rfl
theorem dX0_drawMonths_90 : decode cX0_drawMonths 90 = .ok (.lload 5, 2) := dk22 (k := 17) bX0_drawMonths_73 rfl rfl
theorem dX0_drawMonths_92 : decode cX0_drawMonths 92 = .ok (.ldc2_w 74, 3) := dk20 (k := 19) bX0_drawMonths_73 rfl rfl
theorem dX0_drawMonths_95 : decode cX0_drawMonths 95 = .ok (.ldiv, 1) := dk109 (k := 22) bX0_drawMonths_73 rfl
theorem dX0_drawMonths_96 : decode cX0_drawMonths 96 = .ok (.iload 4, 2) := dk21 (k := 23) bX0_drawMonths_73 rfl rfl
theorem bX0_drawMonths_98 : bL cX0_drawMonths 98 [133, 113, 136, 120, 54, 10, 42, 180, 0, 9, 21, 8, 21, 10, 128, 3, 182, 0, 76, 153, 0, 55, 42, 180, 0, 15] := bL_of (by decide +kernel)
theorem dX0_drawMonths_98 : decode cX0_drawMonths 98 = .ok (.i2l, 1) := dk133 (k := 0) bX0_drawMonths_98 rfl
theorem dX0_drawMonths_99 : decode cX0_drawMonths 99 = .ok (.lrem, 1) := dk113 (k := 1) bX0_drawMonths_98 rfl
theorem dX0_drawMonths_100 : decode cX0_drawMonths 100 = .ok (.l2i, 1) := dk136 (k := 2) bX0_drawMonths_98 rfl
theorem dX0_drawMonths_101 : decode cX0_drawMonths 101 = .ok (.ishl, 1) := dk120 (k := 3) bX0_drawMonths_98 rfl
theorem dX0_drawMonths_102 : decode cX0_drawMonths 102 = .ok (.istore 10, 2) := dk54 (k := 4) bX0_drawMonths_98 rfl rfl
theorem dX0_drawMonths_104 : decode cX0_drawMonths 104 = .ok (.aload_n 0, 1) := dk42 (k := 6) bX0_drawMonths_98 rfl
theorem dX0_drawMonths_105 : decode cX0_drawMonths 105 = .ok (.getfield 9, 3) := dk180 (k := 7) bX0_drawMonths_98 rfl rfl
theorem dX0_drawMonths_108 : decode cX0_drawMonths 108 = .ok (.iload 8, 2) := dk21 (k := 10) bX0_drawMonths_98 rfl rfl
theorem dX0_drawMonths_110 : decode cX0_drawMonths 110 = .ok (.iload 10, 2) := dk21 (k := 12) bX0_drawMonths_98 rfl rfl
theorem dX0_drawMonths_112 : decode cX0_drawMonths 112 = .ok (.ior, 1) := dk128 (k := 14) bX0_drawMonths_98 rfl
theorem dX0_drawMonths_113 : decode cX0_drawMonths 113 = .ok (.iconst 0, 1) := dk3 (k := 15) bX0_drawMonths_98 rfl
theorem dX0_drawMonths_114 : decode cX0_drawMonths 114 = .ok (.invokevirtual 76, 3) := dk182 (k := 16) bX0_drawMonths_98 rfl rfl
theorem dX0_drawMonths_117 : decode cX0_drawMonths 117 = .ok (.ifCond .eq 55, 3) := dk153 (k := 19) bX0_drawMonths_98 rfl (by decide)
theorem dX0_drawMonths_120 : decode cX0_drawMonths 120 = .ok (.aload_n 0, 1) := dk42 (k := 22) bX0_drawMonths_98 rfl
theorem dX0_drawMonths_121 : decode cX0_drawMonths 121 = .ok (.getfield 15, 3) := dk180 (k := 23) bX0_drawMonths_98 rfl rfl
theorem bX0_drawMonths_124 : bL cX0_drawMonths 124 [182, 0, 30, 153, 0, 45, 132, 7, 1, 42, 180, 0, 15, 42, 180, 0, 15, 42, 180, 0, 9, 180, 0, 80] := bL_of (by decide +kernel)
theorem dX0_drawMonths_124 : decode cX0_drawMonths 124 = .ok (.invokevirtual 30, 3) := dk182 (k := 0) bX0_drawMonths_124 rfl rfl
theorem dX0_drawMonths_127 : decode cX0_drawMonths 127 = .ok (.ifCond .eq 45, 3) := dk153 (k := 3) bX0_drawMonths_124 rfl (by decide)
theorem dX0_drawMonths_130 : decode cX0_drawMonths 130 = .ok (.iinc 7 1, 3) := dk132 (k := 6) bX0_drawMonths_124 rfl rfl (by decide)
theorem dX0_drawMonths_133 : decode cX0_drawMonths 133 = .ok (.aload_n 0, 1) := dk42 (k := 9) bX0_drawMonths_124 rfl
theorem dX0_drawMonths_134 : decode cX0_drawMonths 134 = .ok (.getfield 15, 3) := dk180 (k := 10) bX0_drawMonths_124 rfl rfl
theorem dX0_drawMonths_137 : decode cX0_drawMonths 137 = .ok (.aload_n 0, 1) := dk42 (k := 13) bX0_drawMonths_124 rfl
theorem dX0_drawMonths_138 : decode cX0_drawMonths 138 = .ok (.getfield 15, 3) := dk180 (k := 14) bX0_drawMonths_124 rfl rfl
theorem dX0_drawMonths_141 : decode cX0_drawMonths 141 = .ok (.aload_n 0, 1) := dk42 (k := 17) bX0_drawMonths_124 rfl
theorem dX0_drawMonths_142 : decode cX0_drawMonths 142 = .ok (.getfield 9, 3) := dk180 (k := 18) bX0_drawMonths_124 rfl rfl
theorem dX0_drawMonths_145 : decode cX0_drawMonths 145 = .ok (.getfield 80, 3) := dk180 (k := 21) bX0_drawMonths_124 rfl rfl
theorem bX0_drawMonths_148 : bL cX0_drawMonths 148 [182, 0, 83, 4, 182, 0, 86, 42, 180, 0, 9, 180, 0, 34, 42, 180, 0, 15, 2, 182, 0, 44, 54, 8] := bL_of (by decide +kernel)
theorem dX0_drawMonths_148 : decode cX0_drawMonths 148 = .ok (.invokevirtual 83, 3) := dk182 (k := 0) bX0_drawMonths_148 rfl rfl
theorem dX0_drawMonths_151 : decode cX0_drawMonths 151 = .ok (.iconst 1, 1) := dk4 (k := 3) bX0_drawMonths_148 rfl
theorem dX0_drawMonths_152 : decode cX0_drawMonths 152 = .ok (.invokevirtual 86, 3) := dk182 (k := 4) bX0_drawMonths_148 rfl rfl
theorem dX0_drawMonths_155 : decode cX0_drawMonths 155 = .ok (.aload_n 0, 1) := dk42 (k := 7) bX0_drawMonths_148 rfl
theorem dX0_drawMonths_156 : decode cX0_drawMonths 156 = .ok (.getfield 9, 3) := dk180 (k := 8) bX0_drawMonths_148 rfl rfl
theorem dX0_drawMonths_159 : decode cX0_drawMonths 159 = .ok (.getfield 34, 3) := dk180 (k := 11) bX0_drawMonths_148 rfl rfl
theorem dX0_drawMonths_162 : decode cX0_drawMonths 162 = .ok (.aload_n 0, 1) := dk42 (k := 14) bX0_drawMonths_148 rfl
theorem dX0_drawMonths_163 : decode cX0_drawMonths 163 = .ok (.getfield 15, 3) := dk180 (k := 15) bX0_drawMonths_148 rfl rfl
theorem dX0_drawMonths_166 : decode cX0_drawMonths 166 = .ok (.iconst (-1), 1) := dk2 (k := 18) bX0_drawMonths_148 rfl
theorem dX0_drawMonths_167 : decode cX0_drawMonths 167 = .ok (.invokevirtual 44, 3) := dk182 (k := 19) bX0_drawMonths_148 rfl rfl
theorem dX0_drawMonths_170 : decode cX0_drawMonths 170 = .ok (.istore 8, 2) := dk54 (k := 22) bX0_drawMonths_148 rfl rfl
theorem bX0_drawMonths_172 : bL cX0_drawMonths 172 [132, 9, 1, 167, 255, 142, 21, 7, 172] := bL_of (by decide +kernel)
theorem dX0_drawMonths_172 : decode cX0_drawMonths 172 = .ok (.iinc 9 1, 3) := dk132 (k := 0) bX0_drawMonths_172 rfl rfl (by decide)
theorem dX0_drawMonths_175 : decode cX0_drawMonths 175 = .ok (.goto (-114), 3) := dk167 (k := 3) bX0_drawMonths_172 rfl (by decide)
theorem dX0_drawMonths_178 : decode cX0_drawMonths 178 = .ok (.iload 7, 2) := dk21 (k := 6) bX0_drawMonths_172 rfl rfl
theorem dX0_drawMonths_180 : decode cX0_drawMonths 180 = .ok (.ireturn, 1) := dk172 (k := 8) bX0_drawMonths_172 rfl
theorem bX1_init_0 : bL cX1_init 0 [42, 183, 0, 3, 42, 16, 10] := bL_of (by decide +kernel)
theorem dX1_init_0 : decode cX1_init 0 = .ok (.aload_n 0, 1) := dk42 (k := 0) bX1_init_0 rfl
theorem dX1_init_1 : decode cX1_init 1 = .ok (.invokespecial 3, 3) := dk183 (k := 1) bX1_init_0 rfl rfl
theorem dX1_init_4 : decode cX1_init 4 = .ok (.aload_n 0, 1) := dk42 (k := 4) bX1_init_0 rfl
theorem dX1_init_5 : decode cX1_init 5 = .ok (.bipush 10, 2) := dk16 (k := 5) bX1_init_0 rfl (by decide)
theorem dX1_init_7 : decode cX1_init 7 = .ok (.newarray .int, 2) := by decide +kernel
theorem bX1_init_9 : bL cX1_init 9 [181, 0, 9, 177] := bL_of (by decide +kernel)
theorem dX1_init_9 : decode cX1_init 9 = .ok (.putfield 9, 3) := dk181 (k := 0) bX1_init_9 rfl rfl
theorem dX1_init_12 : decode cX1_init 12 = .ok (.return_, 1) := dk177 (k := 3) bX1_init_9 rfl
theorem bX1_clear_0 : bL cX1_clear 0 [42, 3, 181, 0, 15, 42, 3, 181, 0, 19, 42, 3, 181, 0, 22, 42, 3, 181, 0, 25, 177] := bL_of (by decide +kernel)
theorem dX1_clear_0 : decode cX1_clear 0 = .ok (.aload_n 0, 1) := dk42 (k := 0) bX1_clear_0 rfl
theorem dX1_clear_1 : decode cX1_clear 1 = .ok (.iconst 0, 1) := dk3 (k := 1) bX1_clear_0 rfl
theorem dX1_clear_2 : decode cX1_clear 2 = .ok (.putfield 15, 3) := dk181 (k := 2) bX1_clear_0 rfl rfl
theorem dX1_clear_5 : decode cX1_clear 5 = .ok (.aload_n 0, 1) := dk42 (k := 5) bX1_clear_0 rfl
theorem dX1_clear_6 : decode cX1_clear 6 = .ok (.iconst 0, 1) := dk3 (k := 6) bX1_clear_0 rfl
theorem dX1_clear_7 : decode cX1_clear 7 = .ok (.putfield 19, 3) := dk181 (k := 7) bX1_clear_0 rfl rfl
theorem dX1_clear_10 : decode cX1_clear 10 = .ok (.aload_n 0, 1) := dk42 (k := 10) bX1_clear_0 rfl
theorem dX1_clear_11 : decode cX1_clear 11 = .ok (.iconst 0, 1) := dk3 (k := 11) bX1_clear_0 rfl
theorem dX1_clear_12 : decode cX1_clear 12 = .ok (.putfield 22, 3) := dk181 (k := 12) bX1_clear_0 rfl rfl
theorem dX1_clear_15 : decode cX1_clear 15 = .ok (.aload_n 0, 1) := dk42 (k := 15) bX1_clear_0 rfl
theorem dX1_clear_16 : decode cX1_clear 16 = .ok (.iconst 0, 1) := dk3 (k := 16) bX1_clear_0 rfl
theorem dX1_clear_17 : decode cX1_clear 17 = .ok (.putfield 25, 3) := dk181 (k := 17) bX1_clear_0 rfl rfl
theorem dX1_clear_20 : decode cX1_clear 20 = .ok (.return_, 1) := dk177 (k := 20) bX1_clear_0 rfl
theorem bX1_copyFrom_0 : bL cX1_copyFrom 0 [3, 61, 28, 16, 10, 162, 0, 21, 42, 180, 0, 9, 28, 43, 180, 0, 9, 28, 46, 79, 132, 2, 1, 167, 255, 235] := bL_of (by decide +kernel)
theorem dX1_copyFrom_0 : decode cX1_copyFrom 0 = .ok (.iconst 0, 1) := dk3 (k := 0) bX1_copyFrom_0 rfl
theorem dX1_copyFrom_1 : decode cX1_copyFrom 1 = .ok (.istore_n 2, 1) := dk61 (k := 1) bX1_copyFrom_0 rfl
theorem dX1_copyFrom_2 : decode cX1_copyFrom 2 = .ok (.iload_n 2, 1) := dk28 (k := 2) bX1_copyFrom_0 rfl
theorem dX1_copyFrom_3 : decode cX1_copyFrom 3 = .ok (.bipush 10, 2) := dk16 (k := 3) bX1_copyFrom_0 rfl (by decide)
theorem dX1_copyFrom_5 : decode cX1_copyFrom 5 = .ok (.if_icmp .ge 21, 3) := dk162 (k := 5) bX1_copyFrom_0 rfl (by decide)
theorem dX1_copyFrom_8 : decode cX1_copyFrom 8 = .ok (.aload_n 0, 1) := dk42 (k := 8) bX1_copyFrom_0 rfl
theorem dX1_copyFrom_9 : decode cX1_copyFrom 9 = .ok (.getfield 9, 3) := dk180 (k := 9) bX1_copyFrom_0 rfl rfl
theorem dX1_copyFrom_12 : decode cX1_copyFrom 12 = .ok (.iload_n 2, 1) := dk28 (k := 12) bX1_copyFrom_0 rfl
theorem dX1_copyFrom_13 : decode cX1_copyFrom 13 = .ok (.aload_n 1, 1) := dk43 (k := 13) bX1_copyFrom_0 rfl
theorem dX1_copyFrom_14 : decode cX1_copyFrom 14 = .ok (.getfield 9, 3) := dk180 (k := 14) bX1_copyFrom_0 rfl rfl
theorem dX1_copyFrom_17 : decode cX1_copyFrom 17 = .ok (.iload_n 2, 1) := dk28 (k := 17) bX1_copyFrom_0 rfl
theorem dX1_copyFrom_18 : decode cX1_copyFrom 18 = .ok (.iaload, 1) := dk46 (k := 18) bX1_copyFrom_0 rfl
theorem dX1_copyFrom_19 : decode cX1_copyFrom 19 = .ok (.iastore, 1) := dk79 (k := 19) bX1_copyFrom_0 rfl
theorem dX1_copyFrom_20 : decode cX1_copyFrom 20 = .ok (.iinc 2 1, 3) := dk132 (k := 20) bX1_copyFrom_0 rfl rfl (by decide)
theorem dX1_copyFrom_23 : decode cX1_copyFrom 23 = .ok (.goto (-21), 3) := dk167 (k := 23) bX1_copyFrom_0 rfl (by decide)
theorem bX1_copyFrom_26 : bL cX1_copyFrom 26 [42, 43, 180, 0, 15, 181, 0, 15, 42, 43, 180, 0, 19, 181, 0, 19, 42, 43, 180, 0, 22, 181, 0, 22] := bL_of (by decide +kernel)
theorem dX1_copyFrom_26 : decode cX1_copyFrom 26 = .ok (.aload_n 0, 1) := dk42 (k := 0) bX1_copyFrom_26 rfl
theorem dX1_copyFrom_27 : decode cX1_copyFrom 27 = .ok (.aload_n 1, 1) := dk43 (k := 1) bX1_copyFrom_26 rfl
theorem dX1_copyFrom_28 : decode cX1_copyFrom 28 = .ok (.getfield 15, 3) := dk180 (k := 2) bX1_copyFrom_26 rfl rfl
theorem dX1_copyFrom_31 : decode cX1_copyFrom 31 = .ok (.putfield 15, 3) := dk181 (k := 5) bX1_copyFrom_26 rfl rfl
theorem dX1_copyFrom_34 : decode cX1_copyFrom 34 = .ok (.aload_n 0, 1) := dk42 (k := 8) bX1_copyFrom_26 rfl
theorem dX1_copyFrom_35 : decode cX1_copyFrom 35 = .ok (.aload_n 1, 1) := dk43 (k := 9) bX1_copyFrom_26 rfl
theorem dX1_copyFrom_36 : decode cX1_copyFrom 36 = .ok (.getfield 19, 3) := dk180 (k := 10) bX1_copyFrom_26 rfl rfl
theorem dX1_copyFrom_39 : decode cX1_copyFrom 39 = .ok (.putfield 19, 3) := dk181 (k := 13) bX1_copyFrom_26 rfl rfl
theorem dX1_copyFrom_42 : decode cX1_copyFrom 42 = .ok (.aload_n 0, 1) := dk42 (k := 16) bX1_copyFrom_26 rfl
theorem dX1_copyFrom_43 : decode cX1_copyFrom 43 = .ok (.aload_n 1, 1) := dk43 (k := 17) bX1_copyFrom_26 rfl
theorem dX1_copyFrom_44 : decode cX1_copyFrom 44 = .ok (.getfield 22, 3) := dk180 (k := 18) bX1_copyFrom_26 rfl rfl
theorem dX1_copyFrom_47 : decode cX1_copyFrom 47 = .ok (.putfield 22, 3) := dk181 (k := 21) bX1_copyFrom_26 rfl rfl
theorem bX1_copyFrom_50 : bL cX1_copyFrom 50 [42, 43, 180, 0, 25, 181, 0, 25, 177] := bL_of (by decide +kernel)
theorem dX1_copyFrom_50 : decode cX1_copyFrom 50 = .ok (.aload_n 0, 1) := dk42 (k := 0) bX1_copyFrom_50 rfl
theorem dX1_copyFrom_51 : decode cX1_copyFrom 51 = .ok (.aload_n 1, 1) := dk43 (k := 1) bX1_copyFrom_50 rfl
theorem dX1_copyFrom_52 : decode cX1_copyFrom 52 = .ok (.getfield 25, 3) := dk180 (k := 2) bX1_copyFrom_50 rfl rfl
theorem dX1_copyFrom_55 : decode cX1_copyFrom 55 = .ok (.putfield 25, 3) := dk181 (k := 5) bX1_copyFrom_50 rfl rfl
theorem dX1_copyFrom_58 : decode cX1_copyFrom 58 = .ok (.return_, 1) := dk177 (k := 8) bX1_copyFrom_50 rfl
theorem bX1_addCell_0 : bL cX1_addCell 0 [42, 180, 0, 15, 155, 0, 35, 42, 180, 0, 15, 42, 180, 0, 9, 190, 162, 0, 23, 42, 180, 0, 9, 42] := bL_of (by decide +kernel)
theorem dX1_addCell_0 : decode cX1_addCell 0 = .ok (.aload_n 0, 1) := dk42 (k := 0) bX1_addCell_0 rfl
theorem dX1_addCell_1 : decode cX1_addCell 1 = .ok (.getfield 15, 3) := dk180 (k := 1) bX1_addCell_0 rfl rfl
theorem dX1_addCell_4 : decode cX1_addCell 4 = .ok (.ifCond .lt 35, 3) := dk155 (k := 4) bX1_addCell_0 rfl (by decide)
theorem dX1_addCell_7 : decode cX1_addCell 7 = .ok (.aload_n 0, 1) := dk42 (k := 7) bX1_addCell_0 rfl
theorem dX1_addCell_8 : decode cX1_addCell 8 = .ok (.getfield 15, 3) := dk180 (k := 8) bX1_addCell_0 rfl rfl
theorem dX1_addCell_11 : decode cX1_addCell 11 = .ok (.aload_n 0, 1) := dk42 (k := 11) bX1_addCell_0 rfl
theorem dX1_addCell_12 : decode cX1_addCell 12 = .ok (.getfield 9, 3) := dk180 (k := 12) bX1_addCell_0 rfl rfl
theorem dX1_addCell_15 : decode cX1_addCell 15 = .ok (.arraylength, 1) := dk190 (k := 15) bX1_addCell_0 rfl
theorem dX1_addCell_16 : decode cX1_addCell 16 = .ok (.if_icmp .ge 23, 3) := dk162 (k := 16) bX1_addCell_0 rfl (by decide)
theorem dX1_addCell_19 : decode cX1_addCell 19 = .ok (.aload_n 0, 1) := dk42 (k := 19) bX1_addCell_0 rfl
theorem dX1_addCell_20 : decode cX1_addCell 20 = .ok (.getfield 9, 3) := dk180 (k := 20) bX1_addCell_0 rfl rfl
theorem dX1_addCell_23 : decode cX1_addCell 23 = .ok (.aload_n 0, 1) := dk42 (k := 23) bX1_addCell_0 rfl
theorem bX1_addCell_24 : bL cX1_addCell 24 [180, 0, 15, 27, 79, 42, 89, 180, 0, 15, 4, 96, 181, 0, 15, 177] := bL_of (by decide +kernel)
theorem dX1_addCell_24 : decode cX1_addCell 24 = .ok (.getfield 15, 3) := dk180 (k := 0) bX1_addCell_24 rfl rfl
theorem dX1_addCell_27 : decode cX1_addCell 27 = .ok (.iload_n 1, 1) := dk27 (k := 3) bX1_addCell_24 rfl
theorem dX1_addCell_28 : decode cX1_addCell 28 = .ok (.iastore, 1) := dk79 (k := 4) bX1_addCell_24 rfl
theorem dX1_addCell_29 : decode cX1_addCell 29 = .ok (.aload_n 0, 1) := dk42 (k := 5) bX1_addCell_24 rfl
theorem dX1_addCell_30 : decode cX1_addCell 30 = .ok (.dup, 1) := dk89 (k := 6) bX1_addCell_24 rfl
theorem dX1_addCell_31 : decode cX1_addCell 31 = .ok (.getfield 15, 3) := dk180 (k := 7) bX1_addCell_24 rfl rfl
theorem dX1_addCell_34 : decode cX1_addCell 34 = .ok (.iconst 1, 1) := dk4 (k := 10) bX1_addCell_24 rfl
theorem dX1_addCell_35 : decode cX1_addCell 35 = .ok (.iadd, 1) := dk96 (k := 11) bX1_addCell_24 rfl
theorem dX1_addCell_36 : decode cX1_addCell 36 = .ok (.putfield 15, 3) := dk181 (k := 12) bX1_addCell_24 rfl rfl
theorem dX1_addCell_39 : decode cX1_addCell 39 = .ok (.return_, 1) := dk177 (k := 15) bX1_addCell_24 rfl
theorem bX1_has_0 : bL cX1_has 0 [27, 155, 0, 24, 27, 42, 180, 0, 15, 162, 0, 16, 27, 42, 180, 0, 9, 190, 162, 0, 7, 4, 167, 0, 4] := bL_of (by decide +kernel)
theorem dX1_has_0 : decode cX1_has 0 = .ok (.iload_n 1, 1) := dk27 (k := 0) bX1_has_0 rfl
theorem dX1_has_1 : decode cX1_has 1 = .ok (.ifCond .lt 24, 3) := dk155 (k := 1) bX1_has_0 rfl (by decide)
theorem dX1_has_4 : decode cX1_has 4 = .ok (.iload_n 1, 1) := dk27 (k := 4) bX1_has_0 rfl
theorem dX1_has_5 : decode cX1_has 5 = .ok (.aload_n 0, 1) := dk42 (k := 5) bX1_has_0 rfl
theorem dX1_has_6 : decode cX1_has 6 = .ok (.getfield 15, 3) := dk180 (k := 6) bX1_has_0 rfl rfl
theorem dX1_has_9 : decode cX1_has 9 = .ok (.if_icmp .ge 16, 3) := dk162 (k := 9) bX1_has_0 rfl (by decide)
theorem dX1_has_12 : decode cX1_has 12 = .ok (.iload_n 1, 1) := dk27 (k := 12) bX1_has_0 rfl
theorem dX1_has_13 : decode cX1_has 13 = .ok (.aload_n 0, 1) := dk42 (k := 13) bX1_has_0 rfl
theorem dX1_has_14 : decode cX1_has 14 = .ok (.getfield 9, 3) := dk180 (k := 14) bX1_has_0 rfl rfl
theorem dX1_has_17 : decode cX1_has 17 = .ok (.arraylength, 1) := dk190 (k := 17) bX1_has_0 rfl
theorem dX1_has_18 : decode cX1_has 18 = .ok (.if_icmp .ge 7, 3) := dk162 (k := 18) bX1_has_0 rfl (by decide)
theorem dX1_has_21 : decode cX1_has 21 = .ok (.iconst 1, 1) := dk4 (k := 21) bX1_has_0 rfl
theorem dX1_has_22 : decode cX1_has 22 = .ok (.goto 4, 3) := dk167 (k := 22) bX1_has_0 rfl (by decide)
theorem bX1_has_25 : bL cX1_has 25 [3, 172] := bL_of (by decide +kernel)
theorem dX1_has_25 : decode cX1_has 25 = .ok (.iconst 0, 1) := dk3 (k := 0) bX1_has_25 rfl
theorem dX1_has_26 : decode cX1_has 26 = .ok (.ireturn, 1) := dk172 (k := 1) bX1_has_25 rfl
theorem bX1_heightOf_0 : bL cX1_heightOf 0 [27, 155, 0, 29, 27, 42, 180, 0, 15, 162, 0, 21, 27, 42, 180, 0, 9, 190, 162, 0, 12, 42, 180, 0, 9] := bL_of (by decide +kernel)
theorem dX1_heightOf_0 : decode cX1_heightOf 0 = .ok (.iload_n 1, 1) := dk27 (k := 0) bX1_heightOf_0 rfl
theorem dX1_heightOf_1 : decode cX1_heightOf 1 = .ok (.ifCond .lt 29, 3) := dk155 (k := 1) bX1_heightOf_0 rfl (by decide)
theorem dX1_heightOf_4 : decode cX1_heightOf 4 = .ok (.iload_n 1, 1) := dk27 (k := 4) bX1_heightOf_0 rfl
theorem dX1_heightOf_5 : decode cX1_heightOf 5 = .ok (.aload_n 0, 1) := dk42 (k := 5) bX1_heightOf_0 rfl
theorem dX1_heightOf_6 : decode cX1_heightOf 6 = .ok (.getfield 15, 3) := dk180 (k := 6) bX1_heightOf_0 rfl rfl
theorem dX1_heightOf_9 : decode cX1_heightOf 9 = .ok (.if_icmp .ge 21, 3) := dk162 (k := 9) bX1_heightOf_0 rfl (by decide)
theorem dX1_heightOf_12 : decode cX1_heightOf 12 = .ok (.iload_n 1, 1) := dk27 (k := 12) bX1_heightOf_0 rfl
theorem dX1_heightOf_13 : decode cX1_heightOf 13 = .ok (.aload_n 0, 1) := dk42 (k := 13) bX1_heightOf_0 rfl
theorem dX1_heightOf_14 : decode cX1_heightOf 14 = .ok (.getfield 9, 3) := dk180 (k := 14) bX1_heightOf_0 rfl rfl
theorem dX1_heightOf_17 : decode cX1_heightOf 17 = .ok (.arraylength, 1) := dk190 (k := 17) bX1_heightOf_0 rfl
theorem dX1_heightOf_18 : decode cX1_heightOf 18 = .ok (.if_icmp .ge 12, 3) := dk162 (k := 18) bX1_heightOf_0 rfl (by decide)
theorem dX1_heightOf_21 : decode cX1_heightOf 21 = .ok (.aload_n 0, 1) := dk42 (k := 21) bX1_heightOf_0 rfl
theorem dX1_heightOf_22 : decode cX1_heightOf 22 = .ok (.getfield 9, 3) := dk180 (k := 22) bX1_heightOf_0 rfl rfl
theorem bX1_heightOf_25 : bL cX1_heightOf 25 [27, 46, 167, 0, 4, 3, 172] := bL_of (by decide +kernel)
theorem dX1_heightOf_25 : decode cX1_heightOf 25 = .ok (.iload_n 1, 1) := dk27 (k := 0) bX1_heightOf_25 rfl
theorem dX1_heightOf_26 : decode cX1_heightOf 26 = .ok (.iaload, 1) := dk46 (k := 1) bX1_heightOf_25 rfl
theorem dX1_heightOf_27 : decode cX1_heightOf 27 = .ok (.goto 4, 3) := dk167 (k := 2) bX1_heightOf_25 rfl (by decide)
theorem dX1_heightOf_30 : decode cX1_heightOf 30 = .ok (.iconst 0, 1) := dk3 (k := 5) bX1_heightOf_25 rfl
theorem dX1_heightOf_31 : decode cX1_heightOf 31 = .ok (.ireturn, 1) := dk172 (k := 6) bX1_heightOf_25 rfl
theorem bX1_change_0 : bL cX1_change 0 [42, 27, 182, 0, 29, 153, 0, 13, 42, 180, 0, 9, 27, 92, 46, 28, 96, 79, 177] := bL_of (by decide +kernel)
theorem dX1_change_0 : decode cX1_change 0 = .ok (.aload_n 0, 1) := dk42 (k := 0) bX1_change_0 rfl
theorem dX1_change_1 : decode cX1_change 1 = .ok (.iload_n 1, 1) := dk27 (k := 1) bX1_change_0 rfl
theorem dX1_change_2 : decode cX1_change 2 = .ok (.invokevirtual 29, 3) := dk182 (k := 2) bX1_change_0 rfl rfl
theorem dX1_change_5 : decode cX1_change 5 = .ok (.ifCond .eq 13, 3) := dk153 (k := 5) bX1_change_0 rfl (by decide)
theorem dX1_change_8 : decode cX1_change 8 = .ok (.aload_n 0, 1) := dk42 (k := 8) bX1_change_0 rfl
theorem dX1_change_9 : decode cX1_change 9 = .ok (.getfield 9, 3) := dk180 (k := 9) bX1_change_0 rfl rfl
theorem dX1_change_12 : decode cX1_change 12 = .ok (.iload_n 1, 1) := dk27 (k := 12) bX1_change_0 rfl
theorem dX1_change_13 : decode cX1_change 13 = .ok (.dup2, 1) := dk92 (k := 13) bX1_change_0 rfl
theorem dX1_change_14 : decode cX1_change 14 = .ok (.iaload, 1) := dk46 (k := 14) bX1_change_0 rfl
theorem dX1_change_15 : decode cX1_change 15 = .ok (.iload_n 2, 1) := dk28 (k := 15) bX1_change_0 rfl
theorem dX1_change_16 : decode cX1_change 16 = .ok (.iadd, 1) := dk96 (k := 16) bX1_change_0 rfl
theorem dX1_change_17 : decode cX1_change 17 = .ok (.iastore, 1) := dk79 (k := 17) bX1_change_0 rfl
theorem dX1_change_18 : decode cX1_change 18 = .ok (.return_, 1) := dk177 (k := 18) bX1_change_0 rfl
theorem bX1_topCell_0 : bL cX1_topCell 0 [2, 60, 3, 61, 28, 42, 180, 0, 15, 162, 0, 43, 42, 28, 182, 0, 33, 42, 27, 182, 0, 33, 100, 62] := bL_of (by decide +kernel)
theorem dX1_topCell_0 : decode cX1_topCell 0 = .ok (.iconst (-1), 1) := dk2 (k := 0) bX1_topCell_0 rfl
theorem dX1_topCell_1 : decode cX1_topCell 1 = .ok (.istore_n 1, 1) := dk60 (k := 1) bX1_topCell_0 rfl
theorem dX1_topCell_2 : decode cX1_topCell 2 = .ok (.iconst 0, 1) := dk3 (k := 2) bX1_topCell_0 rfl
theorem dX1_topCell_3 : decode cX1_topCell 3 = .ok (.istore_n 2, 1) := dk61 (k := 3) bX1_topCell_0 rfl
theorem dX1_topCell_4 : decode cX1_topCell 4 = .ok (.iload_n 2, 1) := dk28 (k := 4) bX1_topCell_0 rfl
theorem dX1_topCell_5 : decode cX1_topCell 5 = .ok (.aload_n 0, 1) := dk42 (k := 5) bX1_topCell_0 rfl
theorem dX1_topCell_6 : decode cX1_topCell 6 = .ok (.getfield 15, 3) := dk180 (k := 6) bX1_topCell_0 rfl rfl
theorem dX1_topCell_9 : decode cX1_topCell 9 = .ok (.if_icmp .ge 43, 3) := dk162 (k := 9) bX1_topCell_0 rfl (by decide)
theorem dX1_topCell_12 : decode cX1_topCell 12 = .ok (.aload_n 0, 1) := dk42 (k := 12) bX1_topCell_0 rfl
theorem dX1_topCell_13 : decode cX1_topCell 13 = .ok (.iload_n 2, 1) := dk28 (k := 13) bX1_topCell_0 rfl
theorem dX1_topCell_14 : decode cX1_topCell 14 = .ok (.invokevirtual 33, 3) := dk182 (k := 14) bX1_topCell_0 rfl rfl
theorem dX1_topCell_17 : decode cX1_topCell 17 = .ok (.aload_n 0, 1) := dk42 (k := 17) bX1_topCell_0 rfl
theorem dX1_topCell_18 : decode cX1_topCell 18 = .ok (.iload_n 1, 1) := dk27 (k := 18) bX1_topCell_0 rfl
theorem dX1_topCell_19 : decode cX1_topCell 19 = .ok (.invokevirtual 33, 3) := dk182 (k := 19) bX1_topCell_0 rfl rfl
theorem dX1_topCell_22 : decode cX1_topCell 22 = .ok (.isub, 1) := dk100 (k := 22) bX1_topCell_0 rfl
theorem dX1_topCell_23 : decode cX1_topCell 23 = .ok (.istore_n 3, 1) := dk62 (k := 23) bX1_topCell_0 rfl
theorem bX1_topCell_24 : bL cX1_topCell 24 [27, 2, 159, 0, 18, 29, 157, 0, 14, 29, 154, 0, 12, 42, 180, 0, 25, 153, 0, 5, 28, 60, 132, 2, 1] := bL_of (by decide +kernel)
theorem dX1_topCell_24 : decode cX1_topCell 24 = .ok (.iload_n 1, 1) := dk27 (k := 0) bX1_topCell_24 rfl
theorem dX1_topCell_25 : decode cX1_topCell 25 = .ok (.iconst (-1), 1) := dk2 (k := 1) bX1_topCell_24 rfl
theorem dX1_topCell_26 : decode cX1_topCell 26 = .ok (.if_icmp .eq 18, 3) := dk159 (k := 2) bX1_topCell_24 rfl (by decide)
theorem dX1_topCell_29 : decode cX1_topCell 29 = .ok (.iload_n 3, 1) := dk29 (k := 5) bX1_topCell_24 rfl
theorem dX1_topCell_30 : decode cX1_topCell 30 = .ok (.ifCond .gt 14, 3) := dk157 (k := 6) bX1_topCell_24 rfl (by decide)
theorem dX1_topCell_33 : decode cX1_topCell 33 = .ok (.iload_n 3, 1) := dk29 (k := 9) bX1_topCell_24 rfl
theorem dX1_topCell_34 : decode cX1_topCell 34 = .ok (.ifCond .ne 12, 3) := dk154 (k := 10) bX1_topCell_24 rfl (by decide)
theorem dX1_topCell_37 : decode cX1_topCell 37 = .ok (.aload_n 0, 1) := dk42 (k := 13) bX1_topCell_24 rfl
theorem dX1_topCell_38 : decode cX1_topCell 38 = .ok (.getfield 25, 3) := dk180 (k := 14) bX1_topCell_24 rfl rfl
theorem dX1_topCell_41 : decode cX1_topCell 41 = .ok (.ifCond .eq 5, 3) := dk153 (k := 17) bX1_topCell_24 rfl (by decide)
theorem dX1_topCell_44 : decode cX1_topCell 44 = .ok (.iload_n 2, 1) := dk28 (k := 20) bX1_topCell_24 rfl
theorem dX1_topCell_45 : decode cX1_topCell 45 = .ok (.istore_n 1, 1) := dk60 (k := 21) bX1_topCell_24 rfl
theorem dX1_topCell_46 : decode cX1_topCell 46 = .ok (.iinc 2 1, 3) := dk132 (k := 22) bX1_topCell_24 rfl rfl (by decide)
theorem bX1_topCell_49 : bL cX1_topCell 49 [167, 255, 211, 27, 172] := bL_of (by decide +kernel)
theorem dX1_topCell_49 : decode cX1_topCell 49 = .ok (.goto (-45), 3) := dk167 (k := 0) bX1_topCell_49 rfl (by decide)
theorem dX1_topCell_52 : decode cX1_topCell 52 = .ok (.iload_n 1, 1) := dk27 (k := 3) bX1_topCell_49 rfl
theorem dX1_topCell_53 : decode cX1_topCell 53 = .ok (.ireturn, 1) := dk172 (k := 4) bX1_topCell_49 rfl
theorem bX1_topHeight_0 : bL cX1_topHeight 0 [3, 60, 3, 61, 28, 42, 180, 0, 15, 162, 0, 22, 42, 28, 182, 0, 33, 62, 29, 27, 164, 0, 5, 29] := bL_of (by decide +kernel)
theorem dX1_topHeight_0 : decode cX1_topHeight 0 = .ok (.iconst 0, 1) := dk3 (k := 0) bX1_topHeight_0 rfl
theorem dX1_topHeight_1 : decode cX1_topHeight 1 = .ok (.istore_n 1, 1) := dk60 (k := 1) bX1_topHeight_0 rfl
theorem dX1_topHeight_2 : decode cX1_topHeight 2 = .ok (.iconst 0, 1) := dk3 (k := 2) bX1_topHeight_0 rfl
theorem dX1_topHeight_3 : decode cX1_topHeight 3 = .ok (.istore_n 2, 1) := dk61 (k := 3) bX1_topHeight_0 rfl
theorem dX1_topHeight_4 : decode cX1_topHeight 4 = .ok (.iload_n 2, 1) := dk28 (k := 4) bX1_topHeight_0 rfl
theorem dX1_topHeight_5 : decode cX1_topHeight 5 = .ok (.aload_n 0, 1) := dk42 (k := 5) bX1_topHeight_0 rfl
theorem dX1_topHeight_6 : decode cX1_topHeight 6 = .ok (.getfield 15, 3) := dk180 (k := 6) bX1_topHeight_0 rfl rfl
theorem dX1_topHeight_9 : decode cX1_topHeight 9 = .ok (.if_icmp .ge 22, 3) := dk162 (k := 9) bX1_topHeight_0 rfl (by decide)
theorem dX1_topHeight_12 : decode cX1_topHeight 12 = .ok (.aload_n 0, 1) := dk42 (k := 12) bX1_topHeight_0 rfl
theorem dX1_topHeight_13 : decode cX1_topHeight 13 = .ok (.iload_n 2, 1) := dk28 (k := 13) bX1_topHeight_0 rfl
theorem dX1_topHeight_14 : decode cX1_topHeight 14 = .ok (.invokevirtual 33, 3) := dk182 (k := 14) bX1_topHeight_0 rfl rfl
theorem dX1_topHeight_17 : decode cX1_topHeight 17 = .ok (.istore_n 3, 1) := dk62 (k := 17) bX1_topHeight_0 rfl
theorem dX1_topHeight_18 : decode cX1_topHeight 18 = .ok (.iload_n 3, 1) := dk29 (k := 18) bX1_topHeight_0 rfl
theorem dX1_topHeight_19 : decode cX1_topHeight 19 = .ok (.iload_n 1, 1) := dk27 (k := 19) bX1_topHeight_0 rfl
theorem dX1_topHeight_20 : decode cX1_topHeight 20 = .ok (.if_icmp .le 5, 3) := dk164 (k := 20) bX1_topHeight_0 rfl (by decide)
theorem dX1_topHeight_23 : decode cX1_topHeight 23 = .ok (.iload_n 3, 1) := dk29 (k := 23) bX1_topHeight_0 rfl
theorem bX1_topHeight_24 : bL cX1_topHeight 24 [60, 132, 2, 1, 167, 255, 232, 27, 172] := bL_of (by decide +kernel)
theorem dX1_topHeight_24 : decode cX1_topHeight 24 = .ok (.istore_n 1, 1) := dk60 (k := 0) bX1_topHeight_24 rfl
theorem dX1_topHeight_25 : decode cX1_topHeight 25 = .ok (.iinc 2 1, 3) := dk132 (k := 1) bX1_topHeight_24 rfl rfl (by decide)
theorem dX1_topHeight_28 : decode cX1_topHeight 28 = .ok (.goto (-24), 3) := dk167 (k := 4) bX1_topHeight_24 rfl (by decide)
theorem dX1_topHeight_31 : decode cX1_topHeight 31 = .ok (.iload_n 1, 1) := dk27 (k := 7) bX1_topHeight_24 rfl
theorem dX1_topHeight_32 : decode cX1_topHeight 32 = .ok (.ireturn, 1) := dk172 (k := 8) bX1_topHeight_24 rfl
theorem bX1_feetInAll_0 : bL cX1_feetInAll 0 [3, 60, 3, 61, 28, 42, 180, 0, 15, 162, 0, 17, 27, 42, 28, 182, 0, 33, 96, 60, 132, 2, 1, 167, 255, 237] := bL_of (by decide +kernel)
theorem dX1_feetInAll_0 : decode cX1_feetInAll 0 = .ok (.iconst 0, 1) := dk3 (k := 0) bX1_feetInAll_0 rfl
theorem dX1_feetInAll_1 : decode cX1_feetInAll 1 = .ok (.istore_n 1, 1) := dk60 (k := 1) bX1_feetInAll_0 rfl
theorem dX1_feetInAll_2 : decode cX1_feetInAll 2 = .ok (.iconst 0, 1) := dk3 (k := 2) bX1_feetInAll_0 rfl
theorem dX1_feetInAll_3 : decode cX1_feetInAll 3 = .ok (.istore_n 2, 1) := dk61 (k := 3) bX1_feetInAll_0 rfl
theorem dX1_feetInAll_4 : decode cX1_feetInAll 4 = .ok (.iload_n 2, 1) := dk28 (k := 4) bX1_feetInAll_0 rfl
theorem dX1_feetInAll_5 : decode cX1_feetInAll 5 = .ok (.aload_n 0, 1) := dk42 (k := 5) bX1_feetInAll_0 rfl
theorem dX1_feetInAll_6 : decode cX1_feetInAll 6 = .ok (.getfield 15, 3) := dk180 (k := 6) bX1_feetInAll_0 rfl rfl
theorem dX1_feetInAll_9 : decode cX1_feetInAll 9 = .ok (.if_icmp .ge 17, 3) := dk162 (k := 9) bX1_feetInAll_0 rfl (by decide)
theorem dX1_feetInAll_12 : decode cX1_feetInAll 12 = .ok (.iload_n 1, 1) := dk27 (k := 12) bX1_feetInAll_0 rfl
theorem dX1_feetInAll_13 : decode cX1_feetInAll 13 = .ok (.aload_n 0, 1) := dk42 (k := 13) bX1_feetInAll_0 rfl
theorem dX1_feetInAll_14 : decode cX1_feetInAll 14 = .ok (.iload_n 2, 1) := dk28 (k := 14) bX1_feetInAll_0 rfl
theorem dX1_feetInAll_15 : decode cX1_feetInAll 15 = .ok (.invokevirtual 33, 3) := dk182 (k := 15) bX1_feetInAll_0 rfl rfl
theorem dX1_feetInAll_18 : decode cX1_feetInAll 18 = .ok (.iadd, 1) := dk96 (k := 18) bX1_feetInAll_0 rfl
theorem dX1_feetInAll_19 : decode cX1_feetInAll 19 = .ok (.istore_n 1, 1) := dk60 (k := 19) bX1_feetInAll_0 rfl
theorem dX1_feetInAll_20 : decode cX1_feetInAll 20 = .ok (.iinc 2 1, 3) := dk132 (k := 20) bX1_feetInAll_0 rfl rfl (by decide)
theorem dX1_feetInAll_23 : decode cX1_feetInAll 23 = .ok (.goto (-19), 3) := dk167 (k := 23) bX1_feetInAll_0 rfl (by decide)
theorem bX1_feetInAll_26 : bL cX1_feetInAll 26 [27, 172] := bL_of (by decide +kernel)
theorem dX1_feetInAll_26 : decode cX1_feetInAll 26 = .ok (.iload_n 1, 1) := dk27 (k := 0) bX1_feetInAll_26 rfl
theorem dX1_feetInAll_27 : decode cX1_feetInAll 27 = .ok (.ireturn, 1) := dk172 (k := 1) bX1_feetInAll_26 rfl
theorem bX1_shadedHours_0 : bL cX1_shadedHours 0 [27, 155, 0, 20, 27, 42, 180, 0, 15, 162, 0, 12, 27, 42, 180, 0, 9, 190, 161, 0, 5, 3, 172, 3] := bL_of (by decide +kernel)
theorem dX1_shadedHours_0 : decode cX1_shadedHours 0 = .ok (.iload_n 1, 1) := dk27 (k := 0) bX1_shadedHours_0 rfl
theorem dX1_shadedHours_1 : decode cX1_shadedHours 1 = .ok (.ifCond .lt 20, 3) := dk155 (k := 1) bX1_shadedHours_0 rfl (by decide)
theorem dX1_shadedHours_4 : decode cX1_shadedHours 4 = .ok (.iload_n 1, 1) := dk27 (k := 4) bX1_shadedHours_0 rfl
theorem dX1_shadedHours_5 : decode cX1_shadedHours 5 = .ok (.aload_n 0, 1) := dk42 (k := 5) bX1_shadedHours_0 rfl
theorem dX1_shadedHours_6 : decode cX1_shadedHours 6 = .ok (.getfield 15, 3) := dk180 (k := 6) bX1_shadedHours_0 rfl rfl
theorem dX1_shadedHours_9 : decode cX1_shadedHours 9 = .ok (.if_icmp .ge 12, 3) := dk162 (k := 9) bX1_shadedHours_0 rfl (by decide)
theorem dX1_shadedHours_12 : decode cX1_shadedHours 12 = .ok (.iload_n 1, 1) := dk27 (k := 12) bX1_shadedHours_0 rfl
theorem dX1_shadedHours_13 : decode cX1_shadedHours 13 = .ok (.aload_n 0, 1) := dk42 (k := 13) bX1_shadedHours_0 rfl
theorem dX1_shadedHours_14 : decode cX1_shadedHours 14 = .ok (.getfield 9, 3) := dk180 (k := 14) bX1_shadedHours_0 rfl rfl
theorem dX1_shadedHours_17 : decode cX1_shadedHours 17 = .ok (.arraylength, 1) := dk190 (k := 17) bX1_shadedHours_0 rfl
theorem dX1_shadedHours_18 : decode cX1_shadedHours 18 = .ok (.if_icmp .lt 5, 3) := dk161 (k := 18) bX1_shadedHours_0 rfl (by decide)
theorem dX1_shadedHours_21 : decode cX1_shadedHours 21 = .ok (.iconst 0, 1) := dk3 (k := 21) bX1_shadedHours_0 rfl
theorem dX1_shadedHours_22 : decode cX1_shadedHours 22 = .ok (.ireturn, 1) := dk172 (k := 22) bX1_shadedHours_0 rfl
theorem dX1_shadedHours_23 : decode cX1_shadedHours 23 = .ok (.iconst 0, 1) := dk3 (k := 23) bX1_shadedHours_0 rfl
theorem bX1_shadedHours_24 : bL cX1_shadedHours 24 [62, 4, 54, 4, 21, 4, 16, 10, 162, 0, 84, 27, 28, 21, 4, 104, 96, 54, 5, 21, 5, 155, 0, 71] := bL_of (by decide +kernel)
theorem dX1_shadedHours_24 : decode cX1_shadedHours 24 = .ok (.istore_n 3, 1) := dk62 (k := 0) bX1_shadedHours_24 rfl
theorem dX1_shadedHours_25 : decode cX1_shadedHours 25 = .ok (.iconst 1, 1) := dk4 (k := 1) bX1_shadedHours_24 rfl
theorem dX1_shadedHours_26 : decode cX1_shadedHours 26 = .ok (.istore 4, 2) := dk54 (k := 2) bX1_shadedHours_24 rfl rfl
theorem dX1_shadedHours_28 : decode cX1_shadedHours 28 = .ok (.iload 4, 2) := dk21 (k := 4) bX1_shadedHours_24 rfl rfl
theorem dX1_shadedHours_30 : decode cX1_shadedHours 30 = .ok (.bipush 10, 2) := dk16 (k := 6) bX1_shadedHours_24 rfl (by decide)
theorem dX1_shadedHours_32 : decode cX1_shadedHours 32 = .ok (.if_icmp .ge 84, 3) := dk162 (k := 8) bX1_shadedHours_24 rfl (by decide)
theorem dX1_shadedHours_35 : decode cX1_shadedHours 35 = .ok (.iload_n 1, 1) := dk27 (k := 11) bX1_shadedHours_24 rfl
theorem dX1_shadedHours_36 : decode cX1_shadedHours 36 = .ok (.iload_n 2, 1) := dk28 (k := 12) bX1_shadedHours_24 rfl
theorem dX1_shadedHours_37 : decode cX1_shadedHours 37 = .ok (.iload 4, 2) := dk21 (k := 13) bX1_shadedHours_24 rfl rfl
theorem dX1_shadedHours_39 : decode cX1_shadedHours 39 = .ok (.imul, 1) := dk104 (k := 15) bX1_shadedHours_24 rfl
theorem dX1_shadedHours_40 : decode cX1_shadedHours 40 = .ok (.iadd, 1) := dk96 (k := 16) bX1_shadedHours_24 rfl
theorem dX1_shadedHours_41 : decode cX1_shadedHours 41 = .ok (.istore 5, 2) := dk54 (k := 17) bX1_shadedHours_24 rfl rfl
theorem dX1_shadedHours_43 : decode cX1_shadedHours 43 = .ok (.iload 5, 2) := dk21 (k := 19) bX1_shadedHours_24 rfl rfl
theorem dX1_shadedHours_45 : decode cX1_shadedHours 45 = .ok (.ifCond .lt 71, 3) := dk155 (k := 21) bX1_shadedHours_24 rfl (by decide)
theorem bX1_shadedHours_48 : bL cX1_shadedHours 48 [21, 5, 42, 180, 0, 15, 162, 0, 62, 21, 5, 42, 180, 0, 9, 190, 161, 0, 6, 167, 0, 49, 42, 180, 0, 9] := bL_of (by decide +kernel)
theorem dX1_shadedHours_48 : decode cX1_shadedHours 48 = .ok (.iload 5, 2) := dk21 (k := 0) bX1_shadedHours_48 rfl rfl
theorem dX1_shadedHours_50 : decode cX1_shadedHours 50 = .ok (.aload_n 0, 1) := dk42 (k := 2) bX1_shadedHours_48 rfl
theorem dX1_shadedHours_51 : decode cX1_shadedHours 51 = .ok (.getfield 15, 3) := dk180 (k := 3) bX1_shadedHours_48 rfl rfl
theorem dX1_shadedHours_54 : decode cX1_shadedHours 54 = .ok (.if_icmp .ge 62, 3) := dk162 (k := 6) bX1_shadedHours_48 rfl (by decide)
theorem dX1_shadedHours_57 : decode cX1_shadedHours 57 = .ok (.iload 5, 2) := dk21 (k := 9) bX1_shadedHours_48 rfl rfl
theorem dX1_shadedHours_59 : decode cX1_shadedHours 59 = .ok (.aload_n 0, 1) := dk42 (k := 11) bX1_shadedHours_48 rfl
theorem dX1_shadedHours_60 : decode cX1_shadedHours 60 = .ok (.getfield 9, 3) := dk180 (k := 12) bX1_shadedHours_48 rfl rfl
theorem dX1_shadedHours_63 : decode cX1_shadedHours 63 = .ok (.arraylength, 1) := dk190 (k := 15) bX1_shadedHours_48 rfl
theorem dX1_shadedHours_64 : decode cX1_shadedHours 64 = .ok (.if_icmp .lt 6, 3) := dk161 (k := 16) bX1_shadedHours_48 rfl (by decide)
theorem dX1_shadedHours_67 : decode cX1_shadedHours 67 = .ok (.goto 49, 3) := dk167 (k := 19) bX1_shadedHours_48 rfl (by decide)
theorem dX1_shadedHours_70 : decode cX1_shadedHours 70 = .ok (.aload_n 0, 1) := dk42 (k := 22) bX1_shadedHours_48 rfl
theorem dX1_shadedHours_71 : decode cX1_shadedHours 71 = .ok (.getfield 9, 3) := dk180 (k := 23) bX1_shadedHours_48 rfl rfl
theorem bX1_shadedHours_74 : bL cX1_shadedHours 74 [21, 5, 46, 42, 180, 0, 9, 27, 46, 100, 54, 6, 21, 6, 158, 0, 22, 21, 6, 4, 100, 21, 4, 108] := bL_of (by decide +kernel)
theorem dX1_shadedHours_74 : decode cX1_shadedHours 74 = .ok (.iload 5, 2) := dk21 (k := 0) bX1_shadedHours_74 rfl rfl
theorem dX1_shadedHours_76 : decode cX1_shadedHours 76 = .ok (.iaload, 1) := dk46 (k := 2) bX1_shadedHours_74 rfl
theorem dX1_shadedHours_77 : decode cX1_shadedHours 77 = .ok (.aload_n 0, 1) := dk42 (k := 3) bX1_shadedHours_74 rfl
theorem dX1_shadedHours_78 : decode cX1_shadedHours 78 = .ok (.getfield 9, 3) := dk180 (k := 4) bX1_shadedHours_74 rfl rfl
theorem dX1_shadedHours_81 : decode cX1_shadedHours 81 = .ok (.iload_n 1, 1) := dk27 (k := 7) bX1_shadedHours_74 rfl
theorem dX1_shadedHours_82 : decode cX1_shadedHours 82 = .ok (.iaload, 1) := dk46 (k := 8) bX1_shadedHours_74 rfl
theorem dX1_shadedHours_83 : decode cX1_shadedHours 83 = .ok (.isub, 1) := dk100 (k := 9) bX1_shadedHours_74 rfl
theorem dX1_shadedHours_84 : decode cX1_shadedHours 84 = .ok (.istore 6, 2) := dk54 (k := 10) bX1_shadedHours_74 rfl rfl
theorem dX1_shadedHours_86 : decode cX1_shadedHours 86 = .ok (.iload 6, 2) := dk21 (k := 12) bX1_shadedHours_74 rfl rfl
theorem dX1_shadedHours_88 : decode cX1_shadedHours 88 = .ok (.ifCond .le 22, 3) := dk158 (k := 14) bX1_shadedHours_74 rfl (by decide)
theorem dX1_shadedHours_91 : decode cX1_shadedHours 91 = .ok (.iload 6, 2) := dk21 (k := 17) bX1_shadedHours_74 rfl rfl
theorem dX1_shadedHours_93 : decode cX1_shadedHours 93 = .ok (.iconst 1, 1) := dk4 (k := 19) bX1_shadedHours_74 rfl
theorem dX1_shadedHours_94 : decode cX1_shadedHours 94 = .ok (.isub, 1) := dk100 (k := 20) bX1_shadedHours_74 rfl
theorem dX1_shadedHours_95 : decode cX1_shadedHours 95 = .ok (.iload 4, 2) := dk21 (k := 21) bX1_shadedHours_74 rfl rfl
theorem dX1_shadedHours_97 : decode cX1_shadedHours 97 = .ok (.idiv, 1) := dk108 (k := 23) bX1_shadedHours_74 rfl
theorem bX1_shadedHours_98 : bL cX1_shadedHours 98 [29, 164, 0, 11, 21, 6, 4, 100, 21, 4, 108, 62, 132, 4, 1, 167, 255, 171, 29, 16, 9, 162, 0, 7] := bL_of (by decide +kernel)
theorem dX1_shadedHours_98 : decode cX1_shadedHours 98 = .ok (.iload_n 3, 1) := dk29 (k := 0) bX1_shadedHours_98 rfl
theorem dX1_shadedHours_99 : decode cX1_shadedHours 99 = .ok (.if_icmp .le 11, 3) := dk164 (k := 1) bX1_shadedHours_98 rfl (by decide)
theorem dX1_shadedHours_102 : decode cX1_shadedHours 102 = .ok (.iload 6, 2) := dk21 (k := 4) bX1_shadedHours_98 rfl rfl
theorem dX1_shadedHours_104 : decode cX1_shadedHours 104 = .ok (.iconst 1, 1) := dk4 (k := 6) bX1_shadedHours_98 rfl
theorem dX1_shadedHours_105 : decode cX1_shadedHours 105 = .ok (.isub, 1) := dk100 (k := 7) bX1_shadedHours_98 rfl
theorem dX1_shadedHours_106 : decode cX1_shadedHours 106 = .ok (.iload 4, 2) := dk21 (k := 8) bX1_shadedHours_98 rfl rfl
theorem dX1_shadedHours_108 : decode cX1_shadedHours 108 = .ok (.idiv, 1) := dk108 (k := 10) bX1_shadedHours_98 rfl
theorem dX1_shadedHours_109 : decode cX1_shadedHours 109 = .ok (.istore_n 3, 1) := dk62 (k := 11) bX1_shadedHours_98 rfl
theorem dX1_shadedHours_110 : decode cX1_shadedHours 110 = .ok (.iinc 4 1, 3) := dk132 (k := 12) bX1_shadedHours_98 rfl rfl (by decide)
theorem dX1_shadedHours_113 : decode cX1_shadedHours 113 = .ok (.goto (-85), 3) := dk167 (k := 15) bX1_shadedHours_98 rfl (by decide)
theorem dX1_shadedHours_116 : decode cX1_shadedHours 116 = .ok (.iload_n 3, 1) := dk29 (k := 18) bX1_shadedHours_98 rfl
theorem dX1_shadedHours_117 : decode cX1_shadedHours 117 = .ok (.bipush 9, 2) := dk16 (k := 19) bX1_shadedHours_98 rfl (by decide)
theorem dX1_shadedHours_119 : decode cX1_shadedHours 119 = .ok (.if_icmp .ge 7, 3) := dk162 (k := 21) bX1_shadedHours_98 rfl (by decide)
theorem bX1_shadedHours_122 : bL cX1_shadedHours 122 [29, 167, 0, 5, 16, 9, 172] := bL_of (by decide +kernel)
theorem dX1_shadedHours_122 : decode cX1_shadedHours 122 = .ok (.iload_n 3, 1) := dk29 (k := 0) bX1_shadedHours_122 rfl
theorem dX1_shadedHours_123 : decode cX1_shadedHours 123 = .ok (.goto 5, 3) := dk167 (k := 1) bX1_shadedHours_122 rfl (by decide)
theorem dX1_shadedHours_126 : decode cX1_shadedHours 126 = .ok (.bipush 9, 2) := dk16 (k := 4) bX1_shadedHours_122 rfl (by decide)
theorem dX1_shadedHours_128 : decode cX1_shadedHours 128 = .ok (.ireturn, 1) := dk172 (k := 6) bX1_shadedHours_122 rfl
theorem bX1_isShaded_0 : bL cX1_isShaded 0 [28, 158, 0, 21, 28, 42, 27, 2, 182, 0, 37, 163, 0, 7, 4, 167, 0, 23, 3, 167, 0, 19, 28, 116] := bL_of (by decide +kernel)
theorem dX1_isShaded_0 : decode cX1_isShaded 0 = .ok (.iload_n 2, 1) := dk28 (k := 0) bX1_isShaded_0 rfl
theorem dX1_isShaded_1 : decode cX1_isShaded 1 = .ok (.ifCond .le 21, 3) := dk158 (k := 1) bX1_isShaded_0 rfl (by decide)
theorem dX1_isShaded_4 : decode cX1_isShaded 4 = .ok (.iload_n 2, 1) := dk28 (k := 4) bX1_isShaded_0 rfl
theorem dX1_isShaded_5 : decode cX1_isShaded 5 = .ok (.aload_n 0, 1) := dk42 (k := 5) bX1_isShaded_0 rfl
theorem dX1_isShaded_6 : decode cX1_isShaded 6 = .ok (.iload_n 1, 1) := dk27 (k := 6) bX1_isShaded_0 rfl
theorem dX1_isShaded_7 : decode cX1_isShaded 7 = .ok (.iconst (-1), 1) := dk2 (k := 7) bX1_isShaded_0 rfl
theorem dX1_isShaded_8 : decode cX1_isShaded 8 = .ok (.invokevirtual 37, 3) := dk182 (k := 8) bX1_isShaded_0 rfl rfl
theorem dX1_isShaded_11 : decode cX1_isShaded 11 = .ok (.if_icmp .gt 7, 3) := dk163 (k := 11) bX1_isShaded_0 rfl (by decide)
theorem dX1_isShaded_14 : decode cX1_isShaded 14 = .ok (.iconst 1, 1) := dk4 (k := 14) bX1_isShaded_0 rfl
theorem dX1_isShaded_15 : decode cX1_isShaded 15 = .ok (.goto 23, 3) := dk167 (k := 15) bX1_isShaded_0 rfl (by decide)
theorem dX1_isShaded_18 : decode cX1_isShaded 18 = .ok (.iconst 0, 1) := dk3 (k := 18) bX1_isShaded_0 rfl
theorem dX1_isShaded_19 : decode cX1_isShaded 19 = .ok (.goto 19, 3) := dk167 (k := 19) bX1_isShaded_0 rfl (by decide)
theorem dX1_isShaded_22 : decode cX1_isShaded 22 = .ok (.iload_n 2, 1) := dk28 (k := 22) bX1_isShaded_0 rfl
theorem dX1_isShaded_23 : decode cX1_isShaded 23 = .ok (.ineg, 1) := dk116 (k := 23) bX1_isShaded_0 rfl
theorem bX1_isShaded_24 : bL cX1_isShaded 24 [42, 27, 4, 182, 0, 37, 163, 0, 7, 4, 167, 0, 4, 3, 172] := bL_of (by decide +kernel)
theorem dX1_isShaded_24 : decode cX1_isShaded 24 = .ok (.aload_n 0, 1) := dk42 (k := 0) bX1_isShaded_24 rfl
theorem dX1_isShaded_25 : decode cX1_isShaded 25 = .ok (.iload_n 1, 1) := dk27 (k := 1) bX1_isShaded_24 rfl
theorem dX1_isShaded_26 : decode cX1_isShaded 26 = .ok (.iconst 1, 1) := dk4 (k := 2) bX1_isShaded_24 rfl
theorem dX1_isShaded_27 : decode cX1_isShaded 27 = .ok (.invokevirtual 37, 3) := dk182 (k := 3) bX1_isShaded_24 rfl rfl
theorem dX1_isShaded_30 : decode cX1_isShaded 30 = .ok (.if_icmp .gt 7, 3) := dk163 (k := 6) bX1_isShaded_24 rfl (by decide)
theorem dX1_isShaded_33 : decode cX1_isShaded 33 = .ok (.iconst 1, 1) := dk4 (k := 9) bX1_isShaded_24 rfl
theorem dX1_isShaded_34 : decode cX1_isShaded 34 = .ok (.goto 4, 3) := dk167 (k := 10) bX1_isShaded_24 rfl (by decide)
theorem dX1_isShaded_37 : decode cX1_isShaded 37 = .ok (.iconst 0, 1) := dk3 (k := 13) bX1_isShaded_24 rfl
theorem dX1_isShaded_38 : decode cX1_isShaded 38 = .ok (.ireturn, 1) := dk172 (k := 14) bX1_isShaded_24 rfl
theorem bX1_lightOf_0 : bL cX1_lightOf 0 [16, 18, 42, 27, 2, 182, 0, 37, 100, 42, 27, 4, 182, 0, 37, 100, 172] := bL_of (by decide +kernel)
theorem dX1_lightOf_0 : decode cX1_lightOf 0 = .ok (.bipush 18, 2) := dk16 (k := 0) bX1_lightOf_0 rfl (by decide)
theorem dX1_lightOf_2 : decode cX1_lightOf 2 = .ok (.aload_n 0, 1) := dk42 (k := 2) bX1_lightOf_0 rfl
theorem dX1_lightOf_3 : decode cX1_lightOf 3 = .ok (.iload_n 1, 1) := dk27 (k := 3) bX1_lightOf_0 rfl
theorem dX1_lightOf_4 : decode cX1_lightOf 4 = .ok (.iconst (-1), 1) := dk2 (k := 4) bX1_lightOf_0 rfl
theorem dX1_lightOf_5 : decode cX1_lightOf 5 = .ok (.invokevirtual 37, 3) := dk182 (k := 5) bX1_lightOf_0 rfl rfl
theorem dX1_lightOf_8 : decode cX1_lightOf 8 = .ok (.isub, 1) := dk100 (k := 8) bX1_lightOf_0 rfl
theorem dX1_lightOf_9 : decode cX1_lightOf 9 = .ok (.aload_n 0, 1) := dk42 (k := 9) bX1_lightOf_0 rfl
theorem dX1_lightOf_10 : decode cX1_lightOf 10 = .ok (.iload_n 1, 1) := dk27 (k := 10) bX1_lightOf_0 rfl
theorem dX1_lightOf_11 : decode cX1_lightOf 11 = .ok (.iconst 1, 1) := dk4 (k := 11) bX1_lightOf_0 rfl
theorem dX1_lightOf_12 : decode cX1_lightOf 12 = .ok (.invokevirtual 37, 3) := dk182 (k := 12) bX1_lightOf_0 rfl rfl
theorem dX1_lightOf_15 : decode cX1_lightOf 15 = .ok (.isub, 1) := dk100 (k := 15) bX1_lightOf_0 rfl
theorem dX1_lightOf_16 : decode cX1_lightOf 16 = .ok (.ireturn, 1) := dk172 (k := 16) bX1_lightOf_0 rfl
theorem bX1_shadedCells_0 : bL cX1_shadedCells 0 [3, 61, 3, 62, 29, 42, 180, 0, 15, 162, 0, 24, 42, 29, 27, 182, 0, 41, 153, 0, 9, 28, 4, 29] := bL_of (by decide +kernel)
theorem dX1_shadedCells_0 : decode cX1_shadedCells 0 = .ok (.iconst 0, 1) := dk3 (k := 0) bX1_shadedCells_0 rfl
theorem dX1_shadedCells_1 : decode cX1_shadedCells 1 = .ok (.istore_n 2, 1) := dk61 (k := 1) bX1_shadedCells_0 rfl
theorem dX1_shadedCells_2 : decode cX1_shadedCells 2 = .ok (.iconst 0, 1) := dk3 (k := 2) bX1_shadedCells_0 rfl
theorem dX1_shadedCells_3 : decode cX1_shadedCells 3 = .ok (.istore_n 3, 1) := dk62 (k := 3) bX1_shadedCells_0 rfl
theorem dX1_shadedCells_4 : decode cX1_shadedCells 4 = .ok (.iload_n 3, 1) := dk29 (k := 4) bX1_shadedCells_0 rfl
theorem dX1_shadedCells_5 : decode cX1_shadedCells 5 = .ok (.aload_n 0, 1) := dk42 (k := 5) bX1_shadedCells_0 rfl
theorem dX1_shadedCells_6 : decode cX1_shadedCells 6 = .ok (.getfield 15, 3) := dk180 (k := 6) bX1_shadedCells_0 rfl rfl
theorem dX1_shadedCells_9 : decode cX1_shadedCells 9 = .ok (.if_icmp .ge 24, 3) := dk162 (k := 9) bX1_shadedCells_0 rfl (by decide)
theorem dX1_shadedCells_12 : decode cX1_shadedCells 12 = .ok (.aload_n 0, 1) := dk42 (k := 12) bX1_shadedCells_0 rfl
theorem dX1_shadedCells_13 : decode cX1_shadedCells 13 = .ok (.iload_n 3, 1) := dk29 (k := 13) bX1_shadedCells_0 rfl
theorem dX1_shadedCells_14 : decode cX1_shadedCells 14 = .ok (.iload_n 1, 1) := dk27 (k := 14) bX1_shadedCells_0 rfl
theorem dX1_shadedCells_15 : decode cX1_shadedCells 15 = .ok (.invokevirtual 41, 3) := dk182 (k := 15) bX1_shadedCells_0 rfl rfl
theorem dX1_shadedCells_18 : decode cX1_shadedCells 18 = .ok (.ifCond .eq 9, 3) := dk153 (k := 18) bX1_shadedCells_0 rfl (by decide)
theorem dX1_shadedCells_21 : decode cX1_shadedCells 21 = .ok (.iload_n 2, 1) := dk28 (k := 21) bX1_shadedCells_0 rfl
theorem dX1_shadedCells_22 : decode cX1_shadedCells 22 = .ok (.iconst 1, 1) := dk4 (k := 22) bX1_shadedCells_0 rfl
theorem dX1_shadedCells_23 : decode cX1_shadedCells 23 = .ok (.iload_n 3, 1) := dk29 (k := 23) bX1_shadedCells_0 rfl
theorem bX1_shadedCells_24 : bL cX1_shadedCells 24 [120, 128, 61, 132, 3, 1, 167, 255, 230, 28, 172] := bL_of (by decide +kernel)
theorem dX1_shadedCells_24 : decode cX1_shadedCells 24 = .ok (.ishl, 1) := dk120 (k := 0) bX1_shadedCells_24 rfl
theorem dX1_shadedCells_25 : decode cX1_shadedCells 25 = .ok (.ior, 1) := dk128 (k := 1) bX1_shadedCells_24 rfl
theorem dX1_shadedCells_26 : decode cX1_shadedCells 26 = .ok (.istore_n 2, 1) := dk61 (k := 2) bX1_shadedCells_24 rfl
theorem dX1_shadedCells_27 : decode cX1_shadedCells 27 = .ok (.iinc 3 1, 3) := dk132 (k := 3) bX1_shadedCells_24 rfl rfl (by decide)
theorem dX1_shadedCells_30 : decode cX1_shadedCells 30 = .ok (.goto (-26), 3) := dk167 (k := 6) bX1_shadedCells_24 rfl (by decide)
theorem dX1_shadedCells_33 : decode cX1_shadedCells 33 = .ok (.iload_n 2, 1) := dk28 (k := 9) bX1_shadedCells_24 rfl
theorem dX1_shadedCells_34 : decode cX1_shadedCells 34 = .ok (.ireturn, 1) := dk172 (k := 10) bX1_shadedCells_24 rfl
theorem bX1_snowyCells_0 : bL cX1_snowyCells 0 [3, 60, 3, 61, 28, 42, 180, 0, 15, 162, 0, 27, 42, 28, 182, 0, 33, 42, 180, 0, 19, 161, 0, 9] := bL_of (by decide +kernel)
theorem dX1_snowyCells_0 : decode cX1_snowyCells 0 = .ok (.iconst 0, 1) := dk3 (k := 0) bX1_snowyCells_0 rfl
theorem dX1_snowyCells_1 : decode cX1_snowyCells 1 = .ok (.istore_n 1, 1) := dk60 (k := 1) bX1_snowyCells_0 rfl
theorem dX1_snowyCells_2 : decode cX1_snowyCells 2 = .ok (.iconst 0, 1) := dk3 (k := 2) bX1_snowyCells_0 rfl
theorem dX1_snowyCells_3 : decode cX1_snowyCells 3 = .ok (.istore_n 2, 1) := dk61 (k := 3) bX1_snowyCells_0 rfl
theorem dX1_snowyCells_4 : decode cX1_snowyCells 4 = .ok (.iload_n 2, 1) := dk28 (k := 4) bX1_snowyCells_0 rfl
theorem dX1_snowyCells_5 : decode cX1_snowyCells 5 = .ok (.aload_n 0, 1) := dk42 (k := 5) bX1_snowyCells_0 rfl
theorem dX1_snowyCells_6 : decode cX1_snowyCells 6 = .ok (.getfield 15, 3) := dk180 (k := 6) bX1_snowyCells_0 rfl rfl
theorem dX1_snowyCells_9 : decode cX1_snowyCells 9 = .ok (.if_icmp .ge 27, 3) := dk162 (k := 9) bX1_snowyCells_0 rfl (by decide)
theorem dX1_snowyCells_12 : decode cX1_snowyCells 12 = .ok (.aload_n 0, 1) := dk42 (k := 12) bX1_snowyCells_0 rfl
theorem dX1_snowyCells_13 : decode cX1_snowyCells 13 = .ok (.iload_n 2, 1) := dk28 (k := 13) bX1_snowyCells_0 rfl
theorem dX1_snowyCells_14 : decode cX1_snowyCells 14 = .ok (.invokevirtual 33, 3) := dk182 (k := 14) bX1_snowyCells_0 rfl rfl
theorem dX1_snowyCells_17 : decode cX1_snowyCells 17 = .ok (.aload_n 0, 1) := dk42 (k := 17) bX1_snowyCells_0 rfl
theorem dX1_snowyCells_18 : decode cX1_snowyCells 18 = .ok (.getfield 19, 3) := dk180 (k := 18) bX1_snowyCells_0 rfl rfl
theorem dX1_snowyCells_21 : decode cX1_snowyCells 21 = .ok (.if_icmp .lt 9, 3) := dk161 (k := 21) bX1_snowyCells_0 rfl (by decide)
theorem bX1_snowyCells_24 : bL cX1_snowyCells 24 [27, 4, 28, 120, 128, 60, 132, 2, 1, 167, 255, 227, 27, 172] := bL_of (by decide +kernel)
theorem dX1_snowyCells_24 : decode cX1_snowyCells 24 = .ok (.iload_n 1, 1) := dk27 (k := 0) bX1_snowyCells_24 rfl
theorem dX1_snowyCells_25 : decode cX1_snowyCells 25 = .ok (.iconst 1, 1) := dk4 (k := 1) bX1_snowyCells_24 rfl
theorem dX1_snowyCells_26 : decode cX1_snowyCells 26 = .ok (.iload_n 2, 1) := dk28 (k := 2) bX1_snowyCells_24 rfl
theorem dX1_snowyCells_27 : decode cX1_snowyCells 27 = .ok (.ishl, 1) := dk120 (k := 3) bX1_snowyCells_24 rfl
theorem dX1_snowyCells_28 : decode cX1_snowyCells 28 = .ok (.ior, 1) := dk128 (k := 4) bX1_snowyCells_24 rfl
theorem dX1_snowyCells_29 : decode cX1_snowyCells 29 = .ok (.istore_n 1, 1) := dk60 (k := 5) bX1_snowyCells_24 rfl
theorem dX1_snowyCells_30 : decode cX1_snowyCells 30 = .ok (.iinc 2 1, 3) := dk132 (k := 6) bX1_snowyCells_24 rfl rfl (by decide)
theorem dX1_snowyCells_33 : decode cX1_snowyCells 33 = .ok (.goto (-29), 3) := dk167 (k := 9) bX1_snowyCells_24 rfl (by decide)
theorem dX1_snowyCells_36 : decode cX1_snowyCells 36 = .ok (.iload_n 1, 1) := dk27 (k := 12) bX1_snowyCells_24 rfl
theorem dX1_snowyCells_37 : decode cX1_snowyCells 37 = .ok (.ireturn, 1) := dk172 (k := 13) bX1_snowyCells_24 rfl
theorem bX1_lower_0 : bL cX1_lower 0 [42, 182, 0, 45, 60, 42, 27, 182, 0, 33, 154, 0, 5, 3, 172, 42, 27, 2, 182, 0, 49, 4, 172] := bL_of (by decide +kernel)
theorem dX1_lower_0 : decode cX1_lower 0 = .ok (.aload_n 0, 1) := dk42 (k := 0) bX1_lower_0 rfl
theorem dX1_lower_1 : decode cX1_lower 1 = .ok (.invokevirtual 45, 3) := dk182 (k := 1) bX1_lower_0 rfl rfl
theorem dX1_lower_4 : decode cX1_lower 4 = .ok (.istore_n 1, 1) := dk60 (k := 4) bX1_lower_0 rfl
theorem dX1_lower_5 : decode cX1_lower 5 = .ok (.aload_n 0, 1) := dk42 (k := 5) bX1_lower_0 rfl
theorem dX1_lower_6 : decode cX1_lower 6 = .ok (.iload_n 1, 1) := dk27 (k := 6) bX1_lower_0 rfl
theorem dX1_lower_7 : decode cX1_lower 7 = .ok (.invokevirtual 33, 3) := dk182 (k := 7) bX1_lower_0 rfl rfl
theorem dX1_lower_10 : decode cX1_lower 10 = .ok (.ifCond .ne 5, 3) := dk154 (k := 10) bX1_lower_0 rfl (by decide)
theorem dX1_lower_13 : decode cX1_lower 13 = .ok (.iconst 0, 1) := dk3 (k := 13) bX1_lower_0 rfl
theorem dX1_lower_14 : decode cX1_lower 14 = .ok (.ireturn, 1) := dk172 (k := 14) bX1_lower_0 rfl
theorem dX1_lower_15 : decode cX1_lower 15 = .ok (.aload_n 0, 1) := dk42 (k := 15) bX1_lower_0 rfl
theorem dX1_lower_16 : decode cX1_lower 16 = .ok (.iload_n 1, 1) := dk27 (k := 16) bX1_lower_0 rfl
theorem dX1_lower_17 : decode cX1_lower 17 = .ok (.iconst (-1), 1) := dk2 (k := 17) bX1_lower_0 rfl
theorem dX1_lower_18 : decode cX1_lower 18 = .ok (.invokevirtual 49, 3) := dk182 (k := 18) bX1_lower_0 rfl rfl
theorem dX1_lower_21 : decode cX1_lower 21 = .ok (.iconst 1, 1) := dk4 (k := 21) bX1_lower_0 rfl
theorem dX1_lower_22 : decode cX1_lower 22 = .ok (.ireturn, 1) := dk172 (k := 22) bX1_lower_0 rfl
theorem bX1_wayDown_0 : bL cX1_wayDown 0 [42, 27, 182, 0, 33, 28, 100, 62, 42, 27, 4, 100, 182, 0, 29, 153, 0, 18, 42, 27, 4, 100, 182, 0, 33] := bL_of (by decide +kernel)
theorem dX1_wayDown_0 : decode cX1_wayDown 0 = .ok (.aload_n 0, 1) := dk42 (k := 0) bX1_wayDown_0 rfl
theorem dX1_wayDown_1 : decode cX1_wayDown 1 = .ok (.iload_n 1, 1) := dk27 (k := 1) bX1_wayDown_0 rfl
theorem dX1_wayDown_2 : decode cX1_wayDown 2 = .ok (.invokevirtual 33, 3) := dk182 (k := 2) bX1_wayDown_0 rfl rfl
theorem dX1_wayDown_5 : decode cX1_wayDown 5 = .ok (.iload_n 2, 1) := dk28 (k := 5) bX1_wayDown_0 rfl
theorem dX1_wayDown_6 : decode cX1_wayDown 6 = .ok (.isub, 1) := dk100 (k := 6) bX1_wayDown_0 rfl
theorem dX1_wayDown_7 : decode cX1_wayDown 7 = .ok (.istore_n 3, 1) := dk62 (k := 7) bX1_wayDown_0 rfl
theorem dX1_wayDown_8 : decode cX1_wayDown 8 = .ok (.aload_n 0, 1) := dk42 (k := 8) bX1_wayDown_0 rfl
theorem dX1_wayDown_9 : decode cX1_wayDown 9 = .ok (.iload_n 1, 1) := dk27 (k := 9) bX1_wayDown_0 rfl
theorem dX1_wayDown_10 : decode cX1_wayDown 10 = .ok (.iconst 1, 1) := dk4 (k := 10) bX1_wayDown_0 rfl
theorem dX1_wayDown_11 : decode cX1_wayDown 11 = .ok (.isub, 1) := dk100 (k := 11) bX1_wayDown_0 rfl
theorem dX1_wayDown_12 : decode cX1_wayDown 12 = .ok (.invokevirtual 29, 3) := dk182 (k := 12) bX1_wayDown_0 rfl rfl
theorem dX1_wayDown_15 : decode cX1_wayDown 15 = .ok (.ifCond .eq 18, 3) := dk153 (k := 15) bX1_wayDown_0 rfl (by decide)
theorem dX1_wayDown_18 : decode cX1_wayDown 18 = .ok (.aload_n 0, 1) := dk42 (k := 18) bX1_wayDown_0 rfl
theorem dX1_wayDown_19 : decode cX1_wayDown 19 = .ok (.iload_n 1, 1) := dk27 (k := 19) bX1_wayDown_0 rfl
theorem dX1_wayDown_20 : decode cX1_wayDown 20 = .ok (.iconst 1, 1) := dk4 (k := 20) bX1_wayDown_0 rfl
theorem dX1_wayDown_21 : decode cX1_wayDown 21 = .ok (.isub, 1) := dk100 (k := 21) bX1_wayDown_0 rfl
theorem dX1_wayDown_22 : decode cX1_wayDown 22 = .ok (.invokevirtual 33, 3) := dk182 (k := 22) bX1_wayDown_0 rfl rfl
theorem bX1_wayDown_25 : bL cX1_wayDown 25 [29, 162, 0, 7, 4, 167, 0, 4, 3, 54, 4, 42, 27, 4, 96, 182, 0, 29, 153, 0, 18, 42, 27, 4] := bL_of (by decide +kernel)
theorem dX1_wayDown_25 : decode cX1_wayDown 25 = .ok (.iload_n 3, 1) := dk29 (k := 0) bX1_wayDown_25 rfl
theorem dX1_wayDown_26 : decode cX1_wayDown 26 = .ok (.if_icmp .ge 7, 3) := dk162 (k := 1) bX1_wayDown_25 rfl (by decide)
theorem dX1_wayDown_29 : decode cX1_wayDown 29 = .ok (.iconst 1, 1) := dk4 (k := 4) bX1_wayDown_25 rfl
theorem dX1_wayDown_30 : decode cX1_wayDown 30 = .ok (.goto 4, 3) := dk167 (k := 5) bX1_wayDown_25 rfl (by decide)
theorem dX1_wayDown_33 : decode cX1_wayDown 33 = .ok (.iconst 0, 1) := dk3 (k := 8) bX1_wayDown_25 rfl
theorem dX1_wayDown_34 : decode cX1_wayDown 34 = .ok (.istore 4, 2) := dk54 (k := 9) bX1_wayDown_25 rfl rfl
theorem dX1_wayDown_36 : decode cX1_wayDown 36 = .ok (.aload_n 0, 1) := dk42 (k := 11) bX1_wayDown_25 rfl
theorem dX1_wayDown_37 : decode cX1_wayDown 37 = .ok (.iload_n 1, 1) := dk27 (k := 12) bX1_wayDown_25 rfl
theorem dX1_wayDown_38 : decode cX1_wayDown 38 = .ok (.iconst 1, 1) := dk4 (k := 13) bX1_wayDown_25 rfl
theorem dX1_wayDown_39 : decode cX1_wayDown 39 = .ok (.iadd, 1) := dk96 (k := 14) bX1_wayDown_25 rfl
theorem dX1_wayDown_40 : decode cX1_wayDown 40 = .ok (.invokevirtual 29, 3) := dk182 (k := 15) bX1_wayDown_25 rfl rfl
theorem dX1_wayDown_43 : decode cX1_wayDown 43 = .ok (.ifCond .eq 18, 3) := dk153 (k := 18) bX1_wayDown_25 rfl (by decide)
theorem dX1_wayDown_46 : decode cX1_wayDown 46 = .ok (.aload_n 0, 1) := dk42 (k := 21) bX1_wayDown_25 rfl
theorem dX1_wayDown_47 : decode cX1_wayDown 47 = .ok (.iload_n 1, 1) := dk27 (k := 22) bX1_wayDown_25 rfl
theorem dX1_wayDown_48 : decode cX1_wayDown 48 = .ok (.iconst 1, 1) := dk4 (k := 23) bX1_wayDown_25 rfl
theorem bX1_wayDown_49 : bL cX1_wayDown 49 [96, 182, 0, 33, 29, 162, 0, 7, 4, 167, 0, 4, 3, 54, 5, 21, 4, 153, 0, 29, 21, 5, 153, 0, 20] := bL_of (by decide +kernel)
theorem dX1_wayDown_49 : decode cX1_wayDown 49 = .ok (.iadd, 1) := dk96 (k := 0) bX1_wayDown_49 rfl
theorem dX1_wayDown_50 : decode cX1_wayDown 50 = .ok (.invokevirtual 33, 3) := dk182 (k := 1) bX1_wayDown_49 rfl rfl
theorem dX1_wayDown_53 : decode cX1_wayDown 53 = .ok (.iload_n 3, 1) := dk29 (k := 4) bX1_wayDown_49 rfl
theorem dX1_wayDown_54 : decode cX1_wayDown 54 = .ok (.if_icmp .ge 7, 3) := dk162 (k := 5) bX1_wayDown_49 rfl (by decide)
theorem dX1_wayDown_57 : decode cX1_wayDown 57 = .ok (.iconst 1, 1) := dk4 (k := 8) bX1_wayDown_49 rfl
theorem dX1_wayDown_58 : decode cX1_wayDown 58 = .ok (.goto 4, 3) := dk167 (k := 9) bX1_wayDown_49 rfl (by decide)
theorem dX1_wayDown_61 : decode cX1_wayDown 61 = .ok (.iconst 0, 1) := dk3 (k := 12) bX1_wayDown_49 rfl
theorem dX1_wayDown_62 : decode cX1_wayDown 62 = .ok (.istore 5, 2) := dk54 (k := 13) bX1_wayDown_49 rfl rfl
theorem dX1_wayDown_64 : decode cX1_wayDown 64 = .ok (.iload 4, 2) := dk21 (k := 15) bX1_wayDown_49 rfl rfl
theorem dX1_wayDown_66 : decode cX1_wayDown 66 = .ok (.ifCond .eq 29, 3) := dk153 (k := 17) bX1_wayDown_49 rfl (by decide)
theorem dX1_wayDown_69 : decode cX1_wayDown 69 = .ok (.iload 5, 2) := dk21 (k := 20) bX1_wayDown_49 rfl rfl
theorem dX1_wayDown_71 : decode cX1_wayDown 71 = .ok (.ifCond .eq 20, 3) := dk153 (k := 22) bX1_wayDown_49 rfl (by decide)
theorem bX1_wayDown_74 : bL cX1_wayDown 74 [42, 27, 4, 100, 182, 0, 33, 42, 27, 4, 96, 182, 0, 33, 163, 0, 7, 27, 4, 100, 172, 21, 5, 153, 0, 9] := bL_of (by decide +kernel)
theorem dX1_wayDown_74 : decode cX1_wayDown 74 = .ok (.aload_n 0, 1) := dk42 (k := 0) bX1_wayDown_74 rfl
theorem dX1_wayDown_75 : decode cX1_wayDown 75 = .ok (.iload_n 1, 1) := dk27 (k := 1) bX1_wayDown_74 rfl
theorem dX1_wayDown_76 : decode cX1_wayDown 76 = .ok (.iconst 1, 1) := dk4 (k := 2) bX1_wayDown_74 rfl
theorem dX1_wayDown_77 : decode cX1_wayDown 77 = .ok (.isub, 1) := dk100 (k := 3) bX1_wayDown_74 rfl
theorem dX1_wayDown_78 : decode cX1_wayDown 78 = .ok (.invokevirtual 33, 3) := dk182 (k := 4) bX1_wayDown_74 rfl rfl
theorem dX1_wayDown_81 : decode cX1_wayDown 81 = .ok (.aload_n 0, 1) := dk42 (k := 7) bX1_wayDown_74 rfl
theorem dX1_wayDown_82 : decode cX1_wayDown 82 = .ok (.iload_n 1, 1) := dk27 (k := 8) bX1_wayDown_74 rfl
theorem dX1_wayDown_83 : decode cX1_wayDown 83 = .ok (.iconst 1, 1) := dk4 (k := 9) bX1_wayDown_74 rfl
theorem dX1_wayDown_84 : decode cX1_wayDown 84 = .ok (.iadd, 1) := dk96 (k := 10) bX1_wayDown_74 rfl
theorem dX1_wayDown_85 : decode cX1_wayDown 85 = .ok (.invokevirtual 33, 3) := dk182 (k := 11) bX1_wayDown_74 rfl rfl
theorem dX1_wayDown_88 : decode cX1_wayDown 88 = .ok (.if_icmp .gt 7, 3) := dk163 (k := 14) bX1_wayDown_74 rfl (by decide)
theorem dX1_wayDown_91 : decode cX1_wayDown 91 = .ok (.iload_n 1, 1) := dk27 (k := 17) bX1_wayDown_74 rfl
theorem dX1_wayDown_92 : decode cX1_wayDown 92 = .ok (.iconst 1, 1) := dk4 (k := 18) bX1_wayDown_74 rfl
theorem dX1_wayDown_93 : decode cX1_wayDown 93 = .ok (.isub, 1) := dk100 (k := 19) bX1_wayDown_74 rfl
theorem dX1_wayDown_94 : decode cX1_wayDown 94 = .ok (.ireturn, 1) := dk172 (k := 20) bX1_wayDown_74 rfl
theorem dX1_wayDown_95 : decode cX1_wayDown 95 = .ok (.iload 5, 2) := dk21 (k := 21) bX1_wayDown_74 rfl rfl
theorem dX1_wayDown_97 : decode cX1_wayDown 97 = .ok (.ifCond .eq 9, 3) := dk153 (k := 23) bX1_wayDown_74 rfl (by decide)
theorem bX1_wayDown_100 : bL cX1_wayDown 100 [27, 4, 96, 167, 0, 4, 2, 172] := bL_of (by decide +kernel)
theorem dX1_wayDown_100 : decode cX1_wayDown 100 = .ok (.iload_n 1, 1) := dk27 (k := 0) bX1_wayDown_100 rfl
theorem dX1_wayDown_101 : decode cX1_wayDown 101 = .ok (.iconst 1, 1) := dk4 (k := 1) bX1_wayDown_100 rfl
theorem dX1_wayDown_102 : decode cX1_wayDown 102 = .ok (.iadd, 1) := dk96 (k := 2) bX1_wayDown_100 rfl
theorem dX1_wayDown_103 : decode cX1_wayDown 103 = .ok (.goto 4, 3) := dk167 (k := 3) bX1_wayDown_100 rfl (by decide)
theorem dX1_wayDown_106 : decode cX1_wayDown 106 = .ok (.iconst (-1), 1) := dk2 (k := 6) bX1_wayDown_100 rfl
theorem dX1_wayDown_107 : decode cX1_wayDown 107 = .ok (.ireturn, 1) := dk172 (k := 7) bX1_wayDown_100 rfl
theorem bX1_descend_0 : bL cX1_descend 0 [27, 62, 3, 54, 4, 21, 4, 16, 10, 162, 0, 28, 42, 29, 28, 182, 0, 53, 54, 5, 21, 5, 2, 160, 0, 5] := bL_of (by decide +kernel)
theorem dX1_descend_0 : decode cX1_descend 0 = .ok (.iload_n 1, 1) := dk27 (k := 0) bX1_descend_0 rfl
theorem dX1_descend_1 : decode cX1_descend 1 = .ok (.istore_n 3, 1) := dk62 (k := 1) bX1_descend_0 rfl
theorem dX1_descend_2 : decode cX1_descend 2 = .ok (.iconst 0, 1) := dk3 (k := 2) bX1_descend_0 rfl
theorem dX1_descend_3 : decode cX1_descend 3 = .ok (.istore 4, 2) := dk54 (k := 3) bX1_descend_0 rfl rfl
theorem dX1_descend_5 : decode cX1_descend 5 = .ok (.iload 4, 2) := dk21 (k := 5) bX1_descend_0 rfl rfl
theorem dX1_descend_7 : decode cX1_descend 7 = .ok (.bipush 10, 2) := dk16 (k := 7) bX1_descend_0 rfl (by decide)
theorem dX1_descend_9 : decode cX1_descend 9 = .ok (.if_icmp .ge 28, 3) := dk162 (k := 9) bX1_descend_0 rfl (by decide)
theorem dX1_descend_12 : decode cX1_descend 12 = .ok (.aload_n 0, 1) := dk42 (k := 12) bX1_descend_0 rfl
theorem dX1_descend_13 : decode cX1_descend 13 = .ok (.iload_n 3, 1) := dk29 (k := 13) bX1_descend_0 rfl
theorem dX1_descend_14 : decode cX1_descend 14 = .ok (.iload_n 2, 1) := dk28 (k := 14) bX1_descend_0 rfl
theorem dX1_descend_15 : decode cX1_descend 15 = .ok (.invokevirtual 53, 3) := dk182 (k := 15) bX1_descend_0 rfl rfl
theorem dX1_descend_18 : decode cX1_descend 18 = .ok (.istore 5, 2) := dk54 (k := 18) bX1_descend_0 rfl rfl
theorem dX1_descend_20 : decode cX1_descend 20 = .ok (.iload 5, 2) := dk21 (k := 20) bX1_descend_0 rfl rfl
theorem dX1_descend_22 : decode cX1_descend 22 = .ok (.iconst (-1), 1) := dk2 (k := 22) bX1_descend_0 rfl
theorem dX1_descend_23 : decode cX1_descend 23 = .ok (.if_icmp .ne 5, 3) := dk160 (k := 23) bX1_descend_0 rfl (by decide)
theorem bX1_descend_26 : bL cX1_descend 26 [29, 172, 21, 5, 62, 132, 4, 1, 167, 255, 227, 29, 172] := bL_of (by decide +kernel)
theorem dX1_descend_26 : decode cX1_descend 26 = .ok (.iload_n 3, 1) := dk29 (k := 0) bX1_descend_26 rfl
theorem dX1_descend_27 : decode cX1_descend 27 = .ok (.ireturn, 1) := dk172 (k := 1) bX1_descend_26 rfl
theorem dX1_descend_28 : decode cX1_descend 28 = .ok (.iload 5, 2) := dk21 (k := 2) bX1_descend_26 rfl rfl
theorem dX1_descend_30 : decode cX1_descend 30 = .ok (.istore_n 3, 1) := dk62 (k := 4) bX1_descend_26 rfl
theorem dX1_descend_31 : decode cX1_descend 31 = .ok (.iinc 4 1, 3) := dk132 (k := 5) bX1_descend_26 rfl rfl (by decide)
theorem dX1_descend_34 : decode cX1_descend 34 = .ok (.goto (-29), 3) := dk167 (k := 8) bX1_descend_26 rfl (by decide)
theorem dX1_descend_37 : decode cX1_descend 37 = .ok (.iload_n 3, 1) := dk29 (k := 11) bX1_descend_26 rfl
theorem dX1_descend_38 : decode cX1_descend 38 = .ok (.ireturn, 1) := dk172 (k := 12) bX1_descend_26 rfl
theorem bX1_waterEnd_0 : bL cX1_waterEnd 0 [42, 27, 3, 182, 0, 56, 172] := bL_of (by decide +kernel)
theorem dX1_waterEnd_0 : decode cX1_waterEnd 0 = .ok (.aload_n 0, 1) := dk42 (k := 0) bX1_waterEnd_0 rfl
theorem dX1_waterEnd_1 : decode cX1_waterEnd 1 = .ok (.iload_n 1, 1) := dk27 (k := 1) bX1_waterEnd_0 rfl
theorem dX1_waterEnd_2 : decode cX1_waterEnd 2 = .ok (.iconst 0, 1) := dk3 (k := 2) bX1_waterEnd_0 rfl
theorem dX1_waterEnd_3 : decode cX1_waterEnd 3 = .ok (.invokevirtual 56, 3) := dk182 (k := 3) bX1_waterEnd_0 rfl rfl
theorem dX1_waterEnd_6 : decode cX1_waterEnd 6 = .ok (.ireturn, 1) := dk172 (k := 6) bX1_waterEnd_0 rfl
theorem bX1_stayOf_0 : bL cX1_stayOf 0 [42, 27, 42, 180, 0, 22, 4, 100, 182, 0, 56, 61, 42, 28, 182, 0, 33, 16, 99, 161, 0, 7, 2, 167, 0, 4] := bL_of (by decide +kernel)
theorem dX1_stayOf_0 : decode cX1_stayOf 0 = .ok (.aload_n 0, 1) := dk42 (k := 0) bX1_stayOf_0 rfl
theorem dX1_stayOf_1 : decode cX1_stayOf 1 = .ok (.iload_n 1, 1) := dk27 (k := 1) bX1_stayOf_0 rfl
theorem dX1_stayOf_2 : decode cX1_stayOf 2 = .ok (.aload_n 0, 1) := dk42 (k := 2) bX1_stayOf_0 rfl
theorem dX1_stayOf_3 : decode cX1_stayOf 3 = .ok (.getfield 22, 3) := dk180 (k := 3) bX1_stayOf_0 rfl rfl
theorem dX1_stayOf_6 : decode cX1_stayOf 6 = .ok (.iconst 1, 1) := dk4 (k := 6) bX1_stayOf_0 rfl
theorem dX1_stayOf_7 : decode cX1_stayOf 7 = .ok (.isub, 1) := dk100 (k := 7) bX1_stayOf_0 rfl
theorem dX1_stayOf_8 : decode cX1_stayOf 8 = .ok (.invokevirtual 56, 3) := dk182 (k := 8) bX1_stayOf_0 rfl rfl
theorem dX1_stayOf_11 : decode cX1_stayOf 11 = .ok (.istore_n 2, 1) := dk61 (k := 11) bX1_stayOf_0 rfl
theorem dX1_stayOf_12 : decode cX1_stayOf 12 = .ok (.aload_n 0, 1) := dk42 (k := 12) bX1_stayOf_0 rfl
theorem dX1_stayOf_13 : decode cX1_stayOf 13 = .ok (.iload_n 2, 1) := dk28 (k := 13) bX1_stayOf_0 rfl
theorem dX1_stayOf_14 : decode cX1_stayOf 14 = .ok (.invokevirtual 33, 3) := dk182 (k := 14) bX1_stayOf_0 rfl rfl
theorem dX1_stayOf_17 : decode cX1_stayOf 17 = .ok (.bipush 99, 2) := dk16 (k := 17) bX1_stayOf_0 rfl (by decide)
theorem dX1_stayOf_19 : decode cX1_stayOf 19 = .ok (.if_icmp .lt 7, 3) := dk161 (k := 19) bX1_stayOf_0 rfl (by decide)
theorem dX1_stayOf_22 : decode cX1_stayOf 22 = .ok (.iconst (-1), 1) := dk2 (k := 22) bX1_stayOf_0 rfl
theorem dX1_stayOf_23 : decode cX1_stayOf 23 = .ok (.goto 4, 3) := dk167 (k := 23) bX1_stayOf_0 rfl (by decide)
theorem bX1_stayOf_26 : bL cX1_stayOf 26 [28, 172] := bL_of (by decide +kernel)
theorem dX1_stayOf_26 : decode cX1_stayOf 26 = .ok (.iload_n 2, 1) := dk28 (k := 0) bX1_stayOf_26 rfl
theorem dX1_stayOf_27 : decode cX1_stayOf 27 = .ok (.ireturn, 1) := dk172 (k := 1) bX1_stayOf_26 rfl
theorem bX1_drainedTo_0 : bL cX1_drainedTo 0 [3, 61, 3, 62, 29, 42, 180, 0, 15, 162, 0, 24, 42, 29, 182, 0, 59, 27, 160, 0, 9, 28, 4, 29] := bL_of (by decide +kernel)
theorem dX1_drainedTo_0 : decode cX1_drainedTo 0 = .ok (.iconst 0, 1) := dk3 (k := 0) bX1_drainedTo_0 rfl
theorem dX1_drainedTo_1 : decode cX1_drainedTo 1 = .ok (.istore_n 2, 1) := dk61 (k := 1) bX1_drainedTo_0 rfl
theorem dX1_drainedTo_2 : decode cX1_drainedTo 2 = .ok (.iconst 0, 1) := dk3 (k := 2) bX1_drainedTo_0 rfl
theorem dX1_drainedTo_3 : decode cX1_drainedTo 3 = .ok (.istore_n 3, 1) := dk62 (k := 3) bX1_drainedTo_0 rfl
theorem dX1_drainedTo_4 : decode cX1_drainedTo 4 = .ok (.iload_n 3, 1) := dk29 (k := 4) bX1_drainedTo_0 rfl
theorem dX1_drainedTo_5 : decode cX1_drainedTo 5 = .ok (.aload_n 0, 1) := dk42 (k := 5) bX1_drainedTo_0 rfl
theorem dX1_drainedTo_6 : decode cX1_drainedTo 6 = .ok (.getfield 15, 3) := dk180 (k := 6) bX1_drainedTo_0 rfl rfl
theorem dX1_drainedTo_9 : decode cX1_drainedTo 9 = .ok (.if_icmp .ge 24, 3) := dk162 (k := 9) bX1_drainedTo_0 rfl (by decide)
theorem dX1_drainedTo_12 : decode cX1_drainedTo 12 = .ok (.aload_n 0, 1) := dk42 (k := 12) bX1_drainedTo_0 rfl
theorem dX1_drainedTo_13 : decode cX1_drainedTo 13 = .ok (.iload_n 3, 1) := dk29 (k := 13) bX1_drainedTo_0 rfl
theorem dX1_drainedTo_14 : decode cX1_drainedTo 14 = .ok (.invokevirtual 59, 3) := dk182 (k := 14) bX1_drainedTo_0 rfl rfl
theorem dX1_drainedTo_17 : decode cX1_drainedTo 17 = .ok (.iload_n 1, 1) := dk27 (k := 17) bX1_drainedTo_0 rfl
theorem dX1_drainedTo_18 : decode cX1_drainedTo 18 = .ok (.if_icmp .ne 9, 3) := dk160 (k := 18) bX1_drainedTo_0 rfl (by decide)
theorem dX1_drainedTo_21 : decode cX1_drainedTo 21 = .ok (.iload_n 2, 1) := dk28 (k := 21) bX1_drainedTo_0 rfl
theorem dX1_drainedTo_22 : decode cX1_drainedTo 22 = .ok (.iconst 1, 1) := dk4 (k := 22) bX1_drainedTo_0 rfl
theorem dX1_drainedTo_23 : decode cX1_drainedTo 23 = .ok (.iload_n 3, 1) := dk29 (k := 23) bX1_drainedTo_0 rfl
theorem bX1_drainedTo_24 : bL cX1_drainedTo 24 [120, 128, 61, 132, 3, 1, 167, 255, 230, 28, 172] := bL_of (by decide +kernel)
theorem dX1_drainedTo_24 : decode cX1_drainedTo 24 = .ok (.ishl, 1) := dk120 (k := 0) bX1_drainedTo_24 rfl
theorem dX1_drainedTo_25 : decode cX1_drainedTo 25 = .ok (.ior, 1) := dk128 (k := 1) bX1_drainedTo_24 rfl
theorem dX1_drainedTo_26 : decode cX1_drainedTo 26 = .ok (.istore_n 2, 1) := dk61 (k := 2) bX1_drainedTo_24 rfl
theorem dX1_drainedTo_27 : decode cX1_drainedTo 27 = .ok (.iinc 3 1, 3) := dk132 (k := 3) bX1_drainedTo_24 rfl rfl (by decide)
theorem dX1_drainedTo_30 : decode cX1_drainedTo 30 = .ok (.goto (-26), 3) := dk167 (k := 6) bX1_drainedTo_24 rfl (by decide)
theorem dX1_drainedTo_33 : decode cX1_drainedTo 33 = .ok (.iload_n 2, 1) := dk28 (k := 9) bX1_drainedTo_24 rfl
theorem dX1_drainedTo_34 : decode cX1_drainedTo 34 = .ok (.ireturn, 1) := dk172 (k := 10) bX1_drainedTo_24 rfl
theorem bX1_waterEnds_0 : bL cX1_waterEnds 0 [3, 60, 3, 61, 28, 42, 180, 0, 15, 162, 0, 19, 27, 4, 42, 28, 182, 0, 59, 120, 128, 60, 132, 2, 1] := bL_of (by decide +kernel)
theorem dX1_waterEnds_0 : decode cX1_waterEnds 0 = .ok (.iconst 0, 1) := dk3 (k := 0) bX1_waterEnds_0 rfl
theorem dX1_waterEnds_1 : decode cX1_waterEnds 1 = .ok (.istore_n 1, 1) := dk60 (k := 1) bX1_waterEnds_0 rfl
theorem dX1_waterEnds_2 : decode cX1_waterEnds 2 = .ok (.iconst 0, 1) := dk3 (k := 2) bX1_waterEnds_0 rfl
theorem dX1_waterEnds_3 : decode cX1_waterEnds 3 = .ok (.istore_n 2, 1) := dk61 (k := 3) bX1_waterEnds_0 rfl
theorem dX1_waterEnds_4 : decode cX1_waterEnds 4 = .ok (.iload_n 2, 1) := dk28 (k := 4) bX1_waterEnds_0 rfl
theorem dX1_waterEnds_5 : decode cX1_waterEnds 5 = .ok (.aload_n 0, 1) := dk42 (k := 5) bX1_waterEnds_0 rfl
theorem dX1_waterEnds_6 : decode cX1_waterEnds 6 = .ok (.getfield 15, 3) := dk180 (k := 6) bX1_waterEnds_0 rfl rfl
theorem dX1_waterEnds_9 : decode cX1_waterEnds 9 = .ok (.if_icmp .ge 19, 3) := dk162 (k := 9) bX1_waterEnds_0 rfl (by decide)
theorem dX1_waterEnds_12 : decode cX1_waterEnds 12 = .ok (.iload_n 1, 1) := dk27 (k := 12) bX1_waterEnds_0 rfl
theorem dX1_waterEnds_13 : decode cX1_waterEnds 13 = .ok (.iconst 1, 1) := dk4 (k := 13) bX1_waterEnds_0 rfl
theorem dX1_waterEnds_14 : decode cX1_waterEnds 14 = .ok (.aload_n 0, 1) := dk42 (k := 14) bX1_waterEnds_0 rfl
theorem dX1_waterEnds_15 : decode cX1_waterEnds 15 = .ok (.iload_n 2, 1) := dk28 (k := 15) bX1_waterEnds_0 rfl
theorem dX1_waterEnds_16 : decode cX1_waterEnds 16 = .ok (.invokevirtual 59, 3) := dk182 (k := 16) bX1_waterEnds_0 rfl rfl
theorem dX1_waterEnds_19 : decode cX1_waterEnds 19 = .ok (.ishl, 1) := dk120 (k := 19) bX1_waterEnds_0 rfl
theorem dX1_waterEnds_20 : decode cX1_waterEnds 20 = .ok (.ior, 1) := dk128 (k := 20) bX1_waterEnds_0 rfl
theorem dX1_waterEnds_21 : decode cX1_waterEnds 21 = .ok (.istore_n 1, 1) := dk60 (k := 21) bX1_waterEnds_0 rfl
theorem dX1_waterEnds_22 : decode cX1_waterEnds 22 = .ok (.iinc 2 1, 3) := dk132 (k := 22) bX1_waterEnds_0 rfl rfl (by decide)
theorem bX1_waterEnds_25 : bL cX1_waterEnds 25 [167, 255, 235, 27, 172] := bL_of (by decide +kernel)
theorem dX1_waterEnds_25 : decode cX1_waterEnds 25 = .ok (.goto (-21), 3) := dk167 (k := 0) bX1_waterEnds_25 rfl (by decide)
theorem dX1_waterEnds_28 : decode cX1_waterEnds 28 = .ok (.iload_n 1, 1) := dk27 (k := 3) bX1_waterEnds_25 rfl
theorem dX1_waterEnds_29 : decode cX1_waterEnds 29 = .ok (.ireturn, 1) := dk172 (k := 4) bX1_waterEnds_25 rfl
theorem bX1_cliffPairs_0 : bL cX1_cliffPairs 0 [3, 60, 4, 61, 28, 42, 180, 0, 15, 162, 0, 43, 42, 28, 182, 0, 33, 42, 28, 4, 100, 182, 0, 33] := bL_of (by decide +kernel)
theorem dX1_cliffPairs_0 : decode cX1_cliffPairs 0 = .ok (.iconst 0, 1) := dk3 (k := 0) bX1_cliffPairs_0 rfl
theorem dX1_cliffPairs_1 : decode cX1_cliffPairs 1 = .ok (.istore_n 1, 1) := dk60 (k := 1) bX1_cliffPairs_0 rfl
theorem dX1_cliffPairs_2 : decode cX1_cliffPairs 2 = .ok (.iconst 1, 1) := dk4 (k := 2) bX1_cliffPairs_0 rfl
theorem dX1_cliffPairs_3 : decode cX1_cliffPairs 3 = .ok (.istore_n 2, 1) := dk61 (k := 3) bX1_cliffPairs_0 rfl
theorem dX1_cliffPairs_4 : decode cX1_cliffPairs 4 = .ok (.iload_n 2, 1) := dk28 (k := 4) bX1_cliffPairs_0 rfl
theorem dX1_cliffPairs_5 : decode cX1_cliffPairs 5 = .ok (.aload_n 0, 1) := dk42 (k := 5) bX1_cliffPairs_0 rfl
theorem dX1_cliffPairs_6 : decode cX1_cliffPairs 6 = .ok (.getfield 15, 3) := dk180 (k := 6) bX1_cliffPairs_0 rfl rfl
theorem dX1_cliffPairs_9 : decode cX1_cliffPairs 9 = .ok (.if_icmp .ge 43, 3) := dk162 (k := 9) bX1_cliffPairs_0 rfl (by decide)
theorem dX1_cliffPairs_12 : decode cX1_cliffPairs 12 = .ok (.aload_n 0, 1) := dk42 (k := 12) bX1_cliffPairs_0 rfl
theorem dX1_cliffPairs_13 : decode cX1_cliffPairs 13 = .ok (.iload_n 2, 1) := dk28 (k := 13) bX1_cliffPairs_0 rfl
theorem dX1_cliffPairs_14 : decode cX1_cliffPairs 14 = .ok (.invokevirtual 33, 3) := dk182 (k := 14) bX1_cliffPairs_0 rfl rfl
theorem dX1_cliffPairs_17 : decode cX1_cliffPairs 17 = .ok (.aload_n 0, 1) := dk42 (k := 17) bX1_cliffPairs_0 rfl
theorem dX1_cliffPairs_18 : decode cX1_cliffPairs 18 = .ok (.iload_n 2, 1) := dk28 (k := 18) bX1_cliffPairs_0 rfl
theorem dX1_cliffPairs_19 : decode cX1_cliffPairs 19 = .ok (.iconst 1, 1) := dk4 (k := 19) bX1_cliffPairs_0 rfl
theorem dX1_cliffPairs_20 : decode cX1_cliffPairs 20 = .ok (.isub, 1) := dk100 (k := 20) bX1_cliffPairs_0 rfl
theorem dX1_cliffPairs_21 : decode cX1_cliffPairs 21 = .ok (.invokevirtual 33, 3) := dk182 (k := 21) bX1_cliffPairs_0 rfl rfl
theorem bX1_cliffPairs_24 : bL cX1_cliffPairs 24 [100, 62, 29, 42, 180, 0, 22, 163, 0, 12, 29, 116, 42, 180, 0, 22, 164, 0, 6, 132, 1, 1, 132, 2, 1] := bL_of (by decide +kernel)
theorem dX1_cliffPairs_24 : decode cX1_cliffPairs 24 = .ok (.isub, 1) := dk100 (k := 0) bX1_cliffPairs_24 rfl
theorem dX1_cliffPairs_25 : decode cX1_cliffPairs 25 = .ok (.istore_n 3, 1) := dk62 (k := 1) bX1_cliffPairs_24 rfl
theorem dX1_cliffPairs_26 : decode cX1_cliffPairs 26 = .ok (.iload_n 3, 1) := dk29 (k := 2) bX1_cliffPairs_24 rfl
theorem dX1_cliffPairs_27 : decode cX1_cliffPairs 27 = .ok (.aload_n 0, 1) := dk42 (k := 3) bX1_cliffPairs_24 rfl
theorem dX1_cliffPairs_28 : decode cX1_cliffPairs 28 = .ok (.getfield 22, 3) := dk180 (k := 4) bX1_cliffPairs_24 rfl rfl
theorem dX1_cliffPairs_31 : decode cX1_cliffPairs 31 = .ok (.if_icmp .gt 12, 3) := dk163 (k := 7) bX1_cliffPairs_24 rfl (by decide)
theorem dX1_cliffPairs_34 : decode cX1_cliffPairs 34 = .ok (.iload_n 3, 1) := dk29 (k := 10) bX1_cliffPairs_24 rfl
theorem dX1_cliffPairs_35 : decode cX1_cliffPairs 35 = .ok (.ineg, 1) := dk116 (k := 11) bX1_cliffPairs_24 rfl
theorem dX1_cliffPairs_36 : decode cX1_cliffPairs 36 = .ok (.aload_n 0, 1) := dk42 (k := 12) bX1_cliffPairs_24 rfl
theorem dX1_cliffPairs_37 : decode cX1_cliffPairs 37 = .ok (.getfield 22, 3) := dk180 (k := 13) bX1_cliffPairs_24 rfl rfl
theorem dX1_cliffPairs_40 : decode cX1_cliffPairs 40 = .ok (.if_icmp .le 6, 3) := dk164 (k := 16) bX1_cliffPairs_24 rfl (by decide)
theorem dX1_cliffPairs_43 : decode cX1_cliffPairs 43 = .ok (.iinc 1 1, 3) := dk132 (k := 19) bX1_cliffPairs_24 rfl rfl (by decide)
theorem dX1_cliffPairs_46 : decode cX1_cliffPairs 46 = .ok (.iinc 2 1, 3) := dk132 (k := 22) bX1_cliffPairs_24 rfl rfl (by decide)
theorem bX1_cliffPairs_49 : bL cX1_cliffPairs 49 [167, 255, 211, 27, 172] := bL_of (by decide +kernel)
theorem dX1_cliffPairs_49 : decode cX1_cliffPairs 49 = .ok (.goto (-45), 3) := dk167 (k := 0) bX1_cliffPairs_49 rfl (by decide)
theorem dX1_cliffPairs_52 : decode cX1_cliffPairs 52 = .ok (.iload_n 1, 1) := dk27 (k := 3) bX1_cliffPairs_49 rfl
theorem dX1_cliffPairs_53 : decode cX1_cliffPairs 53 = .ok (.ireturn, 1) := dk172 (k := 4) bX1_cliffPairs_49 rfl
theorem bX1_seenFrom_0 : bL cX1_seenFrom 0 [3, 61, 3, 62, 29, 42, 180, 0, 15, 162, 0, 41, 27, 29, 162, 0, 15, 42, 27, 29, 182, 0, 62, 153, 0, 21] := bL_of (by decide +kernel)
theorem dX1_seenFrom_0 : decode cX1_seenFrom 0 = .ok (.iconst 0, 1) := dk3 (k := 0) bX1_seenFrom_0 rfl
theorem dX1_seenFrom_1 : decode cX1_seenFrom 1 = .ok (.istore_n 2, 1) := dk61 (k := 1) bX1_seenFrom_0 rfl
theorem dX1_seenFrom_2 : decode cX1_seenFrom 2 = .ok (.iconst 0, 1) := dk3 (k := 2) bX1_seenFrom_0 rfl
theorem dX1_seenFrom_3 : decode cX1_seenFrom 3 = .ok (.istore_n 3, 1) := dk62 (k := 3) bX1_seenFrom_0 rfl
theorem dX1_seenFrom_4 : decode cX1_seenFrom 4 = .ok (.iload_n 3, 1) := dk29 (k := 4) bX1_seenFrom_0 rfl
theorem dX1_seenFrom_5 : decode cX1_seenFrom 5 = .ok (.aload_n 0, 1) := dk42 (k := 5) bX1_seenFrom_0 rfl
theorem dX1_seenFrom_6 : decode cX1_seenFrom 6 = .ok (.getfield 15, 3) := dk180 (k := 6) bX1_seenFrom_0 rfl rfl
theorem dX1_seenFrom_9 : decode cX1_seenFrom 9 = .ok (.if_icmp .ge 41, 3) := dk162 (k := 9) bX1_seenFrom_0 rfl (by decide)
theorem dX1_seenFrom_12 : decode cX1_seenFrom 12 = .ok (.iload_n 1, 1) := dk27 (k := 12) bX1_seenFrom_0 rfl
theorem dX1_seenFrom_13 : decode cX1_seenFrom 13 = .ok (.iload_n 3, 1) := dk29 (k := 13) bX1_seenFrom_0 rfl
theorem dX1_seenFrom_14 : decode cX1_seenFrom 14 = .ok (.if_icmp .ge 15, 3) := dk162 (k := 14) bX1_seenFrom_0 rfl (by decide)
theorem dX1_seenFrom_17 : decode cX1_seenFrom 17 = .ok (.aload_n 0, 1) := dk42 (k := 17) bX1_seenFrom_0 rfl
theorem dX1_seenFrom_18 : decode cX1_seenFrom 18 = .ok (.iload_n 1, 1) := dk27 (k := 18) bX1_seenFrom_0 rfl
theorem dX1_seenFrom_19 : decode cX1_seenFrom 19 = .ok (.iload_n 3, 1) := dk29 (k := 19) bX1_seenFrom_0 rfl
theorem dX1_seenFrom_20 : decode cX1_seenFrom 20 = .ok (.invokevirtual 62, 3) := dk182 (k := 20) bX1_seenFrom_0 rfl rfl
theorem dX1_seenFrom_23 : decode cX1_seenFrom 23 = .ok (.ifCond .eq 21, 3) := dk153 (k := 23) bX1_seenFrom_0 rfl (by decide)
theorem bX1_seenFrom_26 : bL cX1_seenFrom 26 [167, 0, 12, 42, 29, 27, 182, 0, 62, 153, 0, 9, 28, 4, 29, 120, 128, 61, 132, 3, 1, 167, 255, 213] := bL_of (by decide +kernel)
theorem dX1_seenFrom_26 : decode cX1_seenFrom 26 = .ok (.goto 12, 3) := dk167 (k := 0) bX1_seenFrom_26 rfl (by decide)
theorem dX1_seenFrom_29 : decode cX1_seenFrom 29 = .ok (.aload_n 0, 1) := dk42 (k := 3) bX1_seenFrom_26 rfl
theorem dX1_seenFrom_30 : decode cX1_seenFrom 30 = .ok (.iload_n 3, 1) := dk29 (k := 4) bX1_seenFrom_26 rfl
theorem dX1_seenFrom_31 : decode cX1_seenFrom 31 = .ok (.iload_n 1, 1) := dk27 (k := 5) bX1_seenFrom_26 rfl
theorem dX1_seenFrom_32 : decode cX1_seenFrom 32 = .ok (.invokevirtual 62, 3) := dk182 (k := 6) bX1_seenFrom_26 rfl rfl
theorem dX1_seenFrom_35 : decode cX1_seenFrom 35 = .ok (.ifCond .eq 9, 3) := dk153 (k := 9) bX1_seenFrom_26 rfl (by decide)
theorem dX1_seenFrom_38 : decode cX1_seenFrom 38 = .ok (.iload_n 2, 1) := dk28 (k := 12) bX1_seenFrom_26 rfl
theorem dX1_seenFrom_39 : decode cX1_seenFrom 39 = .ok (.iconst 1, 1) := dk4 (k := 13) bX1_seenFrom_26 rfl
theorem dX1_seenFrom_40 : decode cX1_seenFrom 40 = .ok (.iload_n 3, 1) := dk29 (k := 14) bX1_seenFrom_26 rfl
theorem dX1_seenFrom_41 : decode cX1_seenFrom 41 = .ok (.ishl, 1) := dk120 (k := 15) bX1_seenFrom_26 rfl
theorem dX1_seenFrom_42 : decode cX1_seenFrom 42 = .ok (.ior, 1) := dk128 (k := 16) bX1_seenFrom_26 rfl
theorem dX1_seenFrom_43 : decode cX1_seenFrom 43 = .ok (.istore_n 2, 1) := dk61 (k := 17) bX1_seenFrom_26 rfl
theorem dX1_seenFrom_44 : decode cX1_seenFrom 44 = .ok (.iinc 3 1, 3) := dk132 (k := 18) bX1_seenFrom_26 rfl rfl (by decide)
theorem dX1_seenFrom_47 : decode cX1_seenFrom 47 = .ok (.goto (-43), 3) := dk167 (k := 21) bX1_seenFrom_26 rfl (by decide)
theorem bX1_seenFrom_50 : bL cX1_seenFrom 50 [28, 172] := bL_of (by decide +kernel)
theorem dX1_seenFrom_50 : decode cX1_seenFrom 50 = .ok (.iload_n 2, 1) := dk28 (k := 0) bX1_seenFrom_50 rfl
theorem dX1_seenFrom_51 : decode cX1_seenFrom 51 = .ok (.ireturn, 1) := dk172 (k := 1) bX1_seenFrom_50 rfl
theorem bX1_isOpen_0 : bL cX1_isOpen 0 [42, 28, 182, 0, 33, 42, 27, 182, 0, 33, 100, 62, 27, 4, 96, 54, 4, 21, 4, 28, 162, 0, 36, 42] := bL_of (by decide +kernel)
theorem dX1_isOpen_0 : decode cX1_isOpen 0 = .ok (.aload_n 0, 1) := dk42 (k := 0) bX1_isOpen_0 rfl
theorem dX1_isOpen_1 : decode cX1_isOpen 1 = .ok (.iload_n 2, 1) := dk28 (k := 1) bX1_isOpen_0 rfl
theorem dX1_isOpen_2 : decode cX1_isOpen 2 = .ok (.invokevirtual 33, 3) := dk182 (k := 2) bX1_isOpen_0 rfl rfl
theorem dX1_isOpen_5 : decode cX1_isOpen 5 = .ok (.aload_n 0, 1) := dk42 (k := 5) bX1_isOpen_0 rfl
theorem dX1_isOpen_6 : decode cX1_isOpen 6 = .ok (.iload_n 1, 1) := dk27 (k := 6) bX1_isOpen_0 rfl
theorem dX1_isOpen_7 : decode cX1_isOpen 7 = .ok (.invokevirtual 33, 3) := dk182 (k := 7) bX1_isOpen_0 rfl rfl
theorem dX1_isOpen_10 : decode cX1_isOpen 10 = .ok (.isub, 1) := dk100 (k := 10) bX1_isOpen_0 rfl
theorem dX1_isOpen_11 : decode cX1_isOpen 11 = .ok (.istore_n 3, 1) := dk62 (k := 11) bX1_isOpen_0 rfl
theorem dX1_isOpen_12 : decode cX1_isOpen 12 = .ok (.iload_n 1, 1) := dk27 (k := 12) bX1_isOpen_0 rfl
theorem dX1_isOpen_13 : decode cX1_isOpen 13 = .ok (.iconst 1, 1) := dk4 (k := 13) bX1_isOpen_0 rfl
theorem dX1_isOpen_14 : decode cX1_isOpen 14 = .ok (.iadd, 1) := dk96 (k := 14) bX1_isOpen_0 rfl
theorem dX1_isOpen_15 : decode cX1_isOpen 15 = .ok (.istore 4, 2) := dk54 (k := 15) bX1_isOpen_0 rfl rfl
theorem dX1_isOpen_17 : decode cX1_isOpen 17 = .ok (.iload 4, 2) := dk21 (k := 17) bX1_isOpen_0 rfl rfl
theorem dX1_isOpen_19 : decode cX1_isOpen 19 = .ok (.iload_n 2, 1) := dk28 (k := 19) bX1_isOpen_0 rfl
theorem dX1_isOpen_20 : decode cX1_isOpen 20 = .ok (.if_icmp .ge 36, 3) := dk162 (k := 20) bX1_isOpen_0 rfl (by decide)
theorem dX1_isOpen_23 : decode cX1_isOpen 23 = .ok (.aload_n 0, 1) := dk42 (k := 23) bX1_isOpen_0 rfl
theorem bX1_isOpen_24 : bL cX1_isOpen 24 [21, 4, 182, 0, 33, 42, 27, 182, 0, 33, 100, 28, 27, 100, 104, 29, 21, 4, 27, 100, 104, 164, 0, 5] := bL_of (by decide +kernel)
theorem dX1_isOpen_24 : decode cX1_isOpen 24 = .ok (.iload 4, 2) := dk21 (k := 0) bX1_isOpen_24 rfl rfl
theorem dX1_isOpen_26 : decode cX1_isOpen 26 = .ok (.invokevirtual 33, 3) := dk182 (k := 2) bX1_isOpen_24 rfl rfl
theorem dX1_isOpen_29 : decode cX1_isOpen 29 = .ok (.aload_n 0, 1) := dk42 (k := 5) bX1_isOpen_24 rfl
theorem dX1_isOpen_30 : decode cX1_isOpen 30 = .ok (.iload_n 1, 1) := dk27 (k := 6) bX1_isOpen_24 rfl
theorem dX1_isOpen_31 : decode cX1_isOpen 31 = .ok (.invokevirtual 33, 3) := dk182 (k := 7) bX1_isOpen_24 rfl rfl
theorem dX1_isOpen_34 : decode cX1_isOpen 34 = .ok (.isub, 1) := dk100 (k := 10) bX1_isOpen_24 rfl
theorem dX1_isOpen_35 : decode cX1_isOpen 35 = .ok (.iload_n 2, 1) := dk28 (k := 11) bX1_isOpen_24 rfl
theorem dX1_isOpen_36 : decode cX1_isOpen 36 = .ok (.iload_n 1, 1) := dk27 (k := 12) bX1_isOpen_24 rfl
theorem dX1_isOpen_37 : decode cX1_isOpen 37 = .ok (.isub, 1) := dk100 (k := 13) bX1_isOpen_24 rfl
theorem dX1_isOpen_38 : decode cX1_isOpen 38 = .ok (.imul, 1) := dk104 (k := 14) bX1_isOpen_24 rfl
theorem dX1_isOpen_39 : decode cX1_isOpen 39 = .ok (.iload_n 3, 1) := dk29 (k := 15) bX1_isOpen_24 rfl
theorem dX1_isOpen_40 : decode cX1_isOpen 40 = .ok (.iload 4, 2) := dk21 (k := 16) bX1_isOpen_24 rfl rfl
theorem dX1_isOpen_42 : decode cX1_isOpen 42 = .ok (.iload_n 1, 1) := dk27 (k := 18) bX1_isOpen_24 rfl
theorem dX1_isOpen_43 : decode cX1_isOpen 43 = .ok (.isub, 1) := dk100 (k := 19) bX1_isOpen_24 rfl
theorem dX1_isOpen_44 : decode cX1_isOpen 44 = .ok (.imul, 1) := dk104 (k := 20) bX1_isOpen_24 rfl
theorem dX1_isOpen_45 : decode cX1_isOpen 45 = .ok (.if_icmp .le 5, 3) := dk164 (k := 21) bX1_isOpen_24 rfl (by decide)
theorem bX1_isOpen_48 : bL cX1_isOpen 48 [3, 172, 132, 4, 1, 167, 255, 220, 4, 172] := bL_of (by decide +kernel)
theorem dX1_isOpen_48 : decode cX1_isOpen 48 = .ok (.iconst 0, 1) := dk3 (k := 0) bX1_isOpen_48 rfl
theorem dX1_isOpen_49 : decode cX1_isOpen 49 = .ok (.ireturn, 1) := dk172 (k := 1) bX1_isOpen_48 rfl
theorem dX1_isOpen_50 : decode cX1_isOpen 50 = .ok (.iinc 4 1, 3) := dk132 (k := 2) bX1_isOpen_48 rfl rfl (by decide)
theorem dX1_isOpen_53 : decode cX1_isOpen 53 = .ok (.goto (-36), 3) := dk167 (k := 5) bX1_isOpen_48 rfl (by decide)
theorem dX1_isOpen_56 : decode cX1_isOpen 56 = .ok (.iconst 1, 1) := dk4 (k := 8) bX1_isOpen_48 rfl
theorem dX1_isOpen_57 : decode cX1_isOpen 57 = .ok (.ireturn, 1) := dk172 (k := 9) bX1_isOpen_48 rfl
theorem bX1_bestLookout_0 : bL cX1_bestLookout 0 [2, 60, 3, 61, 3, 62, 29, 42, 180, 0, 15, 162, 0, 30, 42, 29, 182, 0, 65, 184, 0, 68, 54, 4] := bL_of (by decide +kernel)
theorem dX1_bestLookout_0 : decode cX1_bestLookout 0 = .ok (.iconst (-1), 1) := dk2 (k := 0) bX1_bestLookout_0 rfl
theorem dX1_bestLookout_1 : decode cX1_bestLookout 1 = .ok (.istore_n 1, 1) := dk60 (k := 1) bX1_bestLookout_0 rfl
theorem dX1_bestLookout_2 : decode cX1_bestLookout 2 = .ok (.iconst 0, 1) := dk3 (k := 2) bX1_bestLookout_0 rfl
theorem dX1_bestLookout_3 : decode cX1_bestLookout 3 = .ok (.istore_n 2, 1) := dk61 (k := 3) bX1_bestLookout_0 rfl
theorem dX1_bestLookout_4 : decode cX1_bestLookout 4 = .ok (.iconst 0, 1) := dk3 (k := 4) bX1_bestLookout_0 rfl
theorem dX1_bestLookout_5 : decode cX1_bestLookout 5 = .ok (.istore_n 3, 1) := dk62 (k := 5) bX1_bestLookout_0 rfl
theorem dX1_bestLookout_6 : decode cX1_bestLookout 6 = .ok (.iload_n 3, 1) := dk29 (k := 6) bX1_bestLookout_0 rfl
theorem dX1_bestLookout_7 : decode cX1_bestLookout 7 = .ok (.aload_n 0, 1) := dk42 (k := 7) bX1_bestLookout_0 rfl
theorem dX1_bestLookout_8 : decode cX1_bestLookout 8 = .ok (.getfield 15, 3) := dk180 (k := 8) bX1_bestLookout_0 rfl rfl
theorem dX1_bestLookout_11 : decode cX1_bestLookout 11 = .ok (.if_icmp .ge 30, 3) := dk162 (k := 11) bX1_bestLookout_0 rfl (by decide)
theorem dX1_bestLookout_14 : decode cX1_bestLookout 14 = .ok (.aload_n 0, 1) := dk42 (k := 14) bX1_bestLookout_0 rfl
theorem dX1_bestLookout_15 : decode cX1_bestLookout 15 = .ok (.iload_n 3, 1) := dk29 (k := 15) bX1_bestLookout_0 rfl
theorem dX1_bestLookout_16 : decode cX1_bestLookout 16 = .ok (.invokevirtual 65, 3) := dk182 (k := 16) bX1_bestLookout_0 rfl rfl
theorem dX1_bestLookout_19 : decode cX1_bestLookout 19 = .ok (.invokestatic 68, 3) := dk184 (k := 19) bX1_bestLookout_0 rfl rfl
theorem dX1_bestLookout_22 : decode cX1_bestLookout 22 = .ok (.istore 4, 2) := dk54 (k := 22) bX1_bestLookout_0 rfl rfl
theorem bX1_bestLookout_24 : bL cX1_bestLookout 24 [21, 4, 28, 164, 0, 8, 21, 4, 61, 29, 60, 132, 3, 1, 167, 255, 224, 27, 172] := bL_of (by decide +kernel)
theorem dX1_bestLookout_24 : decode cX1_bestLookout 24 = .ok (.iload 4, 2) := dk21 (k := 0) bX1_bestLookout_24 rfl rfl
theorem dX1_bestLookout_26 : decode cX1_bestLookout 26 = .ok (.iload_n 2, 1) := dk28 (k := 2) bX1_bestLookout_24 rfl
theorem dX1_bestLookout_27 : decode cX1_bestLookout 27 = .ok (.if_icmp .le 8, 3) := dk164 (k := 3) bX1_bestLookout_24 rfl (by decide)
theorem dX1_bestLookout_30 : decode cX1_bestLookout 30 = .ok (.iload 4, 2) := dk21 (k := 6) bX1_bestLookout_24 rfl rfl
theorem dX1_bestLookout_32 : decode cX1_bestLookout 32 = .ok (.istore_n 2, 1) := dk61 (k := 8) bX1_bestLookout_24 rfl
theorem dX1_bestLookout_33 : decode cX1_bestLookout 33 = .ok (.iload_n 3, 1) := dk29 (k := 9) bX1_bestLookout_24 rfl
theorem dX1_bestLookout_34 : decode cX1_bestLookout 34 = .ok (.istore_n 1, 1) := dk60 (k := 10) bX1_bestLookout_24 rfl
theorem dX1_bestLookout_35 : decode cX1_bestLookout 35 = .ok (.iinc 3 1, 3) := dk132 (k := 11) bX1_bestLookout_24 rfl rfl (by decide)
theorem dX1_bestLookout_38 : decode cX1_bestLookout 38 = .ok (.goto (-32), 3) := dk167 (k := 14) bX1_bestLookout_24 rfl (by decide)
theorem dX1_bestLookout_41 : decode cX1_bestLookout 41 = .ok (.iload_n 1, 1) := dk27 (k := 17) bX1_bestLookout_24 rfl
theorem dX1_bestLookout_42 : decode cX1_bestLookout 42 = .ok (.ireturn, 1) := dk172 (k := 18) bX1_bestLookout_24 rfl
theorem bX2_init_0 : bL cX2_init 0 [42, 183, 0, 3, 42, 187, 0, 9, 89, 183, 0, 11, 181, 0, 12, 42, 187, 0, 18, 89, 183, 0, 20, 181, 0, 21] := bL_of (by decide +kernel)
theorem dX2_init_0 : decode cX2_init 0 = .ok (.aload_n 0, 1) := dk42 (k := 0) bX2_init_0 rfl
theorem dX2_init_1 : decode cX2_init 1 = .ok (.invokespecial 3, 3) := dk183 (k := 1) bX2_init_0 rfl rfl
theorem dX2_init_4 : decode cX2_init 4 = .ok (.aload_n 0, 1) := dk42 (k := 4) bX2_init_0 rfl
theorem dX2_init_5 : decode cX2_init 5 = .ok (.new 9, 3) := dk187 (k := 5) bX2_init_0 rfl rfl
theorem dX2_init_8 : decode cX2_init 8 = .ok (.dup, 1) := dk89 (k := 8) bX2_init_0 rfl
theorem dX2_init_9 : decode cX2_init 9 = .ok (.invokespecial 11, 3) := dk183 (k := 9) bX2_init_0 rfl rfl
theorem dX2_init_12 : decode cX2_init 12 = .ok (.putfield 12, 3) := dk181 (k := 12) bX2_init_0 rfl rfl
theorem dX2_init_15 : decode cX2_init 15 = .ok (.aload_n 0, 1) := dk42 (k := 15) bX2_init_0 rfl
theorem dX2_init_16 : decode cX2_init 16 = .ok (.new 18, 3) := dk187 (k := 16) bX2_init_0 rfl rfl
theorem dX2_init_19 : decode cX2_init 19 = .ok (.dup, 1) := dk89 (k := 19) bX2_init_0 rfl
theorem dX2_init_20 : decode cX2_init 20 = .ok (.invokespecial 20, 3) := dk183 (k := 20) bX2_init_0 rfl rfl
theorem dX2_init_23 : decode cX2_init 23 = .ok (.putfield 21, 3) := dk181 (k := 23) bX2_init_0 rfl rfl
theorem bX2_init_26 : bL cX2_init 26 [42, 16, 60] := bL_of (by decide +kernel)
theorem dX2_init_26 : decode cX2_init 26 = .ok (.aload_n 0, 1) := dk42 (k := 0) bX2_init_26 rfl
theorem dX2_init_27 : decode cX2_init 27 = .ok (.bipush 60, 2) := dk16 (k := 1) bX2_init_26 rfl (by decide)
theorem dX2_init_29 : decode cX2_init 29 = .ok (.newarray .int, 2) := by decide +kernel
theorem bX2_init_31 : bL cX2_init 31 [181, 0, 25, 177] := bL_of (by decide +kernel)
theorem dX2_init_31 : decode cX2_init 31 = .ok (.putfield 25, 3) := dk181 (k := 0) bX2_init_31 rfl rfl
theorem dX2_init_34 : decode cX2_init 34 = .ok (.return_, 1) := dk177 (k := 3) bX2_init_31 rfl
theorem bX2_clear_0 : bL cX2_clear 0 [42, 180, 0, 12, 182, 0, 29, 42, 180, 0, 21, 182, 0, 32, 42, 3, 181, 0, 33, 42, 3, 181, 0, 37] := bL_of (by decide +kernel)
theorem dX2_clear_0 : decode cX2_clear 0 = .ok (.aload_n 0, 1) := dk42 (k := 0) bX2_clear_0 rfl
theorem dX2_clear_1 : decode cX2_clear 1 = .ok (.getfield 12, 3) := dk180 (k := 1) bX2_clear_0 rfl rfl
theorem dX2_clear_4 : decode cX2_clear 4 = .ok (.invokevirtual 29, 3) := dk182 (k := 4) bX2_clear_0 rfl rfl
theorem dX2_clear_7 : decode cX2_clear 7 = .ok (.aload_n 0, 1) := dk42 (k := 7) bX2_clear_0 rfl
theorem dX2_clear_8 : decode cX2_clear 8 = .ok (.getfield 21, 3) := dk180 (k := 8) bX2_clear_0 rfl rfl
theorem dX2_clear_11 : decode cX2_clear 11 = .ok (.invokevirtual 32, 3) := dk182 (k := 11) bX2_clear_0 rfl rfl
theorem dX2_clear_14 : decode cX2_clear 14 = .ok (.aload_n 0, 1) := dk42 (k := 14) bX2_clear_0 rfl
theorem dX2_clear_15 : decode cX2_clear 15 = .ok (.iconst 0, 1) := dk3 (k := 15) bX2_clear_0 rfl
theorem dX2_clear_16 : decode cX2_clear 16 = .ok (.putfield 33, 3) := dk181 (k := 16) bX2_clear_0 rfl rfl
theorem dX2_clear_19 : decode cX2_clear 19 = .ok (.aload_n 0, 1) := dk42 (k := 19) bX2_clear_0 rfl
theorem dX2_clear_20 : decode cX2_clear 20 = .ok (.iconst 0, 1) := dk3 (k := 20) bX2_clear_0 rfl
theorem dX2_clear_21 : decode cX2_clear 21 = .ok (.putfield 37, 3) := dk181 (k := 21) bX2_clear_0 rfl rfl
theorem bX2_clear_24 : bL cX2_clear 24 [42, 3, 181, 0, 40, 42, 3, 181, 0, 43, 177] := bL_of (by decide +kernel)
theorem dX2_clear_24 : decode cX2_clear 24 = .ok (.aload_n 0, 1) := dk42 (k := 0) bX2_clear_24 rfl
theorem dX2_clear_25 : decode cX2_clear 25 = .ok (.iconst 0, 1) := dk3 (k := 1) bX2_clear_24 rfl
theorem dX2_clear_26 : decode cX2_clear 26 = .ok (.putfield 40, 3) := dk181 (k := 2) bX2_clear_24 rfl rfl
theorem dX2_clear_29 : decode cX2_clear 29 = .ok (.aload_n 0, 1) := dk42 (k := 5) bX2_clear_24 rfl
theorem dX2_clear_30 : decode cX2_clear 30 = .ok (.iconst 0, 1) := dk3 (k := 6) bX2_clear_24 rfl
theorem dX2_clear_31 : decode cX2_clear 31 = .ok (.putfield 43, 3) := dk181 (k := 7) bX2_clear_24 rfl rfl
theorem dX2_clear_34 : decode cX2_clear 34 = .ok (.return_, 1) := dk177 (k := 10) bX2_clear_24 rfl
theorem bX2_copyFrom_0 : bL cX2_copyFrom 0 [42, 180, 0, 12, 43, 180, 0, 12, 182, 0, 46, 42, 180, 0, 21, 43, 180, 0, 21, 182, 0, 50, 3, 61] := bL_of (by decide +kernel)
theorem dX2_copyFrom_0 : decode cX2_copyFrom 0 = .ok (.aload_n 0, 1) := dk42 (k := 0) bX2_copyFrom_0 rfl
theorem dX2_copyFrom_1 : decode cX2_copyFrom 1 = .ok (.getfield 12, 3) := dk180 (k := 1) bX2_copyFrom_0 rfl rfl
theorem dX2_copyFrom_4 : decode cX2_copyFrom 4 = .ok (.aload_n 1, 1) := dk43 (k := 4) bX2_copyFrom_0 rfl
theorem dX2_copyFrom_5 : decode cX2_copyFrom 5 = .ok (.getfield 12, 3) := dk180 (k := 5) bX2_copyFrom_0 rfl rfl
theorem dX2_copyFrom_8 : decode cX2_copyFrom 8 = .ok (.invokevirtual 46, 3) := dk182 (k := 8) bX2_copyFrom_0 rfl rfl
theorem dX2_copyFrom_11 : decode cX2_copyFrom 11 = .ok (.aload_n 0, 1) := dk42 (k := 11) bX2_copyFrom_0 rfl
theorem dX2_copyFrom_12 : decode cX2_copyFrom 12 = .ok (.getfield 21, 3) := dk180 (k := 12) bX2_copyFrom_0 rfl rfl
theorem dX2_copyFrom_15 : decode cX2_copyFrom 15 = .ok (.aload_n 1, 1) := dk43 (k := 15) bX2_copyFrom_0 rfl
theorem dX2_copyFrom_16 : decode cX2_copyFrom 16 = .ok (.getfield 21, 3) := dk180 (k := 16) bX2_copyFrom_0 rfl rfl
theorem dX2_copyFrom_19 : decode cX2_copyFrom 19 = .ok (.invokevirtual 50, 3) := dk182 (k := 19) bX2_copyFrom_0 rfl rfl
theorem dX2_copyFrom_22 : decode cX2_copyFrom 22 = .ok (.iconst 0, 1) := dk3 (k := 22) bX2_copyFrom_0 rfl
theorem dX2_copyFrom_23 : decode cX2_copyFrom 23 = .ok (.istore_n 2, 1) := dk61 (k := 23) bX2_copyFrom_0 rfl
theorem bX2_copyFrom_24 : bL cX2_copyFrom 24 [28, 16, 60, 162, 0, 21, 42, 180, 0, 25, 28, 43, 180, 0, 25, 28, 46, 79, 132, 2, 1, 167, 255, 235] := bL_of (by decide +kernel)
theorem dX2_copyFrom_24 : decode cX2_copyFrom 24 = .ok (.iload_n 2, 1) := dk28 (k := 0) bX2_copyFrom_24 rfl
theorem dX2_copyFrom_25 : decode cX2_copyFrom 25 = .ok (.bipush 60, 2) := dk16 (k := 1) bX2_copyFrom_24 rfl (by decide)
theorem dX2_copyFrom_27 : decode cX2_copyFrom 27 = .ok (.if_icmp .ge 21, 3) := dk162 (k := 3) bX2_copyFrom_24 rfl (by decide)
theorem dX2_copyFrom_30 : decode cX2_copyFrom 30 = .ok (.aload_n 0, 1) := dk42 (k := 6) bX2_copyFrom_24 rfl
theorem dX2_copyFrom_31 : decode cX2_copyFrom 31 = .ok (.getfield 25, 3) := dk180 (k := 7) bX2_copyFrom_24 rfl rfl
theorem dX2_copyFrom_34 : decode cX2_copyFrom 34 = .ok (.iload_n 2, 1) := dk28 (k := 10) bX2_copyFrom_24 rfl
theorem dX2_copyFrom_35 : decode cX2_copyFrom 35 = .ok (.aload_n 1, 1) := dk43 (k := 11) bX2_copyFrom_24 rfl
theorem dX2_copyFrom_36 : decode cX2_copyFrom 36 = .ok (.getfield 25, 3) := dk180 (k := 12) bX2_copyFrom_24 rfl rfl
theorem dX2_copyFrom_39 : decode cX2_copyFrom 39 = .ok (.iload_n 2, 1) := dk28 (k := 15) bX2_copyFrom_24 rfl
theorem dX2_copyFrom_40 : decode cX2_copyFrom 40 = .ok (.iaload, 1) := dk46 (k := 16) bX2_copyFrom_24 rfl
theorem dX2_copyFrom_41 : decode cX2_copyFrom 41 = .ok (.iastore, 1) := dk79 (k := 17) bX2_copyFrom_24 rfl
theorem dX2_copyFrom_42 : decode cX2_copyFrom 42 = .ok (.iinc 2 1, 3) := dk132 (k := 18) bX2_copyFrom_24 rfl rfl (by decide)
theorem dX2_copyFrom_45 : decode cX2_copyFrom 45 = .ok (.goto (-21), 3) := dk167 (k := 21) bX2_copyFrom_24 rfl (by decide)
theorem bX2_copyFrom_48 : bL cX2_copyFrom 48 [42, 43, 180, 0, 33, 181, 0, 33, 42, 43, 180, 0, 37, 181, 0, 37, 42, 43, 180, 0, 40, 181, 0, 40] := bL_of (by decide +kernel)
theorem dX2_copyFrom_48 : decode cX2_copyFrom 48 = .ok (.aload_n 0, 1) := dk42 (k := 0) bX2_copyFrom_48 rfl
theorem dX2_copyFrom_49 : decode cX2_copyFrom 49 = .ok (.aload_n 1, 1) := dk43 (k := 1) bX2_copyFrom_48 rfl
theorem dX2_copyFrom_50 : decode cX2_copyFrom 50 = .ok (.getfield 33, 3) := dk180 (k := 2) bX2_copyFrom_48 rfl rfl
theorem dX2_copyFrom_53 : decode cX2_copyFrom 53 = .ok (.putfield 33, 3) := dk181 (k := 5) bX2_copyFrom_48 rfl rfl
theorem dX2_copyFrom_56 : decode cX2_copyFrom 56 = .ok (.aload_n 0, 1) := dk42 (k := 8) bX2_copyFrom_48 rfl
theorem dX2_copyFrom_57 : decode cX2_copyFrom 57 = .ok (.aload_n 1, 1) := dk43 (k := 9) bX2_copyFrom_48 rfl
theorem dX2_copyFrom_58 : decode cX2_copyFrom 58 = .ok (.getfield 37, 3) := dk180 (k := 10) bX2_copyFrom_48 rfl rfl
theorem dX2_copyFrom_61 : decode cX2_copyFrom 61 = .ok (.putfield 37, 3) := dk181 (k := 13) bX2_copyFrom_48 rfl rfl
theorem dX2_copyFrom_64 : decode cX2_copyFrom 64 = .ok (.aload_n 0, 1) := dk42 (k := 16) bX2_copyFrom_48 rfl
theorem dX2_copyFrom_65 : decode cX2_copyFrom 65 = .ok (.aload_n 1, 1) := dk43 (k := 17) bX2_copyFrom_48 rfl
theorem dX2_copyFrom_66 : decode cX2_copyFrom 66 = .ok (.getfield 40, 3) := dk180 (k := 18) bX2_copyFrom_48 rfl rfl
theorem dX2_copyFrom_69 : decode cX2_copyFrom 69 = .ok (.putfield 40, 3) := dk181 (k := 21) bX2_copyFrom_48 rfl rfl
theorem bX2_copyFrom_72 : bL cX2_copyFrom 72 [42, 43, 180, 0, 43, 181, 0, 43, 177] := bL_of (by decide +kernel)
theorem dX2_copyFrom_72 : decode cX2_copyFrom 72 = .ok (.aload_n 0, 1) := dk42 (k := 0) bX2_copyFrom_72 rfl
theorem dX2_copyFrom_73 : decode cX2_copyFrom 73 = .ok (.aload_n 1, 1) := dk43 (k := 1) bX2_copyFrom_72 rfl
theorem dX2_copyFrom_74 : decode cX2_copyFrom 74 = .ok (.getfield 43, 3) := dk180 (k := 2) bX2_copyFrom_72 rfl rfl
theorem dX2_copyFrom_77 : decode cX2_copyFrom 77 = .ok (.putfield 43, 3) := dk181 (k := 5) bX2_copyFrom_72 rfl rfl
theorem dX2_copyFrom_80 : decode cX2_copyFrom 80 = .ok (.return_, 1) := dk177 (k := 8) bX2_copyFrom_72 rfl
theorem bX2_isTold_0 : bL cX2_isTold 0 [42, 180, 0, 43, 158, 0, 7, 4, 167, 0, 4, 3, 172] := bL_of (by decide +kernel)
theorem dX2_isTold_0 : decode cX2_isTold 0 = .ok (.aload_n 0, 1) := dk42 (k := 0) bX2_isTold_0 rfl
theorem dX2_isTold_1 : decode cX2_isTold 1 = .ok (.getfield 43, 3) := dk180 (k := 1) bX2_isTold_0 rfl rfl
theorem dX2_isTold_4 : decode cX2_isTold 4 = .ok (.ifCond .le 7, 3) := dk158 (k := 4) bX2_isTold_0 rfl (by decide)
theorem dX2_isTold_7 : decode cX2_isTold 7 = .ok (.iconst 1, 1) := dk4 (k := 7) bX2_isTold_0 rfl
theorem dX2_isTold_8 : decode cX2_isTold 8 = .ok (.goto 4, 3) := dk167 (k := 8) bX2_isTold_0 rfl (by decide)
theorem dX2_isTold_11 : decode cX2_isTold 11 = .ok (.iconst 0, 1) := dk3 (k := 11) bX2_isTold_0 rfl
theorem dX2_isTold_12 : decode cX2_isTold 12 = .ok (.ireturn, 1) := dk172 (k := 12) bX2_isTold_0 rfl
theorem bX2_hasSet_0 : bL cX2_hasSet 0 [42, 182, 0, 53, 153, 0, 24, 27, 155, 0, 20, 27, 4, 42, 180, 0, 21, 180, 0, 57, 120, 162, 0, 7] := bL_of (by decide +kernel)
theorem dX2_hasSet_0 : decode cX2_hasSet 0 = .ok (.aload_n 0, 1) := dk42 (k := 0) bX2_hasSet_0 rfl
theorem dX2_hasSet_1 : decode cX2_hasSet 1 = .ok (.invokevirtual 53, 3) := dk182 (k := 1) bX2_hasSet_0 rfl rfl
theorem dX2_hasSet_4 : decode cX2_hasSet 4 = .ok (.ifCond .eq 24, 3) := dk153 (k := 4) bX2_hasSet_0 rfl (by decide)
theorem dX2_hasSet_7 : decode cX2_hasSet 7 = .ok (.iload_n 1, 1) := dk27 (k := 7) bX2_hasSet_0 rfl
theorem dX2_hasSet_8 : decode cX2_hasSet 8 = .ok (.ifCond .lt 20, 3) := dk155 (k := 8) bX2_hasSet_0 rfl (by decide)
theorem dX2_hasSet_11 : decode cX2_hasSet 11 = .ok (.iload_n 1, 1) := dk27 (k := 11) bX2_hasSet_0 rfl
theorem dX2_hasSet_12 : decode cX2_hasSet 12 = .ok (.iconst 1, 1) := dk4 (k := 12) bX2_hasSet_0 rfl
theorem dX2_hasSet_13 : decode cX2_hasSet 13 = .ok (.aload_n 0, 1) := dk42 (k := 13) bX2_hasSet_0 rfl
theorem dX2_hasSet_14 : decode cX2_hasSet 14 = .ok (.getfield 21, 3) := dk180 (k := 14) bX2_hasSet_0 rfl rfl
theorem dX2_hasSet_17 : decode cX2_hasSet 17 = .ok (.getfield 57, 3) := dk180 (k := 17) bX2_hasSet_0 rfl rfl
theorem dX2_hasSet_20 : decode cX2_hasSet 20 = .ok (.ishl, 1) := dk120 (k := 20) bX2_hasSet_0 rfl
theorem dX2_hasSet_21 : decode cX2_hasSet 21 = .ok (.if_icmp .ge 7, 3) := dk162 (k := 21) bX2_hasSet_0 rfl (by decide)
theorem bX2_hasSet_24 : bL cX2_hasSet 24 [4, 167, 0, 4, 3, 172] := bL_of (by decide +kernel)
theorem dX2_hasSet_24 : decode cX2_hasSet 24 = .ok (.iconst 1, 1) := dk4 (k := 0) bX2_hasSet_24 rfl
theorem dX2_hasSet_25 : decode cX2_hasSet 25 = .ok (.goto 4, 3) := dk167 (k := 1) bX2_hasSet_24 rfl (by decide)
theorem dX2_hasSet_28 : decode cX2_hasSet 28 = .ok (.iconst 0, 1) := dk3 (k := 4) bX2_hasSet_24 rfl
theorem dX2_hasSet_29 : decode cX2_hasSet 29 = .ok (.ireturn, 1) := dk172 (k := 5) bX2_hasSet_24 rfl
theorem bX2_hasRoomForAct_0 : bL cX2_hasRoomForAct 0 [42, 180, 0, 33, 155, 0, 16, 42, 180, 0, 33, 16, 60, 162, 0, 7, 4, 167, 0, 4, 3, 172] := bL_of (by decide +kernel)
theorem dX2_hasRoomForAct_0 : decode cX2_hasRoomForAct 0 = .ok (.aload_n 0, 1) := dk42 (k := 0) bX2_hasRoomForAct_0 rfl
theorem dX2_hasRoomForAct_1 : decode cX2_hasRoomForAct 1 = .ok (.getfield 33, 3) := dk180 (k := 1) bX2_hasRoomForAct_0 rfl rfl
theorem dX2_hasRoomForAct_4 : decode cX2_hasRoomForAct 4 = .ok (.ifCond .lt 16, 3) := dk155 (k := 4) bX2_hasRoomForAct_0 rfl (by decide)
theorem dX2_hasRoomForAct_7 : decode cX2_hasRoomForAct 7 = .ok (.aload_n 0, 1) := dk42 (k := 7) bX2_hasRoomForAct_0 rfl
theorem dX2_hasRoomForAct_8 : decode cX2_hasRoomForAct 8 = .ok (.getfield 33, 3) := dk180 (k := 8) bX2_hasRoomForAct_0 rfl rfl
theorem dX2_hasRoomForAct_11 : decode cX2_hasRoomForAct 11 = .ok (.bipush 60, 2) := dk16 (k := 11) bX2_hasRoomForAct_0 rfl (by decide)
theorem dX2_hasRoomForAct_13 : decode cX2_hasRoomForAct 13 = .ok (.if_icmp .ge 7, 3) := dk162 (k := 13) bX2_hasRoomForAct_0 rfl (by decide)
theorem dX2_hasRoomForAct_16 : decode cX2_hasRoomForAct 16 = .ok (.iconst 1, 1) := dk4 (k := 16) bX2_hasRoomForAct_0 rfl
theorem dX2_hasRoomForAct_17 : decode cX2_hasRoomForAct 17 = .ok (.goto 4, 3) := dk167 (k := 17) bX2_hasRoomForAct_0 rfl (by decide)
theorem dX2_hasRoomForAct_20 : decode cX2_hasRoomForAct 20 = .ok (.iconst 0, 1) := dk3 (k := 20) bX2_hasRoomForAct_0 rfl
theorem dX2_hasRoomForAct_21 : decode cX2_hasRoomForAct 21 = .ok (.ireturn, 1) := dk172 (k := 21) bX2_hasRoomForAct_0 rfl
theorem bX2_act_0 : bL cX2_act 0 [42, 182, 0, 60, 153, 0, 36, 42, 180, 0, 12, 27, 28, 182, 0, 63, 42, 180, 0, 25, 42, 180, 0, 33] := bL_of (by decide +kernel)
theorem dX2_act_0 : decode cX2_act 0 = .ok (.aload_n 0, 1) := dk42 (k := 0) bX2_act_0 rfl
theorem dX2_act_1 : decode cX2_act 1 = .ok (.invokevirtual 60, 3) := dk182 (k := 1) bX2_act_0 rfl rfl
theorem dX2_act_4 : decode cX2_act 4 = .ok (.ifCond .eq 36, 3) := dk153 (k := 4) bX2_act_0 rfl (by decide)
theorem dX2_act_7 : decode cX2_act 7 = .ok (.aload_n 0, 1) := dk42 (k := 7) bX2_act_0 rfl
theorem dX2_act_8 : decode cX2_act 8 = .ok (.getfield 12, 3) := dk180 (k := 8) bX2_act_0 rfl rfl
theorem dX2_act_11 : decode cX2_act 11 = .ok (.iload_n 1, 1) := dk27 (k := 11) bX2_act_0 rfl
theorem dX2_act_12 : decode cX2_act 12 = .ok (.iload_n 2, 1) := dk28 (k := 12) bX2_act_0 rfl
theorem dX2_act_13 : decode cX2_act 13 = .ok (.invokevirtual 63, 3) := dk182 (k := 13) bX2_act_0 rfl rfl
theorem dX2_act_16 : decode cX2_act 16 = .ok (.aload_n 0, 1) := dk42 (k := 16) bX2_act_0 rfl
theorem dX2_act_17 : decode cX2_act 17 = .ok (.getfield 25, 3) := dk180 (k := 17) bX2_act_0 rfl rfl
theorem dX2_act_20 : decode cX2_act 20 = .ok (.aload_n 0, 1) := dk42 (k := 20) bX2_act_0 rfl
theorem dX2_act_21 : decode cX2_act 21 = .ok (.getfield 33, 3) := dk180 (k := 21) bX2_act_0 rfl rfl
theorem bX2_act_24 : bL cX2_act 24 [28, 27, 4, 96, 104, 79, 42, 89, 180, 0, 33, 4, 96, 181, 0, 33, 177] := bL_of (by decide +kernel)
theorem dX2_act_24 : decode cX2_act 24 = .ok (.iload_n 2, 1) := dk28 (k := 0) bX2_act_24 rfl
theorem dX2_act_25 : decode cX2_act 25 = .ok (.iload_n 1, 1) := dk27 (k := 1) bX2_act_24 rfl
theorem dX2_act_26 : decode cX2_act 26 = .ok (.iconst 1, 1) := dk4 (k := 2) bX2_act_24 rfl
theorem dX2_act_27 : decode cX2_act 27 = .ok (.iadd, 1) := dk96 (k := 3) bX2_act_24 rfl
theorem dX2_act_28 : decode cX2_act 28 = .ok (.imul, 1) := dk104 (k := 4) bX2_act_24 rfl
theorem dX2_act_29 : decode cX2_act 29 = .ok (.iastore, 1) := dk79 (k := 5) bX2_act_24 rfl
theorem dX2_act_30 : decode cX2_act 30 = .ok (.aload_n 0, 1) := dk42 (k := 6) bX2_act_24 rfl
theorem dX2_act_31 : decode cX2_act 31 = .ok (.dup, 1) := dk89 (k := 7) bX2_act_24 rfl
theorem dX2_act_32 : decode cX2_act 32 = .ok (.getfield 33, 3) := dk180 (k := 8) bX2_act_24 rfl rfl
theorem dX2_act_35 : decode cX2_act 35 = .ok (.iconst 1, 1) := dk4 (k := 11) bX2_act_24 rfl
theorem dX2_act_36 : decode cX2_act 36 = .ok (.iadd, 1) := dk96 (k := 12) bX2_act_24 rfl
theorem dX2_act_37 : decode cX2_act 37 = .ok (.putfield 33, 3) := dk181 (k := 13) bX2_act_24 rfl rfl
theorem dX2_act_40 : decode cX2_act 40 = .ok (.return_, 1) := dk177 (k := 16) bX2_act_24 rfl
theorem bX2_takeBack_0 : bL cX2_takeBack 0 [42, 180, 0, 33, 4, 161, 0, 12, 42, 180, 0, 33, 16, 60, 164, 0, 5, 3, 172, 42, 89, 180, 0, 33] := bL_of (by decide +kernel)
theorem dX2_takeBack_0 : decode cX2_takeBack 0 = .ok (.aload_n 0, 1) := dk42 (k := 0) bX2_takeBack_0 rfl
theorem dX2_takeBack_1 : decode cX2_takeBack 1 = .ok (.getfield 33, 3) := dk180 (k := 1) bX2_takeBack_0 rfl rfl
theorem dX2_takeBack_4 : decode cX2_takeBack 4 = .ok (.iconst 1, 1) := dk4 (k := 4) bX2_takeBack_0 rfl
theorem dX2_takeBack_5 : decode cX2_takeBack 5 = .ok (.if_icmp .lt 12, 3) := dk161 (k := 5) bX2_takeBack_0 rfl (by decide)
theorem dX2_takeBack_8 : decode cX2_takeBack 8 = .ok (.aload_n 0, 1) := dk42 (k := 8) bX2_takeBack_0 rfl
theorem dX2_takeBack_9 : decode cX2_takeBack 9 = .ok (.getfield 33, 3) := dk180 (k := 9) bX2_takeBack_0 rfl rfl
theorem dX2_takeBack_12 : decode cX2_takeBack 12 = .ok (.bipush 60, 2) := dk16 (k := 12) bX2_takeBack_0 rfl (by decide)
theorem dX2_takeBack_14 : decode cX2_takeBack 14 = .ok (.if_icmp .le 5, 3) := dk164 (k := 14) bX2_takeBack_0 rfl (by decide)
theorem dX2_takeBack_17 : decode cX2_takeBack 17 = .ok (.iconst 0, 1) := dk3 (k := 17) bX2_takeBack_0 rfl
theorem dX2_takeBack_18 : decode cX2_takeBack 18 = .ok (.ireturn, 1) := dk172 (k := 18) bX2_takeBack_0 rfl
theorem dX2_takeBack_19 : decode cX2_takeBack 19 = .ok (.aload_n 0, 1) := dk42 (k := 19) bX2_takeBack_0 rfl
theorem dX2_takeBack_20 : decode cX2_takeBack 20 = .ok (.dup, 1) := dk89 (k := 20) bX2_takeBack_0 rfl
theorem dX2_takeBack_21 : decode cX2_takeBack 21 = .ok (.getfield 33, 3) := dk180 (k := 21) bX2_takeBack_0 rfl rfl
theorem bX2_takeBack_24 : bL cX2_takeBack 24 [4, 100, 181, 0, 33, 42, 180, 0, 25, 42, 180, 0, 33, 46, 60, 27, 156, 0, 18, 42, 180, 0, 12, 27] := bL_of (by decide +kernel)
theorem dX2_takeBack_24 : decode cX2_takeBack 24 = .ok (.iconst 1, 1) := dk4 (k := 0) bX2_takeBack_24 rfl
theorem dX2_takeBack_25 : decode cX2_takeBack 25 = .ok (.isub, 1) := dk100 (k := 1) bX2_takeBack_24 rfl
theorem dX2_takeBack_26 : decode cX2_takeBack 26 = .ok (.putfield 33, 3) := dk181 (k := 2) bX2_takeBack_24 rfl rfl
theorem dX2_takeBack_29 : decode cX2_takeBack 29 = .ok (.aload_n 0, 1) := dk42 (k := 5) bX2_takeBack_24 rfl
theorem dX2_takeBack_30 : decode cX2_takeBack 30 = .ok (.getfield 25, 3) := dk180 (k := 6) bX2_takeBack_24 rfl rfl
theorem dX2_takeBack_33 : decode cX2_takeBack 33 = .ok (.aload_n 0, 1) := dk42 (k := 9) bX2_takeBack_24 rfl
theorem dX2_takeBack_34 : decode cX2_takeBack 34 = .ok (.getfield 33, 3) := dk180 (k := 10) bX2_takeBack_24 rfl rfl
theorem dX2_takeBack_37 : decode cX2_takeBack 37 = .ok (.iaload, 1) := dk46 (k := 13) bX2_takeBack_24 rfl
theorem dX2_takeBack_38 : decode cX2_takeBack 38 = .ok (.istore_n 1, 1) := dk60 (k := 14) bX2_takeBack_24 rfl
theorem dX2_takeBack_39 : decode cX2_takeBack 39 = .ok (.iload_n 1, 1) := dk27 (k := 15) bX2_takeBack_24 rfl
theorem dX2_takeBack_40 : decode cX2_takeBack 40 = .ok (.ifCond .ge 18, 3) := dk156 (k := 16) bX2_takeBack_24 rfl (by decide)
theorem dX2_takeBack_43 : decode cX2_takeBack 43 = .ok (.aload_n 0, 1) := dk42 (k := 19) bX2_takeBack_24 rfl
theorem dX2_takeBack_44 : decode cX2_takeBack 44 = .ok (.getfield 12, 3) := dk180 (k := 20) bX2_takeBack_24 rfl rfl
theorem dX2_takeBack_47 : decode cX2_takeBack 47 = .ok (.iload_n 1, 1) := dk27 (k := 23) bX2_takeBack_24 rfl
theorem bX2_takeBack_48 : bL cX2_takeBack 48 [116, 4, 100, 4, 182, 0, 63, 167, 0, 14, 42, 180, 0, 12, 27, 4, 100, 2, 182, 0, 63, 4, 172] := bL_of (by decide +kernel)
theorem dX2_takeBack_48 : decode cX2_takeBack 48 = .ok (.ineg, 1) := dk116 (k := 0) bX2_takeBack_48 rfl
theorem dX2_takeBack_49 : decode cX2_takeBack 49 = .ok (.iconst 1, 1) := dk4 (k := 1) bX2_takeBack_48 rfl
theorem dX2_takeBack_50 : decode cX2_takeBack 50 = .ok (.isub, 1) := dk100 (k := 2) bX2_takeBack_48 rfl
theorem dX2_takeBack_51 : decode cX2_takeBack 51 = .ok (.iconst 1, 1) := dk4 (k := 3) bX2_takeBack_48 rfl
theorem dX2_takeBack_52 : decode cX2_takeBack 52 = .ok (.invokevirtual 63, 3) := dk182 (k := 4) bX2_takeBack_48 rfl rfl
theorem dX2_takeBack_55 : decode cX2_takeBack 55 = .ok (.goto 14, 3) := dk167 (k := 7) bX2_takeBack_48 rfl (by decide)
theorem dX2_takeBack_58 : decode cX2_takeBack 58 = .ok (.aload_n 0, 1) := dk42 (k := 10) bX2_takeBack_48 rfl
theorem dX2_takeBack_59 : decode cX2_takeBack 59 = .ok (.getfield 12, 3) := dk180 (k := 11) bX2_takeBack_48 rfl rfl
theorem dX2_takeBack_62 : decode cX2_takeBack 62 = .ok (.iload_n 1, 1) := dk27 (k := 14) bX2_takeBack_48 rfl
theorem dX2_takeBack_63 : decode cX2_takeBack 63 = .ok (.iconst 1, 1) := dk4 (k := 15) bX2_takeBack_48 rfl
theorem dX2_takeBack_64 : decode cX2_takeBack 64 = .ok (.isub, 1) := dk100 (k := 16) bX2_takeBack_48 rfl
theorem dX2_takeBack_65 : decode cX2_takeBack 65 = .ok (.iconst (-1), 1) := dk2 (k := 17) bX2_takeBack_48 rfl
theorem dX2_takeBack_66 : decode cX2_takeBack 66 = .ok (.invokevirtual 63, 3) := dk182 (k := 18) bX2_takeBack_48 rfl rfl
theorem dX2_takeBack_69 : decode cX2_takeBack 69 = .ok (.iconst 1, 1) := dk4 (k := 21) bX2_takeBack_48 rfl
theorem dX2_takeBack_70 : decode cX2_takeBack 70 = .ok (.ireturn, 1) := dk172 (k := 22) bX2_takeBack_48 rfl
theorem bX2_isEnough_0 : bL cX2_isEnough 0 [42, 180, 0, 21, 42, 180, 0, 21, 27, 28, 182, 0, 67, 182, 0, 71, 42, 180, 0, 37, 161, 0, 7, 4] := bL_of (by decide +kernel)
theorem dX2_isEnough_0 : decode cX2_isEnough 0 = .ok (.aload_n 0, 1) := dk42 (k := 0) bX2_isEnough_0 rfl
theorem dX2_isEnough_1 : decode cX2_isEnough 1 = .ok (.getfield 21, 3) := dk180 (k := 1) bX2_isEnough_0 rfl rfl
theorem dX2_isEnough_4 : decode cX2_isEnough 4 = .ok (.aload_n 0, 1) := dk42 (k := 4) bX2_isEnough_0 rfl
theorem dX2_isEnough_5 : decode cX2_isEnough 5 = .ok (.getfield 21, 3) := dk180 (k := 5) bX2_isEnough_0 rfl rfl
theorem dX2_isEnough_8 : decode cX2_isEnough 8 = .ok (.iload_n 1, 1) := dk27 (k := 8) bX2_isEnough_0 rfl
theorem dX2_isEnough_9 : decode cX2_isEnough 9 = .ok (.iload_n 2, 1) := dk28 (k := 9) bX2_isEnough_0 rfl
theorem dX2_isEnough_10 : decode cX2_isEnough 10 = .ok (.invokevirtual 67, 3) := dk182 (k := 10) bX2_isEnough_0 rfl rfl
theorem dX2_isEnough_13 : decode cX2_isEnough 13 = .ok (.invokevirtual 71, 3) := dk182 (k := 13) bX2_isEnough_0 rfl rfl
theorem dX2_isEnough_16 : decode cX2_isEnough 16 = .ok (.aload_n 0, 1) := dk42 (k := 16) bX2_isEnough_0 rfl
theorem dX2_isEnough_17 : decode cX2_isEnough 17 = .ok (.getfield 37, 3) := dk180 (k := 17) bX2_isEnough_0 rfl rfl
theorem dX2_isEnough_20 : decode cX2_isEnough 20 = .ok (.if_icmp .lt 7, 3) := dk161 (k := 20) bX2_isEnough_0 rfl (by decide)
theorem dX2_isEnough_23 : decode cX2_isEnough 23 = .ok (.iconst 1, 1) := dk4 (k := 23) bX2_isEnough_0 rfl
theorem bX2_isEnough_24 : bL cX2_isEnough 24 [167, 0, 4, 3, 172] := bL_of (by decide +kernel)
theorem dX2_isEnough_24 : decode cX2_isEnough 24 = .ok (.goto 4, 3) := dk167 (k := 0) bX2_isEnough_24 rfl (by decide)
theorem dX2_isEnough_27 : decode cX2_isEnough 27 = .ok (.iconst 0, 1) := dk3 (k := 3) bX2_isEnough_24 rfl
theorem dX2_isEnough_28 : decode cX2_isEnough 28 = .ok (.ireturn, 1) := dk172 (k := 4) bX2_isEnough_24 rfl
theorem bX3_init_0 : bL cX3_init 0 [42, 183, 0, 3, 42, 16, 56] := bL_of (by decide +kernel)
theorem dX3_init_0 : decode cX3_init 0 = .ok (.aload_n 0, 1) := dk42 (k := 0) bX3_init_0 rfl
theorem dX3_init_1 : decode cX3_init 1 = .ok (.invokespecial 3, 3) := dk183 (k := 1) bX3_init_0 rfl rfl
theorem dX3_init_4 : decode cX3_init 4 = .ok (.aload_n 0, 1) := dk42 (k := 4) bX3_init_0 rfl
theorem dX3_init_5 : decode cX3_init 5 = .ok (.bipush 56, 2) := dk16 (k := 5) bX3_init_0 rfl (by decide)
theorem dX3_init_7 : decode cX3_init 7 = .ok (.newarray .int, 2) := by decide +kernel
theorem bX3_init_9 : bL cX3_init 9 [181, 0, 9, 42, 16, 8] := bL_of (by decide +kernel)
theorem dX3_init_9 : decode cX3_init 9 = .ok (.putfield 9, 3) := dk181 (k := 0) bX3_init_9 rfl rfl
theorem dX3_init_12 : decode cX3_init 12 = .ok (.aload_n 0, 1) := dk42 (k := 3) bX3_init_9 rfl
theorem dX3_init_13 : decode cX3_init 13 = .ok (.bipush 8, 2) := dk16 (k := 4) bX3_init_9 rfl (by decide)
theorem dX3_init_15 : decode cX3_init 15 = .ok (.newarray .int, 2) := by decide +kernel
theorem bX3_init_17 : bL cX3_init 17 [181, 0, 15, 42, 16, 8] := bL_of (by decide +kernel)
theorem dX3_init_17 : decode cX3_init 17 = .ok (.putfield 15, 3) := dk181 (k := 0) bX3_init_17 rfl rfl
theorem dX3_init_20 : decode cX3_init 20 = .ok (.aload_n 0, 1) := dk42 (k := 3) bX3_init_17 rfl
theorem dX3_init_21 : decode cX3_init 21 = .ok (.bipush 8, 2) := dk16 (k := 4) bX3_init_17 rfl (by decide)
theorem dX3_init_23 : decode cX3_init 23 = .ok (.newarray .int, 2) := by decide +kernel
theorem bX3_init_25 : bL cX3_init 25 [181, 0, 18, 177] := bL_of (by decide +kernel)
theorem dX3_init_25 : decode cX3_init 25 = .ok (.putfield 18, 3) := dk181 (k := 0) bX3_init_25 rfl rfl
theorem dX3_init_28 : decode cX3_init 28 = .ok (.return_, 1) := dk177 (k := 3) bX3_init_25 rfl
theorem bX3_clear_0 : bL cX3_clear 0 [42, 3, 181, 0, 21, 3, 60, 27, 42, 180, 0, 9, 190, 162, 0, 16, 42, 180, 0, 9, 27, 3, 79, 132, 1, 1] := bL_of (by decide +kernel)
theorem dX3_clear_0 : decode cX3_clear 0 = .ok (.aload_n 0, 1) := dk42 (k := 0) bX3_clear_0 rfl
theorem dX3_clear_1 : decode cX3_clear 1 = .ok (.iconst 0, 1) := dk3 (k := 1) bX3_clear_0 rfl
theorem dX3_clear_2 : decode cX3_clear 2 = .ok (.putfield 21, 3) := dk181 (k := 2) bX3_clear_0 rfl rfl
theorem dX3_clear_5 : decode cX3_clear 5 = .ok (.iconst 0, 1) := dk3 (k := 5) bX3_clear_0 rfl
theorem dX3_clear_6 : decode cX3_clear 6 = .ok (.istore_n 1, 1) := dk60 (k := 6) bX3_clear_0 rfl
theorem dX3_clear_7 : decode cX3_clear 7 = .ok (.iload_n 1, 1) := dk27 (k := 7) bX3_clear_0 rfl
theorem dX3_clear_8 : decode cX3_clear 8 = .ok (.aload_n 0, 1) := dk42 (k := 8) bX3_clear_0 rfl
theorem dX3_clear_9 : decode cX3_clear 9 = .ok (.getfield 9, 3) := dk180 (k := 9) bX3_clear_0 rfl rfl
theorem dX3_clear_12 : decode cX3_clear 12 = .ok (.arraylength, 1) := dk190 (k := 12) bX3_clear_0 rfl
theorem dX3_clear_13 : decode cX3_clear 13 = .ok (.if_icmp .ge 16, 3) := dk162 (k := 13) bX3_clear_0 rfl (by decide)
theorem dX3_clear_16 : decode cX3_clear 16 = .ok (.aload_n 0, 1) := dk42 (k := 16) bX3_clear_0 rfl
theorem dX3_clear_17 : decode cX3_clear 17 = .ok (.getfield 9, 3) := dk180 (k := 17) bX3_clear_0 rfl rfl
theorem dX3_clear_20 : decode cX3_clear 20 = .ok (.iload_n 1, 1) := dk27 (k := 20) bX3_clear_0 rfl
theorem dX3_clear_21 : decode cX3_clear 21 = .ok (.iconst 0, 1) := dk3 (k := 21) bX3_clear_0 rfl
theorem dX3_clear_22 : decode cX3_clear 22 = .ok (.iastore, 1) := dk79 (k := 22) bX3_clear_0 rfl
theorem dX3_clear_23 : decode cX3_clear 23 = .ok (.iinc 1 1, 3) := dk132 (k := 23) bX3_clear_0 rfl rfl (by decide)
theorem bX3_clear_26 : bL cX3_clear 26 [167, 255, 237, 177] := bL_of (by decide +kernel)
theorem dX3_clear_26 : decode cX3_clear 26 = .ok (.goto (-19), 3) := dk167 (k := 0) bX3_clear_26 rfl (by decide)
theorem dX3_clear_29 : decode cX3_clear 29 = .ok (.return_, 1) := dk177 (k := 3) bX3_clear_26 rfl
theorem bX3_copyFrom_0 : bL cX3_copyFrom 0 [3, 61, 28, 42, 180, 0, 9, 190, 162, 0, 21, 42, 180, 0, 9, 28, 43, 180, 0, 9, 28, 46, 79, 132, 2, 1] := bL_of (by decide +kernel)
theorem dX3_copyFrom_0 : decode cX3_copyFrom 0 = .ok (.iconst 0, 1) := dk3 (k := 0) bX3_copyFrom_0 rfl
theorem dX3_copyFrom_1 : decode cX3_copyFrom 1 = .ok (.istore_n 2, 1) := dk61 (k := 1) bX3_copyFrom_0 rfl
theorem dX3_copyFrom_2 : decode cX3_copyFrom 2 = .ok (.iload_n 2, 1) := dk28 (k := 2) bX3_copyFrom_0 rfl
theorem dX3_copyFrom_3 : decode cX3_copyFrom 3 = .ok (.aload_n 0, 1) := dk42 (k := 3) bX3_copyFrom_0 rfl
theorem dX3_copyFrom_4 : decode cX3_copyFrom 4 = .ok (.getfield 9, 3) := dk180 (k := 4) bX3_copyFrom_0 rfl rfl
theorem dX3_copyFrom_7 : decode cX3_copyFrom 7 = .ok (.arraylength, 1) := dk190 (k := 7) bX3_copyFrom_0 rfl
theorem dX3_copyFrom_8 : decode cX3_copyFrom 8 = .ok (.if_icmp .ge 21, 3) := dk162 (k := 8) bX3_copyFrom_0 rfl (by decide)
theorem dX3_copyFrom_11 : decode cX3_copyFrom 11 = .ok (.aload_n 0, 1) := dk42 (k := 11) bX3_copyFrom_0 rfl
theorem dX3_copyFrom_12 : decode cX3_copyFrom 12 = .ok (.getfield 9, 3) := dk180 (k := 12) bX3_copyFrom_0 rfl rfl
theorem dX3_copyFrom_15 : decode cX3_copyFrom 15 = .ok (.iload_n 2, 1) := dk28 (k := 15) bX3_copyFrom_0 rfl
theorem dX3_copyFrom_16 : decode cX3_copyFrom 16 = .ok (.aload_n 1, 1) := dk43 (k := 16) bX3_copyFrom_0 rfl
theorem dX3_copyFrom_17 : decode cX3_copyFrom 17 = .ok (.getfield 9, 3) := dk180 (k := 17) bX3_copyFrom_0 rfl rfl
theorem dX3_copyFrom_20 : decode cX3_copyFrom 20 = .ok (.iload_n 2, 1) := dk28 (k := 20) bX3_copyFrom_0 rfl
theorem dX3_copyFrom_21 : decode cX3_copyFrom 21 = .ok (.iaload, 1) := dk46 (k := 21) bX3_copyFrom_0 rfl
theorem dX3_copyFrom_22 : decode cX3_copyFrom 22 = .ok (.iastore, 1) := dk79 (k := 22) bX3_copyFrom_0 rfl
theorem dX3_copyFrom_23 : decode cX3_copyFrom 23 = .ok (.iinc 2 1, 3) := dk132 (k := 23) bX3_copyFrom_0 rfl rfl (by decide)
theorem bX3_copyFrom_26 : bL cX3_copyFrom 26 [167, 255, 232, 42, 43, 180, 0, 21, 181, 0, 21, 177] := bL_of (by decide +kernel)
theorem dX3_copyFrom_26 : decode cX3_copyFrom 26 = .ok (.goto (-24), 3) := dk167 (k := 0) bX3_copyFrom_26 rfl (by decide)
theorem dX3_copyFrom_29 : decode cX3_copyFrom 29 = .ok (.aload_n 0, 1) := dk42 (k := 3) bX3_copyFrom_26 rfl
theorem dX3_copyFrom_30 : decode cX3_copyFrom 30 = .ok (.aload_n 1, 1) := dk43 (k := 4) bX3_copyFrom_26 rfl
theorem dX3_copyFrom_31 : decode cX3_copyFrom 31 = .ok (.getfield 21, 3) := dk180 (k := 5) bX3_copyFrom_26 rfl rfl
theorem dX3_copyFrom_34 : decode cX3_copyFrom 34 = .ok (.putfield 21, 3) := dk181 (k := 8) bX3_copyFrom_26 rfl rfl
theorem dX3_copyFrom_37 : decode cX3_copyFrom 37 = .ok (.return_, 1) := dk177 (k := 11) bX3_copyFrom_26 rfl
theorem bX3_has_0 : bL cX3_has 0 [27, 155, 0, 21, 27, 42, 180, 0, 21, 162, 0, 13, 27, 16, 8, 162, 0, 7, 4, 167, 0, 4, 3, 172] := bL_of (by decide +kernel)
theorem dX3_has_0 : decode cX3_has 0 = .ok (.iload_n 1, 1) := dk27 (k := 0) bX3_has_0 rfl
theorem dX3_has_1 : decode cX3_has 1 = .ok (.ifCond .lt 21, 3) := dk155 (k := 1) bX3_has_0 rfl (by decide)
theorem dX3_has_4 : decode cX3_has 4 = .ok (.iload_n 1, 1) := dk27 (k := 4) bX3_has_0 rfl
theorem dX3_has_5 : decode cX3_has 5 = .ok (.aload_n 0, 1) := dk42 (k := 5) bX3_has_0 rfl
theorem dX3_has_6 : decode cX3_has 6 = .ok (.getfield 21, 3) := dk180 (k := 6) bX3_has_0 rfl rfl
theorem dX3_has_9 : decode cX3_has 9 = .ok (.if_icmp .ge 13, 3) := dk162 (k := 9) bX3_has_0 rfl (by decide)
theorem dX3_has_12 : decode cX3_has 12 = .ok (.iload_n 1, 1) := dk27 (k := 12) bX3_has_0 rfl
theorem dX3_has_13 : decode cX3_has 13 = .ok (.bipush 8, 2) := dk16 (k := 13) bX3_has_0 rfl (by decide)
theorem dX3_has_15 : decode cX3_has 15 = .ok (.if_icmp .ge 7, 3) := dk162 (k := 15) bX3_has_0 rfl (by decide)
theorem dX3_has_18 : decode cX3_has 18 = .ok (.iconst 1, 1) := dk4 (k := 18) bX3_has_0 rfl
theorem dX3_has_19 : decode cX3_has 19 = .ok (.goto 4, 3) := dk167 (k := 19) bX3_has_0 rfl (by decide)
theorem dX3_has_22 : decode cX3_has 22 = .ok (.iconst 0, 1) := dk3 (k := 22) bX3_has_0 rfl
theorem dX3_has_23 : decode cX3_has 23 = .ok (.ireturn, 1) := dk172 (k := 23) bX3_has_0 rfl
theorem bX3_fact_0 : bL cX3_fact 0 [27, 155, 0, 23, 27, 16, 8, 162, 0, 17, 28, 155, 0, 13, 28, 16, 7, 162, 0, 7, 4, 167, 0, 4] := bL_of (by decide +kernel)
theorem dX3_fact_0 : decode cX3_fact 0 = .ok (.iload_n 1, 1) := dk27 (k := 0) bX3_fact_0 rfl
theorem dX3_fact_1 : decode cX3_fact 1 = .ok (.ifCond .lt 23, 3) := dk155 (k := 1) bX3_fact_0 rfl (by decide)
theorem dX3_fact_4 : decode cX3_fact 4 = .ok (.iload_n 1, 1) := dk27 (k := 4) bX3_fact_0 rfl
theorem dX3_fact_5 : decode cX3_fact 5 = .ok (.bipush 8, 2) := dk16 (k := 5) bX3_fact_0 rfl (by decide)
theorem dX3_fact_7 : decode cX3_fact 7 = .ok (.if_icmp .ge 17, 3) := dk162 (k := 7) bX3_fact_0 rfl (by decide)
theorem dX3_fact_10 : decode cX3_fact 10 = .ok (.iload_n 2, 1) := dk28 (k := 10) bX3_fact_0 rfl
theorem dX3_fact_11 : decode cX3_fact 11 = .ok (.ifCond .lt 13, 3) := dk155 (k := 11) bX3_fact_0 rfl (by decide)
theorem dX3_fact_14 : decode cX3_fact 14 = .ok (.iload_n 2, 1) := dk28 (k := 14) bX3_fact_0 rfl
theorem dX3_fact_15 : decode cX3_fact 15 = .ok (.bipush 7, 2) := dk16 (k := 15) bX3_fact_0 rfl (by decide)
theorem dX3_fact_17 : decode cX3_fact 17 = .ok (.if_icmp .ge 7, 3) := dk162 (k := 17) bX3_fact_0 rfl (by decide)
theorem dX3_fact_20 : decode cX3_fact 20 = .ok (.iconst 1, 1) := dk4 (k := 20) bX3_fact_0 rfl
theorem dX3_fact_21 : decode cX3_fact 21 = .ok (.goto 4, 3) := dk167 (k := 21) bX3_fact_0 rfl (by decide)
theorem bX3_fact_24 : bL cX3_fact 24 [3, 62, 29, 153, 0, 17, 42, 180, 0, 9, 27, 16, 7, 104, 28, 96, 46, 167, 0, 4, 3, 172] := bL_of (by decide +kernel)
theorem dX3_fact_24 : decode cX3_fact 24 = .ok (.iconst 0, 1) := dk3 (k := 0) bX3_fact_24 rfl
theorem dX3_fact_25 : decode cX3_fact 25 = .ok (.istore_n 3, 1) := dk62 (k := 1) bX3_fact_24 rfl
theorem dX3_fact_26 : decode cX3_fact 26 = .ok (.iload_n 3, 1) := dk29 (k := 2) bX3_fact_24 rfl
theorem dX3_fact_27 : decode cX3_fact 27 = .ok (.ifCond .eq 17, 3) := dk153 (k := 3) bX3_fact_24 rfl (by decide)
theorem dX3_fact_30 : decode cX3_fact 30 = .ok (.aload_n 0, 1) := dk42 (k := 6) bX3_fact_24 rfl
theorem dX3_fact_31 : decode cX3_fact 31 = .ok (.getfield 9, 3) := dk180 (k := 7) bX3_fact_24 rfl rfl
theorem dX3_fact_34 : decode cX3_fact 34 = .ok (.iload_n 1, 1) := dk27 (k := 10) bX3_fact_24 rfl
theorem dX3_fact_35 : decode cX3_fact 35 = .ok (.bipush 7, 2) := dk16 (k := 11) bX3_fact_24 rfl (by decide)
theorem dX3_fact_37 : decode cX3_fact 37 = .ok (.imul, 1) := dk104 (k := 13) bX3_fact_24 rfl
theorem dX3_fact_38 : decode cX3_fact 38 = .ok (.iload_n 2, 1) := dk28 (k := 14) bX3_fact_24 rfl
theorem dX3_fact_39 : decode cX3_fact 39 = .ok (.iadd, 1) := dk96 (k := 15) bX3_fact_24 rfl
theorem dX3_fact_40 : decode cX3_fact 40 = .ok (.iaload, 1) := dk46 (k := 16) bX3_fact_24 rfl
theorem dX3_fact_41 : decode cX3_fact 41 = .ok (.goto 4, 3) := dk167 (k := 17) bX3_fact_24 rfl (by decide)
theorem dX3_fact_44 : decode cX3_fact 44 = .ok (.iconst 0, 1) := dk3 (k := 20) bX3_fact_24 rfl
theorem dX3_fact_45 : decode cX3_fact 45 = .ok (.ireturn, 1) := dk172 (k := 21) bX3_fact_24 rfl
theorem bX3_setFact_0 : bL cX3_setFact 0 [27, 155, 0, 31, 27, 16, 8, 162, 0, 25, 28, 155, 0, 21, 28, 16, 7, 162, 0, 15, 42, 180, 0, 9] := bL_of (by decide +kernel)
theorem dX3_setFact_0 : decode cX3_setFact 0 = .ok (.iload_n 1, 1) := dk27 (k := 0) bX3_setFact_0 rfl
theorem dX3_setFact_1 : decode cX3_setFact 1 = .ok (.ifCond .lt 31, 3) := dk155 (k := 1) bX3_setFact_0 rfl (by decide)
theorem dX3_setFact_4 : decode cX3_setFact 4 = .ok (.iload_n 1, 1) := dk27 (k := 4) bX3_setFact_0 rfl
theorem dX3_setFact_5 : decode cX3_setFact 5 = .ok (.bipush 8, 2) := dk16 (k := 5) bX3_setFact_0 rfl (by decide)
theorem dX3_setFact_7 : decode cX3_setFact 7 = .ok (.if_icmp .ge 25, 3) := dk162 (k := 7) bX3_setFact_0 rfl (by decide)
theorem dX3_setFact_10 : decode cX3_setFact 10 = .ok (.iload_n 2, 1) := dk28 (k := 10) bX3_setFact_0 rfl
theorem dX3_setFact_11 : decode cX3_setFact 11 = .ok (.ifCond .lt 21, 3) := dk155 (k := 11) bX3_setFact_0 rfl (by decide)
theorem dX3_setFact_14 : decode cX3_setFact 14 = .ok (.iload_n 2, 1) := dk28 (k := 14) bX3_setFact_0 rfl
theorem dX3_setFact_15 : decode cX3_setFact 15 = .ok (.bipush 7, 2) := dk16 (k := 15) bX3_setFact_0 rfl (by decide)
theorem dX3_setFact_17 : decode cX3_setFact 17 = .ok (.if_icmp .ge 15, 3) := dk162 (k := 17) bX3_setFact_0 rfl (by decide)
theorem dX3_setFact_20 : decode cX3_setFact 20 = .ok (.aload_n 0, 1) := dk42 (k := 20) bX3_setFact_0 rfl
theorem dX3_setFact_21 : decode cX3_setFact 21 = .ok (.getfield 9, 3) := dk180 (k := 21) bX3_setFact_0 rfl rfl
theorem bX3_setFact_24 : bL cX3_setFact 24 [27, 16, 7, 104, 28, 96, 29, 79, 177] := bL_of (by decide +kernel)
theorem dX3_setFact_24 : decode cX3_setFact 24 = .ok (.iload_n 1, 1) := dk27 (k := 0) bX3_setFact_24 rfl
theorem dX3_setFact_25 : decode cX3_setFact 25 = .ok (.bipush 7, 2) := dk16 (k := 1) bX3_setFact_24 rfl (by decide)
theorem dX3_setFact_27 : decode cX3_setFact 27 = .ok (.imul, 1) := dk104 (k := 3) bX3_setFact_24 rfl
theorem dX3_setFact_28 : decode cX3_setFact 28 = .ok (.iload_n 2, 1) := dk28 (k := 4) bX3_setFact_24 rfl
theorem dX3_setFact_29 : decode cX3_setFact 29 = .ok (.iadd, 1) := dk96 (k := 5) bX3_setFact_24 rfl
theorem dX3_setFact_30 : decode cX3_setFact 30 = .ok (.iload_n 3, 1) := dk29 (k := 6) bX3_setFact_24 rfl
theorem dX3_setFact_31 : decode cX3_setFact 31 = .ok (.iastore, 1) := dk79 (k := 7) bX3_setFact_24 rfl
theorem dX3_setFact_32 : decode cX3_setFact 32 = .ok (.return_, 1) := dk177 (k := 8) bX3_setFact_24 rfl
theorem bX3_befriend_0 : bL cX3_befriend 0 [42, 27, 16, 6, 42, 27, 16, 6, 182, 0, 25, 4, 28, 120, 128, 182, 0, 29, 42, 28, 16, 6, 42, 28] := bL_of (by decide +kernel)
theorem dX3_befriend_0 : decode cX3_befriend 0 = .ok (.aload_n 0, 1) := dk42 (k := 0) bX3_befriend_0 rfl
theorem dX3_befriend_1 : decode cX3_befriend 1 = .ok (.iload_n 1, 1) := dk27 (k := 1) bX3_befriend_0 rfl
theorem dX3_befriend_2 : decode cX3_befriend 2 = .ok (.bipush 6, 2) := dk16 (k := 2) bX3_befriend_0 rfl (by decide)
theorem dX3_befriend_4 : decode cX3_befriend 4 = .ok (.aload_n 0, 1) := dk42 (k := 4) bX3_befriend_0 rfl
theorem dX3_befriend_5 : decode cX3_befriend 5 = .ok (.iload_n 1, 1) := dk27 (k := 5) bX3_befriend_0 rfl
theorem dX3_befriend_6 : decode cX3_befriend 6 = .ok (.bipush 6, 2) := dk16 (k := 6) bX3_befriend_0 rfl (by decide)
theorem dX3_befriend_8 : decode cX3_befriend 8 = .ok (.invokevirtual 25, 3) := dk182 (k := 8) bX3_befriend_0 rfl rfl
theorem dX3_befriend_11 : decode cX3_befriend 11 = .ok (.iconst 1, 1) := dk4 (k := 11) bX3_befriend_0 rfl
theorem dX3_befriend_12 : decode cX3_befriend 12 = .ok (.iload_n 2, 1) := dk28 (k := 12) bX3_befriend_0 rfl
theorem dX3_befriend_13 : decode cX3_befriend 13 = .ok (.ishl, 1) := dk120 (k := 13) bX3_befriend_0 rfl
theorem dX3_befriend_14 : decode cX3_befriend 14 = .ok (.ior, 1) := dk128 (k := 14) bX3_befriend_0 rfl
theorem dX3_befriend_15 : decode cX3_befriend 15 = .ok (.invokevirtual 29, 3) := dk182 (k := 15) bX3_befriend_0 rfl rfl
theorem dX3_befriend_18 : decode cX3_befriend 18 = .ok (.aload_n 0, 1) := dk42 (k := 18) bX3_befriend_0 rfl
theorem dX3_befriend_19 : decode cX3_befriend 19 = .ok (.iload_n 2, 1) := dk28 (k := 19) bX3_befriend_0 rfl
theorem dX3_befriend_20 : decode cX3_befriend 20 = .ok (.bipush 6, 2) := dk16 (k := 20) bX3_befriend_0 rfl (by decide)
theorem dX3_befriend_22 : decode cX3_befriend 22 = .ok (.aload_n 0, 1) := dk42 (k := 22) bX3_befriend_0 rfl
theorem dX3_befriend_23 : decode cX3_befriend 23 = .ok (.iload_n 2, 1) := dk28 (k := 23) bX3_befriend_0 rfl
theorem bX3_befriend_24 : bL cX3_befriend 24 [16, 6, 182, 0, 25, 4, 27, 120, 128, 182, 0, 29, 177] := bL_of (by decide +kernel)
theorem dX3_befriend_24 : decode cX3_befriend 24 = .ok (.bipush 6, 2) := dk16 (k := 0) bX3_befriend_24 rfl (by decide)
theorem dX3_befriend_26 : decode cX3_befriend 26 = .ok (.invokevirtual 25, 3) := dk182 (k := 2) bX3_befriend_24 rfl rfl
theorem dX3_befriend_29 : decode cX3_befriend 29 = .ok (.iconst 1, 1) := dk4 (k := 5) bX3_befriend_24 rfl
theorem dX3_befriend_30 : decode cX3_befriend 30 = .ok (.iload_n 1, 1) := dk27 (k := 6) bX3_befriend_24 rfl
theorem dX3_befriend_31 : decode cX3_befriend 31 = .ok (.ishl, 1) := dk120 (k := 7) bX3_befriend_24 rfl
theorem dX3_befriend_32 : decode cX3_befriend 32 = .ok (.ior, 1) := dk128 (k := 8) bX3_befriend_24 rfl
theorem dX3_befriend_33 : decode cX3_befriend 33 = .ok (.invokevirtual 29, 3) := dk182 (k := 9) bX3_befriend_24 rfl rfl
theorem dX3_befriend_36 : decode cX3_befriend 36 = .ok (.return_, 1) := dk177 (k := 12) bX3_befriend_24 rfl
theorem bX3_gainOn_0 : bL cX3_gainOn 0 [42, 43, 42, 180, 0, 18, 3, 182, 0, 33, 28, 155, 0, 18, 28, 16, 8, 162, 0, 12, 42, 180, 0, 18] := bL_of (by decide +kernel)
theorem dX3_gainOn_0 : decode cX3_gainOn 0 = .ok (.aload_n 0, 1) := dk42 (k := 0) bX3_gainOn_0 rfl
theorem dX3_gainOn_1 : decode cX3_gainOn 1 = .ok (.aload_n 1, 1) := dk43 (k := 1) bX3_gainOn_0 rfl
theorem dX3_gainOn_2 : decode cX3_gainOn 2 = .ok (.aload_n 0, 1) := dk42 (k := 2) bX3_gainOn_0 rfl
theorem dX3_gainOn_3 : decode cX3_gainOn 3 = .ok (.getfield 18, 3) := dk180 (k := 3) bX3_gainOn_0 rfl rfl
theorem dX3_gainOn_6 : decode cX3_gainOn 6 = .ok (.iconst 0, 1) := dk3 (k := 6) bX3_gainOn_0 rfl
theorem dX3_gainOn_7 : decode cX3_gainOn 7 = .ok (.invokevirtual 33, 3) := dk182 (k := 7) bX3_gainOn_0 rfl rfl
theorem dX3_gainOn_10 : decode cX3_gainOn 10 = .ok (.iload_n 2, 1) := dk28 (k := 10) bX3_gainOn_0 rfl
theorem dX3_gainOn_11 : decode cX3_gainOn 11 = .ok (.ifCond .lt 18, 3) := dk155 (k := 11) bX3_gainOn_0 rfl (by decide)
theorem dX3_gainOn_14 : decode cX3_gainOn 14 = .ok (.iload_n 2, 1) := dk28 (k := 14) bX3_gainOn_0 rfl
theorem dX3_gainOn_15 : decode cX3_gainOn 15 = .ok (.bipush 8, 2) := dk16 (k := 15) bX3_gainOn_0 rfl (by decide)
theorem dX3_gainOn_17 : decode cX3_gainOn 17 = .ok (.if_icmp .ge 12, 3) := dk162 (k := 17) bX3_gainOn_0 rfl (by decide)
theorem dX3_gainOn_20 : decode cX3_gainOn 20 = .ok (.aload_n 0, 1) := dk42 (k := 20) bX3_gainOn_0 rfl
theorem dX3_gainOn_21 : decode cX3_gainOn 21 = .ok (.getfield 18, 3) := dk180 (k := 21) bX3_gainOn_0 rfl rfl
theorem bX3_gainOn_24 : bL cX3_gainOn 24 [28, 46, 167, 0, 4, 3, 172] := bL_of (by decide +kernel)
theorem dX3_gainOn_24 : decode cX3_gainOn 24 = .ok (.iload_n 2, 1) := dk28 (k := 0) bX3_gainOn_24 rfl
theorem dX3_gainOn_25 : decode cX3_gainOn 25 = .ok (.iaload, 1) := dk46 (k := 1) bX3_gainOn_24 rfl
theorem dX3_gainOn_26 : decode cX3_gainOn 26 = .ok (.goto 4, 3) := dk167 (k := 2) bX3_gainOn_24 rfl (by decide)
theorem dX3_gainOn_29 : decode cX3_gainOn 29 = .ok (.iconst 0, 1) := dk3 (k := 5) bX3_gainOn_24 rfl
theorem dX3_gainOn_30 : decode cX3_gainOn 30 = .ok (.ireturn, 1) := dk172 (k := 6) bX3_gainOn_24 rfl
theorem bX3_gainsOn_0 : bL cX3_gainsOn 0 [42, 43, 42, 180, 0, 18, 3, 182, 0, 33, 3, 61, 3, 62, 29, 42, 180, 0, 21, 162, 0, 24, 29, 16, 8] := bL_of (by decide +kernel)
theorem dX3_gainsOn_0 : decode cX3_gainsOn 0 = .ok (.aload_n 0, 1) := dk42 (k := 0) bX3_gainsOn_0 rfl
theorem dX3_gainsOn_1 : decode cX3_gainsOn 1 = .ok (.aload_n 1, 1) := dk43 (k := 1) bX3_gainsOn_0 rfl
theorem dX3_gainsOn_2 : decode cX3_gainsOn 2 = .ok (.aload_n 0, 1) := dk42 (k := 2) bX3_gainsOn_0 rfl
theorem dX3_gainsOn_3 : decode cX3_gainsOn 3 = .ok (.getfield 18, 3) := dk180 (k := 3) bX3_gainsOn_0 rfl rfl
theorem dX3_gainsOn_6 : decode cX3_gainsOn 6 = .ok (.iconst 0, 1) := dk3 (k := 6) bX3_gainsOn_0 rfl
theorem dX3_gainsOn_7 : decode cX3_gainsOn 7 = .ok (.invokevirtual 33, 3) := dk182 (k := 7) bX3_gainsOn_0 rfl rfl
theorem dX3_gainsOn_10 : decode cX3_gainsOn 10 = .ok (.iconst 0, 1) := dk3 (k := 10) bX3_gainsOn_0 rfl
theorem dX3_gainsOn_11 : decode cX3_gainsOn 11 = .ok (.istore_n 2, 1) := dk61 (k := 11) bX3_gainsOn_0 rfl
theorem dX3_gainsOn_12 : decode cX3_gainsOn 12 = .ok (.iconst 0, 1) := dk3 (k := 12) bX3_gainsOn_0 rfl
theorem dX3_gainsOn_13 : decode cX3_gainsOn 13 = .ok (.istore_n 3, 1) := dk62 (k := 13) bX3_gainsOn_0 rfl
theorem dX3_gainsOn_14 : decode cX3_gainsOn 14 = .ok (.iload_n 3, 1) := dk29 (k := 14) bX3_gainsOn_0 rfl
theorem dX3_gainsOn_15 : decode cX3_gainsOn 15 = .ok (.aload_n 0, 1) := dk42 (k := 15) bX3_gainsOn_0 rfl
theorem dX3_gainsOn_16 : decode cX3_gainsOn 16 = .ok (.getfield 21, 3) := dk180 (k := 16) bX3_gainsOn_0 rfl rfl
theorem dX3_gainsOn_19 : decode cX3_gainsOn 19 = .ok (.if_icmp .ge 24, 3) := dk162 (k := 19) bX3_gainsOn_0 rfl (by decide)
theorem dX3_gainsOn_22 : decode cX3_gainsOn 22 = .ok (.iload_n 3, 1) := dk29 (k := 22) bX3_gainsOn_0 rfl
theorem dX3_gainsOn_23 : decode cX3_gainsOn 23 = .ok (.bipush 8, 2) := dk16 (k := 23) bX3_gainsOn_0 rfl (by decide)
theorem bX3_gainsOn_25 : bL cX3_gainsOn 25 [162, 0, 18, 28, 42, 180, 0, 18, 29, 46, 96, 61, 132, 3, 1, 167, 255, 230, 28, 172] := bL_of (by decide +kernel)
theorem dX3_gainsOn_25 : decode cX3_gainsOn 25 = .ok (.if_icmp .ge 18, 3) := dk162 (k := 0) bX3_gainsOn_25 rfl (by decide)
theorem dX3_gainsOn_28 : decode cX3_gainsOn 28 = .ok (.iload_n 2, 1) := dk28 (k := 3) bX3_gainsOn_25 rfl
theorem dX3_gainsOn_29 : decode cX3_gainsOn 29 = .ok (.aload_n 0, 1) := dk42 (k := 4) bX3_gainsOn_25 rfl
theorem dX3_gainsOn_30 : decode cX3_gainsOn 30 = .ok (.getfield 18, 3) := dk180 (k := 5) bX3_gainsOn_25 rfl rfl
theorem dX3_gainsOn_33 : decode cX3_gainsOn 33 = .ok (.iload_n 3, 1) := dk29 (k := 8) bX3_gainsOn_25 rfl
theorem dX3_gainsOn_34 : decode cX3_gainsOn 34 = .ok (.iaload, 1) := dk46 (k := 9) bX3_gainsOn_25 rfl
theorem dX3_gainsOn_35 : decode cX3_gainsOn 35 = .ok (.iadd, 1) := dk96 (k := 10) bX3_gainsOn_25 rfl
theorem dX3_gainsOn_36 : decode cX3_gainsOn 36 = .ok (.istore_n 2, 1) := dk61 (k := 11) bX3_gainsOn_25 rfl
theorem dX3_gainsOn_37 : decode cX3_gainsOn 37 = .ok (.iinc 3 1, 3) := dk132 (k := 12) bX3_gainsOn_25 rfl rfl (by decide)
theorem dX3_gainsOn_40 : decode cX3_gainsOn 40 = .ok (.goto (-26), 3) := dk167 (k := 15) bX3_gainsOn_25 rfl (by decide)
theorem dX3_gainsOn_43 : decode cX3_gainsOn 43 = .ok (.iload_n 2, 1) := dk28 (k := 18) bX3_gainsOn_25 rfl
theorem dX3_gainsOn_44 : decode cX3_gainsOn 44 = .ok (.ireturn, 1) := dk172 (k := 19) bX3_gainsOn_25 rfl
theorem bX3_fillGains_0 : bL cX3_fillGains 0 [43, 182, 0, 37, 184, 0, 43, 54, 4, 43, 182, 0, 49, 54, 5, 3, 54, 6, 21, 6, 42, 180, 0, 21] := bL_of (by decide +kernel)
theorem dX3_fillGains_0 : decode cX3_fillGains 0 = .ok (.aload_n 1, 1) := dk43 (k := 0) bX3_fillGains_0 rfl
theorem dX3_fillGains_1 : decode cX3_fillGains 1 = .ok (.invokevirtual 37, 3) := dk182 (k := 1) bX3_fillGains_0 rfl rfl
theorem dX3_fillGains_4 : decode cX3_fillGains 4 = .ok (.invokestatic 43, 3) := dk184 (k := 4) bX3_fillGains_0 rfl rfl
theorem dX3_fillGains_7 : decode cX3_fillGains 7 = .ok (.istore 4, 2) := dk54 (k := 7) bX3_fillGains_0 rfl rfl
theorem dX3_fillGains_9 : decode cX3_fillGains 9 = .ok (.aload_n 1, 1) := dk43 (k := 9) bX3_fillGains_0 rfl
theorem dX3_fillGains_10 : decode cX3_fillGains 10 = .ok (.invokevirtual 49, 3) := dk182 (k := 10) bX3_fillGains_0 rfl rfl
theorem dX3_fillGains_13 : decode cX3_fillGains 13 = .ok (.istore 5, 2) := dk54 (k := 13) bX3_fillGains_0 rfl rfl
theorem dX3_fillGains_15 : decode cX3_fillGains 15 = .ok (.iconst 0, 1) := dk3 (k := 15) bX3_fillGains_0 rfl
theorem dX3_fillGains_16 : decode cX3_fillGains 16 = .ok (.istore 6, 2) := dk54 (k := 16) bX3_fillGains_0 rfl rfl
theorem dX3_fillGains_18 : decode cX3_fillGains 18 = .ok (.iload 6, 2) := dk21 (k := 18) bX3_fillGains_0 rfl rfl
theorem dX3_fillGains_20 : decode cX3_fillGains 20 = .ok (.aload_n 0, 1) := dk42 (k := 20) bX3_fillGains_0 rfl
theorem dX3_fillGains_21 : decode cX3_fillGains 21 = .ok (.getfield 21, 3) := dk180 (k := 21) bX3_fillGains_0 rfl rfl
theorem bX3_fillGains_24 : bL cX3_fillGains 24 [162, 0, 89, 42, 21, 6, 5, 182, 0, 25, 54, 7, 21, 7, 154, 0, 7, 3, 167, 0, 17, 21, 7, 43] := bL_of (by decide +kernel)
theorem dX3_fillGains_24 : decode cX3_fillGains 24 = .ok (.if_icmp .ge 89, 3) := dk162 (k := 0) bX3_fillGains_24 rfl (by decide)
theorem dX3_fillGains_27 : decode cX3_fillGains 27 = .ok (.aload_n 0, 1) := dk42 (k := 3) bX3_fillGains_24 rfl
theorem dX3_fillGains_28 : decode cX3_fillGains 28 = .ok (.iload 6, 2) := dk21 (k := 4) bX3_fillGains_24 rfl rfl
theorem dX3_fillGains_30 : decode cX3_fillGains 30 = .ok (.iconst 2, 1) := dk5 (k := 6) bX3_fillGains_24 rfl
theorem dX3_fillGains_31 : decode cX3_fillGains 31 = .ok (.invokevirtual 25, 3) := dk182 (k := 7) bX3_fillGains_24 rfl rfl
theorem dX3_fillGains_34 : decode cX3_fillGains 34 = .ok (.istore 7, 2) := dk54 (k := 10) bX3_fillGains_24 rfl rfl
theorem dX3_fillGains_36 : decode cX3_fillGains 36 = .ok (.iload 7, 2) := dk21 (k := 12) bX3_fillGains_24 rfl rfl
theorem dX3_fillGains_38 : decode cX3_fillGains 38 = .ok (.ifCond .ne 7, 3) := dk154 (k := 14) bX3_fillGains_24 rfl (by decide)
theorem dX3_fillGains_41 : decode cX3_fillGains 41 = .ok (.iconst 0, 1) := dk3 (k := 17) bX3_fillGains_24 rfl
theorem dX3_fillGains_42 : decode cX3_fillGains 42 = .ok (.goto 17, 3) := dk167 (k := 18) bX3_fillGains_24 rfl (by decide)
theorem dX3_fillGains_45 : decode cX3_fillGains 45 = .ok (.iload 7, 2) := dk21 (k := 21) bX3_fillGains_24 rfl rfl
theorem dX3_fillGains_47 : decode cX3_fillGains 47 = .ok (.aload_n 1, 1) := dk43 (k := 23) bX3_fillGains_24 rfl
theorem bX3_fillGains_48 : bL cX3_fillGains 48 [42, 21, 6, 3, 182, 0, 25, 182, 0, 52, 104, 54, 8, 29, 21, 6, 96, 54, 9, 21, 9, 155, 0, 38] := bL_of (by decide +kernel)
theorem dX3_fillGains_48 : decode cX3_fillGains 48 = .ok (.aload_n 0, 1) := dk42 (k := 0) bX3_fillGains_48 rfl
theorem dX3_fillGains_49 : decode cX3_fillGains 49 = .ok (.iload 6, 2) := dk21 (k := 1) bX3_fillGains_48 rfl rfl
theorem dX3_fillGains_51 : decode cX3_fillGains 51 = .ok (.iconst 0, 1) := dk3 (k := 3) bX3_fillGains_48 rfl
theorem dX3_fillGains_52 : decode cX3_fillGains 52 = .ok (.invokevirtual 25, 3) := dk182 (k := 4) bX3_fillGains_48 rfl rfl
theorem dX3_fillGains_55 : decode cX3_fillGains 55 = .ok (.invokevirtual 52, 3) := dk182 (k := 7) bX3_fillGains_48 rfl rfl
theorem dX3_fillGains_58 : decode cX3_fillGains 58 = .ok (.imul, 1) := dk104 (k := 10) bX3_fillGains_48 rfl
theorem dX3_fillGains_59 : decode cX3_fillGains 59 = .ok (.istore 8, 2) := dk54 (k := 11) bX3_fillGains_48 rfl rfl
theorem dX3_fillGains_61 : decode cX3_fillGains 61 = .ok (.iload_n 3, 1) := dk29 (k := 13) bX3_fillGains_48 rfl
theorem dX3_fillGains_62 : decode cX3_fillGains 62 = .ok (.iload 6, 2) := dk21 (k := 14) bX3_fillGains_48 rfl rfl
theorem dX3_fillGains_64 : decode cX3_fillGains 64 = .ok (.iadd, 1) := dk96 (k := 16) bX3_fillGains_48 rfl
theorem dX3_fillGains_65 : decode cX3_fillGains 65 = .ok (.istore 9, 2) := dk54 (k := 17) bX3_fillGains_48 rfl rfl
theorem dX3_fillGains_67 : decode cX3_fillGains 67 = .ok (.iload 9, 2) := dk21 (k := 19) bX3_fillGains_48 rfl rfl
theorem dX3_fillGains_69 : decode cX3_fillGains 69 = .ok (.ifCond .lt 38, 3) := dk155 (k := 21) bX3_fillGains_48 rfl (by decide)
theorem bX3_fillGains_72 : bL cX3_fillGains 72 [21, 9, 44, 190, 162, 0, 31, 44, 21, 9, 21, 8, 42, 21, 6, 6, 182, 0, 25, 21, 4, 104, 96, 42] := bL_of (by decide +kernel)
theorem dX3_fillGains_72 : decode cX3_fillGains 72 = .ok (.iload 9, 2) := dk21 (k := 0) bX3_fillGains_72 rfl rfl
theorem dX3_fillGains_74 : decode cX3_fillGains 74 = .ok (.aload_n 2, 1) := dk44 (k := 2) bX3_fillGains_72 rfl
theorem dX3_fillGains_75 : decode cX3_fillGains 75 = .ok (.arraylength, 1) := dk190 (k := 3) bX3_fillGains_72 rfl
theorem dX3_fillGains_76 : decode cX3_fillGains 76 = .ok (.if_icmp .ge 31, 3) := dk162 (k := 4) bX3_fillGains_72 rfl (by decide)
theorem dX3_fillGains_79 : decode cX3_fillGains 79 = .ok (.aload_n 2, 1) := dk44 (k := 7) bX3_fillGains_72 rfl
theorem dX3_fillGains_80 : decode cX3_fillGains 80 = .ok (.iload 9, 2) := dk21 (k := 8) bX3_fillGains_72 rfl rfl
theorem dX3_fillGains_82 : decode cX3_fillGains 82 = .ok (.iload 8, 2) := dk21 (k := 10) bX3_fillGains_72 rfl rfl
theorem dX3_fillGains_84 : decode cX3_fillGains 84 = .ok (.aload_n 0, 1) := dk42 (k := 12) bX3_fillGains_72 rfl
theorem dX3_fillGains_85 : decode cX3_fillGains 85 = .ok (.iload 6, 2) := dk21 (k := 13) bX3_fillGains_72 rfl rfl
theorem dX3_fillGains_87 : decode cX3_fillGains 87 = .ok (.iconst 3, 1) := dk6 (k := 15) bX3_fillGains_72 rfl
theorem dX3_fillGains_88 : decode cX3_fillGains 88 = .ok (.invokevirtual 25, 3) := dk182 (k := 16) bX3_fillGains_72 rfl rfl
theorem dX3_fillGains_91 : decode cX3_fillGains 91 = .ok (.iload 4, 2) := dk21 (k := 19) bX3_fillGains_72 rfl rfl
theorem dX3_fillGains_93 : decode cX3_fillGains 93 = .ok (.imul, 1) := dk104 (k := 21) bX3_fillGains_72 rfl
theorem dX3_fillGains_94 : decode cX3_fillGains 94 = .ok (.iadd, 1) := dk96 (k := 22) bX3_fillGains_72 rfl
theorem dX3_fillGains_95 : decode cX3_fillGains 95 = .ok (.aload_n 0, 1) := dk42 (k := 23) bX3_fillGains_72 rfl
theorem bX3_fillGains_96 : bL cX3_fillGains 96 [21, 6, 7, 182, 0, 25, 21, 5, 104, 96, 79, 132, 6, 1, 167, 255, 164, 177] := bL_of (by decide +kernel)
theorem dX3_fillGains_96 : decode cX3_fillGains 96 = .ok (.iload 6, 2) := dk21 (k := 0) bX3_fillGains_96 rfl rfl
theorem dX3_fillGains_98 : decode cX3_fillGains 98 = .ok (.iconst 4, 1) := dk7 (k := 2) bX3_fillGains_96 rfl
theorem dX3_fillGains_99 : decode cX3_fillGains 99 = .ok (.invokevirtual 25, 3) := dk182 (k := 3) bX3_fillGains_96 rfl rfl
theorem dX3_fillGains_102 : decode cX3_fillGains 102 = .ok (.iload 5, 2) := dk21 (k := 6) bX3_fillGains_96 rfl rfl
theorem dX3_fillGains_104 : decode cX3_fillGains 104 = .ok (.imul, 1) := dk104 (k := 8) bX3_fillGains_96 rfl
theorem dX3_fillGains_105 : decode cX3_fillGains 105 = .ok (.iadd, 1) := dk96 (k := 9) bX3_fillGains_96 rfl
theorem dX3_fillGains_106 : decode cX3_fillGains 106 = .ok (.iastore, 1) := dk79 (k := 10) bX3_fillGains_96 rfl
theorem dX3_fillGains_107 : decode cX3_fillGains 107 = .ok (.iinc 6 1, 3) := dk132 (k := 11) bX3_fillGains_96 rfl rfl (by decide)
theorem dX3_fillGains_110 : decode cX3_fillGains 110 = .ok (.goto (-92), 3) := dk167 (k := 14) bX3_fillGains_96 rfl (by decide)
theorem dX3_fillGains_113 : decode cX3_fillGains 113 = .ok (.return_, 1) := dk177 (k := 17) bX3_fillGains_96 rfl
theorem bX3_gainersBy_0 : bL cX3_gainersBy 0 [43, 182, 0, 55, 62, 43, 29, 182, 0, 58, 28, 96, 156, 0, 5, 3, 172, 42, 43, 42, 180, 0, 15, 3] := bL_of (by decide +kernel)
theorem dX3_gainersBy_0 : decode cX3_gainersBy 0 = .ok (.aload_n 1, 1) := dk43 (k := 0) bX3_gainersBy_0 rfl
theorem dX3_gainersBy_1 : decode cX3_gainersBy 1 = .ok (.invokevirtual 55, 3) := dk182 (k := 1) bX3_gainersBy_0 rfl rfl
theorem dX3_gainersBy_4 : decode cX3_gainersBy 4 = .ok (.istore_n 3, 1) := dk62 (k := 4) bX3_gainersBy_0 rfl
theorem dX3_gainersBy_5 : decode cX3_gainersBy 5 = .ok (.aload_n 1, 1) := dk43 (k := 5) bX3_gainersBy_0 rfl
theorem dX3_gainersBy_6 : decode cX3_gainersBy 6 = .ok (.iload_n 3, 1) := dk29 (k := 6) bX3_gainersBy_0 rfl
theorem dX3_gainersBy_7 : decode cX3_gainersBy 7 = .ok (.invokevirtual 58, 3) := dk182 (k := 7) bX3_gainersBy_0 rfl rfl
theorem dX3_gainersBy_10 : decode cX3_gainersBy 10 = .ok (.iload_n 2, 1) := dk28 (k := 10) bX3_gainersBy_0 rfl
theorem dX3_gainersBy_11 : decode cX3_gainersBy 11 = .ok (.iadd, 1) := dk96 (k := 11) bX3_gainersBy_0 rfl
theorem dX3_gainersBy_12 : decode cX3_gainersBy 12 = .ok (.ifCond .ge 5, 3) := dk156 (k := 12) bX3_gainersBy_0 rfl (by decide)
theorem dX3_gainersBy_15 : decode cX3_gainersBy 15 = .ok (.iconst 0, 1) := dk3 (k := 15) bX3_gainersBy_0 rfl
theorem dX3_gainersBy_16 : decode cX3_gainersBy 16 = .ok (.ireturn, 1) := dk172 (k := 16) bX3_gainersBy_0 rfl
theorem dX3_gainersBy_17 : decode cX3_gainersBy 17 = .ok (.aload_n 0, 1) := dk42 (k := 17) bX3_gainersBy_0 rfl
theorem dX3_gainersBy_18 : decode cX3_gainersBy 18 = .ok (.aload_n 1, 1) := dk43 (k := 18) bX3_gainersBy_0 rfl
theorem dX3_gainersBy_19 : decode cX3_gainersBy 19 = .ok (.aload_n 0, 1) := dk42 (k := 19) bX3_gainersBy_0 rfl
theorem dX3_gainersBy_20 : decode cX3_gainersBy 20 = .ok (.getfield 15, 3) := dk180 (k := 20) bX3_gainersBy_0 rfl rfl
theorem dX3_gainersBy_23 : decode cX3_gainersBy 23 = .ok (.iconst 0, 1) := dk3 (k := 23) bX3_gainersBy_0 rfl
theorem bX3_gainersBy_24 : bL cX3_gainersBy 24 [182, 0, 33, 43, 29, 28, 182, 0, 61, 42, 43, 42, 180, 0, 18, 3, 182, 0, 33, 43, 29, 28, 116, 182, 0, 61] := bL_of (by decide +kernel)
theorem dX3_gainersBy_24 : decode cX3_gainersBy 24 = .ok (.invokevirtual 33, 3) := dk182 (k := 0) bX3_gainersBy_24 rfl rfl
theorem dX3_gainersBy_27 : decode cX3_gainersBy 27 = .ok (.aload_n 1, 1) := dk43 (k := 3) bX3_gainersBy_24 rfl
theorem dX3_gainersBy_28 : decode cX3_gainersBy 28 = .ok (.iload_n 3, 1) := dk29 (k := 4) bX3_gainersBy_24 rfl
theorem dX3_gainersBy_29 : decode cX3_gainersBy 29 = .ok (.iload_n 2, 1) := dk28 (k := 5) bX3_gainersBy_24 rfl
theorem dX3_gainersBy_30 : decode cX3_gainersBy 30 = .ok (.invokevirtual 61, 3) := dk182 (k := 6) bX3_gainersBy_24 rfl rfl
theorem dX3_gainersBy_33 : decode cX3_gainersBy 33 = .ok (.aload_n 0, 1) := dk42 (k := 9) bX3_gainersBy_24 rfl
theorem dX3_gainersBy_34 : decode cX3_gainersBy 34 = .ok (.aload_n 1, 1) := dk43 (k := 10) bX3_gainersBy_24 rfl
theorem dX3_gainersBy_35 : decode cX3_gainersBy 35 = .ok (.aload_n 0, 1) := dk42 (k := 11) bX3_gainersBy_24 rfl
theorem dX3_gainersBy_36 : decode cX3_gainersBy 36 = .ok (.getfield 18, 3) := dk180 (k := 12) bX3_gainersBy_24 rfl rfl
theorem dX3_gainersBy_39 : decode cX3_gainersBy 39 = .ok (.iconst 0, 1) := dk3 (k := 15) bX3_gainersBy_24 rfl
theorem dX3_gainersBy_40 : decode cX3_gainersBy 40 = .ok (.invokevirtual 33, 3) := dk182 (k := 16) bX3_gainersBy_24 rfl rfl
theorem dX3_gainersBy_43 : decode cX3_gainersBy 43 = .ok (.aload_n 1, 1) := dk43 (k := 19) bX3_gainersBy_24 rfl
theorem dX3_gainersBy_44 : decode cX3_gainersBy 44 = .ok (.iload_n 3, 1) := dk29 (k := 20) bX3_gainersBy_24 rfl
theorem dX3_gainersBy_45 : decode cX3_gainersBy 45 = .ok (.iload_n 2, 1) := dk28 (k := 21) bX3_gainersBy_24 rfl
theorem dX3_gainersBy_46 : decode cX3_gainersBy 46 = .ok (.ineg, 1) := dk116 (k := 22) bX3_gainersBy_24 rfl
theorem dX3_gainersBy_47 : decode cX3_gainersBy 47 = .ok (.invokevirtual 61, 3) := dk182 (k := 23) bX3_gainersBy_24 rfl rfl
theorem bX3_gainersBy_50 : bL cX3_gainersBy 50 [3, 54, 4, 3, 54, 5, 21, 5, 42, 180, 0, 21, 162, 0, 42, 21, 5, 16, 8, 162, 0, 35, 42, 180, 0, 18] := bL_of (by decide +kernel)
theorem dX3_gainersBy_50 : decode cX3_gainersBy 50 = .ok (.iconst 0, 1) := dk3 (k := 0) bX3_gainersBy_50 rfl
theorem dX3_gainersBy_51 : decode cX3_gainersBy 51 = .ok (.istore 4, 2) := dk54 (k := 1) bX3_gainersBy_50 rfl rfl
theorem dX3_gainersBy_53 : decode cX3_gainersBy 53 = .ok (.iconst 0, 1) := dk3 (k := 3) bX3_gainersBy_50 rfl
theorem dX3_gainersBy_54 : decode cX3_gainersBy 54 = .ok (.istore 5, 2) := dk54 (k := 4) bX3_gainersBy_50 rfl rfl
theorem dX3_gainersBy_56 : decode cX3_gainersBy 56 = .ok (.iload 5, 2) := dk21 (k := 6) bX3_gainersBy_50 rfl rfl
theorem dX3_gainersBy_58 : decode cX3_gainersBy 58 = .ok (.aload_n 0, 1) := dk42 (k := 8) bX3_gainersBy_50 rfl
theorem dX3_gainersBy_59 : decode cX3_gainersBy 59 = .ok (.getfield 21, 3) := dk180 (k := 9) bX3_gainersBy_50 rfl rfl
theorem dX3_gainersBy_62 : decode cX3_gainersBy 62 = .ok (.if_icmp .ge 42, 3) := dk162 (k := 12) bX3_gainersBy_50 rfl (by decide)
theorem dX3_gainersBy_65 : decode cX3_gainersBy 65 = .ok (.iload 5, 2) := dk21 (k := 15) bX3_gainersBy_50 rfl rfl
theorem dX3_gainersBy_67 : decode cX3_gainersBy 67 = .ok (.bipush 8, 2) := dk16 (k := 17) bX3_gainersBy_50 rfl (by decide)
theorem dX3_gainersBy_69 : decode cX3_gainersBy 69 = .ok (.if_icmp .ge 35, 3) := dk162 (k := 19) bX3_gainersBy_50 rfl (by decide)
theorem dX3_gainersBy_72 : decode cX3_gainersBy 72 = .ok (.aload_n 0, 1) := dk42 (k := 22) bX3_gainersBy_50 rfl
theorem dX3_gainersBy_73 : decode cX3_gainersBy 73 = .ok (.getfield 18, 3) := dk180 (k := 23) bX3_gainersBy_50 rfl rfl
theorem bX3_gainersBy_76 : bL cX3_gainersBy 76 [21, 5, 46, 42, 180, 0, 15, 21, 5, 46, 164, 0, 12, 21, 4, 4, 21, 5, 120, 128, 54, 4, 132, 5, 1] := bL_of (by decide +kernel)
theorem dX3_gainersBy_76 : decode cX3_gainersBy 76 = .ok (.iload 5, 2) := dk21 (k := 0) bX3_gainersBy_76 rfl rfl
theorem dX3_gainersBy_78 : decode cX3_gainersBy 78 = .ok (.iaload, 1) := dk46 (k := 2) bX3_gainersBy_76 rfl
theorem dX3_gainersBy_79 : decode cX3_gainersBy 79 = .ok (.aload_n 0, 1) := dk42 (k := 3) bX3_gainersBy_76 rfl
theorem dX3_gainersBy_80 : decode cX3_gainersBy 80 = .ok (.getfield 15, 3) := dk180 (k := 4) bX3_gainersBy_76 rfl rfl
theorem dX3_gainersBy_83 : decode cX3_gainersBy 83 = .ok (.iload 5, 2) := dk21 (k := 7) bX3_gainersBy_76 rfl rfl
theorem dX3_gainersBy_85 : decode cX3_gainersBy 85 = .ok (.iaload, 1) := dk46 (k := 9) bX3_gainersBy_76 rfl
theorem dX3_gainersBy_86 : decode cX3_gainersBy 86 = .ok (.if_icmp .le 12, 3) := dk164 (k := 10) bX3_gainersBy_76 rfl (by decide)
theorem dX3_gainersBy_89 : decode cX3_gainersBy 89 = .ok (.iload 4, 2) := dk21 (k := 13) bX3_gainersBy_76 rfl rfl
theorem dX3_gainersBy_91 : decode cX3_gainersBy 91 = .ok (.iconst 1, 1) := dk4 (k := 15) bX3_gainersBy_76 rfl
theorem dX3_gainersBy_92 : decode cX3_gainersBy 92 = .ok (.iload 5, 2) := dk21 (k := 16) bX3_gainersBy_76 rfl rfl
theorem dX3_gainersBy_94 : decode cX3_gainersBy 94 = .ok (.ishl, 1) := dk120 (k := 18) bX3_gainersBy_76 rfl
theorem dX3_gainersBy_95 : decode cX3_gainersBy 95 = .ok (.ior, 1) := dk128 (k := 19) bX3_gainersBy_76 rfl
theorem dX3_gainersBy_96 : decode cX3_gainersBy 96 = .ok (.istore 4, 2) := dk54 (k := 20) bX3_gainersBy_76 rfl rfl
theorem dX3_gainersBy_98 : decode cX3_gainersBy 98 = .ok (.iinc 5 1, 3) := dk132 (k := 22) bX3_gainersBy_76 rfl rfl (by decide)
theorem bX3_gainersBy_101 : bL cX3_gainersBy 101 [167, 255, 211, 21, 4, 172] := bL_of (by decide +kernel)
theorem dX3_gainersBy_101 : decode cX3_gainersBy 101 = .ok (.goto (-45), 3) := dk167 (k := 0) bX3_gainersBy_101 rfl (by decide)
theorem dX3_gainersBy_104 : decode cX3_gainersBy 104 = .ok (.iload 4, 2) := dk21 (k := 3) bX3_gainersBy_101 rfl rfl
theorem dX3_gainersBy_106 : decode cX3_gainersBy 106 = .ok (.ireturn, 1) := dk172 (k := 5) bX3_gainersBy_101 rfl
theorem bX3_signersOf_0 : bL cX3_signersOf 0 [27, 28, 2, 130, 126, 62, 3, 54, 4, 21, 4, 16, 8, 162, 0, 99, 29, 54, 5, 3, 54, 6, 21, 6] := bL_of (by decide +kernel)
theorem dX3_signersOf_0 : decode cX3_signersOf 0 = .ok (.iload_n 1, 1) := dk27 (k := 0) bX3_signersOf_0 rfl
theorem dX3_signersOf_1 : decode cX3_signersOf 1 = .ok (.iload_n 2, 1) := dk28 (k := 1) bX3_signersOf_0 rfl
theorem dX3_signersOf_2 : decode cX3_signersOf 2 = .ok (.iconst (-1), 1) := dk2 (k := 2) bX3_signersOf_0 rfl
theorem dX3_signersOf_3 : decode cX3_signersOf 3 = .ok (.ixor, 1) := dk130 (k := 3) bX3_signersOf_0 rfl
theorem dX3_signersOf_4 : decode cX3_signersOf 4 = .ok (.iand, 1) := dk126 (k := 4) bX3_signersOf_0 rfl
theorem dX3_signersOf_5 : decode cX3_signersOf 5 = .ok (.istore_n 3, 1) := dk62 (k := 5) bX3_signersOf_0 rfl
theorem dX3_signersOf_6 : decode cX3_signersOf 6 = .ok (.iconst 0, 1) := dk3 (k := 6) bX3_signersOf_0 rfl
theorem dX3_signersOf_7 : decode cX3_signersOf 7 = .ok (.istore 4, 2) := dk54 (k := 7) bX3_signersOf_0 rfl rfl
theorem dX3_signersOf_9 : decode cX3_signersOf 9 = .ok (.iload 4, 2) := dk21 (k := 9) bX3_signersOf_0 rfl rfl
theorem dX3_signersOf_11 : decode cX3_signersOf 11 = .ok (.bipush 8, 2) := dk16 (k := 11) bX3_signersOf_0 rfl (by decide)
theorem dX3_signersOf_13 : decode cX3_signersOf 13 = .ok (.if_icmp .ge 99, 3) := dk162 (k := 13) bX3_signersOf_0 rfl (by decide)
theorem dX3_signersOf_16 : decode cX3_signersOf 16 = .ok (.iload_n 3, 1) := dk29 (k := 16) bX3_signersOf_0 rfl
theorem dX3_signersOf_17 : decode cX3_signersOf 17 = .ok (.istore 5, 2) := dk54 (k := 17) bX3_signersOf_0 rfl rfl
theorem dX3_signersOf_19 : decode cX3_signersOf 19 = .ok (.iconst 0, 1) := dk3 (k := 19) bX3_signersOf_0 rfl
theorem dX3_signersOf_20 : decode cX3_signersOf 20 = .ok (.istore 6, 2) := dk54 (k := 20) bX3_signersOf_0 rfl rfl
theorem dX3_signersOf_22 : decode cX3_signersOf 22 = .ok (.iload 6, 2) := dk21 (k := 22) bX3_signersOf_0 rfl rfl
theorem bX3_signersOf_24 : bL cX3_signersOf 24 [42, 180, 0, 21, 162, 0, 69, 42, 21, 6, 8, 182, 0, 25, 54, 7, 21, 7, 158, 0, 25, 42, 21, 6] := bL_of (by decide +kernel)
theorem dX3_signersOf_24 : decode cX3_signersOf 24 = .ok (.aload_n 0, 1) := dk42 (k := 0) bX3_signersOf_24 rfl
theorem dX3_signersOf_25 : decode cX3_signersOf 25 = .ok (.getfield 21, 3) := dk180 (k := 1) bX3_signersOf_24 rfl rfl
theorem dX3_signersOf_28 : decode cX3_signersOf 28 = .ok (.if_icmp .ge 69, 3) := dk162 (k := 4) bX3_signersOf_24 rfl (by decide)
theorem dX3_signersOf_31 : decode cX3_signersOf 31 = .ok (.aload_n 0, 1) := dk42 (k := 7) bX3_signersOf_24 rfl
theorem dX3_signersOf_32 : decode cX3_signersOf 32 = .ok (.iload 6, 2) := dk21 (k := 8) bX3_signersOf_24 rfl rfl
theorem dX3_signersOf_34 : decode cX3_signersOf 34 = .ok (.iconst 5, 1) := dk8 (k := 10) bX3_signersOf_24 rfl
theorem dX3_signersOf_35 : decode cX3_signersOf 35 = .ok (.invokevirtual 25, 3) := dk182 (k := 11) bX3_signersOf_24 rfl rfl
theorem dX3_signersOf_38 : decode cX3_signersOf 38 = .ok (.istore 7, 2) := dk54 (k := 14) bX3_signersOf_24 rfl rfl
theorem dX3_signersOf_40 : decode cX3_signersOf 40 = .ok (.iload 7, 2) := dk21 (k := 16) bX3_signersOf_24 rfl rfl
theorem dX3_signersOf_42 : decode cX3_signersOf 42 = .ok (.ifCond .le 25, 3) := dk158 (k := 18) bX3_signersOf_24 rfl (by decide)
theorem dX3_signersOf_45 : decode cX3_signersOf 45 = .ok (.aload_n 0, 1) := dk42 (k := 21) bX3_signersOf_24 rfl
theorem dX3_signersOf_46 : decode cX3_signersOf 46 = .ok (.iload 6, 2) := dk21 (k := 22) bX3_signersOf_24 rfl rfl
theorem bX3_signersOf_48 : bL cX3_signersOf 48 [16, 6, 182, 0, 25, 29, 126, 184, 0, 43, 21, 7, 161, 0, 7, 4, 167, 0, 4, 3, 54, 8, 21, 8] := bL_of (by decide +kernel)
theorem dX3_signersOf_48 : decode cX3_signersOf 48 = .ok (.bipush 6, 2) := dk16 (k := 0) bX3_signersOf_48 rfl (by decide)
theorem dX3_signersOf_50 : decode cX3_signersOf 50 = .ok (.invokevirtual 25, 3) := dk182 (k := 2) bX3_signersOf_48 rfl rfl
theorem dX3_signersOf_53 : decode cX3_signersOf 53 = .ok (.iload_n 3, 1) := dk29 (k := 5) bX3_signersOf_48 rfl
theorem dX3_signersOf_54 : decode cX3_signersOf 54 = .ok (.iand, 1) := dk126 (k := 6) bX3_signersOf_48 rfl
theorem dX3_signersOf_55 : decode cX3_signersOf 55 = .ok (.invokestatic 43, 3) := dk184 (k := 7) bX3_signersOf_48 rfl rfl
theorem dX3_signersOf_58 : decode cX3_signersOf 58 = .ok (.iload 7, 2) := dk21 (k := 10) bX3_signersOf_48 rfl rfl
theorem dX3_signersOf_60 : decode cX3_signersOf 60 = .ok (.if_icmp .lt 7, 3) := dk161 (k := 12) bX3_signersOf_48 rfl (by decide)
theorem dX3_signersOf_63 : decode cX3_signersOf 63 = .ok (.iconst 1, 1) := dk4 (k := 15) bX3_signersOf_48 rfl
theorem dX3_signersOf_64 : decode cX3_signersOf 64 = .ok (.goto 4, 3) := dk167 (k := 16) bX3_signersOf_48 rfl (by decide)
theorem dX3_signersOf_67 : decode cX3_signersOf 67 = .ok (.iconst 0, 1) := dk3 (k := 19) bX3_signersOf_48 rfl
theorem dX3_signersOf_68 : decode cX3_signersOf 68 = .ok (.istore 8, 2) := dk54 (k := 20) bX3_signersOf_48 rfl rfl
theorem dX3_signersOf_70 : decode cX3_signersOf 70 = .ok (.iload 8, 2) := dk21 (k := 22) bX3_signersOf_48 rfl rfl
theorem bX3_signersOf_72 : bL cX3_signersOf 72 [153, 0, 19, 28, 21, 6, 122, 4, 126, 154, 0, 10, 29, 4, 21, 6, 120, 128, 62, 132, 6, 1, 167, 255, 184] := bL_of (by decide +kernel)
theorem dX3_signersOf_72 : decode cX3_signersOf 72 = .ok (.ifCond .eq 19, 3) := dk153 (k := 0) bX3_signersOf_72 rfl (by decide)
theorem dX3_signersOf_75 : decode cX3_signersOf 75 = .ok (.iload_n 2, 1) := dk28 (k := 3) bX3_signersOf_72 rfl
theorem dX3_signersOf_76 : decode cX3_signersOf 76 = .ok (.iload 6, 2) := dk21 (k := 4) bX3_signersOf_72 rfl rfl
theorem dX3_signersOf_78 : decode cX3_signersOf 78 = .ok (.ishr, 1) := dk122 (k := 6) bX3_signersOf_72 rfl
theorem dX3_signersOf_79 : decode cX3_signersOf 79 = .ok (.iconst 1, 1) := dk4 (k := 7) bX3_signersOf_72 rfl
theorem dX3_signersOf_80 : decode cX3_signersOf 80 = .ok (.iand, 1) := dk126 (k := 8) bX3_signersOf_72 rfl
theorem dX3_signersOf_81 : decode cX3_signersOf 81 = .ok (.ifCond .ne 10, 3) := dk154 (k := 9) bX3_signersOf_72 rfl (by decide)
theorem dX3_signersOf_84 : decode cX3_signersOf 84 = .ok (.iload_n 3, 1) := dk29 (k := 12) bX3_signersOf_72 rfl
theorem dX3_signersOf_85 : decode cX3_signersOf 85 = .ok (.iconst 1, 1) := dk4 (k := 13) bX3_signersOf_72 rfl
theorem dX3_signersOf_86 : decode cX3_signersOf 86 = .ok (.iload 6, 2) := dk21 (k := 14) bX3_signersOf_72 rfl rfl
theorem dX3_signersOf_88 : decode cX3_signersOf 88 = .ok (.ishl, 1) := dk120 (k := 16) bX3_signersOf_72 rfl
theorem dX3_signersOf_89 : decode cX3_signersOf 89 = .ok (.ior, 1) := dk128 (k := 17) bX3_signersOf_72 rfl
theorem dX3_signersOf_90 : decode cX3_signersOf 90 = .ok (.istore_n 3, 1) := dk62 (k := 18) bX3_signersOf_72 rfl
theorem dX3_signersOf_91 : decode cX3_signersOf 91 = .ok (.iinc 6 1, 3) := dk132 (k := 19) bX3_signersOf_72 rfl rfl (by decide)
theorem dX3_signersOf_94 : decode cX3_signersOf 94 = .ok (.goto (-72), 3) := dk167 (k := 22) bX3_signersOf_72 rfl (by decide)
theorem bX3_signersOf_97 : bL cX3_signersOf 97 [29, 21, 5, 160, 0, 6, 167, 0, 9, 132, 4, 1, 167, 255, 156, 29, 172] := bL_of (by decide +kernel)
theorem dX3_signersOf_97 : decode cX3_signersOf 97 = .ok (.iload_n 3, 1) := dk29 (k := 0) bX3_signersOf_97 rfl
theorem dX3_signersOf_98 : decode cX3_signersOf 98 = .ok (.iload 5, 2) := dk21 (k := 1) bX3_signersOf_97 rfl rfl
theorem dX3_signersOf_100 : decode cX3_signersOf 100 = .ok (.if_icmp .ne 6, 3) := dk160 (k := 3) bX3_signersOf_97 rfl (by decide)
theorem dX3_signersOf_103 : decode cX3_signersOf 103 = .ok (.goto 9, 3) := dk167 (k := 6) bX3_signersOf_97 rfl (by decide)
theorem dX3_signersOf_106 : decode cX3_signersOf 106 = .ok (.iinc 4 1, 3) := dk132 (k := 9) bX3_signersOf_97 rfl rfl (by decide)
theorem dX3_signersOf_109 : decode cX3_signersOf 109 = .ok (.goto (-100), 3) := dk167 (k := 12) bX3_signersOf_97 rfl (by decide)
theorem dX3_signersOf_112 : decode cX3_signersOf 112 = .ok (.iload_n 3, 1) := dk29 (k := 15) bX3_signersOf_97 rfl
theorem dX3_signersOf_113 : decode cX3_signersOf 113 = .ok (.ireturn, 1) := dk172 (k := 16) bX3_signersOf_97 rfl
theorem bX3_namesOf_0 : bL cX3_namesOf 0 [3, 61, 3, 62, 29, 42, 180, 0, 21, 162, 0, 27, 27, 29, 122, 4, 126, 4, 160, 0, 12, 28, 42, 29] := bL_of (by decide +kernel)
theorem dX3_namesOf_0 : decode cX3_namesOf 0 = .ok (.iconst 0, 1) := dk3 (k := 0) bX3_namesOf_0 rfl
theorem dX3_namesOf_1 : decode cX3_namesOf 1 = .ok (.istore_n 2, 1) := dk61 (k := 1) bX3_namesOf_0 rfl
theorem dX3_namesOf_2 : decode cX3_namesOf 2 = .ok (.iconst 0, 1) := dk3 (k := 2) bX3_namesOf_0 rfl
theorem dX3_namesOf_3 : decode cX3_namesOf 3 = .ok (.istore_n 3, 1) := dk62 (k := 3) bX3_namesOf_0 rfl
theorem dX3_namesOf_4 : decode cX3_namesOf 4 = .ok (.iload_n 3, 1) := dk29 (k := 4) bX3_namesOf_0 rfl
theorem dX3_namesOf_5 : decode cX3_namesOf 5 = .ok (.aload_n 0, 1) := dk42 (k := 5) bX3_namesOf_0 rfl
theorem dX3_namesOf_6 : decode cX3_namesOf 6 = .ok (.getfield 21, 3) := dk180 (k := 6) bX3_namesOf_0 rfl rfl
theorem dX3_namesOf_9 : decode cX3_namesOf 9 = .ok (.if_icmp .ge 27, 3) := dk162 (k := 9) bX3_namesOf_0 rfl (by decide)
theorem dX3_namesOf_12 : decode cX3_namesOf 12 = .ok (.iload_n 1, 1) := dk27 (k := 12) bX3_namesOf_0 rfl
theorem dX3_namesOf_13 : decode cX3_namesOf 13 = .ok (.iload_n 3, 1) := dk29 (k := 13) bX3_namesOf_0 rfl
theorem dX3_namesOf_14 : decode cX3_namesOf 14 = .ok (.ishr, 1) := dk122 (k := 14) bX3_namesOf_0 rfl
theorem dX3_namesOf_15 : decode cX3_namesOf 15 = .ok (.iconst 1, 1) := dk4 (k := 15) bX3_namesOf_0 rfl
theorem dX3_namesOf_16 : decode cX3_namesOf 16 = .ok (.iand, 1) := dk126 (k := 16) bX3_namesOf_0 rfl
theorem dX3_namesOf_17 : decode cX3_namesOf 17 = .ok (.iconst 1, 1) := dk4 (k := 17) bX3_namesOf_0 rfl
theorem dX3_namesOf_18 : decode cX3_namesOf 18 = .ok (.if_icmp .ne 12, 3) := dk160 (k := 18) bX3_namesOf_0 rfl (by decide)
theorem dX3_namesOf_21 : decode cX3_namesOf 21 = .ok (.iload_n 2, 1) := dk28 (k := 21) bX3_namesOf_0 rfl
theorem dX3_namesOf_22 : decode cX3_namesOf 22 = .ok (.aload_n 0, 1) := dk42 (k := 22) bX3_namesOf_0 rfl
theorem dX3_namesOf_23 : decode cX3_namesOf 23 = .ok (.iload_n 3, 1) := dk29 (k := 23) bX3_namesOf_0 rfl
theorem bX3_namesOf_24 : bL cX3_namesOf 24 [4, 182, 0, 25, 96, 61, 132, 3, 1, 167, 255, 227, 28, 172] := bL_of (by decide +kernel)
theorem dX3_namesOf_24 : decode cX3_namesOf 24 = .ok (.iconst 1, 1) := dk4 (k := 0) bX3_namesOf_24 rfl
theorem dX3_namesOf_25 : decode cX3_namesOf 25 = .ok (.invokevirtual 25, 3) := dk182 (k := 1) bX3_namesOf_24 rfl rfl
theorem dX3_namesOf_28 : decode cX3_namesOf 28 = .ok (.iadd, 1) := dk96 (k := 4) bX3_namesOf_24 rfl
theorem dX3_namesOf_29 : decode cX3_namesOf 29 = .ok (.istore_n 2, 1) := dk61 (k := 5) bX3_namesOf_24 rfl
theorem dX3_namesOf_30 : decode cX3_namesOf 30 = .ok (.iinc 3 1, 3) := dk132 (k := 6) bX3_namesOf_24 rfl rfl (by decide)
theorem dX3_namesOf_33 : decode cX3_namesOf 33 = .ok (.goto (-29), 3) := dk167 (k := 9) bX3_namesOf_24 rfl (by decide)
theorem dX3_namesOf_36 : decode cX3_namesOf 36 = .ok (.iload_n 2, 1) := dk28 (k := 12) bX3_namesOf_24 rfl
theorem dX3_namesOf_37 : decode cX3_namesOf 37 = .ok (.ireturn, 1) := dk172 (k := 13) bX3_namesOf_24 rfl
theorem bX3_isRoll_0 : bL cX3_isRoll 0 [43, 28, 182, 0, 65, 62, 29, 5, 112, 153, 0, 5, 3, 172, 3, 54, 4, 21, 4, 29, 162, 0, 65, 43] := bL_of (by decide +kernel)
theorem dX3_isRoll_0 : decode cX3_isRoll 0 = .ok (.aload_n 1, 1) := dk43 (k := 0) bX3_isRoll_0 rfl
theorem dX3_isRoll_1 : decode cX3_isRoll 1 = .ok (.iload_n 2, 1) := dk28 (k := 1) bX3_isRoll_0 rfl
theorem dX3_isRoll_2 : decode cX3_isRoll 2 = .ok (.invokevirtual 65, 3) := dk182 (k := 2) bX3_isRoll_0 rfl rfl
theorem dX3_isRoll_5 : decode cX3_isRoll 5 = .ok (.istore_n 3, 1) := dk62 (k := 5) bX3_isRoll_0 rfl
theorem dX3_isRoll_6 : decode cX3_isRoll 6 = .ok (.iload_n 3, 1) := dk29 (k := 6) bX3_isRoll_0 rfl
theorem dX3_isRoll_7 : decode cX3_isRoll 7 = .ok (.iconst 2, 1) := dk5 (k := 7) bX3_isRoll_0 rfl
theorem dX3_isRoll_8 : decode cX3_isRoll 8 = .ok (.irem, 1) := dk112 (k := 8) bX3_isRoll_0 rfl
theorem dX3_isRoll_9 : decode cX3_isRoll 9 = .ok (.ifCond .eq 5, 3) := dk153 (k := 9) bX3_isRoll_0 rfl (by decide)
theorem dX3_isRoll_12 : decode cX3_isRoll 12 = .ok (.iconst 0, 1) := dk3 (k := 12) bX3_isRoll_0 rfl
theorem dX3_isRoll_13 : decode cX3_isRoll 13 = .ok (.ireturn, 1) := dk172 (k := 13) bX3_isRoll_0 rfl
theorem dX3_isRoll_14 : decode cX3_isRoll 14 = .ok (.iconst 0, 1) := dk3 (k := 14) bX3_isRoll_0 rfl
theorem dX3_isRoll_15 : decode cX3_isRoll 15 = .ok (.istore 4, 2) := dk54 (k := 15) bX3_isRoll_0 rfl rfl
theorem dX3_isRoll_17 : decode cX3_isRoll 17 = .ok (.iload 4, 2) := dk21 (k := 17) bX3_isRoll_0 rfl rfl
theorem dX3_isRoll_19 : decode cX3_isRoll 19 = .ok (.iload_n 3, 1) := dk29 (k := 19) bX3_isRoll_0 rfl
theorem dX3_isRoll_20 : decode cX3_isRoll 20 = .ok (.if_icmp .ge 65, 3) := dk162 (k := 20) bX3_isRoll_0 rfl (by decide)
theorem dX3_isRoll_23 : decode cX3_isRoll 23 = .ok (.aload_n 1, 1) := dk43 (k := 23) bX3_isRoll_0 rfl
theorem bX3_isRoll_24 : bL cX3_isRoll 24 [28, 21, 4, 182, 0, 70, 55, 5, 43, 28, 21, 4, 4, 96, 182, 0, 70, 55, 7, 22, 5, 9, 148, 155, 0, 30] := bL_of (by decide +kernel)
theorem dX3_isRoll_24 : decode cX3_isRoll 24 = .ok (.iload_n 2, 1) := dk28 (k := 0) bX3_isRoll_24 rfl
theorem dX3_isRoll_25 : decode cX3_isRoll 25 = .ok (.iload 4, 2) := dk21 (k := 1) bX3_isRoll_24 rfl rfl
theorem dX3_isRoll_27 : decode cX3_isRoll 27 = .ok (.invokevirtual 70, 3) := dk182 (k := 3) bX3_isRoll_24 rfl rfl
theorem dX3_isRoll_30 : decode cX3_isRoll 30 = .ok (.lstore 5, 2) := dk55 (k := 6) bX3_isRoll_24 rfl rfl
theorem dX3_isRoll_32 : decode cX3_isRoll 32 = .ok (.aload_n 1, 1) := dk43 (k := 8) bX3_isRoll_24 rfl
theorem dX3_isRoll_33 : decode cX3_isRoll 33 = .ok (.iload_n 2, 1) := dk28 (k := 9) bX3_isRoll_24 rfl
theorem dX3_isRoll_34 : decode cX3_isRoll 34 = .ok (.iload 4, 2) := dk21 (k := 10) bX3_isRoll_24 rfl rfl
theorem dX3_isRoll_36 : decode cX3_isRoll 36 = .ok (.iconst 1, 1) := dk4 (k := 12) bX3_isRoll_24 rfl
theorem dX3_isRoll_37 : decode cX3_isRoll 37 = .ok (.iadd, 1) := dk96 (k := 13) bX3_isRoll_24 rfl
theorem dX3_isRoll_38 : decode cX3_isRoll 38 = .ok (.invokevirtual 70, 3) := dk182 (k := 14) bX3_isRoll_24 rfl rfl
theorem dX3_isRoll_41 : decode cX3_isRoll 41 = .ok (.lstore 7, 2) := dk55 (k := 17) bX3_isRoll_24 rfl rfl
theorem dX3_isRoll_43 : decode cX3_isRoll 43 = .ok (.lload 5, 2) := dk22 (k := 19) bX3_isRoll_24 rfl rfl
theorem dX3_isRoll_45 : decode cX3_isRoll 45 = .ok (.lconst 0, 1) := dk9 (k := 21) bX3_isRoll_24 rfl
theorem dX3_isRoll_46 : decode cX3_isRoll 46 = .ok (.lcmp, 1) := dk148 (k := 22) bX3_isRoll_24 rfl
theorem dX3_isRoll_47 : decode cX3_isRoll 47 = .ok (.ifCond .lt 30, 3) := dk155 (k := 23) bX3_isRoll_24 rfl (by decide)
theorem bX3_isRoll_50 : bL cX3_isRoll 50 [22, 5, 42, 180, 0, 21, 133, 148, 156, 0, 19, 22, 7, 9, 148, 155, 0, 12, 22, 7, 20, 0, 74, 148] := bL_of (by decide +kernel)
theorem dX3_isRoll_50 : decode cX3_isRoll 50 = .ok (.lload 5, 2) := dk22 (k := 0) bX3_isRoll_50 rfl rfl
theorem dX3_isRoll_52 : decode cX3_isRoll 52 = .ok (.aload_n 0, 1) := dk42 (k := 2) bX3_isRoll_50 rfl
theorem dX3_isRoll_53 : decode cX3_isRoll 53 = .ok (.getfield 21, 3) := dk180 (k := 3) bX3_isRoll_50 rfl rfl
theorem dX3_isRoll_56 : decode cX3_isRoll 56 = .ok (.i2l, 1) := dk133 (k := 6) bX3_isRoll_50 rfl
theorem dX3_isRoll_57 : decode cX3_isRoll 57 = .ok (.lcmp, 1) := dk148 (k := 7) bX3_isRoll_50 rfl
theorem dX3_isRoll_58 : decode cX3_isRoll 58 = .ok (.ifCond .ge 19, 3) := dk156 (k := 8) bX3_isRoll_50 rfl (by decide)
theorem dX3_isRoll_61 : decode cX3_isRoll 61 = .ok (.lload 7, 2) := dk22 (k := 11) bX3_isRoll_50 rfl rfl
theorem dX3_isRoll_63 : decode cX3_isRoll 63 = .ok (.lconst 0, 1) := dk9 (k := 13) bX3_isRoll_50 rfl
theorem dX3_isRoll_64 : decode cX3_isRoll 64 = .ok (.lcmp, 1) := dk148 (k := 14) bX3_isRoll_50 rfl
theorem dX3_isRoll_65 : decode cX3_isRoll 65 = .ok (.ifCond .lt 12, 3) := dk155 (k := 15) bX3_isRoll_50 rfl (by decide)
theorem dX3_isRoll_68 : decode cX3_isRoll 68 = .ok (.lload 7, 2) := dk22 (k := 18) bX3_isRoll_50 rfl rfl
theorem dX3_isRoll_70 : decode cX3_isRoll 70 = .ok (.ldc2_w 74, 3) := dk20 (k := 20) bX3_isRoll_50 rfl rfl
theorem dX3_isRoll_73 : decode cX3_isRoll 73 = .ok (.lcmp, 1) := dk148 (k := 23) bX3_isRoll_50 rfl
theorem bX3_isRoll_74 : bL cX3_isRoll 74 [158, 0, 5, 3, 172, 132, 4, 2, 167, 255, 191, 4, 172] := bL_of (by decide +kernel)
theorem dX3_isRoll_74 : decode cX3_isRoll 74 = .ok (.ifCond .le 5, 3) := dk158 (k := 0) bX3_isRoll_74 rfl (by decide)
theorem dX3_isRoll_77 : decode cX3_isRoll 77 = .ok (.iconst 0, 1) := dk3 (k := 3) bX3_isRoll_74 rfl
theorem dX3_isRoll_78 : decode cX3_isRoll 78 = .ok (.ireturn, 1) := dk172 (k := 4) bX3_isRoll_74 rfl
theorem dX3_isRoll_79 : decode cX3_isRoll 79 = .ok (.iinc 4 2, 3) := dk132 (k := 5) bX3_isRoll_74 rfl rfl (by decide)
theorem dX3_isRoll_82 : decode cX3_isRoll 82 = .ok (.goto (-65), 3) := dk167 (k := 8) bX3_isRoll_74 rfl (by decide)
theorem dX3_isRoll_85 : decode cX3_isRoll 85 = .ok (.iconst 1, 1) := dk4 (k := 11) bX3_isRoll_74 rfl
theorem dX3_isRoll_86 : decode cX3_isRoll 86 = .ok (.ireturn, 1) := dk172 (k := 12) bX3_isRoll_74 rfl
theorem bX3_standing_0 : bL cX3_standing 0 [3, 54, 4, 3, 54, 5, 21, 5, 43, 28, 182, 0, 65, 162, 0, 24, 42, 43, 28, 21, 5, 182, 0, 76] := bL_of (by decide +kernel)
theorem dX3_standing_0 : decode cX3_standing 0 = .ok (.iconst 0, 1) := dk3 (k := 0) bX3_standing_0 rfl
theorem dX3_standing_1 : decode cX3_standing 1 = .ok (.istore 4, 2) := dk54 (k := 1) bX3_standing_0 rfl rfl
theorem dX3_standing_3 : decode cX3_standing 3 = .ok (.iconst 0, 1) := dk3 (k := 3) bX3_standing_0 rfl
theorem dX3_standing_4 : decode cX3_standing 4 = .ok (.istore 5, 2) := dk54 (k := 4) bX3_standing_0 rfl rfl
theorem dX3_standing_6 : decode cX3_standing 6 = .ok (.iload 5, 2) := dk21 (k := 6) bX3_standing_0 rfl rfl
theorem dX3_standing_8 : decode cX3_standing 8 = .ok (.aload_n 1, 1) := dk43 (k := 8) bX3_standing_0 rfl
theorem dX3_standing_9 : decode cX3_standing 9 = .ok (.iload_n 2, 1) := dk28 (k := 9) bX3_standing_0 rfl
theorem dX3_standing_10 : decode cX3_standing 10 = .ok (.invokevirtual 65, 3) := dk182 (k := 10) bX3_standing_0 rfl rfl
theorem dX3_standing_13 : decode cX3_standing 13 = .ok (.if_icmp .ge 24, 3) := dk162 (k := 13) bX3_standing_0 rfl (by decide)
theorem dX3_standing_16 : decode cX3_standing 16 = .ok (.aload_n 0, 1) := dk42 (k := 16) bX3_standing_0 rfl
theorem dX3_standing_17 : decode cX3_standing 17 = .ok (.aload_n 1, 1) := dk43 (k := 17) bX3_standing_0 rfl
theorem dX3_standing_18 : decode cX3_standing 18 = .ok (.iload_n 2, 1) := dk28 (k := 18) bX3_standing_0 rfl
theorem dX3_standing_19 : decode cX3_standing 19 = .ok (.iload 5, 2) := dk21 (k := 19) bX3_standing_0 rfl rfl
theorem dX3_standing_21 : decode cX3_standing 21 = .ok (.invokevirtual 76, 3) := dk182 (k := 21) bX3_standing_0 rfl rfl
theorem bX3_standing_24 : bL cX3_standing 24 [29, 160, 0, 6, 132, 4, 1, 132, 5, 2, 167, 255, 228, 21, 4, 172] := bL_of (by decide +kernel)
theorem dX3_standing_24 : decode cX3_standing 24 = .ok (.iload_n 3, 1) := dk29 (k := 0) bX3_standing_24 rfl
theorem dX3_standing_25 : decode cX3_standing 25 = .ok (.if_icmp .ne 6, 3) := dk160 (k := 1) bX3_standing_24 rfl (by decide)
theorem dX3_standing_28 : decode cX3_standing 28 = .ok (.iinc 4 1, 3) := dk132 (k := 4) bX3_standing_24 rfl rfl (by decide)
theorem dX3_standing_31 : decode cX3_standing 31 = .ok (.iinc 5 2, 3) := dk132 (k := 7) bX3_standing_24 rfl rfl (by decide)
theorem dX3_standing_34 : decode cX3_standing 34 = .ok (.goto (-28), 3) := dk167 (k := 10) bX3_standing_24 rfl (by decide)
theorem dX3_standing_37 : decode cX3_standing 37 = .ok (.iload 4, 2) := dk21 (k := 13) bX3_standing_24 rfl rfl
theorem dX3_standing_39 : decode cX3_standing 39 = .ok (.ireturn, 1) := dk172 (k := 15) bX3_standing_24 rfl
theorem bX3_howStands_0 : bL cX3_howStands 0 [43, 28, 29, 182, 0, 70, 55, 4, 43, 28, 29, 4, 96, 182, 0, 70, 55, 6, 3, 54, 8, 21, 8, 29] := bL_of (by decide +kernel)
theorem dX3_howStands_0 : decode cX3_howStands 0 = .ok (.aload_n 1, 1) := dk43 (k := 0) bX3_howStands_0 rfl
theorem dX3_howStands_1 : decode cX3_howStands 1 = .ok (.iload_n 2, 1) := dk28 (k := 1) bX3_howStands_0 rfl
theorem dX3_howStands_2 : decode cX3_howStands 2 = .ok (.iload_n 3, 1) := dk29 (k := 2) bX3_howStands_0 rfl
theorem dX3_howStands_3 : decode cX3_howStands 3 = .ok (.invokevirtual 70, 3) := dk182 (k := 3) bX3_howStands_0 rfl rfl
theorem dX3_howStands_6 : decode cX3_howStands 6 = .ok (.lstore 4, 2) := dk55 (k := 6) bX3_howStands_0 rfl rfl
theorem dX3_howStands_8 : decode cX3_howStands 8 = .ok (.aload_n 1, 1) := dk43 (k := 8) bX3_howStands_0 rfl
theorem dX3_howStands_9 : decode cX3_howStands 9 = .ok (.iload_n 2, 1) := dk28 (k := 9) bX3_howStands_0 rfl
theorem dX3_howStands_10 : decode cX3_howStands 10 = .ok (.iload_n 3, 1) := dk29 (k := 10) bX3_howStands_0 rfl
theorem dX3_howStands_11 : decode cX3_howStands 11 = .ok (.iconst 1, 1) := dk4 (k := 11) bX3_howStands_0 rfl
theorem dX3_howStands_12 : decode cX3_howStands 12 = .ok (.iadd, 1) := dk96 (k := 12) bX3_howStands_0 rfl
theorem dX3_howStands_13 : decode cX3_howStands 13 = .ok (.invokevirtual 70, 3) := dk182 (k := 13) bX3_howStands_0 rfl rfl
theorem dX3_howStands_16 : decode cX3_howStands 16 = .ok (.lstore 6, 2) := dk55 (k := 16) bX3_howStands_0 rfl rfl
theorem dX3_howStands_18 : decode cX3_howStands 18 = .ok (.iconst 0, 1) := dk3 (k := 18) bX3_howStands_0 rfl
theorem dX3_howStands_19 : decode cX3_howStands 19 = .ok (.istore 8, 2) := dk54 (k := 19) bX3_howStands_0 rfl rfl
theorem dX3_howStands_21 : decode cX3_howStands 21 = .ok (.iload 8, 2) := dk21 (k := 21) bX3_howStands_0 rfl rfl
theorem dX3_howStands_23 : decode cX3_howStands 23 = .ok (.iload_n 3, 1) := dk29 (k := 23) bX3_howStands_0 rfl
theorem bX3_howStands_24 : bL cX3_howStands 24 [162, 0, 39, 43, 28, 21, 8, 182, 0, 70, 22, 4, 148, 154, 0, 20, 43, 28, 21, 8, 4, 96, 182, 0, 70] := bL_of (by decide +kernel)
theorem dX3_howStands_24 : decode cX3_howStands 24 = .ok (.if_icmp .ge 39, 3) := dk162 (k := 0) bX3_howStands_24 rfl (by decide)
theorem dX3_howStands_27 : decode cX3_howStands 27 = .ok (.aload_n 1, 1) := dk43 (k := 3) bX3_howStands_24 rfl
theorem dX3_howStands_28 : decode cX3_howStands 28 = .ok (.iload_n 2, 1) := dk28 (k := 4) bX3_howStands_24 rfl
theorem dX3_howStands_29 : decode cX3_howStands 29 = .ok (.iload 8, 2) := dk21 (k := 5) bX3_howStands_24 rfl rfl
theorem dX3_howStands_31 : decode cX3_howStands 31 = .ok (.invokevirtual 70, 3) := dk182 (k := 7) bX3_howStands_24 rfl rfl
theorem dX3_howStands_34 : decode cX3_howStands 34 = .ok (.lload 4, 2) := dk22 (k := 10) bX3_howStands_24 rfl rfl
theorem dX3_howStands_36 : decode cX3_howStands 36 = .ok (.lcmp, 1) := dk148 (k := 12) bX3_howStands_24 rfl
theorem dX3_howStands_37 : decode cX3_howStands 37 = .ok (.ifCond .ne 20, 3) := dk154 (k := 13) bX3_howStands_24 rfl (by decide)
theorem dX3_howStands_40 : decode cX3_howStands 40 = .ok (.aload_n 1, 1) := dk43 (k := 16) bX3_howStands_24 rfl
theorem dX3_howStands_41 : decode cX3_howStands 41 = .ok (.iload_n 2, 1) := dk28 (k := 17) bX3_howStands_24 rfl
theorem dX3_howStands_42 : decode cX3_howStands 42 = .ok (.iload 8, 2) := dk21 (k := 18) bX3_howStands_24 rfl rfl
theorem dX3_howStands_44 : decode cX3_howStands 44 = .ok (.iconst 1, 1) := dk4 (k := 20) bX3_howStands_24 rfl
theorem dX3_howStands_45 : decode cX3_howStands 45 = .ok (.iadd, 1) := dk96 (k := 21) bX3_howStands_24 rfl
theorem dX3_howStands_46 : decode cX3_howStands 46 = .ok (.invokevirtual 70, 3) := dk182 (k := 22) bX3_howStands_24 rfl rfl
theorem bX3_howStands_49 : bL cX3_howStands 49 [22, 6, 148, 154, 0, 5, 4, 172, 132, 8, 2, 167, 255, 217, 22, 6, 42, 22, 4, 136, 4, 182, 0, 25] := bL_of (by decide +kernel)
theorem dX3_howStands_49 : decode cX3_howStands 49 = .ok (.lload 6, 2) := dk22 (k := 0) bX3_howStands_49 rfl rfl
theorem dX3_howStands_51 : decode cX3_howStands 51 = .ok (.lcmp, 1) := dk148 (k := 2) bX3_howStands_49 rfl
theorem dX3_howStands_52 : decode cX3_howStands 52 = .ok (.ifCond .ne 5, 3) := dk154 (k := 3) bX3_howStands_49 rfl (by decide)
theorem dX3_howStands_55 : decode cX3_howStands 55 = .ok (.iconst 1, 1) := dk4 (k := 6) bX3_howStands_49 rfl
theorem dX3_howStands_56 : decode cX3_howStands 56 = .ok (.ireturn, 1) := dk172 (k := 7) bX3_howStands_49 rfl
theorem dX3_howStands_57 : decode cX3_howStands 57 = .ok (.iinc 8 2, 3) := dk132 (k := 8) bX3_howStands_49 rfl rfl (by decide)
theorem dX3_howStands_60 : decode cX3_howStands 60 = .ok (.goto (-39), 3) := dk167 (k := 11) bX3_howStands_49 rfl (by decide)
theorem dX3_howStands_63 : decode cX3_howStands 63 = .ok (.lload 6, 2) := dk22 (k := 14) bX3_howStands_49 rfl rfl
theorem dX3_howStands_65 : decode cX3_howStands 65 = .ok (.aload_n 0, 1) := dk42 (k := 16) bX3_howStands_49 rfl
theorem dX3_howStands_66 : decode cX3_howStands 66 = .ok (.lload 4, 2) := dk22 (k := 17) bX3_howStands_49 rfl rfl
theorem dX3_howStands_68 : decode cX3_howStands 68 = .ok (.l2i, 1) := dk136 (k := 19) bX3_howStands_49 rfl
theorem dX3_howStands_69 : decode cX3_howStands 69 = .ok (.iconst 1, 1) := dk4 (k := 20) bX3_howStands_49 rfl
theorem dX3_howStands_70 : decode cX3_howStands 70 = .ok (.invokevirtual 25, 3) := dk182 (k := 21) bX3_howStands_49 rfl rfl
theorem bX3_howStands_73 : bL cX3_howStands 73 [133, 148, 156, 0, 7, 3, 167, 0, 4, 5, 172] := bL_of (by decide +kernel)
theorem dX3_howStands_73 : decode cX3_howStands 73 = .ok (.i2l, 1) := dk133 (k := 0) bX3_howStands_73 rfl
theorem dX3_howStands_74 : decode cX3_howStands 74 = .ok (.lcmp, 1) := dk148 (k := 1) bX3_howStands_73 rfl
theorem dX3_howStands_75 : decode cX3_howStands 75 = .ok (.ifCond .ge 7, 3) := dk156 (k := 2) bX3_howStands_73 rfl (by decide)
theorem dX3_howStands_78 : decode cX3_howStands 78 = .ok (.iconst 0, 1) := dk3 (k := 5) bX3_howStands_73 rfl
theorem dX3_howStands_79 : decode cX3_howStands 79 = .ok (.goto 4, 3) := dk167 (k := 6) bX3_howStands_73 rfl (by decide)
theorem dX3_howStands_82 : decode cX3_howStands 82 = .ok (.iconst 2, 1) := dk5 (k := 9) bX3_howStands_73 rfl
theorem dX3_howStands_83 : decode cX3_howStands 83 = .ok (.ireturn, 1) := dk172 (k := 10) bX3_howStands_73 rfl
theorem bX4_init_0 : bL cX4_init 0 [42, 183, 0, 3, 42, 17, 25, 161] := bL_of (by decide +kernel)
theorem dX4_init_0 : decode cX4_init 0 = .ok (.aload_n 0, 1) := dk42 (k := 0) bX4_init_0 rfl
theorem dX4_init_1 : decode cX4_init 1 = .ok (.invokespecial 3, 3) := dk183 (k := 1) bX4_init_0 rfl rfl
theorem dX4_init_4 : decode cX4_init 4 = .ok (.aload_n 0, 1) := dk42 (k := 4) bX4_init_0 rfl
theorem dX4_init_5 : decode cX4_init 5 = .ok (.sipush 6561, 3) := dk17 (k := 5) bX4_init_0 rfl (by decide)
theorem dX4_init_8 : decode cX4_init 8 = .ok (.newarray .byte, 2) := by decide +kernel
theorem bX4_init_10 : bL cX4_init 10 [181, 0, 9, 42, 43, 181, 0, 15, 177] := bL_of (by decide +kernel)
theorem dX4_init_10 : decode cX4_init 10 = .ok (.putfield 9, 3) := dk181 (k := 0) bX4_init_10 rfl rfl
theorem dX4_init_13 : decode cX4_init 13 = .ok (.aload_n 0, 1) := dk42 (k := 3) bX4_init_10 rfl
theorem dX4_init_14 : decode cX4_init 14 = .ok (.aload_n 1, 1) := dk43 (k := 4) bX4_init_10 rfl
theorem dX4_init_15 : decode cX4_init 15 = .ok (.putfield 15, 3) := dk181 (k := 5) bX4_init_10 rfl rfl
theorem dX4_init_18 : decode cX4_init 18 = .ok (.return_, 1) := dk177 (k := 8) bX4_init_10 rfl
theorem bX4_signersOfWon_0 : bL cX4_signersOfWon 0 [42, 180, 0, 15, 180, 0, 19, 42, 180, 0, 15, 180, 0, 19, 42, 180, 0, 15, 180, 0, 25, 2, 182, 0, 29] := bL_of (by decide +kernel)
theorem dX4_signersOfWon_0 : decode cX4_signersOfWon 0 = .ok (.aload_n 0, 1) := dk42 (k := 0) bX4_signersOfWon_0 rfl
theorem dX4_signersOfWon_1 : decode cX4_signersOfWon 1 = .ok (.getfield 15, 3) := dk180 (k := 1) bX4_signersOfWon_0 rfl rfl
theorem dX4_signersOfWon_4 : decode cX4_signersOfWon 4 = .ok (.getfield 19, 3) := dk180 (k := 4) bX4_signersOfWon_0 rfl rfl
theorem dX4_signersOfWon_7 : decode cX4_signersOfWon 7 = .ok (.aload_n 0, 1) := dk42 (k := 7) bX4_signersOfWon_0 rfl
theorem dX4_signersOfWon_8 : decode cX4_signersOfWon 8 = .ok (.getfield 15, 3) := dk180 (k := 8) bX4_signersOfWon_0 rfl rfl
theorem dX4_signersOfWon_11 : decode cX4_signersOfWon 11 = .ok (.getfield 19, 3) := dk180 (k := 11) bX4_signersOfWon_0 rfl rfl
theorem dX4_signersOfWon_14 : decode cX4_signersOfWon 14 = .ok (.aload_n 0, 1) := dk42 (k := 14) bX4_signersOfWon_0 rfl
theorem dX4_signersOfWon_15 : decode cX4_signersOfWon 15 = .ok (.getfield 15, 3) := dk180 (k := 15) bX4_signersOfWon_0 rfl rfl
theorem dX4_signersOfWon_18 : decode cX4_signersOfWon 18 = .ok (.getfield 25, 3) := dk180 (k := 18) bX4_signersOfWon_0 rfl rfl
theorem dX4_signersOfWon_21 : decode cX4_signersOfWon 21 = .ok (.iconst (-1), 1) := dk2 (k := 21) bX4_signersOfWon_0 rfl
theorem dX4_signersOfWon_22 : decode cX4_signersOfWon 22 = .ok (.invokevirtual 29, 3) := dk182 (k := 22) bX4_signersOfWon_0 rfl rfl
theorem bX4_signersOfWon_25 : bL cX4_signersOfWon 25 [27, 128, 3, 182, 0, 35, 172] := bL_of (by decide +kernel)
theorem dX4_signersOfWon_25 : decode cX4_signersOfWon 25 = .ok (.iload_n 1, 1) := dk27 (k := 0) bX4_signersOfWon_25 rfl
theorem dX4_signersOfWon_26 : decode cX4_signersOfWon 26 = .ok (.ior, 1) := dk128 (k := 1) bX4_signersOfWon_25 rfl
theorem dX4_signersOfWon_27 : decode cX4_signersOfWon 27 = .ok (.iconst 0, 1) := dk3 (k := 2) bX4_signersOfWon_25 rfl
theorem dX4_signersOfWon_28 : decode cX4_signersOfWon 28 = .ok (.invokevirtual 35, 3) := dk182 (k := 3) bX4_signersOfWon_25 rfl rfl
theorem dX4_signersOfWon_31 : decode cX4_signersOfWon 31 = .ok (.ireturn, 1) := dk172 (k := 6) bX4_signersOfWon_25 rfl
theorem bX4_fewestSet_0 : bL cX4_fewestSet 0 [42, 180, 0, 15, 180, 0, 19, 42, 180, 0, 15, 180, 0, 25, 2, 182, 0, 29, 60, 2, 61, 16, 9, 62] := bL_of (by decide +kernel)
theorem dX4_fewestSet_0 : decode cX4_fewestSet 0 = .ok (.aload_n 0, 1) := dk42 (k := 0) bX4_fewestSet_0 rfl
theorem dX4_fewestSet_1 : decode cX4_fewestSet 1 = .ok (.getfield 15, 3) := dk180 (k := 1) bX4_fewestSet_0 rfl rfl
theorem dX4_fewestSet_4 : decode cX4_fewestSet 4 = .ok (.getfield 19, 3) := dk180 (k := 4) bX4_fewestSet_0 rfl rfl
theorem dX4_fewestSet_7 : decode cX4_fewestSet 7 = .ok (.aload_n 0, 1) := dk42 (k := 7) bX4_fewestSet_0 rfl
theorem dX4_fewestSet_8 : decode cX4_fewestSet 8 = .ok (.getfield 15, 3) := dk180 (k := 8) bX4_fewestSet_0 rfl rfl
theorem dX4_fewestSet_11 : decode cX4_fewestSet 11 = .ok (.getfield 25, 3) := dk180 (k := 11) bX4_fewestSet_0 rfl rfl
theorem dX4_fewestSet_14 : decode cX4_fewestSet 14 = .ok (.iconst (-1), 1) := dk2 (k := 14) bX4_fewestSet_0 rfl
theorem dX4_fewestSet_15 : decode cX4_fewestSet 15 = .ok (.invokevirtual 29, 3) := dk182 (k := 15) bX4_fewestSet_0 rfl rfl
theorem dX4_fewestSet_18 : decode cX4_fewestSet 18 = .ok (.istore_n 1, 1) := dk60 (k := 18) bX4_fewestSet_0 rfl
theorem dX4_fewestSet_19 : decode cX4_fewestSet 19 = .ok (.iconst (-1), 1) := dk2 (k := 19) bX4_fewestSet_0 rfl
theorem dX4_fewestSet_20 : decode cX4_fewestSet 20 = .ok (.istore_n 2, 1) := dk61 (k := 20) bX4_fewestSet_0 rfl
theorem dX4_fewestSet_21 : decode cX4_fewestSet 21 = .ok (.bipush 9, 2) := dk16 (k := 21) bX4_fewestSet_0 rfl (by decide)
theorem dX4_fewestSet_23 : decode cX4_fewestSet 23 = .ok (.istore_n 3, 1) := dk62 (k := 23) bX4_fewestSet_0 rfl
theorem bX4_fewestSet_24 : bL cX4_fewestSet 24 [3, 54, 4, 21, 4, 4, 42, 180, 0, 15, 180, 0, 19, 180, 0, 39, 120, 162, 0, 43, 21, 4, 184, 0, 43] := bL_of (by decide +kernel)
theorem dX4_fewestSet_24 : decode cX4_fewestSet 24 = .ok (.iconst 0, 1) := dk3 (k := 0) bX4_fewestSet_24 rfl
theorem dX4_fewestSet_25 : decode cX4_fewestSet 25 = .ok (.istore 4, 2) := dk54 (k := 1) bX4_fewestSet_24 rfl rfl
theorem dX4_fewestSet_27 : decode cX4_fewestSet 27 = .ok (.iload 4, 2) := dk21 (k := 3) bX4_fewestSet_24 rfl rfl
theorem dX4_fewestSet_29 : decode cX4_fewestSet 29 = .ok (.iconst 1, 1) := dk4 (k := 5) bX4_fewestSet_24 rfl
theorem dX4_fewestSet_30 : decode cX4_fewestSet 30 = .ok (.aload_n 0, 1) := dk42 (k := 6) bX4_fewestSet_24 rfl
theorem dX4_fewestSet_31 : decode cX4_fewestSet 31 = .ok (.getfield 15, 3) := dk180 (k := 7) bX4_fewestSet_24 rfl rfl
theorem dX4_fewestSet_34 : decode cX4_fewestSet 34 = .ok (.getfield 19, 3) := dk180 (k := 10) bX4_fewestSet_24 rfl rfl
theorem dX4_fewestSet_37 : decode cX4_fewestSet 37 = .ok (.getfield 39, 3) := dk180 (k := 13) bX4_fewestSet_24 rfl rfl
theorem dX4_fewestSet_40 : decode cX4_fewestSet 40 = .ok (.ishl, 1) := dk120 (k := 16) bX4_fewestSet_24 rfl
theorem dX4_fewestSet_41 : decode cX4_fewestSet 41 = .ok (.if_icmp .ge 43, 3) := dk162 (k := 17) bX4_fewestSet_24 rfl (by decide)
theorem dX4_fewestSet_44 : decode cX4_fewestSet 44 = .ok (.iload 4, 2) := dk21 (k := 20) bX4_fewestSet_24 rfl rfl
theorem dX4_fewestSet_46 : decode cX4_fewestSet 46 = .ok (.invokestatic 43, 3) := dk184 (k := 22) bX4_fewestSet_24 rfl rfl
theorem bX4_fewestSet_49 : bL cX4_fewestSet 49 [54, 5, 21, 5, 29, 162, 0, 24, 42, 180, 0, 15, 27, 21, 4, 128, 3, 182, 0, 49, 153, 0, 9, 21, 5] := bL_of (by decide +kernel)
theorem dX4_fewestSet_49 : decode cX4_fewestSet 49 = .ok (.istore 5, 2) := dk54 (k := 0) bX4_fewestSet_49 rfl rfl
theorem dX4_fewestSet_51 : decode cX4_fewestSet 51 = .ok (.iload 5, 2) := dk21 (k := 2) bX4_fewestSet_49 rfl rfl
theorem dX4_fewestSet_53 : decode cX4_fewestSet 53 = .ok (.iload_n 3, 1) := dk29 (k := 4) bX4_fewestSet_49 rfl
theorem dX4_fewestSet_54 : decode cX4_fewestSet 54 = .ok (.if_icmp .ge 24, 3) := dk162 (k := 5) bX4_fewestSet_49 rfl (by decide)
theorem dX4_fewestSet_57 : decode cX4_fewestSet 57 = .ok (.aload_n 0, 1) := dk42 (k := 8) bX4_fewestSet_49 rfl
theorem dX4_fewestSet_58 : decode cX4_fewestSet 58 = .ok (.getfield 15, 3) := dk180 (k := 9) bX4_fewestSet_49 rfl rfl
theorem dX4_fewestSet_61 : decode cX4_fewestSet 61 = .ok (.iload_n 1, 1) := dk27 (k := 12) bX4_fewestSet_49 rfl
theorem dX4_fewestSet_62 : decode cX4_fewestSet 62 = .ok (.iload 4, 2) := dk21 (k := 13) bX4_fewestSet_49 rfl rfl
theorem dX4_fewestSet_64 : decode cX4_fewestSet 64 = .ok (.ior, 1) := dk128 (k := 15) bX4_fewestSet_49 rfl
theorem dX4_fewestSet_65 : decode cX4_fewestSet 65 = .ok (.iconst 0, 1) := dk3 (k := 16) bX4_fewestSet_49 rfl
theorem dX4_fewestSet_66 : decode cX4_fewestSet 66 = .ok (.invokevirtual 49, 3) := dk182 (k := 17) bX4_fewestSet_49 rfl rfl
theorem dX4_fewestSet_69 : decode cX4_fewestSet 69 = .ok (.ifCond .eq 9, 3) := dk153 (k := 20) bX4_fewestSet_49 rfl (by decide)
theorem dX4_fewestSet_72 : decode cX4_fewestSet 72 = .ok (.iload 5, 2) := dk21 (k := 23) bX4_fewestSet_49 rfl rfl
theorem bX4_fewestSet_74 : bL cX4_fewestSet 74 [62, 21, 4, 61, 132, 4, 1, 167, 255, 202, 28, 172] := bL_of (by decide +kernel)
theorem dX4_fewestSet_74 : decode cX4_fewestSet 74 = .ok (.istore_n 3, 1) := dk62 (k := 0) bX4_fewestSet_74 rfl
theorem dX4_fewestSet_75 : decode cX4_fewestSet 75 = .ok (.iload 4, 2) := dk21 (k := 1) bX4_fewestSet_74 rfl rfl
theorem dX4_fewestSet_77 : decode cX4_fewestSet 77 = .ok (.istore_n 2, 1) := dk61 (k := 3) bX4_fewestSet_74 rfl
theorem dX4_fewestSet_78 : decode cX4_fewestSet 78 = .ok (.iinc 4 1, 3) := dk132 (k := 4) bX4_fewestSet_74 rfl rfl (by decide)
theorem dX4_fewestSet_81 : decode cX4_fewestSet 81 = .ok (.goto (-54), 3) := dk167 (k := 7) bX4_fewestSet_74 rfl (by decide)
theorem dX4_fewestSet_84 : decode cX4_fewestSet 84 = .ok (.iload_n 2, 1) := dk28 (k := 10) bX4_fewestSet_74 rfl
theorem dX4_fewestSet_85 : decode cX4_fewestSet 85 = .ok (.ireturn, 1) := dk172 (k := 11) bX4_fewestSet_74 rfl
theorem bX4_bestBeside_0 : bL cX4_bestBeside 0 [42, 180, 0, 15, 180, 0, 19, 42, 180, 0, 15, 180, 0, 25, 2, 182, 0, 29, 27, 128, 61, 2, 62, 42] := bL_of (by decide +kernel)
theorem dX4_bestBeside_0 : decode cX4_bestBeside 0 = .ok (.aload_n 0, 1) := dk42 (k := 0) bX4_bestBeside_0 rfl
theorem dX4_bestBeside_1 : decode cX4_bestBeside 1 = .ok (.getfield 15, 3) := dk180 (k := 1) bX4_bestBeside_0 rfl rfl
theorem dX4_bestBeside_4 : decode cX4_bestBeside 4 = .ok (.getfield 19, 3) := dk180 (k := 4) bX4_bestBeside_0 rfl rfl
theorem dX4_bestBeside_7 : decode cX4_bestBeside 7 = .ok (.aload_n 0, 1) := dk42 (k := 7) bX4_bestBeside_0 rfl
theorem dX4_bestBeside_8 : decode cX4_bestBeside 8 = .ok (.getfield 15, 3) := dk180 (k := 8) bX4_bestBeside_0 rfl rfl
theorem dX4_bestBeside_11 : decode cX4_bestBeside 11 = .ok (.getfield 25, 3) := dk180 (k := 11) bX4_bestBeside_0 rfl rfl
theorem dX4_bestBeside_14 : decode cX4_bestBeside 14 = .ok (.iconst (-1), 1) := dk2 (k := 14) bX4_bestBeside_0 rfl
theorem dX4_bestBeside_15 : decode cX4_bestBeside 15 = .ok (.invokevirtual 29, 3) := dk182 (k := 15) bX4_bestBeside_0 rfl rfl
theorem dX4_bestBeside_18 : decode cX4_bestBeside 18 = .ok (.iload_n 1, 1) := dk27 (k := 18) bX4_bestBeside_0 rfl
theorem dX4_bestBeside_19 : decode cX4_bestBeside 19 = .ok (.ior, 1) := dk128 (k := 19) bX4_bestBeside_0 rfl
theorem dX4_bestBeside_20 : decode cX4_bestBeside 20 = .ok (.istore_n 2, 1) := dk61 (k := 20) bX4_bestBeside_0 rfl
theorem dX4_bestBeside_21 : decode cX4_bestBeside 21 = .ok (.iconst (-1), 1) := dk2 (k := 21) bX4_bestBeside_0 rfl
theorem dX4_bestBeside_22 : decode cX4_bestBeside 22 = .ok (.istore_n 3, 1) := dk62 (k := 22) bX4_bestBeside_0 rfl
theorem dX4_bestBeside_23 : decode cX4_bestBeside 23 = .ok (.aload_n 0, 1) := dk42 (k := 23) bX4_bestBeside_0 rfl
theorem bX4_bestBeside_24 : bL cX4_bestBeside 24 [180, 0, 15, 180, 0, 19, 42, 180, 0, 15, 180, 0, 19, 28, 3, 182, 0, 35, 182, 0, 53, 54, 4, 3] := bL_of (by decide +kernel)
theorem dX4_bestBeside_24 : decode cX4_bestBeside 24 = .ok (.getfield 15, 3) := dk180 (k := 0) bX4_bestBeside_24 rfl rfl
theorem dX4_bestBeside_27 : decode cX4_bestBeside 27 = .ok (.getfield 19, 3) := dk180 (k := 3) bX4_bestBeside_24 rfl rfl
theorem dX4_bestBeside_30 : decode cX4_bestBeside 30 = .ok (.aload_n 0, 1) := dk42 (k := 6) bX4_bestBeside_24 rfl
theorem dX4_bestBeside_31 : decode cX4_bestBeside 31 = .ok (.getfield 15, 3) := dk180 (k := 7) bX4_bestBeside_24 rfl rfl
theorem dX4_bestBeside_34 : decode cX4_bestBeside 34 = .ok (.getfield 19, 3) := dk180 (k := 10) bX4_bestBeside_24 rfl rfl
theorem dX4_bestBeside_37 : decode cX4_bestBeside 37 = .ok (.iload_n 2, 1) := dk28 (k := 13) bX4_bestBeside_24 rfl
theorem dX4_bestBeside_38 : decode cX4_bestBeside 38 = .ok (.iconst 0, 1) := dk3 (k := 14) bX4_bestBeside_24 rfl
theorem dX4_bestBeside_39 : decode cX4_bestBeside 39 = .ok (.invokevirtual 35, 3) := dk182 (k := 15) bX4_bestBeside_24 rfl rfl
theorem dX4_bestBeside_42 : decode cX4_bestBeside 42 = .ok (.invokevirtual 53, 3) := dk182 (k := 18) bX4_bestBeside_24 rfl rfl
theorem dX4_bestBeside_45 : decode cX4_bestBeside 45 = .ok (.istore 4, 2) := dk54 (k := 21) bX4_bestBeside_24 rfl rfl
theorem dX4_bestBeside_47 : decode cX4_bestBeside 47 = .ok (.iconst 0, 1) := dk3 (k := 23) bX4_bestBeside_24 rfl
theorem bX4_bestBeside_48 : bL cX4_bestBeside 48 [54, 5, 21, 5, 42, 180, 0, 15, 180, 0, 19, 180, 0, 39, 162, 0, 52, 42, 180, 0, 15, 180, 0, 19] := bL_of (by decide +kernel)
theorem dX4_bestBeside_48 : decode cX4_bestBeside 48 = .ok (.istore 5, 2) := dk54 (k := 0) bX4_bestBeside_48 rfl rfl
theorem dX4_bestBeside_50 : decode cX4_bestBeside 50 = .ok (.iload 5, 2) := dk21 (k := 2) bX4_bestBeside_48 rfl rfl
theorem dX4_bestBeside_52 : decode cX4_bestBeside 52 = .ok (.aload_n 0, 1) := dk42 (k := 4) bX4_bestBeside_48 rfl
theorem dX4_bestBeside_53 : decode cX4_bestBeside 53 = .ok (.getfield 15, 3) := dk180 (k := 5) bX4_bestBeside_48 rfl rfl
theorem dX4_bestBeside_56 : decode cX4_bestBeside 56 = .ok (.getfield 19, 3) := dk180 (k := 8) bX4_bestBeside_48 rfl rfl
theorem dX4_bestBeside_59 : decode cX4_bestBeside 59 = .ok (.getfield 39, 3) := dk180 (k := 11) bX4_bestBeside_48 rfl rfl
theorem dX4_bestBeside_62 : decode cX4_bestBeside 62 = .ok (.if_icmp .ge 52, 3) := dk162 (k := 14) bX4_bestBeside_48 rfl (by decide)
theorem dX4_bestBeside_65 : decode cX4_bestBeside 65 = .ok (.aload_n 0, 1) := dk42 (k := 17) bX4_bestBeside_48 rfl
theorem dX4_bestBeside_66 : decode cX4_bestBeside 66 = .ok (.getfield 15, 3) := dk180 (k := 18) bX4_bestBeside_48 rfl rfl
theorem dX4_bestBeside_69 : decode cX4_bestBeside 69 = .ok (.getfield 19, 3) := dk180 (k := 21) bX4_bestBeside_48 rfl rfl
theorem bX4_bestBeside_72 : bL cX4_bestBeside 72 [42, 180, 0, 15, 180, 0, 19, 28, 4, 21, 5, 120, 128, 3, 182, 0, 35, 182, 0, 53, 54, 6, 21, 6] := bL_of (by decide +kernel)
theorem dX4_bestBeside_72 : decode cX4_bestBeside 72 = .ok (.aload_n 0, 1) := dk42 (k := 0) bX4_bestBeside_72 rfl
theorem dX4_bestBeside_73 : decode cX4_bestBeside 73 = .ok (.getfield 15, 3) := dk180 (k := 1) bX4_bestBeside_72 rfl rfl
theorem dX4_bestBeside_76 : decode cX4_bestBeside 76 = .ok (.getfield 19, 3) := dk180 (k := 4) bX4_bestBeside_72 rfl rfl
theorem dX4_bestBeside_79 : decode cX4_bestBeside 79 = .ok (.iload_n 2, 1) := dk28 (k := 7) bX4_bestBeside_72 rfl
theorem dX4_bestBeside_80 : decode cX4_bestBeside 80 = .ok (.iconst 1, 1) := dk4 (k := 8) bX4_bestBeside_72 rfl
theorem dX4_bestBeside_81 : decode cX4_bestBeside 81 = .ok (.iload 5, 2) := dk21 (k := 9) bX4_bestBeside_72 rfl rfl
theorem dX4_bestBeside_83 : decode cX4_bestBeside 83 = .ok (.ishl, 1) := dk120 (k := 11) bX4_bestBeside_72 rfl
theorem dX4_bestBeside_84 : decode cX4_bestBeside 84 = .ok (.ior, 1) := dk128 (k := 12) bX4_bestBeside_72 rfl
theorem dX4_bestBeside_85 : decode cX4_bestBeside 85 = .ok (.iconst 0, 1) := dk3 (k := 13) bX4_bestBeside_72 rfl
theorem dX4_bestBeside_86 : decode cX4_bestBeside 86 = .ok (.invokevirtual 35, 3) := dk182 (k := 14) bX4_bestBeside_72 rfl rfl
theorem dX4_bestBeside_89 : decode cX4_bestBeside 89 = .ok (.invokevirtual 53, 3) := dk182 (k := 17) bX4_bestBeside_72 rfl rfl
theorem dX4_bestBeside_92 : decode cX4_bestBeside 92 = .ok (.istore 6, 2) := dk54 (k := 20) bX4_bestBeside_72 rfl rfl
theorem dX4_bestBeside_94 : decode cX4_bestBeside 94 = .ok (.iload 6, 2) := dk21 (k := 22) bX4_bestBeside_72 rfl rfl
theorem bX4_bestBeside_96 : bL cX4_bestBeside 96 [21, 4, 164, 0, 10, 21, 6, 54, 4, 21, 5, 62, 132, 5, 1, 167, 255, 195, 29, 172] := bL_of (by decide +kernel)
theorem dX4_bestBeside_96 : decode cX4_bestBeside 96 = .ok (.iload 4, 2) := dk21 (k := 0) bX4_bestBeside_96 rfl rfl
theorem dX4_bestBeside_98 : decode cX4_bestBeside 98 = .ok (.if_icmp .le 10, 3) := dk164 (k := 2) bX4_bestBeside_96 rfl (by decide)
theorem dX4_bestBeside_101 : decode cX4_bestBeside 101 = .ok (.iload 6, 2) := dk21 (k := 5) bX4_bestBeside_96 rfl rfl
theorem dX4_bestBeside_103 : decode cX4_bestBeside 103 = .ok (.istore 4, 2) := dk54 (k := 7) bX4_bestBeside_96 rfl rfl
theorem dX4_bestBeside_105 : decode cX4_bestBeside 105 = .ok (.iload 5, 2) := dk21 (k := 9) bX4_bestBeside_96 rfl rfl
theorem dX4_bestBeside_107 : decode cX4_bestBeside 107 = .ok (.istore_n 3, 1) := dk62 (k := 11) bX4_bestBeside_96 rfl
theorem dX4_bestBeside_108 : decode cX4_bestBeside 108 = .ok (.iinc 5 1, 3) := dk132 (k := 12) bX4_bestBeside_96 rfl rfl (by decide)
theorem dX4_bestBeside_111 : decode cX4_bestBeside 111 = .ok (.goto (-61), 3) := dk167 (k := 15) bX4_bestBeside_96 rfl (by decide)
theorem dX4_bestBeside_114 : decode cX4_bestBeside 114 = .ok (.iload_n 3, 1) := dk29 (k := 18) bX4_bestBeside_96 rfl
theorem dX4_bestBeside_115 : decode cX4_bestBeside 115 = .ok (.ireturn, 1) := dk172 (k := 19) bX4_bestBeside_96 rfl
theorem bX4_neededFolk_0 : bL cX4_neededFolk 0 [42, 180, 0, 15, 180, 0, 19, 42, 180, 0, 15, 180, 0, 25, 2, 182, 0, 29, 60, 42, 180, 0, 15, 27] := bL_of (by decide +kernel)
theorem dX4_neededFolk_0 : decode cX4_neededFolk 0 = .ok (.aload_n 0, 1) := dk42 (k := 0) bX4_neededFolk_0 rfl
theorem dX4_neededFolk_1 : decode cX4_neededFolk 1 = .ok (.getfield 15, 3) := dk180 (k := 1) bX4_neededFolk_0 rfl rfl
theorem dX4_neededFolk_4 : decode cX4_neededFolk 4 = .ok (.getfield 19, 3) := dk180 (k := 4) bX4_neededFolk_0 rfl rfl
theorem dX4_neededFolk_7 : decode cX4_neededFolk 7 = .ok (.aload_n 0, 1) := dk42 (k := 7) bX4_neededFolk_0 rfl
theorem dX4_neededFolk_8 : decode cX4_neededFolk 8 = .ok (.getfield 15, 3) := dk180 (k := 8) bX4_neededFolk_0 rfl rfl
theorem dX4_neededFolk_11 : decode cX4_neededFolk 11 = .ok (.getfield 25, 3) := dk180 (k := 11) bX4_neededFolk_0 rfl rfl
theorem dX4_neededFolk_14 : decode cX4_neededFolk 14 = .ok (.iconst (-1), 1) := dk2 (k := 14) bX4_neededFolk_0 rfl
theorem dX4_neededFolk_15 : decode cX4_neededFolk 15 = .ok (.invokevirtual 29, 3) := dk182 (k := 15) bX4_neededFolk_0 rfl rfl
theorem dX4_neededFolk_18 : decode cX4_neededFolk 18 = .ok (.istore_n 1, 1) := dk60 (k := 18) bX4_neededFolk_0 rfl
theorem dX4_neededFolk_19 : decode cX4_neededFolk 19 = .ok (.aload_n 0, 1) := dk42 (k := 19) bX4_neededFolk_0 rfl
theorem dX4_neededFolk_20 : decode cX4_neededFolk 20 = .ok (.getfield 15, 3) := dk180 (k := 20) bX4_neededFolk_0 rfl rfl
theorem dX4_neededFolk_23 : decode cX4_neededFolk 23 = .ok (.iload_n 1, 1) := dk27 (k := 23) bX4_neededFolk_0 rfl
theorem bX4_neededFolk_24 : bL cX4_neededFolk 24 [3, 182, 0, 49, 154, 0, 5, 3, 172, 3, 61, 3, 62, 29, 42, 180, 0, 15, 180, 0, 19, 180, 0, 39] := bL_of (by decide +kernel)
theorem dX4_neededFolk_24 : decode cX4_neededFolk 24 = .ok (.iconst 0, 1) := dk3 (k := 0) bX4_neededFolk_24 rfl
theorem dX4_neededFolk_25 : decode cX4_neededFolk 25 = .ok (.invokevirtual 49, 3) := dk182 (k := 1) bX4_neededFolk_24 rfl rfl
theorem dX4_neededFolk_28 : decode cX4_neededFolk 28 = .ok (.ifCond .ne 5, 3) := dk154 (k := 4) bX4_neededFolk_24 rfl (by decide)
theorem dX4_neededFolk_31 : decode cX4_neededFolk 31 = .ok (.iconst 0, 1) := dk3 (k := 7) bX4_neededFolk_24 rfl
theorem dX4_neededFolk_32 : decode cX4_neededFolk 32 = .ok (.ireturn, 1) := dk172 (k := 8) bX4_neededFolk_24 rfl
theorem dX4_neededFolk_33 : decode cX4_neededFolk 33 = .ok (.iconst 0, 1) := dk3 (k := 9) bX4_neededFolk_24 rfl
theorem dX4_neededFolk_34 : decode cX4_neededFolk 34 = .ok (.istore_n 2, 1) := dk61 (k := 10) bX4_neededFolk_24 rfl
theorem dX4_neededFolk_35 : decode cX4_neededFolk 35 = .ok (.iconst 0, 1) := dk3 (k := 11) bX4_neededFolk_24 rfl
theorem dX4_neededFolk_36 : decode cX4_neededFolk 36 = .ok (.istore_n 3, 1) := dk62 (k := 12) bX4_neededFolk_24 rfl
theorem dX4_neededFolk_37 : decode cX4_neededFolk 37 = .ok (.iload_n 3, 1) := dk29 (k := 13) bX4_neededFolk_24 rfl
theorem dX4_neededFolk_38 : decode cX4_neededFolk 38 = .ok (.aload_n 0, 1) := dk42 (k := 14) bX4_neededFolk_24 rfl
theorem dX4_neededFolk_39 : decode cX4_neededFolk 39 = .ok (.getfield 15, 3) := dk180 (k := 15) bX4_neededFolk_24 rfl rfl
theorem dX4_neededFolk_42 : decode cX4_neededFolk 42 = .ok (.getfield 19, 3) := dk180 (k := 18) bX4_neededFolk_24 rfl rfl
theorem dX4_neededFolk_45 : decode cX4_neededFolk 45 = .ok (.getfield 39, 3) := dk180 (k := 21) bX4_neededFolk_24 rfl rfl
theorem bX4_neededFolk_48 : bL cX4_neededFolk 48 [162, 0, 29, 42, 180, 0, 15, 27, 4, 29, 120, 182, 0, 49, 154, 0, 9, 28, 4, 29, 120, 128, 61, 132, 3, 1] := bL_of (by decide +kernel)
theorem dX4_neededFolk_48 : decode cX4_neededFolk 48 = .ok (.if_icmp .ge 29, 3) := dk162 (k := 0) bX4_neededFolk_48 rfl (by decide)
theorem dX4_neededFolk_51 : decode cX4_neededFolk 51 = .ok (.aload_n 0, 1) := dk42 (k := 3) bX4_neededFolk_48 rfl
theorem dX4_neededFolk_52 : decode cX4_neededFolk 52 = .ok (.getfield 15, 3) := dk180 (k := 4) bX4_neededFolk_48 rfl rfl
theorem dX4_neededFolk_55 : decode cX4_neededFolk 55 = .ok (.iload_n 1, 1) := dk27 (k := 7) bX4_neededFolk_48 rfl
theorem dX4_neededFolk_56 : decode cX4_neededFolk 56 = .ok (.iconst 1, 1) := dk4 (k := 8) bX4_neededFolk_48 rfl
theorem dX4_neededFolk_57 : decode cX4_neededFolk 57 = .ok (.iload_n 3, 1) := dk29 (k := 9) bX4_neededFolk_48 rfl
theorem dX4_neededFolk_58 : decode cX4_neededFolk 58 = .ok (.ishl, 1) := dk120 (k := 10) bX4_neededFolk_48 rfl
theorem dX4_neededFolk_59 : decode cX4_neededFolk 59 = .ok (.invokevirtual 49, 3) := dk182 (k := 11) bX4_neededFolk_48 rfl rfl
theorem dX4_neededFolk_62 : decode cX4_neededFolk 62 = .ok (.ifCond .ne 9, 3) := dk154 (k := 14) bX4_neededFolk_48 rfl (by decide)
theorem dX4_neededFolk_65 : decode cX4_neededFolk 65 = .ok (.iload_n 2, 1) := dk28 (k := 17) bX4_neededFolk_48 rfl
theorem dX4_neededFolk_66 : decode cX4_neededFolk 66 = .ok (.iconst 1, 1) := dk4 (k := 18) bX4_neededFolk_48 rfl
theorem dX4_neededFolk_67 : decode cX4_neededFolk 67 = .ok (.iload_n 3, 1) := dk29 (k := 19) bX4_neededFolk_48 rfl
theorem dX4_neededFolk_68 : decode cX4_neededFolk 68 = .ok (.ishl, 1) := dk120 (k := 20) bX4_neededFolk_48 rfl
theorem dX4_neededFolk_69 : decode cX4_neededFolk 69 = .ok (.ior, 1) := dk128 (k := 21) bX4_neededFolk_48 rfl
theorem dX4_neededFolk_70 : decode cX4_neededFolk 70 = .ok (.istore_n 2, 1) := dk61 (k := 22) bX4_neededFolk_48 rfl
theorem dX4_neededFolk_71 : decode cX4_neededFolk 71 = .ok (.iinc 3 1, 3) := dk132 (k := 23) bX4_neededFolk_48 rfl rfl (by decide)
theorem bX4_neededFolk_74 : bL cX4_neededFolk 74 [167, 255, 219, 28, 172] := bL_of (by decide +kernel)
theorem dX4_neededFolk_74 : decode cX4_neededFolk 74 = .ok (.goto (-37), 3) := dk167 (k := 0) bX4_neededFolk_74 rfl (by decide)
theorem dX4_neededFolk_77 : decode cX4_neededFolk 77 = .ok (.iload_n 2, 1) := dk28 (k := 3) bX4_neededFolk_74 rfl
theorem dX4_neededFolk_78 : decode cX4_neededFolk 78 = .ok (.ireturn, 1) := dk172 (k := 4) bX4_neededFolk_74 rfl
theorem bX4_playOut_0 : bL cX4_playOut 0 [42, 27, 28, 182, 0, 56, 42, 3, 3, 3, 3, 182, 0, 60, 172] := bL_of (by decide +kernel)
theorem dX4_playOut_0 : decode cX4_playOut 0 = .ok (.aload_n 0, 1) := dk42 (k := 0) bX4_playOut_0 rfl
theorem dX4_playOut_1 : decode cX4_playOut 1 = .ok (.iload_n 1, 1) := dk27 (k := 1) bX4_playOut_0 rfl
theorem dX4_playOut_2 : decode cX4_playOut 2 = .ok (.iload_n 2, 1) := dk28 (k := 2) bX4_playOut_0 rfl
theorem dX4_playOut_3 : decode cX4_playOut 3 = .ok (.invokevirtual 56, 3) := dk182 (k := 3) bX4_playOut_0 rfl rfl
theorem dX4_playOut_6 : decode cX4_playOut 6 = .ok (.aload_n 0, 1) := dk42 (k := 6) bX4_playOut_0 rfl
theorem dX4_playOut_7 : decode cX4_playOut 7 = .ok (.iconst 0, 1) := dk3 (k := 7) bX4_playOut_0 rfl
theorem dX4_playOut_8 : decode cX4_playOut 8 = .ok (.iconst 0, 1) := dk3 (k := 8) bX4_playOut_0 rfl
theorem dX4_playOut_9 : decode cX4_playOut 9 = .ok (.iconst 0, 1) := dk3 (k := 9) bX4_playOut_0 rfl
theorem dX4_playOut_10 : decode cX4_playOut 10 = .ok (.iconst 0, 1) := dk3 (k := 10) bX4_playOut_0 rfl
theorem dX4_playOut_11 : decode cX4_playOut 11 = .ok (.invokevirtual 60, 3) := dk182 (k := 11) bX4_playOut_0 rfl rfl
theorem dX4_playOut_14 : decode cX4_playOut 14 = .ok (.ireturn, 1) := dk172 (k := 14) bX4_playOut_0 rfl
theorem bX4_firstMove_0 : bL cX4_firstMove 0 [27, 153, 0, 16, 42, 180, 0, 15, 180, 0, 19, 180, 0, 39, 154, 0, 5, 2, 172, 42, 27, 28, 182, 0, 56] := bL_of (by decide +kernel)
theorem dX4_firstMove_0 : decode cX4_firstMove 0 = .ok (.iload_n 1, 1) := dk27 (k := 0) bX4_firstMove_0 rfl
theorem dX4_firstMove_1 : decode cX4_firstMove 1 = .ok (.ifCond .eq 16, 3) := dk153 (k := 1) bX4_firstMove_0 rfl (by decide)
theorem dX4_firstMove_4 : decode cX4_firstMove 4 = .ok (.aload_n 0, 1) := dk42 (k := 4) bX4_firstMove_0 rfl
theorem dX4_firstMove_5 : decode cX4_firstMove 5 = .ok (.getfield 15, 3) := dk180 (k := 5) bX4_firstMove_0 rfl rfl
theorem dX4_firstMove_8 : decode cX4_firstMove 8 = .ok (.getfield 19, 3) := dk180 (k := 8) bX4_firstMove_0 rfl rfl
theorem dX4_firstMove_11 : decode cX4_firstMove 11 = .ok (.getfield 39, 3) := dk180 (k := 11) bX4_firstMove_0 rfl rfl
theorem dX4_firstMove_14 : decode cX4_firstMove 14 = .ok (.ifCond .ne 5, 3) := dk154 (k := 14) bX4_firstMove_0 rfl (by decide)
theorem dX4_firstMove_17 : decode cX4_firstMove 17 = .ok (.iconst (-1), 1) := dk2 (k := 17) bX4_firstMove_0 rfl
theorem dX4_firstMove_18 : decode cX4_firstMove 18 = .ok (.ireturn, 1) := dk172 (k := 18) bX4_firstMove_0 rfl
theorem dX4_firstMove_19 : decode cX4_firstMove 19 = .ok (.aload_n 0, 1) := dk42 (k := 19) bX4_firstMove_0 rfl
theorem dX4_firstMove_20 : decode cX4_firstMove 20 = .ok (.iload_n 1, 1) := dk27 (k := 20) bX4_firstMove_0 rfl
theorem dX4_firstMove_21 : decode cX4_firstMove 21 = .ok (.iload_n 2, 1) := dk28 (k := 21) bX4_firstMove_0 rfl
theorem dX4_firstMove_22 : decode cX4_firstMove 22 = .ok (.invokevirtual 56, 3) := dk182 (k := 22) bX4_firstMove_0 rfl rfl
theorem bX4_firstMove_25 : bL cX4_firstMove 25 [28, 154, 0, 7, 4, 167, 0, 4, 3, 62, 3, 54, 4, 21, 4, 42, 180, 0, 15, 180, 0, 19, 180, 0, 39] := bL_of (by decide +kernel)
theorem dX4_firstMove_25 : decode cX4_firstMove 25 = .ok (.iload_n 2, 1) := dk28 (k := 0) bX4_firstMove_25 rfl
theorem dX4_firstMove_26 : decode cX4_firstMove 26 = .ok (.ifCond .ne 7, 3) := dk154 (k := 1) bX4_firstMove_25 rfl (by decide)
theorem dX4_firstMove_29 : decode cX4_firstMove 29 = .ok (.iconst 1, 1) := dk4 (k := 4) bX4_firstMove_25 rfl
theorem dX4_firstMove_30 : decode cX4_firstMove 30 = .ok (.goto 4, 3) := dk167 (k := 5) bX4_firstMove_25 rfl (by decide)
theorem dX4_firstMove_33 : decode cX4_firstMove 33 = .ok (.iconst 0, 1) := dk3 (k := 8) bX4_firstMove_25 rfl
theorem dX4_firstMove_34 : decode cX4_firstMove 34 = .ok (.istore_n 3, 1) := dk62 (k := 9) bX4_firstMove_25 rfl
theorem dX4_firstMove_35 : decode cX4_firstMove 35 = .ok (.iconst 0, 1) := dk3 (k := 10) bX4_firstMove_25 rfl
theorem dX4_firstMove_36 : decode cX4_firstMove 36 = .ok (.istore 4, 2) := dk54 (k := 11) bX4_firstMove_25 rfl rfl
theorem dX4_firstMove_38 : decode cX4_firstMove 38 = .ok (.iload 4, 2) := dk21 (k := 13) bX4_firstMove_25 rfl rfl
theorem dX4_firstMove_40 : decode cX4_firstMove 40 = .ok (.aload_n 0, 1) := dk42 (k := 15) bX4_firstMove_25 rfl
theorem dX4_firstMove_41 : decode cX4_firstMove 41 = .ok (.getfield 15, 3) := dk180 (k := 16) bX4_firstMove_25 rfl rfl
theorem dX4_firstMove_44 : decode cX4_firstMove 44 = .ok (.getfield 19, 3) := dk180 (k := 19) bX4_firstMove_25 rfl rfl
theorem dX4_firstMove_47 : decode cX4_firstMove 47 = .ok (.getfield 39, 3) := dk180 (k := 22) bX4_firstMove_25 rfl rfl
theorem bX4_firstMove_50 : bL cX4_firstMove 50 [162, 0, 26, 42, 21, 4, 3, 3, 3, 3, 182, 0, 64, 29, 160, 0, 6, 21, 4, 172, 132, 4, 1, 167, 255, 221] := bL_of (by decide +kernel)
theorem dX4_firstMove_50 : decode cX4_firstMove 50 = .ok (.if_icmp .ge 26, 3) := dk162 (k := 0) bX4_firstMove_50 rfl (by decide)
theorem dX4_firstMove_53 : decode cX4_firstMove 53 = .ok (.aload_n 0, 1) := dk42 (k := 3) bX4_firstMove_50 rfl
theorem dX4_firstMove_54 : decode cX4_firstMove 54 = .ok (.iload 4, 2) := dk21 (k := 4) bX4_firstMove_50 rfl rfl
theorem dX4_firstMove_56 : decode cX4_firstMove 56 = .ok (.iconst 0, 1) := dk3 (k := 6) bX4_firstMove_50 rfl
theorem dX4_firstMove_57 : decode cX4_firstMove 57 = .ok (.iconst 0, 1) := dk3 (k := 7) bX4_firstMove_50 rfl
theorem dX4_firstMove_58 : decode cX4_firstMove 58 = .ok (.iconst 0, 1) := dk3 (k := 8) bX4_firstMove_50 rfl
theorem dX4_firstMove_59 : decode cX4_firstMove 59 = .ok (.iconst 0, 1) := dk3 (k := 9) bX4_firstMove_50 rfl
theorem dX4_firstMove_60 : decode cX4_firstMove 60 = .ok (.invokevirtual 64, 3) := dk182 (k := 10) bX4_firstMove_50 rfl rfl
theorem dX4_firstMove_63 : decode cX4_firstMove 63 = .ok (.iload_n 3, 1) := dk29 (k := 13) bX4_firstMove_50 rfl
theorem dX4_firstMove_64 : decode cX4_firstMove 64 = .ok (.if_icmp .ne 6, 3) := dk160 (k := 14) bX4_firstMove_50 rfl (by decide)
theorem dX4_firstMove_67 : decode cX4_firstMove 67 = .ok (.iload 4, 2) := dk21 (k := 17) bX4_firstMove_50 rfl rfl
theorem dX4_firstMove_69 : decode cX4_firstMove 69 = .ok (.ireturn, 1) := dk172 (k := 19) bX4_firstMove_50 rfl
theorem dX4_firstMove_70 : decode cX4_firstMove 70 = .ok (.iinc 4 1, 3) := dk132 (k := 20) bX4_firstMove_50 rfl rfl (by decide)
theorem dX4_firstMove_73 : decode cX4_firstMove 73 = .ok (.goto (-35), 3) := dk167 (k := 23) bX4_firstMove_50 rfl (by decide)
theorem bX4_firstMove_76 : bL cX4_firstMove 76 [3, 172] := bL_of (by decide +kernel)
theorem dX4_firstMove_76 : decode cX4_firstMove 76 = .ok (.iconst 0, 1) := dk3 (k := 0) bX4_firstMove_76 rfl
theorem dX4_firstMove_77 : decode cX4_firstMove 77 = .ok (.ireturn, 1) := dk172 (k := 1) bX4_firstMove_76 rfl
theorem bX4_begin_0 : bL cX4_begin 0 [42, 42, 180, 0, 15, 180, 0, 19, 42, 180, 0, 15, 180, 0, 25, 2, 182, 0, 29, 181, 0, 68, 42, 5] := bL_of (by decide +kernel)
theorem dX4_begin_0 : decode cX4_begin 0 = .ok (.aload_n 0, 1) := dk42 (k := 0) bX4_begin_0 rfl
theorem dX4_begin_1 : decode cX4_begin 1 = .ok (.aload_n 0, 1) := dk42 (k := 1) bX4_begin_0 rfl
theorem dX4_begin_2 : decode cX4_begin 2 = .ok (.getfield 15, 3) := dk180 (k := 2) bX4_begin_0 rfl rfl
theorem dX4_begin_5 : decode cX4_begin 5 = .ok (.getfield 19, 3) := dk180 (k := 5) bX4_begin_0 rfl rfl
theorem dX4_begin_8 : decode cX4_begin 8 = .ok (.aload_n 0, 1) := dk42 (k := 8) bX4_begin_0 rfl
theorem dX4_begin_9 : decode cX4_begin 9 = .ok (.getfield 15, 3) := dk180 (k := 9) bX4_begin_0 rfl rfl
theorem dX4_begin_12 : decode cX4_begin 12 = .ok (.getfield 25, 3) := dk180 (k := 12) bX4_begin_0 rfl rfl
theorem dX4_begin_15 : decode cX4_begin 15 = .ok (.iconst (-1), 1) := dk2 (k := 15) bX4_begin_0 rfl
theorem dX4_begin_16 : decode cX4_begin 16 = .ok (.invokevirtual 29, 3) := dk182 (k := 16) bX4_begin_0 rfl rfl
theorem dX4_begin_19 : decode cX4_begin 19 = .ok (.putfield 68, 3) := dk181 (k := 19) bX4_begin_0 rfl rfl
theorem dX4_begin_22 : decode cX4_begin 22 = .ok (.aload_n 0, 1) := dk42 (k := 22) bX4_begin_0 rfl
theorem dX4_begin_23 : decode cX4_begin 23 = .ok (.iconst 2, 1) := dk5 (k := 23) bX4_begin_0 rfl
theorem bX4_begin_24 : bL cX4_begin 24 [27, 104, 181, 0, 71, 42, 28, 181, 0, 74, 3, 62, 29, 42, 180, 0, 9, 190, 162, 0, 16, 42, 180, 0, 9] := bL_of (by decide +kernel)
theorem dX4_begin_24 : decode cX4_begin 24 = .ok (.iload_n 1, 1) := dk27 (k := 0) bX4_begin_24 rfl
theorem dX4_begin_25 : decode cX4_begin 25 = .ok (.imul, 1) := dk104 (k := 1) bX4_begin_24 rfl
theorem dX4_begin_26 : decode cX4_begin 26 = .ok (.putfield 71, 3) := dk181 (k := 2) bX4_begin_24 rfl rfl
theorem dX4_begin_29 : decode cX4_begin 29 = .ok (.aload_n 0, 1) := dk42 (k := 5) bX4_begin_24 rfl
theorem dX4_begin_30 : decode cX4_begin 30 = .ok (.iload_n 2, 1) := dk28 (k := 6) bX4_begin_24 rfl
theorem dX4_begin_31 : decode cX4_begin 31 = .ok (.putfield 74, 3) := dk181 (k := 7) bX4_begin_24 rfl rfl
theorem dX4_begin_34 : decode cX4_begin 34 = .ok (.iconst 0, 1) := dk3 (k := 10) bX4_begin_24 rfl
theorem dX4_begin_35 : decode cX4_begin 35 = .ok (.istore_n 3, 1) := dk62 (k := 11) bX4_begin_24 rfl
theorem dX4_begin_36 : decode cX4_begin 36 = .ok (.iload_n 3, 1) := dk29 (k := 12) bX4_begin_24 rfl
theorem dX4_begin_37 : decode cX4_begin 37 = .ok (.aload_n 0, 1) := dk42 (k := 13) bX4_begin_24 rfl
theorem dX4_begin_38 : decode cX4_begin 38 = .ok (.getfield 9, 3) := dk180 (k := 14) bX4_begin_24 rfl rfl
theorem dX4_begin_41 : decode cX4_begin 41 = .ok (.arraylength, 1) := dk190 (k := 17) bX4_begin_24 rfl
theorem dX4_begin_42 : decode cX4_begin 42 = .ok (.if_icmp .ge 16, 3) := dk162 (k := 18) bX4_begin_24 rfl (by decide)
theorem dX4_begin_45 : decode cX4_begin 45 = .ok (.aload_n 0, 1) := dk42 (k := 21) bX4_begin_24 rfl
theorem dX4_begin_46 : decode cX4_begin 46 = .ok (.getfield 9, 3) := dk180 (k := 22) bX4_begin_24 rfl rfl
theorem bX4_begin_49 : bL cX4_begin 49 [29, 3, 84, 132, 3, 1, 167, 255, 237, 177] := bL_of (by decide +kernel)
theorem dX4_begin_49 : decode cX4_begin 49 = .ok (.iload_n 3, 1) := dk29 (k := 0) bX4_begin_49 rfl
theorem dX4_begin_50 : decode cX4_begin 50 = .ok (.iconst 0, 1) := dk3 (k := 1) bX4_begin_49 rfl
theorem dX4_begin_51 : decode cX4_begin 51 = .ok (.bastore, 1) := dk84 (k := 2) bX4_begin_49 rfl
theorem dX4_begin_52 : decode cX4_begin 52 = .ok (.iinc 3 1, 3) := dk132 (k := 3) bX4_begin_49 rfl rfl (by decide)
theorem dX4_begin_55 : decode cX4_begin 55 = .ok (.goto (-19), 3) := dk167 (k := 6) bX4_begin_49 rfl (by decide)
theorem dX4_begin_58 : decode cX4_begin 58 = .ok (.return_, 1) := dk177 (k := 9) bX4_begin_49 rfl
theorem bX4_winsNow_0 : bL cX4_winsNow 0 [27, 42, 180, 0, 74, 96, 4, 126, 154, 0, 7, 4, 167, 0, 4, 3, 172] := bL_of (by decide +kernel)
theorem dX4_winsNow_0 : decode cX4_winsNow 0 = .ok (.iload_n 1, 1) := dk27 (k := 0) bX4_winsNow_0 rfl
theorem dX4_winsNow_1 : decode cX4_winsNow 1 = .ok (.aload_n 0, 1) := dk42 (k := 1) bX4_winsNow_0 rfl
theorem dX4_winsNow_2 : decode cX4_winsNow 2 = .ok (.getfield 74, 3) := dk180 (k := 2) bX4_winsNow_0 rfl rfl
theorem dX4_winsNow_5 : decode cX4_winsNow 5 = .ok (.iadd, 1) := dk96 (k := 5) bX4_winsNow_0 rfl
theorem dX4_winsNow_6 : decode cX4_winsNow 6 = .ok (.iconst 1, 1) := dk4 (k := 6) bX4_winsNow_0 rfl
theorem dX4_winsNow_7 : decode cX4_winsNow 7 = .ok (.iand, 1) := dk126 (k := 7) bX4_winsNow_0 rfl
theorem dX4_winsNow_8 : decode cX4_winsNow 8 = .ok (.ifCond .ne 7, 3) := dk154 (k := 8) bX4_winsNow_0 rfl (by decide)
theorem dX4_winsNow_11 : decode cX4_winsNow 11 = .ok (.iconst 1, 1) := dk4 (k := 11) bX4_winsNow_0 rfl
theorem dX4_winsNow_12 : decode cX4_winsNow 12 = .ok (.goto 4, 3) := dk167 (k := 12) bX4_winsNow_0 rfl (by decide)
theorem dX4_winsNow_15 : decode cX4_winsNow 15 = .ok (.iconst 0, 1) := dk3 (k := 15) bX4_winsNow_0 rfl
theorem dX4_winsNow_16 : decode cX4_winsNow 16 = .ok (.ireturn, 1) := dk172 (k := 16) bX4_winsNow_0 rfl
theorem bX4_comesOut_0 : bL cX4_comesOut 0 [27, 28, 128, 4, 42, 180, 0, 15, 180, 0, 19, 180, 0, 39, 120, 4, 100, 160, 0, 7, 4, 167, 0, 4] := bL_of (by decide +kernel)
theorem dX4_comesOut_0 : decode cX4_comesOut 0 = .ok (.iload_n 1, 1) := dk27 (k := 0) bX4_comesOut_0 rfl
theorem dX4_comesOut_1 : decode cX4_comesOut 1 = .ok (.iload_n 2, 1) := dk28 (k := 1) bX4_comesOut_0 rfl
theorem dX4_comesOut_2 : decode cX4_comesOut 2 = .ok (.ior, 1) := dk128 (k := 2) bX4_comesOut_0 rfl
theorem dX4_comesOut_3 : decode cX4_comesOut 3 = .ok (.iconst 1, 1) := dk4 (k := 3) bX4_comesOut_0 rfl
theorem dX4_comesOut_4 : decode cX4_comesOut 4 = .ok (.aload_n 0, 1) := dk42 (k := 4) bX4_comesOut_0 rfl
theorem dX4_comesOut_5 : decode cX4_comesOut 5 = .ok (.getfield 15, 3) := dk180 (k := 5) bX4_comesOut_0 rfl rfl
theorem dX4_comesOut_8 : decode cX4_comesOut 8 = .ok (.getfield 19, 3) := dk180 (k := 8) bX4_comesOut_0 rfl rfl
theorem dX4_comesOut_11 : decode cX4_comesOut 11 = .ok (.getfield 39, 3) := dk180 (k := 11) bX4_comesOut_0 rfl rfl
theorem dX4_comesOut_14 : decode cX4_comesOut 14 = .ok (.ishl, 1) := dk120 (k := 14) bX4_comesOut_0 rfl
theorem dX4_comesOut_15 : decode cX4_comesOut 15 = .ok (.iconst 1, 1) := dk4 (k := 15) bX4_comesOut_0 rfl
theorem dX4_comesOut_16 : decode cX4_comesOut 16 = .ok (.isub, 1) := dk100 (k := 16) bX4_comesOut_0 rfl
theorem dX4_comesOut_17 : decode cX4_comesOut 17 = .ok (.if_icmp .ne 7, 3) := dk160 (k := 17) bX4_comesOut_0 rfl (by decide)
theorem dX4_comesOut_20 : decode cX4_comesOut 20 = .ok (.iconst 1, 1) := dk4 (k := 20) bX4_comesOut_0 rfl
theorem dX4_comesOut_21 : decode cX4_comesOut 21 = .ok (.goto 4, 3) := dk167 (k := 21) bX4_comesOut_0 rfl (by decide)
theorem bX4_comesOut_24 : bL cX4_comesOut 24 [3, 54, 5, 21, 5, 154, 0, 26, 29, 42, 180, 0, 71, 162, 0, 18, 21, 4, 155, 0, 13, 21, 4, 42] := bL_of (by decide +kernel)
theorem dX4_comesOut_24 : decode cX4_comesOut 24 = .ok (.iconst 0, 1) := dk3 (k := 0) bX4_comesOut_24 rfl
theorem dX4_comesOut_25 : decode cX4_comesOut 25 = .ok (.istore 5, 2) := dk54 (k := 1) bX4_comesOut_24 rfl rfl
theorem dX4_comesOut_27 : decode cX4_comesOut 27 = .ok (.iload 5, 2) := dk21 (k := 3) bX4_comesOut_24 rfl rfl
theorem dX4_comesOut_29 : decode cX4_comesOut 29 = .ok (.ifCond .ne 26, 3) := dk154 (k := 5) bX4_comesOut_24 rfl (by decide)
theorem dX4_comesOut_32 : decode cX4_comesOut 32 = .ok (.iload_n 3, 1) := dk29 (k := 8) bX4_comesOut_24 rfl
theorem dX4_comesOut_33 : decode cX4_comesOut 33 = .ok (.aload_n 0, 1) := dk42 (k := 9) bX4_comesOut_24 rfl
theorem dX4_comesOut_34 : decode cX4_comesOut 34 = .ok (.getfield 71, 3) := dk180 (k := 10) bX4_comesOut_24 rfl rfl
theorem dX4_comesOut_37 : decode cX4_comesOut 37 = .ok (.if_icmp .ge 18, 3) := dk162 (k := 13) bX4_comesOut_24 rfl (by decide)
theorem dX4_comesOut_40 : decode cX4_comesOut 40 = .ok (.iload 4, 2) := dk21 (k := 16) bX4_comesOut_24 rfl rfl
theorem dX4_comesOut_42 : decode cX4_comesOut 42 = .ok (.ifCond .lt 13, 3) := dk155 (k := 18) bX4_comesOut_24 rfl (by decide)
theorem dX4_comesOut_45 : decode cX4_comesOut 45 = .ok (.iload 4, 2) := dk21 (k := 21) bX4_comesOut_24 rfl rfl
theorem dX4_comesOut_47 : decode cX4_comesOut 47 = .ok (.aload_n 0, 1) := dk42 (k := 23) bX4_comesOut_24 rfl
theorem bX4_comesOut_48 : bL cX4_comesOut 48 [180, 0, 9, 190, 161, 0, 18, 42, 180, 0, 15, 42, 180, 0, 68, 27, 128, 28, 182, 0, 49, 172, 42, 180, 0, 9] := bL_of (by decide +kernel)
theorem dX4_comesOut_48 : decode cX4_comesOut 48 = .ok (.getfield 9, 3) := dk180 (k := 0) bX4_comesOut_48 rfl rfl
theorem dX4_comesOut_51 : decode cX4_comesOut 51 = .ok (.arraylength, 1) := dk190 (k := 3) bX4_comesOut_48 rfl
theorem dX4_comesOut_52 : decode cX4_comesOut 52 = .ok (.if_icmp .lt 18, 3) := dk161 (k := 4) bX4_comesOut_48 rfl (by decide)
theorem dX4_comesOut_55 : decode cX4_comesOut 55 = .ok (.aload_n 0, 1) := dk42 (k := 7) bX4_comesOut_48 rfl
theorem dX4_comesOut_56 : decode cX4_comesOut 56 = .ok (.getfield 15, 3) := dk180 (k := 8) bX4_comesOut_48 rfl rfl
theorem dX4_comesOut_59 : decode cX4_comesOut 59 = .ok (.aload_n 0, 1) := dk42 (k := 11) bX4_comesOut_48 rfl
theorem dX4_comesOut_60 : decode cX4_comesOut 60 = .ok (.getfield 68, 3) := dk180 (k := 12) bX4_comesOut_48 rfl rfl
theorem dX4_comesOut_63 : decode cX4_comesOut 63 = .ok (.iload_n 1, 1) := dk27 (k := 15) bX4_comesOut_48 rfl
theorem dX4_comesOut_64 : decode cX4_comesOut 64 = .ok (.ior, 1) := dk128 (k := 16) bX4_comesOut_48 rfl
theorem dX4_comesOut_65 : decode cX4_comesOut 65 = .ok (.iload_n 2, 1) := dk28 (k := 17) bX4_comesOut_48 rfl
theorem dX4_comesOut_66 : decode cX4_comesOut 66 = .ok (.invokevirtual 49, 3) := dk182 (k := 18) bX4_comesOut_48 rfl rfl
theorem dX4_comesOut_69 : decode cX4_comesOut 69 = .ok (.ireturn, 1) := dk172 (k := 21) bX4_comesOut_48 rfl
theorem dX4_comesOut_70 : decode cX4_comesOut 70 = .ok (.aload_n 0, 1) := dk42 (k := 22) bX4_comesOut_48 rfl
theorem dX4_comesOut_71 : decode cX4_comesOut 71 = .ok (.getfield 9, 3) := dk180 (k := 23) bX4_comesOut_48 rfl rfl
theorem bX4_comesOut_74 : bL cX4_comesOut 74 [21, 4, 51, 154, 0, 51, 42, 29, 182, 0, 77, 54, 6, 42, 21, 6, 27, 28, 29, 21, 4, 182, 0, 81] := bL_of (by decide +kernel)
theorem dX4_comesOut_74 : decode cX4_comesOut 74 = .ok (.iload 4, 2) := dk21 (k := 0) bX4_comesOut_74 rfl rfl
theorem dX4_comesOut_76 : decode cX4_comesOut 76 = .ok (.baload, 1) := dk51 (k := 2) bX4_comesOut_74 rfl
theorem dX4_comesOut_77 : decode cX4_comesOut 77 = .ok (.ifCond .ne 51, 3) := dk154 (k := 3) bX4_comesOut_74 rfl (by decide)
theorem dX4_comesOut_80 : decode cX4_comesOut 80 = .ok (.aload_n 0, 1) := dk42 (k := 6) bX4_comesOut_74 rfl
theorem dX4_comesOut_81 : decode cX4_comesOut 81 = .ok (.iload_n 3, 1) := dk29 (k := 7) bX4_comesOut_74 rfl
theorem dX4_comesOut_82 : decode cX4_comesOut 82 = .ok (.invokevirtual 77, 3) := dk182 (k := 8) bX4_comesOut_74 rfl rfl
theorem dX4_comesOut_85 : decode cX4_comesOut 85 = .ok (.istore 6, 2) := dk54 (k := 11) bX4_comesOut_74 rfl rfl
theorem dX4_comesOut_87 : decode cX4_comesOut 87 = .ok (.aload_n 0, 1) := dk42 (k := 13) bX4_comesOut_74 rfl
theorem dX4_comesOut_88 : decode cX4_comesOut 88 = .ok (.iload 6, 2) := dk21 (k := 14) bX4_comesOut_74 rfl rfl
theorem dX4_comesOut_90 : decode cX4_comesOut 90 = .ok (.iload_n 1, 1) := dk27 (k := 16) bX4_comesOut_74 rfl
theorem dX4_comesOut_91 : decode cX4_comesOut 91 = .ok (.iload_n 2, 1) := dk28 (k := 17) bX4_comesOut_74 rfl
theorem dX4_comesOut_92 : decode cX4_comesOut 92 = .ok (.iload_n 3, 1) := dk29 (k := 18) bX4_comesOut_74 rfl
theorem dX4_comesOut_93 : decode cX4_comesOut 93 = .ok (.iload 4, 2) := dk21 (k := 19) bX4_comesOut_74 rfl rfl
theorem dX4_comesOut_95 : decode cX4_comesOut 95 = .ok (.invokevirtual 81, 3) := dk182 (k := 21) bX4_comesOut_74 rfl rfl
theorem bX4_comesOut_98 : bL cX4_comesOut 98 [21, 6, 160, 0, 7, 4, 167, 0, 4, 3, 54, 7, 42, 180, 0, 9, 21, 4, 21, 7, 153, 0, 7, 4] := bL_of (by decide +kernel)
theorem dX4_comesOut_98 : decode cX4_comesOut 98 = .ok (.iload 6, 2) := dk21 (k := 0) bX4_comesOut_98 rfl rfl
theorem dX4_comesOut_100 : decode cX4_comesOut 100 = .ok (.if_icmp .ne 7, 3) := dk160 (k := 2) bX4_comesOut_98 rfl (by decide)
theorem dX4_comesOut_103 : decode cX4_comesOut 103 = .ok (.iconst 1, 1) := dk4 (k := 5) bX4_comesOut_98 rfl
theorem dX4_comesOut_104 : decode cX4_comesOut 104 = .ok (.goto 4, 3) := dk167 (k := 6) bX4_comesOut_98 rfl (by decide)
theorem dX4_comesOut_107 : decode cX4_comesOut 107 = .ok (.iconst 0, 1) := dk3 (k := 9) bX4_comesOut_98 rfl
theorem dX4_comesOut_108 : decode cX4_comesOut 108 = .ok (.istore 7, 2) := dk54 (k := 10) bX4_comesOut_98 rfl rfl
theorem dX4_comesOut_110 : decode cX4_comesOut 110 = .ok (.aload_n 0, 1) := dk42 (k := 12) bX4_comesOut_98 rfl
theorem dX4_comesOut_111 : decode cX4_comesOut 111 = .ok (.getfield 9, 3) := dk180 (k := 13) bX4_comesOut_98 rfl rfl
theorem dX4_comesOut_114 : decode cX4_comesOut 114 = .ok (.iload 4, 2) := dk21 (k := 16) bX4_comesOut_98 rfl rfl
theorem dX4_comesOut_116 : decode cX4_comesOut 116 = .ok (.iload 7, 2) := dk21 (k := 18) bX4_comesOut_98 rfl rfl
theorem dX4_comesOut_118 : decode cX4_comesOut 118 = .ok (.ifCond .eq 7, 3) := dk153 (k := 20) bX4_comesOut_98 rfl (by decide)
theorem dX4_comesOut_121 : decode cX4_comesOut 121 = .ok (.iconst 1, 1) := dk4 (k := 23) bX4_comesOut_98 rfl
theorem bX4_comesOut_122 : bL cX4_comesOut 122 [167, 0, 4, 5, 145, 84, 42, 180, 0, 9, 21, 4, 51, 4, 160, 0, 7, 4, 167, 0, 4, 3, 172] := bL_of (by decide +kernel)
theorem dX4_comesOut_122 : decode cX4_comesOut 122 = .ok (.goto 4, 3) := dk167 (k := 0) bX4_comesOut_122 rfl (by decide)
theorem dX4_comesOut_125 : decode cX4_comesOut 125 = .ok (.iconst 2, 1) := dk5 (k := 3) bX4_comesOut_122 rfl
theorem dX4_comesOut_126 : decode cX4_comesOut 126 = .ok (.i2b, 1) := dk145 (k := 4) bX4_comesOut_122 rfl
theorem dX4_comesOut_127 : decode cX4_comesOut 127 = .ok (.bastore, 1) := dk84 (k := 5) bX4_comesOut_122 rfl
theorem dX4_comesOut_128 : decode cX4_comesOut 128 = .ok (.aload_n 0, 1) := dk42 (k := 6) bX4_comesOut_122 rfl
theorem dX4_comesOut_129 : decode cX4_comesOut 129 = .ok (.getfield 9, 3) := dk180 (k := 7) bX4_comesOut_122 rfl rfl
theorem dX4_comesOut_132 : decode cX4_comesOut 132 = .ok (.iload 4, 2) := dk21 (k := 10) bX4_comesOut_122 rfl rfl
theorem dX4_comesOut_134 : decode cX4_comesOut 134 = .ok (.baload, 1) := dk51 (k := 12) bX4_comesOut_122 rfl
theorem dX4_comesOut_135 : decode cX4_comesOut 135 = .ok (.iconst 1, 1) := dk4 (k := 13) bX4_comesOut_122 rfl
theorem dX4_comesOut_136 : decode cX4_comesOut 136 = .ok (.if_icmp .ne 7, 3) := dk160 (k := 14) bX4_comesOut_122 rfl (by decide)
theorem dX4_comesOut_139 : decode cX4_comesOut 139 = .ok (.iconst 1, 1) := dk4 (k := 17) bX4_comesOut_122 rfl
theorem dX4_comesOut_140 : decode cX4_comesOut 140 = .ok (.goto 4, 3) := dk167 (k := 18) bX4_comesOut_122 rfl (by decide)
theorem dX4_comesOut_143 : decode cX4_comesOut 143 = .ok (.iconst 0, 1) := dk3 (k := 21) bX4_comesOut_122 rfl
theorem dX4_comesOut_144 : decode cX4_comesOut 144 = .ok (.ireturn, 1) := dk172 (k := 22) bX4_comesOut_122 rfl
theorem bX4_canReach_0 : bL cX4_canReach 0 [3, 54, 6, 21, 6, 42, 180, 0, 15, 180, 0, 19, 180, 0, 39, 162, 0, 38, 28, 29, 128, 21, 6, 122] := bL_of (by decide +kernel)
theorem dX4_canReach_0 : decode cX4_canReach 0 = .ok (.iconst 0, 1) := dk3 (k := 0) bX4_canReach_0 rfl
theorem dX4_canReach_1 : decode cX4_canReach 1 = .ok (.istore 6, 2) := dk54 (k := 1) bX4_canReach_0 rfl rfl
theorem dX4_canReach_3 : decode cX4_canReach 3 = .ok (.iload 6, 2) := dk21 (k := 3) bX4_canReach_0 rfl rfl
theorem dX4_canReach_5 : decode cX4_canReach 5 = .ok (.aload_n 0, 1) := dk42 (k := 5) bX4_canReach_0 rfl
theorem dX4_canReach_6 : decode cX4_canReach 6 = .ok (.getfield 15, 3) := dk180 (k := 6) bX4_canReach_0 rfl rfl
theorem dX4_canReach_9 : decode cX4_canReach 9 = .ok (.getfield 19, 3) := dk180 (k := 9) bX4_canReach_0 rfl rfl
theorem dX4_canReach_12 : decode cX4_canReach 12 = .ok (.getfield 39, 3) := dk180 (k := 12) bX4_canReach_0 rfl rfl
theorem dX4_canReach_15 : decode cX4_canReach 15 = .ok (.if_icmp .ge 38, 3) := dk162 (k := 15) bX4_canReach_0 rfl (by decide)
theorem dX4_canReach_18 : decode cX4_canReach 18 = .ok (.iload_n 2, 1) := dk28 (k := 18) bX4_canReach_0 rfl
theorem dX4_canReach_19 : decode cX4_canReach 19 = .ok (.iload_n 3, 1) := dk29 (k := 19) bX4_canReach_0 rfl
theorem dX4_canReach_20 : decode cX4_canReach 20 = .ok (.ior, 1) := dk128 (k := 20) bX4_canReach_0 rfl
theorem dX4_canReach_21 : decode cX4_canReach 21 = .ok (.iload 6, 2) := dk21 (k := 21) bX4_canReach_0 rfl rfl
theorem dX4_canReach_23 : decode cX4_canReach 23 = .ok (.ishr, 1) := dk122 (k := 23) bX4_canReach_0 rfl
theorem bX4_canReach_24 : bL cX4_canReach 24 [4, 126, 154, 0, 21, 42, 21, 6, 28, 29, 21, 4, 21, 5, 182, 0, 64, 27, 160, 0, 5, 4, 172, 132, 6, 1] := bL_of (by decide +kernel)
theorem dX4_canReach_24 : decode cX4_canReach 24 = .ok (.iconst 1, 1) := dk4 (k := 0) bX4_canReach_24 rfl
theorem dX4_canReach_25 : decode cX4_canReach 25 = .ok (.iand, 1) := dk126 (k := 1) bX4_canReach_24 rfl
theorem dX4_canReach_26 : decode cX4_canReach 26 = .ok (.ifCond .ne 21, 3) := dk154 (k := 2) bX4_canReach_24 rfl (by decide)
theorem dX4_canReach_29 : decode cX4_canReach 29 = .ok (.aload_n 0, 1) := dk42 (k := 5) bX4_canReach_24 rfl
theorem dX4_canReach_30 : decode cX4_canReach 30 = .ok (.iload 6, 2) := dk21 (k := 6) bX4_canReach_24 rfl rfl
theorem dX4_canReach_32 : decode cX4_canReach 32 = .ok (.iload_n 2, 1) := dk28 (k := 8) bX4_canReach_24 rfl
theorem dX4_canReach_33 : decode cX4_canReach 33 = .ok (.iload_n 3, 1) := dk29 (k := 9) bX4_canReach_24 rfl
theorem dX4_canReach_34 : decode cX4_canReach 34 = .ok (.iload 4, 2) := dk21 (k := 10) bX4_canReach_24 rfl rfl
theorem dX4_canReach_36 : decode cX4_canReach 36 = .ok (.iload 5, 2) := dk21 (k := 12) bX4_canReach_24 rfl rfl
theorem dX4_canReach_38 : decode cX4_canReach 38 = .ok (.invokevirtual 64, 3) := dk182 (k := 14) bX4_canReach_24 rfl rfl
theorem dX4_canReach_41 : decode cX4_canReach 41 = .ok (.iload_n 1, 1) := dk27 (k := 17) bX4_canReach_24 rfl
theorem dX4_canReach_42 : decode cX4_canReach 42 = .ok (.if_icmp .ne 5, 3) := dk160 (k := 18) bX4_canReach_24 rfl (by decide)
theorem dX4_canReach_45 : decode cX4_canReach 45 = .ok (.iconst 1, 1) := dk4 (k := 21) bX4_canReach_24 rfl
theorem dX4_canReach_46 : decode cX4_canReach 46 = .ok (.ireturn, 1) := dk172 (k := 22) bX4_canReach_24 rfl
theorem dX4_canReach_47 : decode cX4_canReach 47 = .ok (.iinc 6 1, 3) := dk132 (k := 23) bX4_canReach_24 rfl rfl (by decide)
theorem bX4_canReach_50 : bL cX4_canReach 50 [167, 255, 209, 3, 172] := bL_of (by decide +kernel)
theorem dX4_canReach_50 : decode cX4_canReach 50 = .ok (.goto (-47), 3) := dk167 (k := 0) bX4_canReach_50 rfl (by decide)
theorem dX4_canReach_53 : decode cX4_canReach 53 = .ok (.iconst 0, 1) := dk3 (k := 3) bX4_canReach_50 rfl
theorem dX4_canReach_54 : decode cX4_canReach 54 = .ok (.ireturn, 1) := dk172 (k := 4) bX4_canReach_50 rfl
theorem bX4_comesOutBy_0 : bL cX4_comesOutBy 0 [27, 155, 0, 19, 27, 178, 0, 85, 190, 162, 0, 11, 178, 0, 85, 27, 46, 167, 0, 4, 3, 54, 6, 42] := bL_of (by decide +kernel)
theorem dX4_comesOutBy_0 : decode cX4_comesOutBy 0 = .ok (.iload_n 1, 1) := dk27 (k := 0) bX4_comesOutBy_0 rfl
theorem dX4_comesOutBy_1 : decode cX4_comesOutBy 1 = .ok (.ifCond .lt 19, 3) := dk155 (k := 1) bX4_comesOutBy_0 rfl (by decide)
theorem dX4_comesOutBy_4 : decode cX4_comesOutBy 4 = .ok (.iload_n 1, 1) := dk27 (k := 4) bX4_comesOutBy_0 rfl
theorem dX4_comesOutBy_5 : decode cX4_comesOutBy 5 = .ok (.getstatic 85, 3) := dk178 (k := 5) bX4_comesOutBy_0 rfl rfl
theorem dX4_comesOutBy_8 : decode cX4_comesOutBy 8 = .ok (.arraylength, 1) := dk190 (k := 8) bX4_comesOutBy_0 rfl
theorem dX4_comesOutBy_9 : decode cX4_comesOutBy 9 = .ok (.if_icmp .ge 11, 3) := dk162 (k := 9) bX4_comesOutBy_0 rfl (by decide)
theorem dX4_comesOutBy_12 : decode cX4_comesOutBy 12 = .ok (.getstatic 85, 3) := dk178 (k := 12) bX4_comesOutBy_0 rfl rfl
theorem dX4_comesOutBy_15 : decode cX4_comesOutBy 15 = .ok (.iload_n 1, 1) := dk27 (k := 15) bX4_comesOutBy_0 rfl
theorem dX4_comesOutBy_16 : decode cX4_comesOutBy 16 = .ok (.iaload, 1) := dk46 (k := 16) bX4_comesOutBy_0 rfl
theorem dX4_comesOutBy_17 : decode cX4_comesOutBy 17 = .ok (.goto 4, 3) := dk167 (k := 17) bX4_comesOutBy_0 rfl (by decide)
theorem dX4_comesOutBy_20 : decode cX4_comesOutBy 20 = .ok (.iconst 0, 1) := dk3 (k := 20) bX4_comesOutBy_0 rfl
theorem dX4_comesOutBy_21 : decode cX4_comesOutBy 21 = .ok (.istore 6, 2) := dk54 (k := 21) bX4_comesOutBy_0 rfl rfl
theorem dX4_comesOutBy_23 : decode cX4_comesOutBy 23 = .ok (.aload_n 0, 1) := dk42 (k := 23) bX4_comesOutBy_0 rfl
theorem bX4_comesOutBy_24 : bL cX4_comesOutBy 24 [21, 4, 182, 0, 77, 153, 0, 23, 42, 28, 4, 27, 120, 128, 29, 21, 4, 4, 96, 21, 5, 21, 6, 96] := bL_of (by decide +kernel)
theorem dX4_comesOutBy_24 : decode cX4_comesOutBy 24 = .ok (.iload 4, 2) := dk21 (k := 0) bX4_comesOutBy_24 rfl rfl
theorem dX4_comesOutBy_26 : decode cX4_comesOutBy 26 = .ok (.invokevirtual 77, 3) := dk182 (k := 2) bX4_comesOutBy_24 rfl rfl
theorem dX4_comesOutBy_29 : decode cX4_comesOutBy 29 = .ok (.ifCond .eq 23, 3) := dk153 (k := 5) bX4_comesOutBy_24 rfl (by decide)
theorem dX4_comesOutBy_32 : decode cX4_comesOutBy 32 = .ok (.aload_n 0, 1) := dk42 (k := 8) bX4_comesOutBy_24 rfl
theorem dX4_comesOutBy_33 : decode cX4_comesOutBy 33 = .ok (.iload_n 2, 1) := dk28 (k := 9) bX4_comesOutBy_24 rfl
theorem dX4_comesOutBy_34 : decode cX4_comesOutBy 34 = .ok (.iconst 1, 1) := dk4 (k := 10) bX4_comesOutBy_24 rfl
theorem dX4_comesOutBy_35 : decode cX4_comesOutBy 35 = .ok (.iload_n 1, 1) := dk27 (k := 11) bX4_comesOutBy_24 rfl
theorem dX4_comesOutBy_36 : decode cX4_comesOutBy 36 = .ok (.ishl, 1) := dk120 (k := 12) bX4_comesOutBy_24 rfl
theorem dX4_comesOutBy_37 : decode cX4_comesOutBy 37 = .ok (.ior, 1) := dk128 (k := 13) bX4_comesOutBy_24 rfl
theorem dX4_comesOutBy_38 : decode cX4_comesOutBy 38 = .ok (.iload_n 3, 1) := dk29 (k := 14) bX4_comesOutBy_24 rfl
theorem dX4_comesOutBy_39 : decode cX4_comesOutBy 39 = .ok (.iload 4, 2) := dk21 (k := 15) bX4_comesOutBy_24 rfl rfl
theorem dX4_comesOutBy_41 : decode cX4_comesOutBy 41 = .ok (.iconst 1, 1) := dk4 (k := 17) bX4_comesOutBy_24 rfl
theorem dX4_comesOutBy_42 : decode cX4_comesOutBy 42 = .ok (.iadd, 1) := dk96 (k := 18) bX4_comesOutBy_24 rfl
theorem dX4_comesOutBy_43 : decode cX4_comesOutBy 43 = .ok (.iload 5, 2) := dk21 (k := 19) bX4_comesOutBy_24 rfl rfl
theorem dX4_comesOutBy_45 : decode cX4_comesOutBy 45 = .ok (.iload 6, 2) := dk21 (k := 21) bX4_comesOutBy_24 rfl rfl
theorem dX4_comesOutBy_47 : decode cX4_comesOutBy 47 = .ok (.iadd, 1) := dk96 (k := 23) bX4_comesOutBy_24 rfl
theorem bX4_comesOutBy_48 : bL cX4_comesOutBy 48 [182, 0, 60, 172, 42, 28, 29, 4, 27, 120, 128, 21, 4, 4, 96, 21, 5, 5, 21, 6, 104, 96, 182, 0, 60] := bL_of (by decide +kernel)
theorem dX4_comesOutBy_48 : decode cX4_comesOutBy 48 = .ok (.invokevirtual 60, 3) := dk182 (k := 0) bX4_comesOutBy_48 rfl rfl
theorem dX4_comesOutBy_51 : decode cX4_comesOutBy 51 = .ok (.ireturn, 1) := dk172 (k := 3) bX4_comesOutBy_48 rfl
theorem dX4_comesOutBy_52 : decode cX4_comesOutBy 52 = .ok (.aload_n 0, 1) := dk42 (k := 4) bX4_comesOutBy_48 rfl
theorem dX4_comesOutBy_53 : decode cX4_comesOutBy 53 = .ok (.iload_n 2, 1) := dk28 (k := 5) bX4_comesOutBy_48 rfl
theorem dX4_comesOutBy_54 : decode cX4_comesOutBy 54 = .ok (.iload_n 3, 1) := dk29 (k := 6) bX4_comesOutBy_48 rfl
theorem dX4_comesOutBy_55 : decode cX4_comesOutBy 55 = .ok (.iconst 1, 1) := dk4 (k := 7) bX4_comesOutBy_48 rfl
theorem dX4_comesOutBy_56 : decode cX4_comesOutBy 56 = .ok (.iload_n 1, 1) := dk27 (k := 8) bX4_comesOutBy_48 rfl
theorem dX4_comesOutBy_57 : decode cX4_comesOutBy 57 = .ok (.ishl, 1) := dk120 (k := 9) bX4_comesOutBy_48 rfl
theorem dX4_comesOutBy_58 : decode cX4_comesOutBy 58 = .ok (.ior, 1) := dk128 (k := 10) bX4_comesOutBy_48 rfl
theorem dX4_comesOutBy_59 : decode cX4_comesOutBy 59 = .ok (.iload 4, 2) := dk21 (k := 11) bX4_comesOutBy_48 rfl rfl
theorem dX4_comesOutBy_61 : decode cX4_comesOutBy 61 = .ok (.iconst 1, 1) := dk4 (k := 13) bX4_comesOutBy_48 rfl
theorem dX4_comesOutBy_62 : decode cX4_comesOutBy 62 = .ok (.iadd, 1) := dk96 (k := 14) bX4_comesOutBy_48 rfl
theorem dX4_comesOutBy_63 : decode cX4_comesOutBy 63 = .ok (.iload 5, 2) := dk21 (k := 15) bX4_comesOutBy_48 rfl rfl
theorem dX4_comesOutBy_65 : decode cX4_comesOutBy 65 = .ok (.iconst 2, 1) := dk5 (k := 17) bX4_comesOutBy_48 rfl
theorem dX4_comesOutBy_66 : decode cX4_comesOutBy 66 = .ok (.iload 6, 2) := dk21 (k := 18) bX4_comesOutBy_48 rfl rfl
theorem dX4_comesOutBy_68 : decode cX4_comesOutBy 68 = .ok (.imul, 1) := dk104 (k := 20) bX4_comesOutBy_48 rfl
theorem dX4_comesOutBy_69 : decode cX4_comesOutBy 69 = .ok (.iadd, 1) := dk96 (k := 21) bX4_comesOutBy_48 rfl
theorem dX4_comesOutBy_70 : decode cX4_comesOutBy 70 = .ok (.invokevirtual 60, 3) := dk182 (k := 22) bX4_comesOutBy_48 rfl rfl
theorem bX4_comesOutBy_73 : bL cX4_comesOutBy 73 [172] := bL_of (by decide +kernel)
theorem dX4_comesOutBy_73 : decode cX4_comesOutBy 73 = .ok (.ireturn, 1) := dk172 (k := 0) bX4_comesOutBy_73 rfl
theorem bX5_init_0 : bL cX5_init 0 [42, 183, 0, 3, 42, 187, 0, 9, 89, 183, 0, 11, 181, 0, 12, 42, 2, 181, 0, 18, 42, 43, 181, 0, 22] := bL_of (by decide +kernel)
theorem dX5_init_0 : decode cX5_init 0 = .ok (.aload_n 0, 1) := dk42 (k := 0) bX5_init_0 rfl
theorem dX5_init_1 : decode cX5_init 1 = .ok (.invokespecial 3, 3) := dk183 (k := 1) bX5_init_0 rfl rfl
theorem dX5_init_4 : decode cX5_init 4 = .ok (.aload_n 0, 1) := dk42 (k := 4) bX5_init_0 rfl
theorem dX5_init_5 : decode cX5_init 5 = .ok (.new 9, 3) := dk187 (k := 5) bX5_init_0 rfl rfl
theorem dX5_init_8 : decode cX5_init 8 = .ok (.dup, 1) := dk89 (k := 8) bX5_init_0 rfl
theorem dX5_init_9 : decode cX5_init 9 = .ok (.invokespecial 11, 3) := dk183 (k := 9) bX5_init_0 rfl rfl
theorem dX5_init_12 : decode cX5_init 12 = .ok (.putfield 12, 3) := dk181 (k := 12) bX5_init_0 rfl rfl
theorem dX5_init_15 : decode cX5_init 15 = .ok (.aload_n 0, 1) := dk42 (k := 15) bX5_init_0 rfl
theorem dX5_init_16 : decode cX5_init 16 = .ok (.iconst (-1), 1) := dk2 (k := 16) bX5_init_0 rfl
theorem dX5_init_17 : decode cX5_init 17 = .ok (.putfield 18, 3) := dk181 (k := 17) bX5_init_0 rfl rfl
theorem dX5_init_20 : decode cX5_init 20 = .ok (.aload_n 0, 1) := dk42 (k := 20) bX5_init_0 rfl
theorem dX5_init_21 : decode cX5_init 21 = .ok (.aload_n 1, 1) := dk43 (k := 21) bX5_init_0 rfl
theorem dX5_init_22 : decode cX5_init 22 = .ok (.putfield 22, 3) := dk181 (k := 22) bX5_init_0 rfl rfl
theorem bX5_init_25 : bL cX5_init 25 [177] := bL_of (by decide +kernel)
theorem dX5_init_25 : decode cX5_init 25 = .ok (.return_, 1) := dk177 (k := 0) bX5_init_25 rfl
theorem bX5_readAll_0 : bL cX5_readAll 0 [42, 180, 0, 22, 182, 0, 26, 42, 180, 0, 12, 182, 0, 31, 42, 3, 181, 0, 34, 42, 2, 181, 0, 18] := bL_of (by decide +kernel)
theorem dX5_readAll_0 : decode cX5_readAll 0 = .ok (.aload_n 0, 1) := dk42 (k := 0) bX5_readAll_0 rfl
theorem dX5_readAll_1 : decode cX5_readAll 1 = .ok (.getfield 22, 3) := dk180 (k := 1) bX5_readAll_0 rfl rfl
theorem dX5_readAll_4 : decode cX5_readAll 4 = .ok (.invokevirtual 26, 3) := dk182 (k := 4) bX5_readAll_0 rfl rfl
theorem dX5_readAll_7 : decode cX5_readAll 7 = .ok (.aload_n 0, 1) := dk42 (k := 7) bX5_readAll_0 rfl
theorem dX5_readAll_8 : decode cX5_readAll 8 = .ok (.getfield 12, 3) := dk180 (k := 8) bX5_readAll_0 rfl rfl
theorem dX5_readAll_11 : decode cX5_readAll 11 = .ok (.invokevirtual 31, 3) := dk182 (k := 11) bX5_readAll_0 rfl rfl
theorem dX5_readAll_14 : decode cX5_readAll 14 = .ok (.aload_n 0, 1) := dk42 (k := 14) bX5_readAll_0 rfl
theorem dX5_readAll_15 : decode cX5_readAll 15 = .ok (.iconst 0, 1) := dk3 (k := 15) bX5_readAll_0 rfl
theorem dX5_readAll_16 : decode cX5_readAll 16 = .ok (.putfield 34, 3) := dk181 (k := 16) bX5_readAll_0 rfl rfl
theorem dX5_readAll_19 : decode cX5_readAll 19 = .ok (.aload_n 0, 1) := dk42 (k := 19) bX5_readAll_0 rfl
theorem dX5_readAll_20 : decode cX5_readAll 20 = .ok (.iconst (-1), 1) := dk2 (k := 20) bX5_readAll_0 rfl
theorem dX5_readAll_21 : decode cX5_readAll 21 = .ok (.putfield 18, 3) := dk181 (k := 21) bX5_readAll_0 rfl rfl
theorem bX5_readAll_24 : bL cX5_readAll 24 [42, 3, 181, 0, 37, 42, 182, 0, 40, 3, 60, 27, 17, 3, 132, 162, 0, 38, 42, 180, 0, 43, 153, 0, 31] := bL_of (by decide +kernel)
theorem dX5_readAll_24 : decode cX5_readAll 24 = .ok (.aload_n 0, 1) := dk42 (k := 0) bX5_readAll_24 rfl
theorem dX5_readAll_25 : decode cX5_readAll 25 = .ok (.iconst 0, 1) := dk3 (k := 1) bX5_readAll_24 rfl
theorem dX5_readAll_26 : decode cX5_readAll 26 = .ok (.putfield 37, 3) := dk181 (k := 2) bX5_readAll_24 rfl rfl
theorem dX5_readAll_29 : decode cX5_readAll 29 = .ok (.aload_n 0, 1) := dk42 (k := 5) bX5_readAll_24 rfl
theorem dX5_readAll_30 : decode cX5_readAll 30 = .ok (.invokevirtual 40, 3) := dk182 (k := 6) bX5_readAll_24 rfl rfl
theorem dX5_readAll_33 : decode cX5_readAll 33 = .ok (.iconst 0, 1) := dk3 (k := 9) bX5_readAll_24 rfl
theorem dX5_readAll_34 : decode cX5_readAll 34 = .ok (.istore_n 1, 1) := dk60 (k := 10) bX5_readAll_24 rfl
theorem dX5_readAll_35 : decode cX5_readAll 35 = .ok (.iload_n 1, 1) := dk27 (k := 11) bX5_readAll_24 rfl
theorem dX5_readAll_36 : decode cX5_readAll 36 = .ok (.sipush 900, 3) := dk17 (k := 12) bX5_readAll_24 rfl (by decide)
theorem dX5_readAll_39 : decode cX5_readAll 39 = .ok (.if_icmp .ge 38, 3) := dk162 (k := 15) bX5_readAll_24 rfl (by decide)
theorem dX5_readAll_42 : decode cX5_readAll 42 = .ok (.aload_n 0, 1) := dk42 (k := 18) bX5_readAll_24 rfl
theorem dX5_readAll_43 : decode cX5_readAll 43 = .ok (.getfield 43, 3) := dk180 (k := 19) bX5_readAll_24 rfl rfl
theorem dX5_readAll_46 : decode cX5_readAll 46 = .ok (.ifCond .eq 31, 3) := dk153 (k := 22) bX5_readAll_24 rfl (by decide)
theorem bX5_readAll_49 : bL cX5_readAll 49 [42, 182, 0, 46, 154, 0, 5, 3, 172, 42, 180, 0, 12, 89, 180, 0, 50, 4, 96, 181, 0, 50, 132, 1, 1] := bL_of (by decide +kernel)
theorem dX5_readAll_49 : decode cX5_readAll 49 = .ok (.aload_n 0, 1) := dk42 (k := 0) bX5_readAll_49 rfl
theorem dX5_readAll_50 : decode cX5_readAll 50 = .ok (.invokevirtual 46, 3) := dk182 (k := 1) bX5_readAll_49 rfl rfl
theorem dX5_readAll_53 : decode cX5_readAll 53 = .ok (.ifCond .ne 5, 3) := dk154 (k := 4) bX5_readAll_49 rfl (by decide)
theorem dX5_readAll_56 : decode cX5_readAll 56 = .ok (.iconst 0, 1) := dk3 (k := 7) bX5_readAll_49 rfl
theorem dX5_readAll_57 : decode cX5_readAll 57 = .ok (.ireturn, 1) := dk172 (k := 8) bX5_readAll_49 rfl
theorem dX5_readAll_58 : decode cX5_readAll 58 = .ok (.aload_n 0, 1) := dk42 (k := 9) bX5_readAll_49 rfl
theorem dX5_readAll_59 : decode cX5_readAll 59 = .ok (.getfield 12, 3) := dk180 (k := 10) bX5_readAll_49 rfl rfl
theorem dX5_readAll_62 : decode cX5_readAll 62 = .ok (.dup, 1) := dk89 (k := 13) bX5_readAll_49 rfl
theorem dX5_readAll_63 : decode cX5_readAll 63 = .ok (.getfield 50, 3) := dk180 (k := 14) bX5_readAll_49 rfl rfl
theorem dX5_readAll_66 : decode cX5_readAll 66 = .ok (.iconst 1, 1) := dk4 (k := 17) bX5_readAll_49 rfl
theorem dX5_readAll_67 : decode cX5_readAll 67 = .ok (.iadd, 1) := dk96 (k := 18) bX5_readAll_49 rfl
theorem dX5_readAll_68 : decode cX5_readAll 68 = .ok (.putfield 50, 3) := dk181 (k := 19) bX5_readAll_49 rfl rfl
theorem dX5_readAll_71 : decode cX5_readAll 71 = .ok (.iinc 1 1, 3) := dk132 (k := 22) bX5_readAll_49 rfl rfl (by decide)
theorem bX5_readAll_74 : bL cX5_readAll 74 [167, 255, 217, 4, 172] := bL_of (by decide +kernel)
theorem dX5_readAll_74 : decode cX5_readAll 74 = .ok (.goto (-39), 3) := dk167 (k := 0) bX5_readAll_74 rfl (by decide)
theorem dX5_readAll_77 : decode cX5_readAll 77 = .ok (.iconst 1, 1) := dk4 (k := 3) bX5_readAll_74 rfl
theorem dX5_readAll_78 : decode cX5_readAll 78 = .ok (.ireturn, 1) := dk172 (k := 4) bX5_readAll_74 rfl
theorem bX5_advance_0 : bL cX5_advance 0 [42, 180, 0, 37, 155, 0, 90, 42, 180, 0, 37, 42, 180, 0, 22, 180, 0, 53, 162, 0, 76, 42, 180, 0, 37] := bL_of (by decide +kernel)
theorem dX5_advance_0 : decode cX5_advance 0 = .ok (.aload_n 0, 1) := dk42 (k := 0) bX5_advance_0 rfl
theorem dX5_advance_1 : decode cX5_advance 1 = .ok (.getfield 37, 3) := dk180 (k := 1) bX5_advance_0 rfl rfl
theorem dX5_advance_4 : decode cX5_advance 4 = .ok (.ifCond .lt 90, 3) := dk155 (k := 4) bX5_advance_0 rfl (by decide)
theorem dX5_advance_7 : decode cX5_advance 7 = .ok (.aload_n 0, 1) := dk42 (k := 7) bX5_advance_0 rfl
theorem dX5_advance_8 : decode cX5_advance 8 = .ok (.getfield 37, 3) := dk180 (k := 8) bX5_advance_0 rfl rfl
theorem dX5_advance_11 : decode cX5_advance 11 = .ok (.aload_n 0, 1) := dk42 (k := 11) bX5_advance_0 rfl
theorem dX5_advance_12 : decode cX5_advance 12 = .ok (.getfield 22, 3) := dk180 (k := 12) bX5_advance_0 rfl rfl
theorem dX5_advance_15 : decode cX5_advance 15 = .ok (.getfield 53, 3) := dk180 (k := 15) bX5_advance_0 rfl rfl
theorem dX5_advance_18 : decode cX5_advance 18 = .ok (.if_icmp .ge 76, 3) := dk162 (k := 18) bX5_advance_0 rfl (by decide)
theorem dX5_advance_21 : decode cX5_advance 21 = .ok (.aload_n 0, 1) := dk42 (k := 21) bX5_advance_0 rfl
theorem dX5_advance_22 : decode cX5_advance 22 = .ok (.getfield 37, 3) := dk180 (k := 22) bX5_advance_0 rfl rfl
theorem bX5_advance_25 : bL cX5_advance 25 [42, 180, 0, 22, 180, 0, 56, 190, 162, 0, 61, 42, 42, 180, 0, 22, 180, 0, 56, 42, 180, 0, 37, 46] := bL_of (by decide +kernel)
theorem dX5_advance_25 : decode cX5_advance 25 = .ok (.aload_n 0, 1) := dk42 (k := 0) bX5_advance_25 rfl
theorem dX5_advance_26 : decode cX5_advance 26 = .ok (.getfield 22, 3) := dk180 (k := 1) bX5_advance_25 rfl rfl
theorem dX5_advance_29 : decode cX5_advance 29 = .ok (.getfield 56, 3) := dk180 (k := 4) bX5_advance_25 rfl rfl
theorem dX5_advance_32 : decode cX5_advance 32 = .ok (.arraylength, 1) := dk190 (k := 7) bX5_advance_25 rfl
theorem dX5_advance_33 : decode cX5_advance 33 = .ok (.if_icmp .ge 61, 3) := dk162 (k := 8) bX5_advance_25 rfl (by decide)
theorem dX5_advance_36 : decode cX5_advance 36 = .ok (.aload_n 0, 1) := dk42 (k := 11) bX5_advance_25 rfl
theorem dX5_advance_37 : decode cX5_advance 37 = .ok (.aload_n 0, 1) := dk42 (k := 12) bX5_advance_25 rfl
theorem dX5_advance_38 : decode cX5_advance 38 = .ok (.getfield 22, 3) := dk180 (k := 13) bX5_advance_25 rfl rfl
theorem dX5_advance_41 : decode cX5_advance 41 = .ok (.getfield 56, 3) := dk180 (k := 16) bX5_advance_25 rfl rfl
theorem dX5_advance_44 : decode cX5_advance 44 = .ok (.aload_n 0, 1) := dk42 (k := 19) bX5_advance_25 rfl
theorem dX5_advance_45 : decode cX5_advance 45 = .ok (.getfield 37, 3) := dk180 (k := 20) bX5_advance_25 rfl rfl
theorem dX5_advance_48 : decode cX5_advance 48 = .ok (.iaload, 1) := dk46 (k := 23) bX5_advance_25 rfl
theorem bX5_advance_49 : bL cX5_advance 49 [181, 0, 43, 42, 42, 180, 0, 22, 180, 0, 60, 42, 180, 0, 37, 46, 181, 0, 63, 42, 42, 180, 0, 22] := bL_of (by decide +kernel)
theorem dX5_advance_49 : decode cX5_advance 49 = .ok (.putfield 43, 3) := dk181 (k := 0) bX5_advance_49 rfl rfl
theorem dX5_advance_52 : decode cX5_advance 52 = .ok (.aload_n 0, 1) := dk42 (k := 3) bX5_advance_49 rfl
theorem dX5_advance_53 : decode cX5_advance 53 = .ok (.aload_n 0, 1) := dk42 (k := 4) bX5_advance_49 rfl
theorem dX5_advance_54 : decode cX5_advance 54 = .ok (.getfield 22, 3) := dk180 (k := 5) bX5_advance_49 rfl rfl
theorem dX5_advance_57 : decode cX5_advance 57 = .ok (.getfield 60, 3) := dk180 (k := 8) bX5_advance_49 rfl rfl
theorem dX5_advance_60 : decode cX5_advance 60 = .ok (.aload_n 0, 1) := dk42 (k := 11) bX5_advance_49 rfl
theorem dX5_advance_61 : decode cX5_advance 61 = .ok (.getfield 37, 3) := dk180 (k := 12) bX5_advance_49 rfl rfl
theorem dX5_advance_64 : decode cX5_advance 64 = .ok (.iaload, 1) := dk46 (k := 15) bX5_advance_49 rfl
theorem dX5_advance_65 : decode cX5_advance 65 = .ok (.putfield 63, 3) := dk181 (k := 16) bX5_advance_49 rfl rfl
theorem dX5_advance_68 : decode cX5_advance 68 = .ok (.aload_n 0, 1) := dk42 (k := 19) bX5_advance_49 rfl
theorem dX5_advance_69 : decode cX5_advance 69 = .ok (.aload_n 0, 1) := dk42 (k := 20) bX5_advance_49 rfl
theorem dX5_advance_70 : decode cX5_advance 70 = .ok (.getfield 22, 3) := dk180 (k := 21) bX5_advance_49 rfl rfl
theorem bX5_advance_73 : bL cX5_advance 73 [180, 0, 66, 42, 180, 0, 37, 46, 181, 0, 69, 42, 89, 180, 0, 37, 4, 96, 181, 0, 37, 177] := bL_of (by decide +kernel)
theorem dX5_advance_73 : decode cX5_advance 73 = .ok (.getfield 66, 3) := dk180 (k := 0) bX5_advance_73 rfl rfl
theorem dX5_advance_76 : decode cX5_advance 76 = .ok (.aload_n 0, 1) := dk42 (k := 3) bX5_advance_73 rfl
theorem dX5_advance_77 : decode cX5_advance 77 = .ok (.getfield 37, 3) := dk180 (k := 4) bX5_advance_73 rfl rfl
theorem dX5_advance_80 : decode cX5_advance 80 = .ok (.iaload, 1) := dk46 (k := 7) bX5_advance_73 rfl
theorem dX5_advance_81 : decode cX5_advance 81 = .ok (.putfield 69, 3) := dk181 (k := 8) bX5_advance_73 rfl rfl
theorem dX5_advance_84 : decode cX5_advance 84 = .ok (.aload_n 0, 1) := dk42 (k := 11) bX5_advance_73 rfl
theorem dX5_advance_85 : decode cX5_advance 85 = .ok (.dup, 1) := dk89 (k := 12) bX5_advance_73 rfl
theorem dX5_advance_86 : decode cX5_advance 86 = .ok (.getfield 37, 3) := dk180 (k := 13) bX5_advance_73 rfl rfl
theorem dX5_advance_89 : decode cX5_advance 89 = .ok (.iconst 1, 1) := dk4 (k := 16) bX5_advance_73 rfl
theorem dX5_advance_90 : decode cX5_advance 90 = .ok (.iadd, 1) := dk96 (k := 17) bX5_advance_73 rfl
theorem dX5_advance_91 : decode cX5_advance 91 = .ok (.putfield 37, 3) := dk181 (k := 18) bX5_advance_73 rfl rfl
theorem dX5_advance_94 : decode cX5_advance 94 = .ok (.return_, 1) := dk177 (k := 21) bX5_advance_73 rfl
theorem bX5_refuse_0 : bL cX5_refuse 0 [42, 27, 181, 0, 34, 42, 42, 180, 0, 63, 181, 0, 18, 3, 172] := bL_of (by decide +kernel)
theorem dX5_refuse_0 : decode cX5_refuse 0 = .ok (.aload_n 0, 1) := dk42 (k := 0) bX5_refuse_0 rfl
theorem dX5_refuse_1 : decode cX5_refuse 1 = .ok (.iload_n 1, 1) := dk27 (k := 1) bX5_refuse_0 rfl
theorem dX5_refuse_2 : decode cX5_refuse 2 = .ok (.putfield 34, 3) := dk181 (k := 2) bX5_refuse_0 rfl rfl
theorem dX5_refuse_5 : decode cX5_refuse 5 = .ok (.aload_n 0, 1) := dk42 (k := 5) bX5_refuse_0 rfl
theorem dX5_refuse_6 : decode cX5_refuse 6 = .ok (.aload_n 0, 1) := dk42 (k := 6) bX5_refuse_0 rfl
theorem dX5_refuse_7 : decode cX5_refuse 7 = .ok (.getfield 63, 3) := dk180 (k := 7) bX5_refuse_0 rfl rfl
theorem dX5_refuse_10 : decode cX5_refuse 10 = .ok (.putfield 18, 3) := dk181 (k := 10) bX5_refuse_0 rfl rfl
theorem dX5_refuse_13 : decode cX5_refuse 13 = .ok (.iconst 0, 1) := dk3 (k := 13) bX5_refuse_0 rfl
theorem dX5_refuse_14 : decode cX5_refuse 14 = .ok (.ireturn, 1) := dk172 (k := 14) bX5_refuse_0 rfl
theorem bX5_pass_0 : bL cX5_pass 0 [42, 180, 0, 43, 27, 159, 0, 9, 42, 4, 182, 0, 72, 172, 42, 182, 0, 40, 4, 172] := bL_of (by decide +kernel)
theorem dX5_pass_0 : decode cX5_pass 0 = .ok (.aload_n 0, 1) := dk42 (k := 0) bX5_pass_0 rfl
theorem dX5_pass_1 : decode cX5_pass 1 = .ok (.getfield 43, 3) := dk180 (k := 1) bX5_pass_0 rfl rfl
theorem dX5_pass_4 : decode cX5_pass 4 = .ok (.iload_n 1, 1) := dk27 (k := 4) bX5_pass_0 rfl
theorem dX5_pass_5 : decode cX5_pass 5 = .ok (.if_icmp .eq 9, 3) := dk159 (k := 5) bX5_pass_0 rfl (by decide)
theorem dX5_pass_8 : decode cX5_pass 8 = .ok (.aload_n 0, 1) := dk42 (k := 8) bX5_pass_0 rfl
theorem dX5_pass_9 : decode cX5_pass 9 = .ok (.iconst 1, 1) := dk4 (k := 9) bX5_pass_0 rfl
theorem dX5_pass_10 : decode cX5_pass 10 = .ok (.invokevirtual 72, 3) := dk182 (k := 10) bX5_pass_0 rfl rfl
theorem dX5_pass_13 : decode cX5_pass 13 = .ok (.ireturn, 1) := dk172 (k := 13) bX5_pass_0 rfl
theorem dX5_pass_14 : decode cX5_pass 14 = .ok (.aload_n 0, 1) := dk42 (k := 14) bX5_pass_0 rfl
theorem dX5_pass_15 : decode cX5_pass 15 = .ok (.invokevirtual 40, 3) := dk182 (k := 15) bX5_pass_0 rfl rfl
theorem dX5_pass_18 : decode cX5_pass 18 = .ok (.iconst 1, 1) := dk4 (k := 18) bX5_pass_0 rfl
theorem dX5_pass_19 : decode cX5_pass 19 = .ok (.ireturn, 1) := dk172 (k := 19) bX5_pass_0 rfl
theorem bX5_isNumber_0 : bL cX5_isNumber 0 [42, 180, 0, 43, 6, 159, 0, 9, 42, 4, 182, 0, 72, 172, 42, 180, 0, 69, 27, 161, 0, 11, 42, 180, 0, 69] := bL_of (by decide +kernel)
theorem dX5_isNumber_0 : decode cX5_isNumber 0 = .ok (.aload_n 0, 1) := dk42 (k := 0) bX5_isNumber_0 rfl
theorem dX5_isNumber_1 : decode cX5_isNumber 1 = .ok (.getfield 43, 3) := dk180 (k := 1) bX5_isNumber_0 rfl rfl
theorem dX5_isNumber_4 : decode cX5_isNumber 4 = .ok (.iconst 3, 1) := dk6 (k := 4) bX5_isNumber_0 rfl
theorem dX5_isNumber_5 : decode cX5_isNumber 5 = .ok (.if_icmp .eq 9, 3) := dk159 (k := 5) bX5_isNumber_0 rfl (by decide)
theorem dX5_isNumber_8 : decode cX5_isNumber 8 = .ok (.aload_n 0, 1) := dk42 (k := 8) bX5_isNumber_0 rfl
theorem dX5_isNumber_9 : decode cX5_isNumber 9 = .ok (.iconst 1, 1) := dk4 (k := 9) bX5_isNumber_0 rfl
theorem dX5_isNumber_10 : decode cX5_isNumber 10 = .ok (.invokevirtual 72, 3) := dk182 (k := 10) bX5_isNumber_0 rfl rfl
theorem dX5_isNumber_13 : decode cX5_isNumber 13 = .ok (.ireturn, 1) := dk172 (k := 13) bX5_isNumber_0 rfl
theorem dX5_isNumber_14 : decode cX5_isNumber 14 = .ok (.aload_n 0, 1) := dk42 (k := 14) bX5_isNumber_0 rfl
theorem dX5_isNumber_15 : decode cX5_isNumber 15 = .ok (.getfield 69, 3) := dk180 (k := 15) bX5_isNumber_0 rfl rfl
theorem dX5_isNumber_18 : decode cX5_isNumber 18 = .ok (.iload_n 1, 1) := dk27 (k := 18) bX5_isNumber_0 rfl
theorem dX5_isNumber_19 : decode cX5_isNumber 19 = .ok (.if_icmp .lt 11, 3) := dk161 (k := 19) bX5_isNumber_0 rfl (by decide)
theorem dX5_isNumber_22 : decode cX5_isNumber 22 = .ok (.aload_n 0, 1) := dk42 (k := 22) bX5_isNumber_0 rfl
theorem dX5_isNumber_23 : decode cX5_isNumber 23 = .ok (.getfield 69, 3) := dk180 (k := 23) bX5_isNumber_0 rfl rfl
theorem bX5_isNumber_26 : bL cX5_isNumber 26 [28, 164, 0, 11, 42, 5, 182, 0, 72, 153, 0, 7, 4, 167, 0, 4, 3, 172] := bL_of (by decide +kernel)
theorem dX5_isNumber_26 : decode cX5_isNumber 26 = .ok (.iload_n 2, 1) := dk28 (k := 0) bX5_isNumber_26 rfl
theorem dX5_isNumber_27 : decode cX5_isNumber 27 = .ok (.if_icmp .le 11, 3) := dk164 (k := 1) bX5_isNumber_26 rfl (by decide)
theorem dX5_isNumber_30 : decode cX5_isNumber 30 = .ok (.aload_n 0, 1) := dk42 (k := 4) bX5_isNumber_26 rfl
theorem dX5_isNumber_31 : decode cX5_isNumber 31 = .ok (.iconst 2, 1) := dk5 (k := 5) bX5_isNumber_26 rfl
theorem dX5_isNumber_32 : decode cX5_isNumber 32 = .ok (.invokevirtual 72, 3) := dk182 (k := 6) bX5_isNumber_26 rfl rfl
theorem dX5_isNumber_35 : decode cX5_isNumber 35 = .ok (.ifCond .eq 7, 3) := dk153 (k := 9) bX5_isNumber_26 rfl (by decide)
theorem dX5_isNumber_38 : decode cX5_isNumber 38 = .ok (.iconst 1, 1) := dk4 (k := 12) bX5_isNumber_26 rfl
theorem dX5_isNumber_39 : decode cX5_isNumber 39 = .ok (.goto 4, 3) := dk167 (k := 13) bX5_isNumber_26 rfl (by decide)
theorem dX5_isNumber_42 : decode cX5_isNumber 42 = .ok (.iconst 0, 1) := dk3 (k := 16) bX5_isNumber_26 rfl
theorem dX5_isNumber_43 : decode cX5_isNumber 43 = .ok (.ireturn, 1) := dk172 (k := 17) bX5_isNumber_26 rfl
theorem bX5_passNumber_0 : bL cX5_passNumber 0 [42, 180, 0, 69, 60, 42, 182, 0, 40, 27, 172] := bL_of (by decide +kernel)
theorem dX5_passNumber_0 : decode cX5_passNumber 0 = .ok (.aload_n 0, 1) := dk42 (k := 0) bX5_passNumber_0 rfl
theorem dX5_passNumber_1 : decode cX5_passNumber 1 = .ok (.getfield 69, 3) := dk180 (k := 1) bX5_passNumber_0 rfl rfl
theorem dX5_passNumber_4 : decode cX5_passNumber 4 = .ok (.istore_n 1, 1) := dk60 (k := 4) bX5_passNumber_0 rfl
theorem dX5_passNumber_5 : decode cX5_passNumber 5 = .ok (.aload_n 0, 1) := dk42 (k := 5) bX5_passNumber_0 rfl
theorem dX5_passNumber_6 : decode cX5_passNumber 6 = .ok (.invokevirtual 40, 3) := dk182 (k := 6) bX5_passNumber_0 rfl rfl
theorem dX5_passNumber_9 : decode cX5_passNumber 9 = .ok (.iload_n 1, 1) := dk27 (k := 9) bX5_passNumber_0 rfl
theorem dX5_passNumber_10 : decode cX5_passNumber 10 = .ok (.ireturn, 1) := dk172 (k := 10) bX5_passNumber_0 rfl
theorem bX5_readLine_0 : bL cX5_readLine 0 [42, 180, 0, 12, 180, 0, 50, 154, 0, 11, 42, 182, 0, 76, 60, 167, 0, 24, 42, 180, 0, 43, 16, 8] := bL_of (by decide +kernel)
theorem dX5_readLine_0 : decode cX5_readLine 0 = .ok (.aload_n 0, 1) := dk42 (k := 0) bX5_readLine_0 rfl
theorem dX5_readLine_1 : decode cX5_readLine 1 = .ok (.getfield 12, 3) := dk180 (k := 1) bX5_readLine_0 rfl rfl
theorem dX5_readLine_4 : decode cX5_readLine 4 = .ok (.getfield 50, 3) := dk180 (k := 4) bX5_readLine_0 rfl rfl
theorem dX5_readLine_7 : decode cX5_readLine 7 = .ok (.ifCond .ne 11, 3) := dk154 (k := 7) bX5_readLine_0 rfl (by decide)
theorem dX5_readLine_10 : decode cX5_readLine 10 = .ok (.aload_n 0, 1) := dk42 (k := 10) bX5_readLine_0 rfl
theorem dX5_readLine_11 : decode cX5_readLine 11 = .ok (.invokevirtual 76, 3) := dk182 (k := 11) bX5_readLine_0 rfl rfl
theorem dX5_readLine_14 : decode cX5_readLine 14 = .ok (.istore_n 1, 1) := dk60 (k := 14) bX5_readLine_0 rfl
theorem dX5_readLine_15 : decode cX5_readLine 15 = .ok (.goto 24, 3) := dk167 (k := 15) bX5_readLine_0 rfl (by decide)
theorem dX5_readLine_18 : decode cX5_readLine 18 = .ok (.aload_n 0, 1) := dk42 (k := 18) bX5_readLine_0 rfl
theorem dX5_readLine_19 : decode cX5_readLine 19 = .ok (.getfield 43, 3) := dk180 (k := 19) bX5_readLine_0 rfl rfl
theorem dX5_readLine_22 : decode cX5_readLine 22 = .ok (.bipush 8, 2) := dk16 (k := 22) bX5_readLine_0 rfl (by decide)
theorem bX5_readLine_24 : bL cX5_readLine 24 [160, 0, 10, 42, 182, 0, 79, 167, 0, 7, 42, 182, 0, 82, 60, 27, 153, 0, 15, 42, 5, 182, 0, 85] := bL_of (by decide +kernel)
theorem dX5_readLine_24 : decode cX5_readLine 24 = .ok (.if_icmp .ne 10, 3) := dk160 (k := 0) bX5_readLine_24 rfl (by decide)
theorem dX5_readLine_27 : decode cX5_readLine 27 = .ok (.aload_n 0, 1) := dk42 (k := 3) bX5_readLine_24 rfl
theorem dX5_readLine_28 : decode cX5_readLine 28 = .ok (.invokevirtual 79, 3) := dk182 (k := 4) bX5_readLine_24 rfl rfl
theorem dX5_readLine_31 : decode cX5_readLine 31 = .ok (.goto 7, 3) := dk167 (k := 7) bX5_readLine_24 rfl (by decide)
theorem dX5_readLine_34 : decode cX5_readLine 34 = .ok (.aload_n 0, 1) := dk42 (k := 10) bX5_readLine_24 rfl
theorem dX5_readLine_35 : decode cX5_readLine 35 = .ok (.invokevirtual 82, 3) := dk182 (k := 11) bX5_readLine_24 rfl rfl
theorem dX5_readLine_38 : decode cX5_readLine 38 = .ok (.istore_n 1, 1) := dk60 (k := 14) bX5_readLine_24 rfl
theorem dX5_readLine_39 : decode cX5_readLine 39 = .ok (.iload_n 1, 1) := dk27 (k := 15) bX5_readLine_24 rfl
theorem dX5_readLine_40 : decode cX5_readLine 40 = .ok (.ifCond .eq 15, 3) := dk153 (k := 16) bX5_readLine_24 rfl (by decide)
theorem dX5_readLine_43 : decode cX5_readLine 43 = .ok (.aload_n 0, 1) := dk42 (k := 19) bX5_readLine_24 rfl
theorem dX5_readLine_44 : decode cX5_readLine 44 = .ok (.iconst 2, 1) := dk5 (k := 20) bX5_readLine_24 rfl
theorem dX5_readLine_45 : decode cX5_readLine 45 = .ok (.invokevirtual 85, 3) := dk182 (k := 21) bX5_readLine_24 rfl rfl
theorem bX5_readLine_48 : bL cX5_readLine 48 [153, 0, 7, 4, 167, 0, 4, 3, 172] := bL_of (by decide +kernel)
theorem dX5_readLine_48 : decode cX5_readLine 48 = .ok (.ifCond .eq 7, 3) := dk153 (k := 0) bX5_readLine_48 rfl (by decide)
theorem dX5_readLine_51 : decode cX5_readLine 51 = .ok (.iconst 1, 1) := dk4 (k := 3) bX5_readLine_48 rfl
theorem dX5_readLine_52 : decode cX5_readLine 52 = .ok (.goto 4, 3) := dk167 (k := 4) bX5_readLine_48 rfl (by decide)
theorem dX5_readLine_55 : decode cX5_readLine 55 = .ok (.iconst 0, 1) := dk3 (k := 7) bX5_readLine_48 rfl
theorem dX5_readLine_56 : decode cX5_readLine 56 = .ok (.ireturn, 1) := dk172 (k := 8) bX5_readLine_48 rfl
theorem bX5_readMountain_0 : bL cX5_readMountain 0 [42, 180, 0, 12, 180, 0, 88, 76, 42, 7, 182, 0, 85, 153, 0, 29, 42, 43, 182, 0, 92, 153, 0, 21] := bL_of (by decide +kernel)
theorem dX5_readMountain_0 : decode cX5_readMountain 0 = .ok (.aload_n 0, 1) := dk42 (k := 0) bX5_readMountain_0 rfl
theorem dX5_readMountain_1 : decode cX5_readMountain 1 = .ok (.getfield 12, 3) := dk180 (k := 1) bX5_readMountain_0 rfl rfl
theorem dX5_readMountain_4 : decode cX5_readMountain 4 = .ok (.getfield 88, 3) := dk180 (k := 4) bX5_readMountain_0 rfl rfl
theorem dX5_readMountain_7 : decode cX5_readMountain 7 = .ok (.astore_n 1, 1) := dk76 (k := 7) bX5_readMountain_0 rfl
theorem dX5_readMountain_8 : decode cX5_readMountain 8 = .ok (.aload_n 0, 1) := dk42 (k := 8) bX5_readMountain_0 rfl
theorem dX5_readMountain_9 : decode cX5_readMountain 9 = .ok (.iconst 4, 1) := dk7 (k := 9) bX5_readMountain_0 rfl
theorem dX5_readMountain_10 : decode cX5_readMountain 10 = .ok (.invokevirtual 85, 3) := dk182 (k := 10) bX5_readMountain_0 rfl rfl
theorem dX5_readMountain_13 : decode cX5_readMountain 13 = .ok (.ifCond .eq 29, 3) := dk153 (k := 13) bX5_readMountain_0 rfl (by decide)
theorem dX5_readMountain_16 : decode cX5_readMountain 16 = .ok (.aload_n 0, 1) := dk42 (k := 16) bX5_readMountain_0 rfl
theorem dX5_readMountain_17 : decode cX5_readMountain 17 = .ok (.aload_n 1, 1) := dk43 (k := 17) bX5_readMountain_0 rfl
theorem dX5_readMountain_18 : decode cX5_readMountain 18 = .ok (.invokevirtual 92, 3) := dk182 (k := 18) bX5_readMountain_0 rfl rfl
theorem dX5_readMountain_21 : decode cX5_readMountain 21 = .ok (.ifCond .eq 21, 3) := dk153 (k := 21) bX5_readMountain_0 rfl (by decide)
theorem bX5_readMountain_24 : bL cX5_readMountain 24 [42, 8, 182, 0, 85, 153, 0, 13, 42, 3, 16, 40, 182, 0, 96, 154, 0, 5, 3, 172, 43, 42, 182, 0, 100] := bL_of (by decide +kernel)
theorem dX5_readMountain_24 : decode cX5_readMountain 24 = .ok (.aload_n 0, 1) := dk42 (k := 0) bX5_readMountain_24 rfl
theorem dX5_readMountain_25 : decode cX5_readMountain 25 = .ok (.iconst 5, 1) := dk8 (k := 1) bX5_readMountain_24 rfl
theorem dX5_readMountain_26 : decode cX5_readMountain 26 = .ok (.invokevirtual 85, 3) := dk182 (k := 2) bX5_readMountain_24 rfl rfl
theorem dX5_readMountain_29 : decode cX5_readMountain 29 = .ok (.ifCond .eq 13, 3) := dk153 (k := 5) bX5_readMountain_24 rfl (by decide)
theorem dX5_readMountain_32 : decode cX5_readMountain 32 = .ok (.aload_n 0, 1) := dk42 (k := 8) bX5_readMountain_24 rfl
theorem dX5_readMountain_33 : decode cX5_readMountain 33 = .ok (.iconst 0, 1) := dk3 (k := 9) bX5_readMountain_24 rfl
theorem dX5_readMountain_34 : decode cX5_readMountain 34 = .ok (.bipush 40, 2) := dk16 (k := 10) bX5_readMountain_24 rfl (by decide)
theorem dX5_readMountain_36 : decode cX5_readMountain 36 = .ok (.invokevirtual 96, 3) := dk182 (k := 12) bX5_readMountain_24 rfl rfl
theorem dX5_readMountain_39 : decode cX5_readMountain 39 = .ok (.ifCond .ne 5, 3) := dk154 (k := 15) bX5_readMountain_24 rfl (by decide)
theorem dX5_readMountain_42 : decode cX5_readMountain 42 = .ok (.iconst 0, 1) := dk3 (k := 18) bX5_readMountain_24 rfl
theorem dX5_readMountain_43 : decode cX5_readMountain 43 = .ok (.ireturn, 1) := dk172 (k := 19) bX5_readMountain_24 rfl
theorem dX5_readMountain_44 : decode cX5_readMountain 44 = .ok (.aload_n 1, 1) := dk43 (k := 20) bX5_readMountain_24 rfl
theorem dX5_readMountain_45 : decode cX5_readMountain 45 = .ok (.aload_n 0, 1) := dk42 (k := 21) bX5_readMountain_24 rfl
theorem dX5_readMountain_46 : decode cX5_readMountain 46 = .ok (.invokevirtual 100, 3) := dk182 (k := 22) bX5_readMountain_24 rfl rfl
theorem bX5_readMountain_49 : bL cX5_readMountain 49 [181, 0, 104, 42, 16, 6, 182, 0, 85, 153, 0, 13, 42, 4, 16, 40, 182, 0, 96, 154, 0, 5, 3, 172] := bL_of (by decide +kernel)
theorem dX5_readMountain_49 : decode cX5_readMountain 49 = .ok (.putfield 104, 3) := dk181 (k := 0) bX5_readMountain_49 rfl rfl
theorem dX5_readMountain_52 : decode cX5_readMountain 52 = .ok (.aload_n 0, 1) := dk42 (k := 3) bX5_readMountain_49 rfl
theorem dX5_readMountain_53 : decode cX5_readMountain 53 = .ok (.bipush 6, 2) := dk16 (k := 4) bX5_readMountain_49 rfl (by decide)
theorem dX5_readMountain_55 : decode cX5_readMountain 55 = .ok (.invokevirtual 85, 3) := dk182 (k := 6) bX5_readMountain_49 rfl rfl
theorem dX5_readMountain_58 : decode cX5_readMountain 58 = .ok (.ifCond .eq 13, 3) := dk153 (k := 9) bX5_readMountain_49 rfl (by decide)
theorem dX5_readMountain_61 : decode cX5_readMountain 61 = .ok (.aload_n 0, 1) := dk42 (k := 12) bX5_readMountain_49 rfl
theorem dX5_readMountain_62 : decode cX5_readMountain 62 = .ok (.iconst 1, 1) := dk4 (k := 13) bX5_readMountain_49 rfl
theorem dX5_readMountain_63 : decode cX5_readMountain 63 = .ok (.bipush 40, 2) := dk16 (k := 14) bX5_readMountain_49 rfl (by decide)
theorem dX5_readMountain_65 : decode cX5_readMountain 65 = .ok (.invokevirtual 96, 3) := dk182 (k := 16) bX5_readMountain_49 rfl rfl
theorem dX5_readMountain_68 : decode cX5_readMountain 68 = .ok (.ifCond .ne 5, 3) := dk154 (k := 19) bX5_readMountain_49 rfl (by decide)
theorem dX5_readMountain_71 : decode cX5_readMountain 71 = .ok (.iconst 0, 1) := dk3 (k := 22) bX5_readMountain_49 rfl
theorem dX5_readMountain_72 : decode cX5_readMountain 72 = .ok (.ireturn, 1) := dk172 (k := 23) bX5_readMountain_49 rfl
theorem bX5_readMountain_73 : bL cX5_readMountain 73 [43, 42, 182, 0, 100, 181, 0, 109, 42, 16, 7, 182, 0, 85, 153, 0, 14, 42, 4, 17, 3, 231, 182, 0, 96] := bL_of (by decide +kernel)
theorem dX5_readMountain_73 : decode cX5_readMountain 73 = .ok (.aload_n 1, 1) := dk43 (k := 0) bX5_readMountain_73 rfl
theorem dX5_readMountain_74 : decode cX5_readMountain 74 = .ok (.aload_n 0, 1) := dk42 (k := 1) bX5_readMountain_73 rfl
theorem dX5_readMountain_75 : decode cX5_readMountain 75 = .ok (.invokevirtual 100, 3) := dk182 (k := 2) bX5_readMountain_73 rfl rfl
theorem dX5_readMountain_78 : decode cX5_readMountain 78 = .ok (.putfield 109, 3) := dk181 (k := 5) bX5_readMountain_73 rfl rfl
theorem dX5_readMountain_81 : decode cX5_readMountain 81 = .ok (.aload_n 0, 1) := dk42 (k := 8) bX5_readMountain_73 rfl
theorem dX5_readMountain_82 : decode cX5_readMountain 82 = .ok (.bipush 7, 2) := dk16 (k := 9) bX5_readMountain_73 rfl (by decide)
theorem dX5_readMountain_84 : decode cX5_readMountain 84 = .ok (.invokevirtual 85, 3) := dk182 (k := 11) bX5_readMountain_73 rfl rfl
theorem dX5_readMountain_87 : decode cX5_readMountain 87 = .ok (.ifCond .eq 14, 3) := dk153 (k := 14) bX5_readMountain_73 rfl (by decide)
theorem dX5_readMountain_90 : decode cX5_readMountain 90 = .ok (.aload_n 0, 1) := dk42 (k := 17) bX5_readMountain_73 rfl
theorem dX5_readMountain_91 : decode cX5_readMountain 91 = .ok (.iconst 1, 1) := dk4 (k := 18) bX5_readMountain_73 rfl
theorem dX5_readMountain_92 : decode cX5_readMountain 92 = .ok (.sipush 999, 3) := dk17 (k := 19) bX5_readMountain_73 rfl (by decide)
theorem dX5_readMountain_95 : decode cX5_readMountain 95 = .ok (.invokevirtual 96, 3) := dk182 (k := 22) bX5_readMountain_73 rfl rfl
theorem bX5_readMountain_98 : bL cX5_readMountain 98 [154, 0, 5, 3, 172, 42, 180, 0, 12, 42, 182, 0, 100, 181, 0, 112, 43, 42, 180, 0, 43, 16, 16, 160, 0, 7] := bL_of (by decide +kernel)
theorem dX5_readMountain_98 : decode cX5_readMountain 98 = .ok (.ifCond .ne 5, 3) := dk154 (k := 0) bX5_readMountain_98 rfl (by decide)
theorem dX5_readMountain_101 : decode cX5_readMountain 101 = .ok (.iconst 0, 1) := dk3 (k := 3) bX5_readMountain_98 rfl
theorem dX5_readMountain_102 : decode cX5_readMountain 102 = .ok (.ireturn, 1) := dk172 (k := 4) bX5_readMountain_98 rfl
theorem dX5_readMountain_103 : decode cX5_readMountain 103 = .ok (.aload_n 0, 1) := dk42 (k := 5) bX5_readMountain_98 rfl
theorem dX5_readMountain_104 : decode cX5_readMountain 104 = .ok (.getfield 12, 3) := dk180 (k := 6) bX5_readMountain_98 rfl rfl
theorem dX5_readMountain_107 : decode cX5_readMountain 107 = .ok (.aload_n 0, 1) := dk42 (k := 9) bX5_readMountain_98 rfl
theorem dX5_readMountain_108 : decode cX5_readMountain 108 = .ok (.invokevirtual 100, 3) := dk182 (k := 10) bX5_readMountain_98 rfl rfl
theorem dX5_readMountain_111 : decode cX5_readMountain 111 = .ok (.putfield 112, 3) := dk181 (k := 13) bX5_readMountain_98 rfl rfl
theorem dX5_readMountain_114 : decode cX5_readMountain 114 = .ok (.aload_n 1, 1) := dk43 (k := 16) bX5_readMountain_98 rfl
theorem dX5_readMountain_115 : decode cX5_readMountain 115 = .ok (.aload_n 0, 1) := dk42 (k := 17) bX5_readMountain_98 rfl
theorem dX5_readMountain_116 : decode cX5_readMountain 116 = .ok (.getfield 43, 3) := dk180 (k := 18) bX5_readMountain_98 rfl rfl
theorem dX5_readMountain_119 : decode cX5_readMountain 119 = .ok (.bipush 16, 2) := dk16 (k := 21) bX5_readMountain_98 rfl (by decide)
theorem dX5_readMountain_121 : decode cX5_readMountain 121 = .ok (.if_icmp .ne 7, 3) := dk160 (k := 23) bX5_readMountain_98 rfl (by decide)
theorem bX5_readMountain_124 : bL cX5_readMountain 124 [4, 167, 0, 4, 3, 181, 0, 115, 42, 43, 180, 0, 115, 153, 0, 8, 16, 16, 167, 0, 5, 16, 15, 182, 0, 85] := bL_of (by decide +kernel)
theorem dX5_readMountain_124 : decode cX5_readMountain 124 = .ok (.iconst 1, 1) := dk4 (k := 0) bX5_readMountain_124 rfl
theorem dX5_readMountain_125 : decode cX5_readMountain 125 = .ok (.goto 4, 3) := dk167 (k := 1) bX5_readMountain_124 rfl (by decide)
theorem dX5_readMountain_128 : decode cX5_readMountain 128 = .ok (.iconst 0, 1) := dk3 (k := 4) bX5_readMountain_124 rfl
theorem dX5_readMountain_129 : decode cX5_readMountain 129 = .ok (.putfield 115, 3) := dk181 (k := 5) bX5_readMountain_124 rfl rfl
theorem dX5_readMountain_132 : decode cX5_readMountain 132 = .ok (.aload_n 0, 1) := dk42 (k := 8) bX5_readMountain_124 rfl
theorem dX5_readMountain_133 : decode cX5_readMountain 133 = .ok (.aload_n 1, 1) := dk43 (k := 9) bX5_readMountain_124 rfl
theorem dX5_readMountain_134 : decode cX5_readMountain 134 = .ok (.getfield 115, 3) := dk180 (k := 10) bX5_readMountain_124 rfl rfl
theorem dX5_readMountain_137 : decode cX5_readMountain 137 = .ok (.ifCond .eq 8, 3) := dk153 (k := 13) bX5_readMountain_124 rfl (by decide)
theorem dX5_readMountain_140 : decode cX5_readMountain 140 = .ok (.bipush 16, 2) := dk16 (k := 16) bX5_readMountain_124 rfl (by decide)
theorem dX5_readMountain_142 : decode cX5_readMountain 142 = .ok (.goto 5, 3) := dk167 (k := 18) bX5_readMountain_124 rfl (by decide)
theorem dX5_readMountain_145 : decode cX5_readMountain 145 = .ok (.bipush 15, 2) := dk16 (k := 21) bX5_readMountain_124 rfl (by decide)
theorem dX5_readMountain_147 : decode cX5_readMountain 147 = .ok (.invokevirtual 85, 3) := dk182 (k := 23) bX5_readMountain_124 rfl rfl
theorem bX5_readMountain_150 : bL cX5_readMountain 150 [172] := bL_of (by decide +kernel)
theorem dX5_readMountain_150 : decode cX5_readMountain 150 = .ok (.ireturn, 1) := dk172 (k := 0) bX5_readMountain_150 rfl
theorem bX5_readHeights_0 : bL cX5_readHeights 0 [3, 61, 28, 16, 10, 163, 0, 49, 42, 180, 0, 43, 6, 160, 0, 41, 42, 3, 16, 40, 182, 0, 96, 154, 0, 5] := bL_of (by decide +kernel)
theorem dX5_readHeights_0 : decode cX5_readHeights 0 = .ok (.iconst 0, 1) := dk3 (k := 0) bX5_readHeights_0 rfl
theorem dX5_readHeights_1 : decode cX5_readHeights 1 = .ok (.istore_n 2, 1) := dk61 (k := 1) bX5_readHeights_0 rfl
theorem dX5_readHeights_2 : decode cX5_readHeights 2 = .ok (.iload_n 2, 1) := dk28 (k := 2) bX5_readHeights_0 rfl
theorem dX5_readHeights_3 : decode cX5_readHeights 3 = .ok (.bipush 10, 2) := dk16 (k := 3) bX5_readHeights_0 rfl (by decide)
theorem dX5_readHeights_5 : decode cX5_readHeights 5 = .ok (.if_icmp .gt 49, 3) := dk163 (k := 5) bX5_readHeights_0 rfl (by decide)
theorem dX5_readHeights_8 : decode cX5_readHeights 8 = .ok (.aload_n 0, 1) := dk42 (k := 8) bX5_readHeights_0 rfl
theorem dX5_readHeights_9 : decode cX5_readHeights 9 = .ok (.getfield 43, 3) := dk180 (k := 9) bX5_readHeights_0 rfl rfl
theorem dX5_readHeights_12 : decode cX5_readHeights 12 = .ok (.iconst 3, 1) := dk6 (k := 12) bX5_readHeights_0 rfl
theorem dX5_readHeights_13 : decode cX5_readHeights 13 = .ok (.if_icmp .ne 41, 3) := dk160 (k := 13) bX5_readHeights_0 rfl (by decide)
theorem dX5_readHeights_16 : decode cX5_readHeights 16 = .ok (.aload_n 0, 1) := dk42 (k := 16) bX5_readHeights_0 rfl
theorem dX5_readHeights_17 : decode cX5_readHeights 17 = .ok (.iconst 0, 1) := dk3 (k := 17) bX5_readHeights_0 rfl
theorem dX5_readHeights_18 : decode cX5_readHeights 18 = .ok (.bipush 40, 2) := dk16 (k := 18) bX5_readHeights_0 rfl (by decide)
theorem dX5_readHeights_20 : decode cX5_readHeights 20 = .ok (.invokevirtual 96, 3) := dk182 (k := 20) bX5_readHeights_0 rfl rfl
theorem dX5_readHeights_23 : decode cX5_readHeights 23 = .ok (.ifCond .ne 5, 3) := dk154 (k := 23) bX5_readHeights_0 rfl (by decide)
theorem bX5_readHeights_26 : bL cX5_readHeights 26 [3, 172, 28, 16, 10, 160, 0, 9, 42, 6, 182, 0, 72, 172, 43, 42, 182, 0, 100, 182, 0, 119, 132, 2, 1] := bL_of (by decide +kernel)
theorem dX5_readHeights_26 : decode cX5_readHeights 26 = .ok (.iconst 0, 1) := dk3 (k := 0) bX5_readHeights_26 rfl
theorem dX5_readHeights_27 : decode cX5_readHeights 27 = .ok (.ireturn, 1) := dk172 (k := 1) bX5_readHeights_26 rfl
theorem dX5_readHeights_28 : decode cX5_readHeights 28 = .ok (.iload_n 2, 1) := dk28 (k := 2) bX5_readHeights_26 rfl
theorem dX5_readHeights_29 : decode cX5_readHeights 29 = .ok (.bipush 10, 2) := dk16 (k := 3) bX5_readHeights_26 rfl (by decide)
theorem dX5_readHeights_31 : decode cX5_readHeights 31 = .ok (.if_icmp .ne 9, 3) := dk160 (k := 5) bX5_readHeights_26 rfl (by decide)
theorem dX5_readHeights_34 : decode cX5_readHeights 34 = .ok (.aload_n 0, 1) := dk42 (k := 8) bX5_readHeights_26 rfl
theorem dX5_readHeights_35 : decode cX5_readHeights 35 = .ok (.iconst 3, 1) := dk6 (k := 9) bX5_readHeights_26 rfl
theorem dX5_readHeights_36 : decode cX5_readHeights 36 = .ok (.invokevirtual 72, 3) := dk182 (k := 10) bX5_readHeights_26 rfl rfl
theorem dX5_readHeights_39 : decode cX5_readHeights 39 = .ok (.ireturn, 1) := dk172 (k := 13) bX5_readHeights_26 rfl
theorem dX5_readHeights_40 : decode cX5_readHeights 40 = .ok (.aload_n 1, 1) := dk43 (k := 14) bX5_readHeights_26 rfl
theorem dX5_readHeights_41 : decode cX5_readHeights 41 = .ok (.aload_n 0, 1) := dk42 (k := 15) bX5_readHeights_26 rfl
theorem dX5_readHeights_42 : decode cX5_readHeights 42 = .ok (.invokevirtual 100, 3) := dk182 (k := 16) bX5_readHeights_26 rfl rfl
theorem dX5_readHeights_45 : decode cX5_readHeights 45 = .ok (.invokevirtual 119, 3) := dk182 (k := 19) bX5_readHeights_26 rfl rfl
theorem dX5_readHeights_48 : decode cX5_readHeights 48 = .ok (.iinc 2 1, 3) := dk132 (k := 22) bX5_readHeights_26 rfl rfl (by decide)
theorem bX5_readHeights_51 : bL cX5_readHeights 51 [167, 255, 207, 43, 180, 0, 123, 6, 162, 0, 11, 42, 4, 182, 0, 72, 153, 0, 7, 4, 167, 0, 4, 3] := bL_of (by decide +kernel)
theorem dX5_readHeights_51 : decode cX5_readHeights 51 = .ok (.goto (-49), 3) := dk167 (k := 0) bX5_readHeights_51 rfl (by decide)
theorem dX5_readHeights_54 : decode cX5_readHeights 54 = .ok (.aload_n 1, 1) := dk43 (k := 3) bX5_readHeights_51 rfl
theorem dX5_readHeights_55 : decode cX5_readHeights 55 = .ok (.getfield 123, 3) := dk180 (k := 4) bX5_readHeights_51 rfl rfl
theorem dX5_readHeights_58 : decode cX5_readHeights 58 = .ok (.iconst 3, 1) := dk6 (k := 7) bX5_readHeights_51 rfl
theorem dX5_readHeights_59 : decode cX5_readHeights 59 = .ok (.if_icmp .ge 11, 3) := dk162 (k := 8) bX5_readHeights_51 rfl (by decide)
theorem dX5_readHeights_62 : decode cX5_readHeights 62 = .ok (.aload_n 0, 1) := dk42 (k := 11) bX5_readHeights_51 rfl
theorem dX5_readHeights_63 : decode cX5_readHeights 63 = .ok (.iconst 1, 1) := dk4 (k := 12) bX5_readHeights_51 rfl
theorem dX5_readHeights_64 : decode cX5_readHeights 64 = .ok (.invokevirtual 72, 3) := dk182 (k := 13) bX5_readHeights_51 rfl rfl
theorem dX5_readHeights_67 : decode cX5_readHeights 67 = .ok (.ifCond .eq 7, 3) := dk153 (k := 16) bX5_readHeights_51 rfl (by decide)
theorem dX5_readHeights_70 : decode cX5_readHeights 70 = .ok (.iconst 1, 1) := dk4 (k := 19) bX5_readHeights_51 rfl
theorem dX5_readHeights_71 : decode cX5_readHeights 71 = .ok (.goto 4, 3) := dk167 (k := 20) bX5_readHeights_51 rfl (by decide)
theorem dX5_readHeights_74 : decode cX5_readHeights 74 = .ok (.iconst 0, 1) := dk3 (k := 23) bX5_readHeights_51 rfl
theorem bX5_readHeights_75 : bL cX5_readHeights 75 [172] := bL_of (by decide +kernel)
theorem dX5_readHeights_75 : decode cX5_readHeights 75 = .ok (.ireturn, 1) := dk172 (k := 0) bX5_readHeights_75 rfl
theorem bX5_readFolk_0 : bL cX5_readFolk 0 [42, 180, 0, 12, 180, 0, 126, 180, 0, 130, 60, 27, 16, 8, 161, 0, 9, 42, 6, 182, 0, 72, 172, 42] := bL_of (by decide +kernel)
theorem dX5_readFolk_0 : decode cX5_readFolk 0 = .ok (.aload_n 0, 1) := dk42 (k := 0) bX5_readFolk_0 rfl
theorem dX5_readFolk_1 : decode cX5_readFolk 1 = .ok (.getfield 12, 3) := dk180 (k := 1) bX5_readFolk_0 rfl rfl
theorem dX5_readFolk_4 : decode cX5_readFolk 4 = .ok (.getfield 126, 3) := dk180 (k := 4) bX5_readFolk_0 rfl rfl
theorem dX5_readFolk_7 : decode cX5_readFolk 7 = .ok (.getfield 130, 3) := dk180 (k := 7) bX5_readFolk_0 rfl rfl
theorem dX5_readFolk_10 : decode cX5_readFolk 10 = .ok (.istore_n 1, 1) := dk60 (k := 10) bX5_readFolk_0 rfl
theorem dX5_readFolk_11 : decode cX5_readFolk 11 = .ok (.iload_n 1, 1) := dk27 (k := 11) bX5_readFolk_0 rfl
theorem dX5_readFolk_12 : decode cX5_readFolk 12 = .ok (.bipush 8, 2) := dk16 (k := 12) bX5_readFolk_0 rfl (by decide)
theorem dX5_readFolk_14 : decode cX5_readFolk 14 = .ok (.if_icmp .lt 9, 3) := dk161 (k := 14) bX5_readFolk_0 rfl (by decide)
theorem dX5_readFolk_17 : decode cX5_readFolk 17 = .ok (.aload_n 0, 1) := dk42 (k := 17) bX5_readFolk_0 rfl
theorem dX5_readFolk_18 : decode cX5_readFolk 18 = .ok (.iconst 3, 1) := dk6 (k := 18) bX5_readFolk_0 rfl
theorem dX5_readFolk_19 : decode cX5_readFolk 19 = .ok (.invokevirtual 72, 3) := dk182 (k := 19) bX5_readFolk_0 rfl rfl
theorem dX5_readFolk_22 : decode cX5_readFolk 22 = .ok (.ireturn, 1) := dk172 (k := 22) bX5_readFolk_0 rfl
theorem dX5_readFolk_23 : decode cX5_readFolk 23 = .ok (.aload_n 0, 1) := dk42 (k := 23) bX5_readFolk_0 rfl
theorem bX5_readFolk_24 : bL cX5_readFolk 24 [180, 0, 12, 180, 0, 126, 89, 180, 0, 130, 4, 96, 181, 0, 130, 42, 16, 8, 182, 0, 85, 153, 0, 103] := bL_of (by decide +kernel)
theorem dX5_readFolk_24 : decode cX5_readFolk 24 = .ok (.getfield 12, 3) := dk180 (k := 0) bX5_readFolk_24 rfl rfl
theorem dX5_readFolk_27 : decode cX5_readFolk 27 = .ok (.getfield 126, 3) := dk180 (k := 3) bX5_readFolk_24 rfl rfl
theorem dX5_readFolk_30 : decode cX5_readFolk 30 = .ok (.dup, 1) := dk89 (k := 6) bX5_readFolk_24 rfl
theorem dX5_readFolk_31 : decode cX5_readFolk 31 = .ok (.getfield 130, 3) := dk180 (k := 7) bX5_readFolk_24 rfl rfl
theorem dX5_readFolk_34 : decode cX5_readFolk 34 = .ok (.iconst 1, 1) := dk4 (k := 10) bX5_readFolk_24 rfl
theorem dX5_readFolk_35 : decode cX5_readFolk 35 = .ok (.iadd, 1) := dk96 (k := 11) bX5_readFolk_24 rfl
theorem dX5_readFolk_36 : decode cX5_readFolk 36 = .ok (.putfield 130, 3) := dk181 (k := 12) bX5_readFolk_24 rfl rfl
theorem dX5_readFolk_39 : decode cX5_readFolk 39 = .ok (.aload_n 0, 1) := dk42 (k := 15) bX5_readFolk_24 rfl
theorem dX5_readFolk_40 : decode cX5_readFolk 40 = .ok (.bipush 8, 2) := dk16 (k := 16) bX5_readFolk_24 rfl (by decide)
theorem dX5_readFolk_42 : decode cX5_readFolk 42 = .ok (.invokevirtual 85, 3) := dk182 (k := 18) bX5_readFolk_24 rfl rfl
theorem dX5_readFolk_45 : decode cX5_readFolk 45 = .ok (.ifCond .eq 103, 3) := dk153 (k := 21) bX5_readFolk_24 rfl (by decide)
theorem bX5_readFolk_48 : bL cX5_readFolk 48 [42, 27, 16, 9, 3, 3, 42, 180, 0, 12, 180, 0, 88, 180, 0, 123, 4, 100, 182, 0, 135, 153, 0, 79] := bL_of (by decide +kernel)
theorem dX5_readFolk_48 : decode cX5_readFolk 48 = .ok (.aload_n 0, 1) := dk42 (k := 0) bX5_readFolk_48 rfl
theorem dX5_readFolk_49 : decode cX5_readFolk 49 = .ok (.iload_n 1, 1) := dk27 (k := 1) bX5_readFolk_48 rfl
theorem dX5_readFolk_50 : decode cX5_readFolk 50 = .ok (.bipush 9, 2) := dk16 (k := 2) bX5_readFolk_48 rfl (by decide)
theorem dX5_readFolk_52 : decode cX5_readFolk 52 = .ok (.iconst 0, 1) := dk3 (k := 4) bX5_readFolk_48 rfl
theorem dX5_readFolk_53 : decode cX5_readFolk 53 = .ok (.iconst 0, 1) := dk3 (k := 5) bX5_readFolk_48 rfl
theorem dX5_readFolk_54 : decode cX5_readFolk 54 = .ok (.aload_n 0, 1) := dk42 (k := 6) bX5_readFolk_48 rfl
theorem dX5_readFolk_55 : decode cX5_readFolk 55 = .ok (.getfield 12, 3) := dk180 (k := 7) bX5_readFolk_48 rfl rfl
theorem dX5_readFolk_58 : decode cX5_readFolk 58 = .ok (.getfield 88, 3) := dk180 (k := 10) bX5_readFolk_48 rfl rfl
theorem dX5_readFolk_61 : decode cX5_readFolk 61 = .ok (.getfield 123, 3) := dk180 (k := 13) bX5_readFolk_48 rfl rfl
theorem dX5_readFolk_64 : decode cX5_readFolk 64 = .ok (.iconst 1, 1) := dk4 (k := 16) bX5_readFolk_48 rfl
theorem dX5_readFolk_65 : decode cX5_readFolk 65 = .ok (.isub, 1) := dk100 (k := 17) bX5_readFolk_48 rfl
theorem dX5_readFolk_66 : decode cX5_readFolk 66 = .ok (.invokevirtual 135, 3) := dk182 (k := 18) bX5_readFolk_48 rfl rfl
theorem dX5_readFolk_69 : decode cX5_readFolk 69 = .ok (.ifCond .eq 79, 3) := dk153 (k := 21) bX5_readFolk_48 rfl (by decide)
theorem bX5_readFolk_72 : bL cX5_readFolk 72 [42, 27, 16, 7, 4, 4, 16, 99, 182, 0, 135, 153, 0, 65, 42, 27, 16, 10, 5, 3, 16, 9, 182, 0, 135] := bL_of (by decide +kernel)
theorem dX5_readFolk_72 : decode cX5_readFolk 72 = .ok (.aload_n 0, 1) := dk42 (k := 0) bX5_readFolk_72 rfl
theorem dX5_readFolk_73 : decode cX5_readFolk 73 = .ok (.iload_n 1, 1) := dk27 (k := 1) bX5_readFolk_72 rfl
theorem dX5_readFolk_74 : decode cX5_readFolk 74 = .ok (.bipush 7, 2) := dk16 (k := 2) bX5_readFolk_72 rfl (by decide)
theorem dX5_readFolk_76 : decode cX5_readFolk 76 = .ok (.iconst 1, 1) := dk4 (k := 4) bX5_readFolk_72 rfl
theorem dX5_readFolk_77 : decode cX5_readFolk 77 = .ok (.iconst 1, 1) := dk4 (k := 5) bX5_readFolk_72 rfl
theorem dX5_readFolk_78 : decode cX5_readFolk 78 = .ok (.bipush 99, 2) := dk16 (k := 6) bX5_readFolk_72 rfl (by decide)
theorem dX5_readFolk_80 : decode cX5_readFolk 80 = .ok (.invokevirtual 135, 3) := dk182 (k := 8) bX5_readFolk_72 rfl rfl
theorem dX5_readFolk_83 : decode cX5_readFolk 83 = .ok (.ifCond .eq 65, 3) := dk153 (k := 11) bX5_readFolk_72 rfl (by decide)
theorem dX5_readFolk_86 : decode cX5_readFolk 86 = .ok (.aload_n 0, 1) := dk42 (k := 14) bX5_readFolk_72 rfl
theorem dX5_readFolk_87 : decode cX5_readFolk 87 = .ok (.iload_n 1, 1) := dk27 (k := 15) bX5_readFolk_72 rfl
theorem dX5_readFolk_88 : decode cX5_readFolk 88 = .ok (.bipush 10, 2) := dk16 (k := 16) bX5_readFolk_72 rfl (by decide)
theorem dX5_readFolk_90 : decode cX5_readFolk 90 = .ok (.iconst 2, 1) := dk5 (k := 18) bX5_readFolk_72 rfl
theorem dX5_readFolk_91 : decode cX5_readFolk 91 = .ok (.iconst 0, 1) := dk3 (k := 19) bX5_readFolk_72 rfl
theorem dX5_readFolk_92 : decode cX5_readFolk 92 = .ok (.bipush 9, 2) := dk16 (k := 20) bX5_readFolk_72 rfl (by decide)
theorem dX5_readFolk_94 : decode cX5_readFolk 94 = .ok (.invokevirtual 135, 3) := dk182 (k := 22) bX5_readFolk_72 rfl rfl
theorem bX5_readFolk_97 : bL cX5_readFolk 97 [153, 0, 51, 42, 27, 8, 6, 3, 16, 9, 182, 0, 135, 153, 0, 38, 42, 27, 16, 11, 7, 3, 16, 9] := bL_of (by decide +kernel)
theorem dX5_readFolk_97 : decode cX5_readFolk 97 = .ok (.ifCond .eq 51, 3) := dk153 (k := 0) bX5_readFolk_97 rfl (by decide)
theorem dX5_readFolk_100 : decode cX5_readFolk 100 = .ok (.aload_n 0, 1) := dk42 (k := 3) bX5_readFolk_97 rfl
theorem dX5_readFolk_101 : decode cX5_readFolk 101 = .ok (.iload_n 1, 1) := dk27 (k := 4) bX5_readFolk_97 rfl
theorem dX5_readFolk_102 : decode cX5_readFolk 102 = .ok (.iconst 5, 1) := dk8 (k := 5) bX5_readFolk_97 rfl
theorem dX5_readFolk_103 : decode cX5_readFolk 103 = .ok (.iconst 3, 1) := dk6 (k := 6) bX5_readFolk_97 rfl
theorem dX5_readFolk_104 : decode cX5_readFolk 104 = .ok (.iconst 0, 1) := dk3 (k := 7) bX5_readFolk_97 rfl
theorem dX5_readFolk_105 : decode cX5_readFolk 105 = .ok (.bipush 9, 2) := dk16 (k := 8) bX5_readFolk_97 rfl (by decide)
theorem dX5_readFolk_107 : decode cX5_readFolk 107 = .ok (.invokevirtual 135, 3) := dk182 (k := 10) bX5_readFolk_97 rfl rfl
theorem dX5_readFolk_110 : decode cX5_readFolk 110 = .ok (.ifCond .eq 38, 3) := dk153 (k := 13) bX5_readFolk_97 rfl (by decide)
theorem dX5_readFolk_113 : decode cX5_readFolk 113 = .ok (.aload_n 0, 1) := dk42 (k := 16) bX5_readFolk_97 rfl
theorem dX5_readFolk_114 : decode cX5_readFolk 114 = .ok (.iload_n 1, 1) := dk27 (k := 17) bX5_readFolk_97 rfl
theorem dX5_readFolk_115 : decode cX5_readFolk 115 = .ok (.bipush 11, 2) := dk16 (k := 18) bX5_readFolk_97 rfl (by decide)
theorem dX5_readFolk_117 : decode cX5_readFolk 117 = .ok (.iconst 4, 1) := dk7 (k := 20) bX5_readFolk_97 rfl
theorem dX5_readFolk_118 : decode cX5_readFolk 118 = .ok (.iconst 0, 1) := dk3 (k := 21) bX5_readFolk_97 rfl
theorem dX5_readFolk_119 : decode cX5_readFolk 119 = .ok (.bipush 9, 2) := dk16 (k := 22) bX5_readFolk_97 rfl (by decide)
theorem bX5_readFolk_121 : bL cX5_readFolk 121 [182, 0, 135, 153, 0, 24, 42, 180, 0, 43, 16, 12, 160, 0, 11, 42, 27, 182, 0, 139, 153, 0, 7, 4] := bL_of (by decide +kernel)
theorem dX5_readFolk_121 : decode cX5_readFolk 121 = .ok (.invokevirtual 135, 3) := dk182 (k := 0) bX5_readFolk_121 rfl rfl
theorem dX5_readFolk_124 : decode cX5_readFolk 124 = .ok (.ifCond .eq 24, 3) := dk153 (k := 3) bX5_readFolk_121 rfl (by decide)
theorem dX5_readFolk_127 : decode cX5_readFolk 127 = .ok (.aload_n 0, 1) := dk42 (k := 6) bX5_readFolk_121 rfl
theorem dX5_readFolk_128 : decode cX5_readFolk 128 = .ok (.getfield 43, 3) := dk180 (k := 7) bX5_readFolk_121 rfl rfl
theorem dX5_readFolk_131 : decode cX5_readFolk 131 = .ok (.bipush 12, 2) := dk16 (k := 10) bX5_readFolk_121 rfl (by decide)
theorem dX5_readFolk_133 : decode cX5_readFolk 133 = .ok (.if_icmp .ne 11, 3) := dk160 (k := 12) bX5_readFolk_121 rfl (by decide)
theorem dX5_readFolk_136 : decode cX5_readFolk 136 = .ok (.aload_n 0, 1) := dk42 (k := 15) bX5_readFolk_121 rfl
theorem dX5_readFolk_137 : decode cX5_readFolk 137 = .ok (.iload_n 1, 1) := dk27 (k := 16) bX5_readFolk_121 rfl
theorem dX5_readFolk_138 : decode cX5_readFolk 138 = .ok (.invokevirtual 139, 3) := dk182 (k := 17) bX5_readFolk_121 rfl rfl
theorem dX5_readFolk_141 : decode cX5_readFolk 141 = .ok (.ifCond .eq 7, 3) := dk153 (k := 20) bX5_readFolk_121 rfl (by decide)
theorem dX5_readFolk_144 : decode cX5_readFolk 144 = .ok (.iconst 1, 1) := dk4 (k := 23) bX5_readFolk_121 rfl
theorem bX5_readFolk_145 : bL cX5_readFolk 145 [167, 0, 4, 3, 172] := bL_of (by decide +kernel)
theorem dX5_readFolk_145 : decode cX5_readFolk 145 = .ok (.goto 4, 3) := dk167 (k := 0) bX5_readFolk_145 rfl (by decide)
theorem dX5_readFolk_148 : decode cX5_readFolk 148 = .ok (.iconst 0, 1) := dk3 (k := 3) bX5_readFolk_145 rfl
theorem dX5_readFolk_149 : decode cX5_readFolk 149 = .ok (.ireturn, 1) := dk172 (k := 4) bX5_readFolk_145 rfl
theorem bX5_readFact_0 : bL cX5_readFact 0 [42, 28, 182, 0, 85, 153, 0, 14, 42, 21, 4, 21, 5, 182, 0, 96, 154, 0, 5, 3, 172, 42, 180, 0, 12] := bL_of (by decide +kernel)
theorem dX5_readFact_0 : decode cX5_readFact 0 = .ok (.aload_n 0, 1) := dk42 (k := 0) bX5_readFact_0 rfl
theorem dX5_readFact_1 : decode cX5_readFact 1 = .ok (.iload_n 2, 1) := dk28 (k := 1) bX5_readFact_0 rfl
theorem dX5_readFact_2 : decode cX5_readFact 2 = .ok (.invokevirtual 85, 3) := dk182 (k := 2) bX5_readFact_0 rfl rfl
theorem dX5_readFact_5 : decode cX5_readFact 5 = .ok (.ifCond .eq 14, 3) := dk153 (k := 5) bX5_readFact_0 rfl (by decide)
theorem dX5_readFact_8 : decode cX5_readFact 8 = .ok (.aload_n 0, 1) := dk42 (k := 8) bX5_readFact_0 rfl
theorem dX5_readFact_9 : decode cX5_readFact 9 = .ok (.iload 4, 2) := dk21 (k := 9) bX5_readFact_0 rfl rfl
theorem dX5_readFact_11 : decode cX5_readFact 11 = .ok (.iload 5, 2) := dk21 (k := 11) bX5_readFact_0 rfl rfl
theorem dX5_readFact_13 : decode cX5_readFact 13 = .ok (.invokevirtual 96, 3) := dk182 (k := 13) bX5_readFact_0 rfl rfl
theorem dX5_readFact_16 : decode cX5_readFact 16 = .ok (.ifCond .ne 5, 3) := dk154 (k := 16) bX5_readFact_0 rfl (by decide)
theorem dX5_readFact_19 : decode cX5_readFact 19 = .ok (.iconst 0, 1) := dk3 (k := 19) bX5_readFact_0 rfl
theorem dX5_readFact_20 : decode cX5_readFact 20 = .ok (.ireturn, 1) := dk172 (k := 20) bX5_readFact_0 rfl
theorem dX5_readFact_21 : decode cX5_readFact 21 = .ok (.aload_n 0, 1) := dk42 (k := 21) bX5_readFact_0 rfl
theorem dX5_readFact_22 : decode cX5_readFact 22 = .ok (.getfield 12, 3) := dk180 (k := 22) bX5_readFact_0 rfl rfl
theorem bX5_readFact_25 : bL cX5_readFact 25 [180, 0, 126, 27, 29, 42, 182, 0, 100, 182, 0, 142, 4, 172] := bL_of (by decide +kernel)
theorem dX5_readFact_25 : decode cX5_readFact 25 = .ok (.getfield 126, 3) := dk180 (k := 0) bX5_readFact_25 rfl rfl
theorem dX5_readFact_28 : decode cX5_readFact 28 = .ok (.iload_n 1, 1) := dk27 (k := 3) bX5_readFact_25 rfl
theorem dX5_readFact_29 : decode cX5_readFact 29 = .ok (.iload_n 3, 1) := dk29 (k := 4) bX5_readFact_25 rfl
theorem dX5_readFact_30 : decode cX5_readFact 30 = .ok (.aload_n 0, 1) := dk42 (k := 5) bX5_readFact_25 rfl
theorem dX5_readFact_31 : decode cX5_readFact 31 = .ok (.invokevirtual 100, 3) := dk182 (k := 6) bX5_readFact_25 rfl rfl
theorem dX5_readFact_34 : decode cX5_readFact 34 = .ok (.invokevirtual 142, 3) := dk182 (k := 9) bX5_readFact_25 rfl rfl
theorem dX5_readFact_37 : decode cX5_readFact 37 = .ok (.iconst 1, 1) := dk4 (k := 12) bX5_readFact_25 rfl
theorem dX5_readFact_38 : decode cX5_readFact 38 = .ok (.ireturn, 1) := dk172 (k := 13) bX5_readFact_25 rfl
theorem bX5_readTalk_0 : bL cX5_readTalk 0 [42, 27, 16, 12, 8, 4, 16, 7, 182, 0, 135, 153, 0, 23, 42, 16, 13, 182, 0, 85, 153, 0, 14, 42] := bL_of (by decide +kernel)
theorem dX5_readTalk_0 : decode cX5_readTalk 0 = .ok (.aload_n 0, 1) := dk42 (k := 0) bX5_readTalk_0 rfl
theorem dX5_readTalk_1 : decode cX5_readTalk 1 = .ok (.iload_n 1, 1) := dk27 (k := 1) bX5_readTalk_0 rfl
theorem dX5_readTalk_2 : decode cX5_readTalk 2 = .ok (.bipush 12, 2) := dk16 (k := 2) bX5_readTalk_0 rfl (by decide)
theorem dX5_readTalk_4 : decode cX5_readTalk 4 = .ok (.iconst 5, 1) := dk8 (k := 4) bX5_readTalk_0 rfl
theorem dX5_readTalk_5 : decode cX5_readTalk 5 = .ok (.iconst 1, 1) := dk4 (k := 5) bX5_readTalk_0 rfl
theorem dX5_readTalk_6 : decode cX5_readTalk 6 = .ok (.bipush 7, 2) := dk16 (k := 6) bX5_readTalk_0 rfl (by decide)
theorem dX5_readTalk_8 : decode cX5_readTalk 8 = .ok (.invokevirtual 135, 3) := dk182 (k := 8) bX5_readTalk_0 rfl rfl
theorem dX5_readTalk_11 : decode cX5_readTalk 11 = .ok (.ifCond .eq 23, 3) := dk153 (k := 11) bX5_readTalk_0 rfl (by decide)
theorem dX5_readTalk_14 : decode cX5_readTalk 14 = .ok (.aload_n 0, 1) := dk42 (k := 14) bX5_readTalk_0 rfl
theorem dX5_readTalk_15 : decode cX5_readTalk 15 = .ok (.bipush 13, 2) := dk16 (k := 15) bX5_readTalk_0 rfl (by decide)
theorem dX5_readTalk_17 : decode cX5_readTalk 17 = .ok (.invokevirtual 85, 3) := dk182 (k := 17) bX5_readTalk_0 rfl rfl
theorem dX5_readTalk_20 : decode cX5_readTalk 20 = .ok (.ifCond .eq 14, 3) := dk153 (k := 20) bX5_readTalk_0 rfl (by decide)
theorem dX5_readTalk_23 : decode cX5_readTalk 23 = .ok (.aload_n 0, 1) := dk42 (k := 23) bX5_readTalk_0 rfl
theorem bX5_readTalk_24 : bL cX5_readTalk 24 [3, 27, 4, 100, 182, 0, 96, 154, 0, 5, 3, 172, 42, 180, 0, 12, 180, 0, 126, 27, 42, 182, 0, 100] := bL_of (by decide +kernel)
theorem dX5_readTalk_24 : decode cX5_readTalk 24 = .ok (.iconst 0, 1) := dk3 (k := 0) bX5_readTalk_24 rfl
theorem dX5_readTalk_25 : decode cX5_readTalk 25 = .ok (.iload_n 1, 1) := dk27 (k := 1) bX5_readTalk_24 rfl
theorem dX5_readTalk_26 : decode cX5_readTalk 26 = .ok (.iconst 1, 1) := dk4 (k := 2) bX5_readTalk_24 rfl
theorem dX5_readTalk_27 : decode cX5_readTalk 27 = .ok (.isub, 1) := dk100 (k := 3) bX5_readTalk_24 rfl
theorem dX5_readTalk_28 : decode cX5_readTalk 28 = .ok (.invokevirtual 96, 3) := dk182 (k := 4) bX5_readTalk_24 rfl rfl
theorem dX5_readTalk_31 : decode cX5_readTalk 31 = .ok (.ifCond .ne 5, 3) := dk154 (k := 7) bX5_readTalk_24 rfl (by decide)
theorem dX5_readTalk_34 : decode cX5_readTalk 34 = .ok (.iconst 0, 1) := dk3 (k := 10) bX5_readTalk_24 rfl
theorem dX5_readTalk_35 : decode cX5_readTalk 35 = .ok (.ireturn, 1) := dk172 (k := 11) bX5_readTalk_24 rfl
theorem dX5_readTalk_36 : decode cX5_readTalk 36 = .ok (.aload_n 0, 1) := dk42 (k := 12) bX5_readTalk_24 rfl
theorem dX5_readTalk_37 : decode cX5_readTalk 37 = .ok (.getfield 12, 3) := dk180 (k := 13) bX5_readTalk_24 rfl rfl
theorem dX5_readTalk_40 : decode cX5_readTalk 40 = .ok (.getfield 126, 3) := dk180 (k := 16) bX5_readTalk_24 rfl rfl
theorem dX5_readTalk_43 : decode cX5_readTalk 43 = .ok (.iload_n 1, 1) := dk27 (k := 19) bX5_readTalk_24 rfl
theorem dX5_readTalk_44 : decode cX5_readTalk 44 = .ok (.aload_n 0, 1) := dk42 (k := 20) bX5_readTalk_24 rfl
theorem dX5_readTalk_45 : decode cX5_readTalk 45 = .ok (.invokevirtual 100, 3) := dk182 (k := 21) bX5_readTalk_24 rfl rfl
theorem bX5_readTalk_48 : bL cX5_readTalk 48 [182, 0, 146, 3, 61, 28, 17, 3, 132, 162, 0, 45, 42, 180, 0, 43, 6, 160, 0, 37, 42, 3, 27, 4] := bL_of (by decide +kernel)
theorem dX5_readTalk_48 : decode cX5_readTalk 48 = .ok (.invokevirtual 146, 3) := dk182 (k := 0) bX5_readTalk_48 rfl rfl
theorem dX5_readTalk_51 : decode cX5_readTalk 51 = .ok (.iconst 0, 1) := dk3 (k := 3) bX5_readTalk_48 rfl
theorem dX5_readTalk_52 : decode cX5_readTalk 52 = .ok (.istore_n 2, 1) := dk61 (k := 4) bX5_readTalk_48 rfl
theorem dX5_readTalk_53 : decode cX5_readTalk 53 = .ok (.iload_n 2, 1) := dk28 (k := 5) bX5_readTalk_48 rfl
theorem dX5_readTalk_54 : decode cX5_readTalk 54 = .ok (.sipush 900, 3) := dk17 (k := 6) bX5_readTalk_48 rfl (by decide)
theorem dX5_readTalk_57 : decode cX5_readTalk 57 = .ok (.if_icmp .ge 45, 3) := dk162 (k := 9) bX5_readTalk_48 rfl (by decide)
theorem dX5_readTalk_60 : decode cX5_readTalk 60 = .ok (.aload_n 0, 1) := dk42 (k := 12) bX5_readTalk_48 rfl
theorem dX5_readTalk_61 : decode cX5_readTalk 61 = .ok (.getfield 43, 3) := dk180 (k := 13) bX5_readTalk_48 rfl rfl
theorem dX5_readTalk_64 : decode cX5_readTalk 64 = .ok (.iconst 3, 1) := dk6 (k := 16) bX5_readTalk_48 rfl
theorem dX5_readTalk_65 : decode cX5_readTalk 65 = .ok (.if_icmp .ne 37, 3) := dk160 (k := 17) bX5_readTalk_48 rfl (by decide)
theorem dX5_readTalk_68 : decode cX5_readTalk 68 = .ok (.aload_n 0, 1) := dk42 (k := 20) bX5_readTalk_48 rfl
theorem dX5_readTalk_69 : decode cX5_readTalk 69 = .ok (.iconst 0, 1) := dk3 (k := 21) bX5_readTalk_48 rfl
theorem dX5_readTalk_70 : decode cX5_readTalk 70 = .ok (.iload_n 1, 1) := dk27 (k := 22) bX5_readTalk_48 rfl
theorem dX5_readTalk_71 : decode cX5_readTalk 71 = .ok (.iconst 1, 1) := dk4 (k := 23) bX5_readTalk_48 rfl
theorem bX5_readTalk_72 : bL cX5_readTalk 72 [100, 182, 0, 96, 154, 0, 5, 3, 172, 42, 180, 0, 12, 180, 0, 126, 27, 42, 182, 0, 100, 182, 0, 146] := bL_of (by decide +kernel)
theorem dX5_readTalk_72 : decode cX5_readTalk 72 = .ok (.isub, 1) := dk100 (k := 0) bX5_readTalk_72 rfl
theorem dX5_readTalk_73 : decode cX5_readTalk 73 = .ok (.invokevirtual 96, 3) := dk182 (k := 1) bX5_readTalk_72 rfl rfl
theorem dX5_readTalk_76 : decode cX5_readTalk 76 = .ok (.ifCond .ne 5, 3) := dk154 (k := 4) bX5_readTalk_72 rfl (by decide)
theorem dX5_readTalk_79 : decode cX5_readTalk 79 = .ok (.iconst 0, 1) := dk3 (k := 7) bX5_readTalk_72 rfl
theorem dX5_readTalk_80 : decode cX5_readTalk 80 = .ok (.ireturn, 1) := dk172 (k := 8) bX5_readTalk_72 rfl
theorem dX5_readTalk_81 : decode cX5_readTalk 81 = .ok (.aload_n 0, 1) := dk42 (k := 9) bX5_readTalk_72 rfl
theorem dX5_readTalk_82 : decode cX5_readTalk 82 = .ok (.getfield 12, 3) := dk180 (k := 10) bX5_readTalk_72 rfl rfl
theorem dX5_readTalk_85 : decode cX5_readTalk 85 = .ok (.getfield 126, 3) := dk180 (k := 13) bX5_readTalk_72 rfl rfl
theorem dX5_readTalk_88 : decode cX5_readTalk 88 = .ok (.iload_n 1, 1) := dk27 (k := 16) bX5_readTalk_72 rfl
theorem dX5_readTalk_89 : decode cX5_readTalk 89 = .ok (.aload_n 0, 1) := dk42 (k := 17) bX5_readTalk_72 rfl
theorem dX5_readTalk_90 : decode cX5_readTalk 90 = .ok (.invokevirtual 100, 3) := dk182 (k := 18) bX5_readTalk_72 rfl rfl
theorem dX5_readTalk_93 : decode cX5_readTalk 93 = .ok (.invokevirtual 146, 3) := dk182 (k := 21) bX5_readTalk_72 rfl rfl
theorem bX5_readTalk_96 : bL cX5_readTalk 96 [132, 2, 1, 167, 255, 210, 4, 172] := bL_of (by decide +kernel)
theorem dX5_readTalk_96 : decode cX5_readTalk 96 = .ok (.iinc 2 1, 3) := dk132 (k := 0) bX5_readTalk_96 rfl rfl (by decide)
theorem dX5_readTalk_99 : decode cX5_readTalk 99 = .ok (.goto (-46), 3) := dk167 (k := 3) bX5_readTalk_96 rfl (by decide)
theorem dX5_readTalk_102 : decode cX5_readTalk 102 = .ok (.iconst 1, 1) := dk4 (k := 6) bX5_readTalk_96 rfl
theorem dX5_readTalk_103 : decode cX5_readTalk 103 = .ok (.ireturn, 1) := dk172 (k := 7) bX5_readTalk_96 rfl
theorem bX5_readHeap_0 : bL cX5_readHeap 0 [42, 16, 14, 182, 0, 85, 153, 0, 23, 42, 3, 42, 180, 0, 12, 180, 0, 88, 180, 0, 123, 4, 100, 182, 0, 96] := bL_of (by decide +kernel)
theorem dX5_readHeap_0 : decode cX5_readHeap 0 = .ok (.aload_n 0, 1) := dk42 (k := 0) bX5_readHeap_0 rfl
theorem dX5_readHeap_1 : decode cX5_readHeap 1 = .ok (.bipush 14, 2) := dk16 (k := 1) bX5_readHeap_0 rfl (by decide)
theorem dX5_readHeap_3 : decode cX5_readHeap 3 = .ok (.invokevirtual 85, 3) := dk182 (k := 3) bX5_readHeap_0 rfl rfl
theorem dX5_readHeap_6 : decode cX5_readHeap 6 = .ok (.ifCond .eq 23, 3) := dk153 (k := 6) bX5_readHeap_0 rfl (by decide)
theorem dX5_readHeap_9 : decode cX5_readHeap 9 = .ok (.aload_n 0, 1) := dk42 (k := 9) bX5_readHeap_0 rfl
theorem dX5_readHeap_10 : decode cX5_readHeap 10 = .ok (.iconst 0, 1) := dk3 (k := 10) bX5_readHeap_0 rfl
theorem dX5_readHeap_11 : decode cX5_readHeap 11 = .ok (.aload_n 0, 1) := dk42 (k := 11) bX5_readHeap_0 rfl
theorem dX5_readHeap_12 : decode cX5_readHeap 12 = .ok (.getfield 12, 3) := dk180 (k := 12) bX5_readHeap_0 rfl rfl
theorem dX5_readHeap_15 : decode cX5_readHeap 15 = .ok (.getfield 88, 3) := dk180 (k := 15) bX5_readHeap_0 rfl rfl
theorem dX5_readHeap_18 : decode cX5_readHeap 18 = .ok (.getfield 123, 3) := dk180 (k := 18) bX5_readHeap_0 rfl rfl
theorem dX5_readHeap_21 : decode cX5_readHeap 21 = .ok (.iconst 1, 1) := dk4 (k := 21) bX5_readHeap_0 rfl
theorem dX5_readHeap_22 : decode cX5_readHeap 22 = .ok (.isub, 1) := dk100 (k := 22) bX5_readHeap_0 rfl
theorem dX5_readHeap_23 : decode cX5_readHeap 23 = .ok (.invokevirtual 96, 3) := dk182 (k := 23) bX5_readHeap_0 rfl rfl
theorem bX5_readHeap_26 : bL cX5_readHeap 26 [154, 0, 5, 3, 172, 42, 180, 0, 12, 42, 182, 0, 100, 181, 0, 150, 4, 172] := bL_of (by decide +kernel)
theorem dX5_readHeap_26 : decode cX5_readHeap 26 = .ok (.ifCond .ne 5, 3) := dk154 (k := 0) bX5_readHeap_26 rfl (by decide)
theorem dX5_readHeap_29 : decode cX5_readHeap 29 = .ok (.iconst 0, 1) := dk3 (k := 3) bX5_readHeap_26 rfl
theorem dX5_readHeap_30 : decode cX5_readHeap 30 = .ok (.ireturn, 1) := dk172 (k := 4) bX5_readHeap_26 rfl
theorem dX5_readHeap_31 : decode cX5_readHeap 31 = .ok (.aload_n 0, 1) := dk42 (k := 5) bX5_readHeap_26 rfl
theorem dX5_readHeap_32 : decode cX5_readHeap 32 = .ok (.getfield 12, 3) := dk180 (k := 6) bX5_readHeap_26 rfl rfl
theorem dX5_readHeap_35 : decode cX5_readHeap 35 = .ok (.aload_n 0, 1) := dk42 (k := 9) bX5_readHeap_26 rfl
theorem dX5_readHeap_36 : decode cX5_readHeap 36 = .ok (.invokevirtual 100, 3) := dk182 (k := 10) bX5_readHeap_26 rfl rfl
theorem dX5_readHeap_39 : decode cX5_readHeap 39 = .ok (.putfield 150, 3) := dk181 (k := 13) bX5_readHeap_26 rfl rfl
theorem dX5_readHeap_42 : decode cX5_readHeap 42 = .ok (.iconst 1, 1) := dk4 (k := 16) bX5_readHeap_26 rfl
theorem dX5_readHeap_43 : decode cX5_readHeap 43 = .ok (.ireturn, 1) := dk172 (k := 17) bX5_readHeap_26 rfl
theorem bX6_init_0 : bL cX6_init 0 [42, 183, 0, 3, 42, 16, 21] := bL_of (by decide +kernel)
theorem dX6_init_0 : decode cX6_init 0 = .ok (.aload_n 0, 1) := dk42 (k := 0) bX6_init_0 rfl
theorem dX6_init_1 : decode cX6_init 1 = .ok (.invokespecial 3, 3) := dk183 (k := 1) bX6_init_0 rfl rfl
theorem dX6_init_4 : decode cX6_init 4 = .ok (.aload_n 0, 1) := dk42 (k := 4) bX6_init_0 rfl
theorem dX6_init_5 : decode cX6_init 5 = .ok (.bipush 21, 2) := dk16 (k := 5) bX6_init_0 rfl (by decide)
theorem dX6_init_7 : decode cX6_init 7 = .ok (.newarray .int, 2) := by decide +kernel
theorem bX6_init_9 : bL cX6_init 9 [181, 0, 9, 42, 16, 21] := bL_of (by decide +kernel)
theorem dX6_init_9 : decode cX6_init 9 = .ok (.putfield 9, 3) := dk181 (k := 0) bX6_init_9 rfl rfl
theorem dX6_init_12 : decode cX6_init 12 = .ok (.aload_n 0, 1) := dk42 (k := 3) bX6_init_9 rfl
theorem dX6_init_13 : decode cX6_init 13 = .ok (.bipush 21, 2) := dk16 (k := 4) bX6_init_9 rfl (by decide)
theorem dX6_init_15 : decode cX6_init 15 = .ok (.newarray .int, 2) := by decide +kernel
theorem bX6_init_17 : bL cX6_init 17 [181, 0, 15, 42, 16, 19] := bL_of (by decide +kernel)
theorem dX6_init_17 : decode cX6_init 17 = .ok (.putfield 15, 3) := dk181 (k := 0) bX6_init_17 rfl rfl
theorem dX6_init_20 : decode cX6_init 20 = .ok (.aload_n 0, 1) := dk42 (k := 3) bX6_init_17 rfl
theorem dX6_init_21 : decode cX6_init 21 = .ok (.bipush 19, 2) := dk16 (k := 4) bX6_init_17 rfl (by decide)
theorem dX6_init_23 : decode cX6_init 23 = .ok (.newarray .int, 2) := by decide +kernel
theorem bX6_init_25 : bL cX6_init 25 [181, 0, 18, 42, 43, 181, 0, 21, 42, 44, 181, 0, 25, 42, 45, 181, 0, 29, 177] := bL_of (by decide +kernel)
theorem dX6_init_25 : decode cX6_init 25 = .ok (.putfield 18, 3) := dk181 (k := 0) bX6_init_25 rfl rfl
theorem dX6_init_28 : decode cX6_init 28 = .ok (.aload_n 0, 1) := dk42 (k := 3) bX6_init_25 rfl
theorem dX6_init_29 : decode cX6_init 29 = .ok (.aload_n 1, 1) := dk43 (k := 4) bX6_init_25 rfl
theorem dX6_init_30 : decode cX6_init 30 = .ok (.putfield 21, 3) := dk181 (k := 5) bX6_init_25 rfl rfl
theorem dX6_init_33 : decode cX6_init 33 = .ok (.aload_n 0, 1) := dk42 (k := 8) bX6_init_25 rfl
theorem dX6_init_34 : decode cX6_init 34 = .ok (.aload_n 2, 1) := dk44 (k := 9) bX6_init_25 rfl
theorem dX6_init_35 : decode cX6_init 35 = .ok (.putfield 25, 3) := dk181 (k := 10) bX6_init_25 rfl rfl
theorem dX6_init_38 : decode cX6_init 38 = .ok (.aload_n 0, 1) := dk42 (k := 13) bX6_init_25 rfl
theorem dX6_init_39 : decode cX6_init 39 = .ok (.aload_n 3, 1) := dk45 (k := 14) bX6_init_25 rfl
theorem dX6_init_40 : decode cX6_init 40 = .ok (.putfield 29, 3) := dk181 (k := 15) bX6_init_25 rfl rfl
theorem dX6_init_43 : decode cX6_init 43 = .ok (.return_, 1) := dk177 (k := 18) bX6_init_25 rfl
theorem bX6_load_0 : bL cX6_load 0 [42, 180, 0, 25, 27, 182, 0, 33, 153, 0, 13, 42, 180, 0, 21, 182, 0, 39, 154, 0, 6, 16, 254, 172] := bL_of (by decide +kernel)
theorem dX6_load_0 : decode cX6_load 0 = .ok (.aload_n 0, 1) := dk42 (k := 0) bX6_load_0 rfl
theorem dX6_load_1 : decode cX6_load 1 = .ok (.getfield 25, 3) := dk180 (k := 1) bX6_load_0 rfl rfl
theorem dX6_load_4 : decode cX6_load 4 = .ok (.iload_n 1, 1) := dk27 (k := 4) bX6_load_0 rfl
theorem dX6_load_5 : decode cX6_load 5 = .ok (.invokevirtual 33, 3) := dk182 (k := 5) bX6_load_0 rfl rfl
theorem dX6_load_8 : decode cX6_load 8 = .ok (.ifCond .eq 13, 3) := dk153 (k := 8) bX6_load_0 rfl (by decide)
theorem dX6_load_11 : decode cX6_load 11 = .ok (.aload_n 0, 1) := dk42 (k := 11) bX6_load_0 rfl
theorem dX6_load_12 : decode cX6_load 12 = .ok (.getfield 21, 3) := dk180 (k := 12) bX6_load_0 rfl rfl
theorem dX6_load_15 : decode cX6_load 15 = .ok (.invokevirtual 39, 3) := dk182 (k := 15) bX6_load_0 rfl rfl
theorem dX6_load_18 : decode cX6_load 18 = .ok (.ifCond .ne 6, 3) := dk154 (k := 18) bX6_load_0 rfl (by decide)
theorem dX6_load_21 : decode cX6_load 21 = .ok (.bipush (-2), 2) := dk16 (k := 21) bX6_load_0 rfl (by decide)
theorem dX6_load_23 : decode cX6_load 23 = .ok (.ireturn, 1) := dk172 (k := 23) bX6_load_0 rfl
theorem bX6_load_24 : bL cX6_load 24 [42, 180, 0, 25, 27, 182, 0, 45, 154, 0, 6, 16, 250, 172, 42, 27, 182, 0, 48, 154, 0, 6, 16, 254] := bL_of (by decide +kernel)
theorem dX6_load_24 : decode cX6_load 24 = .ok (.aload_n 0, 1) := dk42 (k := 0) bX6_load_24 rfl
theorem dX6_load_25 : decode cX6_load 25 = .ok (.getfield 25, 3) := dk180 (k := 1) bX6_load_24 rfl rfl
theorem dX6_load_28 : decode cX6_load 28 = .ok (.iload_n 1, 1) := dk27 (k := 4) bX6_load_24 rfl
theorem dX6_load_29 : decode cX6_load 29 = .ok (.invokevirtual 45, 3) := dk182 (k := 5) bX6_load_24 rfl rfl
theorem dX6_load_32 : decode cX6_load 32 = .ok (.ifCond .ne 6, 3) := dk154 (k := 8) bX6_load_24 rfl (by decide)
theorem dX6_load_35 : decode cX6_load 35 = .ok (.bipush (-6), 2) := dk16 (k := 11) bX6_load_24 rfl (by decide)
theorem dX6_load_37 : decode cX6_load 37 = .ok (.ireturn, 1) := dk172 (k := 13) bX6_load_24 rfl
theorem dX6_load_38 : decode cX6_load 38 = .ok (.aload_n 0, 1) := dk42 (k := 14) bX6_load_24 rfl
theorem dX6_load_39 : decode cX6_load 39 = .ok (.iload_n 1, 1) := dk27 (k := 15) bX6_load_24 rfl
theorem dX6_load_40 : decode cX6_load 40 = .ok (.invokevirtual 48, 3) := dk182 (k := 16) bX6_load_24 rfl rfl
theorem dX6_load_43 : decode cX6_load 43 = .ok (.ifCond .ne 6, 3) := dk154 (k := 19) bX6_load_24 rfl (by decide)
theorem dX6_load_46 : decode cX6_load 46 = .ok (.bipush (-2), 2) := dk16 (k := 22) bX6_load_24 rfl (by decide)
theorem bX6_load_48 : bL cX6_load 48 [172, 42, 42, 180, 0, 25, 27, 182, 0, 51, 6, 108, 181, 0, 55, 42, 3, 181, 0, 59, 42, 180, 0, 29] := bL_of (by decide +kernel)
theorem dX6_load_48 : decode cX6_load 48 = .ok (.ireturn, 1) := dk172 (k := 0) bX6_load_48 rfl
theorem dX6_load_49 : decode cX6_load 49 = .ok (.aload_n 0, 1) := dk42 (k := 1) bX6_load_48 rfl
theorem dX6_load_50 : decode cX6_load 50 = .ok (.aload_n 0, 1) := dk42 (k := 2) bX6_load_48 rfl
theorem dX6_load_51 : decode cX6_load 51 = .ok (.getfield 25, 3) := dk180 (k := 3) bX6_load_48 rfl rfl
theorem dX6_load_54 : decode cX6_load 54 = .ok (.iload_n 1, 1) := dk27 (k := 6) bX6_load_48 rfl
theorem dX6_load_55 : decode cX6_load 55 = .ok (.invokevirtual 51, 3) := dk182 (k := 7) bX6_load_48 rfl rfl
theorem dX6_load_58 : decode cX6_load 58 = .ok (.iconst 3, 1) := dk6 (k := 10) bX6_load_48 rfl
theorem dX6_load_59 : decode cX6_load 59 = .ok (.idiv, 1) := dk108 (k := 11) bX6_load_48 rfl
theorem dX6_load_60 : decode cX6_load 60 = .ok (.putfield 55, 3) := dk181 (k := 12) bX6_load_48 rfl rfl
theorem dX6_load_63 : decode cX6_load 63 = .ok (.aload_n 0, 1) := dk42 (k := 15) bX6_load_48 rfl
theorem dX6_load_64 : decode cX6_load 64 = .ok (.iconst 0, 1) := dk3 (k := 16) bX6_load_48 rfl
theorem dX6_load_65 : decode cX6_load 65 = .ok (.putfield 59, 3) := dk181 (k := 17) bX6_load_48 rfl rfl
theorem dX6_load_68 : decode cX6_load 68 = .ok (.aload_n 0, 1) := dk42 (k := 20) bX6_load_48 rfl
theorem dX6_load_69 : decode cX6_load 69 = .ok (.getfield 29, 3) := dk180 (k := 21) bX6_load_48 rfl rfl
theorem bX6_load_72 : bL cX6_load 72 [42, 180, 0, 21, 180, 0, 62, 182, 0, 65, 42, 180, 0, 29, 182, 0, 71, 61, 3, 62, 29, 16, 20, 163, 0, 45] := bL_of (by decide +kernel)
theorem dX6_load_72 : decode cX6_load 72 = .ok (.aload_n 0, 1) := dk42 (k := 0) bX6_load_72 rfl
theorem dX6_load_73 : decode cX6_load 73 = .ok (.getfield 21, 3) := dk180 (k := 1) bX6_load_72 rfl rfl
theorem dX6_load_76 : decode cX6_load 76 = .ok (.getfield 62, 3) := dk180 (k := 4) bX6_load_72 rfl rfl
theorem dX6_load_79 : decode cX6_load 79 = .ok (.invokevirtual 65, 3) := dk182 (k := 7) bX6_load_72 rfl rfl
theorem dX6_load_82 : decode cX6_load 82 = .ok (.aload_n 0, 1) := dk42 (k := 10) bX6_load_72 rfl
theorem dX6_load_83 : decode cX6_load 83 = .ok (.getfield 29, 3) := dk180 (k := 11) bX6_load_72 rfl rfl
theorem dX6_load_86 : decode cX6_load 86 = .ok (.invokevirtual 71, 3) := dk182 (k := 14) bX6_load_72 rfl rfl
theorem dX6_load_89 : decode cX6_load 89 = .ok (.istore_n 2, 1) := dk61 (k := 17) bX6_load_72 rfl
theorem dX6_load_90 : decode cX6_load 90 = .ok (.iconst 0, 1) := dk3 (k := 18) bX6_load_72 rfl
theorem dX6_load_91 : decode cX6_load 91 = .ok (.istore_n 3, 1) := dk62 (k := 19) bX6_load_72 rfl
theorem dX6_load_92 : decode cX6_load 92 = .ok (.iload_n 3, 1) := dk29 (k := 20) bX6_load_72 rfl
theorem dX6_load_93 : decode cX6_load 93 = .ok (.bipush 20, 2) := dk16 (k := 21) bX6_load_72 rfl (by decide)
theorem dX6_load_95 : decode cX6_load 95 = .ok (.if_icmp .gt 45, 3) := dk163 (k := 23) bX6_load_72 rfl (by decide)
theorem bX6_load_98 : bL cX6_load 98 [42, 27, 29, 182, 0, 75, 42, 180, 0, 9, 29, 46, 154, 0, 15, 42, 89, 180, 0, 59, 4, 29, 120, 128] := bL_of (by decide +kernel)
theorem dX6_load_98 : decode cX6_load 98 = .ok (.aload_n 0, 1) := dk42 (k := 0) bX6_load_98 rfl
theorem dX6_load_99 : decode cX6_load 99 = .ok (.iload_n 1, 1) := dk27 (k := 1) bX6_load_98 rfl
theorem dX6_load_100 : decode cX6_load 100 = .ok (.iload_n 3, 1) := dk29 (k := 2) bX6_load_98 rfl
theorem dX6_load_101 : decode cX6_load 101 = .ok (.invokevirtual 75, 3) := dk182 (k := 3) bX6_load_98 rfl rfl
theorem dX6_load_104 : decode cX6_load 104 = .ok (.aload_n 0, 1) := dk42 (k := 6) bX6_load_98 rfl
theorem dX6_load_105 : decode cX6_load 105 = .ok (.getfield 9, 3) := dk180 (k := 7) bX6_load_98 rfl rfl
theorem dX6_load_108 : decode cX6_load 108 = .ok (.iload_n 3, 1) := dk29 (k := 10) bX6_load_98 rfl
theorem dX6_load_109 : decode cX6_load 109 = .ok (.iaload, 1) := dk46 (k := 11) bX6_load_98 rfl
theorem dX6_load_110 : decode cX6_load 110 = .ok (.ifCond .ne 15, 3) := dk154 (k := 12) bX6_load_98 rfl (by decide)
theorem dX6_load_113 : decode cX6_load 113 = .ok (.aload_n 0, 1) := dk42 (k := 15) bX6_load_98 rfl
theorem dX6_load_114 : decode cX6_load 114 = .ok (.dup, 1) := dk89 (k := 16) bX6_load_98 rfl
theorem dX6_load_115 : decode cX6_load 115 = .ok (.getfield 59, 3) := dk180 (k := 17) bX6_load_98 rfl rfl
theorem dX6_load_118 : decode cX6_load 118 = .ok (.iconst 1, 1) := dk4 (k := 20) bX6_load_98 rfl
theorem dX6_load_119 : decode cX6_load 119 = .ok (.iload_n 3, 1) := dk29 (k := 21) bX6_load_98 rfl
theorem dX6_load_120 : decode cX6_load 120 = .ok (.ishl, 1) := dk120 (k := 22) bX6_load_98 rfl
theorem dX6_load_121 : decode cX6_load 121 = .ok (.ior, 1) := dk128 (k := 23) bX6_load_98 rfl
theorem bX6_load_122 : bL cX6_load 122 [181, 0, 59, 42, 180, 0, 29, 28, 4, 182, 0, 79, 132, 3, 1, 167, 255, 211, 3, 172] := bL_of (by decide +kernel)
theorem dX6_load_122 : decode cX6_load 122 = .ok (.putfield 59, 3) := dk181 (k := 0) bX6_load_122 rfl rfl
theorem dX6_load_125 : decode cX6_load 125 = .ok (.aload_n 0, 1) := dk42 (k := 3) bX6_load_122 rfl
theorem dX6_load_126 : decode cX6_load 126 = .ok (.getfield 29, 3) := dk180 (k := 4) bX6_load_122 rfl rfl
theorem dX6_load_129 : decode cX6_load 129 = .ok (.iload_n 2, 1) := dk28 (k := 7) bX6_load_122 rfl
theorem dX6_load_130 : decode cX6_load 130 = .ok (.iconst 1, 1) := dk4 (k := 8) bX6_load_122 rfl
theorem dX6_load_131 : decode cX6_load 131 = .ok (.invokevirtual 79, 3) := dk182 (k := 9) bX6_load_122 rfl rfl
theorem dX6_load_134 : decode cX6_load 134 = .ok (.iinc 3 1, 3) := dk132 (k := 12) bX6_load_122 rfl rfl (by decide)
theorem dX6_load_137 : decode cX6_load 137 = .ok (.goto (-45), 3) := dk167 (k := 15) bX6_load_122 rfl (by decide)
theorem dX6_load_140 : decode cX6_load 140 = .ok (.iconst 0, 1) := dk3 (k := 18) bX6_load_122 rfl
theorem dX6_load_141 : decode cX6_load 141 = .ok (.ireturn, 1) := dk172 (k := 19) bX6_load_122 rfl
theorem bX6_isSighting_0 : bL cX6_isSighting 0 [42, 180, 0, 25, 27, 182, 0, 51, 61, 28, 6, 112, 153, 0, 5, 3, 172, 3, 62, 29, 28, 162, 0, 135] := bL_of (by decide +kernel)
theorem dX6_isSighting_0 : decode cX6_isSighting 0 = .ok (.aload_n 0, 1) := dk42 (k := 0) bX6_isSighting_0 rfl
theorem dX6_isSighting_1 : decode cX6_isSighting 1 = .ok (.getfield 25, 3) := dk180 (k := 1) bX6_isSighting_0 rfl rfl
theorem dX6_isSighting_4 : decode cX6_isSighting 4 = .ok (.iload_n 1, 1) := dk27 (k := 4) bX6_isSighting_0 rfl
theorem dX6_isSighting_5 : decode cX6_isSighting 5 = .ok (.invokevirtual 51, 3) := dk182 (k := 5) bX6_isSighting_0 rfl rfl
theorem dX6_isSighting_8 : decode cX6_isSighting 8 = .ok (.istore_n 2, 1) := dk61 (k := 8) bX6_isSighting_0 rfl
theorem dX6_isSighting_9 : decode cX6_isSighting 9 = .ok (.iload_n 2, 1) := dk28 (k := 9) bX6_isSighting_0 rfl
theorem dX6_isSighting_10 : decode cX6_isSighting 10 = .ok (.iconst 3, 1) := dk6 (k := 10) bX6_isSighting_0 rfl
theorem dX6_isSighting_11 : decode cX6_isSighting 11 = .ok (.irem, 1) := dk112 (k := 11) bX6_isSighting_0 rfl
theorem dX6_isSighting_12 : decode cX6_isSighting 12 = .ok (.ifCond .eq 5, 3) := dk153 (k := 12) bX6_isSighting_0 rfl (by decide)
theorem dX6_isSighting_15 : decode cX6_isSighting 15 = .ok (.iconst 0, 1) := dk3 (k := 15) bX6_isSighting_0 rfl
theorem dX6_isSighting_16 : decode cX6_isSighting 16 = .ok (.ireturn, 1) := dk172 (k := 16) bX6_isSighting_0 rfl
theorem dX6_isSighting_17 : decode cX6_isSighting 17 = .ok (.iconst 0, 1) := dk3 (k := 17) bX6_isSighting_0 rfl
theorem dX6_isSighting_18 : decode cX6_isSighting 18 = .ok (.istore_n 3, 1) := dk62 (k := 18) bX6_isSighting_0 rfl
theorem dX6_isSighting_19 : decode cX6_isSighting 19 = .ok (.iload_n 3, 1) := dk29 (k := 19) bX6_isSighting_0 rfl
theorem dX6_isSighting_20 : decode cX6_isSighting 20 = .ok (.iload_n 2, 1) := dk28 (k := 20) bX6_isSighting_0 rfl
theorem dX6_isSighting_21 : decode cX6_isSighting 21 = .ok (.if_icmp .ge 135, 3) := dk162 (k := 21) bX6_isSighting_0 rfl (by decide)
theorem bX6_isSighting_24 : bL cX6_isSighting 24 [42, 180, 0, 25, 27, 29, 182, 0, 82, 55, 4, 42, 180, 0, 25, 27, 29, 4, 96, 182, 0, 82, 55, 6] := bL_of (by decide +kernel)
theorem dX6_isSighting_24 : decode cX6_isSighting 24 = .ok (.aload_n 0, 1) := dk42 (k := 0) bX6_isSighting_24 rfl
theorem dX6_isSighting_25 : decode cX6_isSighting 25 = .ok (.getfield 25, 3) := dk180 (k := 1) bX6_isSighting_24 rfl rfl
theorem dX6_isSighting_28 : decode cX6_isSighting 28 = .ok (.iload_n 1, 1) := dk27 (k := 4) bX6_isSighting_24 rfl
theorem dX6_isSighting_29 : decode cX6_isSighting 29 = .ok (.iload_n 3, 1) := dk29 (k := 5) bX6_isSighting_24 rfl
theorem dX6_isSighting_30 : decode cX6_isSighting 30 = .ok (.invokevirtual 82, 3) := dk182 (k := 6) bX6_isSighting_24 rfl rfl
theorem dX6_isSighting_33 : decode cX6_isSighting 33 = .ok (.lstore 4, 2) := dk55 (k := 9) bX6_isSighting_24 rfl rfl
theorem dX6_isSighting_35 : decode cX6_isSighting 35 = .ok (.aload_n 0, 1) := dk42 (k := 11) bX6_isSighting_24 rfl
theorem dX6_isSighting_36 : decode cX6_isSighting 36 = .ok (.getfield 25, 3) := dk180 (k := 12) bX6_isSighting_24 rfl rfl
theorem dX6_isSighting_39 : decode cX6_isSighting 39 = .ok (.iload_n 1, 1) := dk27 (k := 15) bX6_isSighting_24 rfl
theorem dX6_isSighting_40 : decode cX6_isSighting 40 = .ok (.iload_n 3, 1) := dk29 (k := 16) bX6_isSighting_24 rfl
theorem dX6_isSighting_41 : decode cX6_isSighting 41 = .ok (.iconst 1, 1) := dk4 (k := 17) bX6_isSighting_24 rfl
theorem dX6_isSighting_42 : decode cX6_isSighting 42 = .ok (.iadd, 1) := dk96 (k := 18) bX6_isSighting_24 rfl
theorem dX6_isSighting_43 : decode cX6_isSighting 43 = .ok (.invokevirtual 82, 3) := dk182 (k := 19) bX6_isSighting_24 rfl rfl
theorem dX6_isSighting_46 : decode cX6_isSighting 46 = .ok (.lstore 6, 2) := dk55 (k := 22) bX6_isSighting_24 rfl rfl
theorem bX6_isSighting_48 : bL cX6_isSighting 48 [42, 180, 0, 25, 27, 29, 5, 96, 182, 0, 82, 55, 8, 22, 4, 9, 148, 155, 0, 24, 22, 4, 42, 180, 0, 21] := bL_of (by decide +kernel)
theorem dX6_isSighting_48 : decode cX6_isSighting 48 = .ok (.aload_n 0, 1) := dk42 (k := 0) bX6_isSighting_48 rfl
theorem dX6_isSighting_49 : decode cX6_isSighting 49 = .ok (.getfield 25, 3) := dk180 (k := 1) bX6_isSighting_48 rfl rfl
theorem dX6_isSighting_52 : decode cX6_isSighting 52 = .ok (.iload_n 1, 1) := dk27 (k := 4) bX6_isSighting_48 rfl
theorem dX6_isSighting_53 : decode cX6_isSighting 53 = .ok (.iload_n 3, 1) := dk29 (k := 5) bX6_isSighting_48 rfl
theorem dX6_isSighting_54 : decode cX6_isSighting 54 = .ok (.iconst 2, 1) := dk5 (k := 6) bX6_isSighting_48 rfl
theorem dX6_isSighting_55 : decode cX6_isSighting 55 = .ok (.iadd, 1) := dk96 (k := 7) bX6_isSighting_48 rfl
theorem dX6_isSighting_56 : decode cX6_isSighting 56 = .ok (.invokevirtual 82, 3) := dk182 (k := 8) bX6_isSighting_48 rfl rfl
theorem dX6_isSighting_59 : decode cX6_isSighting 59 = .ok (.lstore 8, 2) := dk55 (k := 11) bX6_isSighting_48 rfl rfl
theorem dX6_isSighting_61 : decode cX6_isSighting 61 = .ok (.lload 4, 2) := dk22 (k := 13) bX6_isSighting_48 rfl rfl
theorem dX6_isSighting_63 : decode cX6_isSighting 63 = .ok (.lconst 0, 1) := dk9 (k := 15) bX6_isSighting_48 rfl
theorem dX6_isSighting_64 : decode cX6_isSighting 64 = .ok (.lcmp, 1) := dk148 (k := 16) bX6_isSighting_48 rfl
theorem dX6_isSighting_65 : decode cX6_isSighting 65 = .ok (.ifCond .lt 24, 3) := dk155 (k := 17) bX6_isSighting_48 rfl (by decide)
theorem dX6_isSighting_68 : decode cX6_isSighting 68 = .ok (.lload 4, 2) := dk22 (k := 20) bX6_isSighting_48 rfl rfl
theorem dX6_isSighting_70 : decode cX6_isSighting 70 = .ok (.aload_n 0, 1) := dk42 (k := 22) bX6_isSighting_48 rfl
theorem dX6_isSighting_71 : decode cX6_isSighting 71 = .ok (.getfield 21, 3) := dk180 (k := 23) bX6_isSighting_48 rfl rfl
theorem bX6_isSighting_74 : bL cX6_isSighting 74 [180, 0, 62, 180, 0, 86, 133, 148, 156, 0, 7, 4, 167, 0, 4, 3, 54, 10, 22, 6, 9, 148, 153, 0, 25] := bL_of (by decide +kernel)
theorem dX6_isSighting_74 : decode cX6_isSighting 74 = .ok (.getfield 62, 3) := dk180 (k := 0) bX6_isSighting_74 rfl rfl
theorem dX6_isSighting_77 : decode cX6_isSighting 77 = .ok (.getfield 86, 3) := dk180 (k := 3) bX6_isSighting_74 rfl rfl
theorem dX6_isSighting_80 : decode cX6_isSighting 80 = .ok (.i2l, 1) := dk133 (k := 6) bX6_isSighting_74 rfl
theorem dX6_isSighting_81 : decode cX6_isSighting 81 = .ok (.lcmp, 1) := dk148 (k := 7) bX6_isSighting_74 rfl
theorem dX6_isSighting_82 : decode cX6_isSighting 82 = .ok (.ifCond .ge 7, 3) := dk156 (k := 8) bX6_isSighting_74 rfl (by decide)
theorem dX6_isSighting_85 : decode cX6_isSighting 85 = .ok (.iconst 1, 1) := dk4 (k := 11) bX6_isSighting_74 rfl
theorem dX6_isSighting_86 : decode cX6_isSighting 86 = .ok (.goto 4, 3) := dk167 (k := 12) bX6_isSighting_74 rfl (by decide)
theorem dX6_isSighting_89 : decode cX6_isSighting 89 = .ok (.iconst 0, 1) := dk3 (k := 15) bX6_isSighting_74 rfl
theorem dX6_isSighting_90 : decode cX6_isSighting 90 = .ok (.istore 10, 2) := dk54 (k := 16) bX6_isSighting_74 rfl rfl
theorem dX6_isSighting_92 : decode cX6_isSighting 92 = .ok (.lload 6, 2) := dk22 (k := 18) bX6_isSighting_74 rfl rfl
theorem dX6_isSighting_94 : decode cX6_isSighting 94 = .ok (.lconst 0, 1) := dk9 (k := 20) bX6_isSighting_74 rfl
theorem dX6_isSighting_95 : decode cX6_isSighting 95 = .ok (.lcmp, 1) := dk148 (k := 21) bX6_isSighting_74 rfl
theorem dX6_isSighting_96 : decode cX6_isSighting 96 = .ok (.ifCond .eq 25, 3) := dk153 (k := 22) bX6_isSighting_74 rfl (by decide)
theorem bX6_isSighting_99 : bL cX6_isSighting 99 [22, 6, 20, 0, 89, 148, 155, 0, 16, 22, 6, 20, 0, 91, 148, 157, 0, 7, 4, 167, 0, 4, 3, 54, 11] := bL_of (by decide +kernel)
theorem dX6_isSighting_99 : decode cX6_isSighting 99 = .ok (.lload 6, 2) := dk22 (k := 0) bX6_isSighting_99 rfl rfl
theorem dX6_isSighting_101 : decode cX6_isSighting 101 = .ok (.ldc2_w 89, 3) := dk20 (k := 2) bX6_isSighting_99 rfl rfl
theorem dX6_isSighting_104 : decode cX6_isSighting 104 = .ok (.lcmp, 1) := dk148 (k := 5) bX6_isSighting_99 rfl
theorem dX6_isSighting_105 : decode cX6_isSighting 105 = .ok (.ifCond .lt 16, 3) := dk155 (k := 6) bX6_isSighting_99 rfl (by decide)
theorem dX6_isSighting_108 : decode cX6_isSighting 108 = .ok (.lload 6, 2) := dk22 (k := 9) bX6_isSighting_99 rfl rfl
theorem dX6_isSighting_110 : decode cX6_isSighting 110 = .ok (.ldc2_w 91, 3) := dk20 (k := 11) bX6_isSighting_99 rfl rfl
theorem dX6_isSighting_113 : decode cX6_isSighting 113 = .ok (.lcmp, 1) := dk148 (k := 14) bX6_isSighting_99 rfl
theorem dX6_isSighting_114 : decode cX6_isSighting 114 = .ok (.ifCond .gt 7, 3) := dk157 (k := 15) bX6_isSighting_99 rfl (by decide)
theorem dX6_isSighting_117 : decode cX6_isSighting 117 = .ok (.iconst 1, 1) := dk4 (k := 18) bX6_isSighting_99 rfl
theorem dX6_isSighting_118 : decode cX6_isSighting 118 = .ok (.goto 4, 3) := dk167 (k := 19) bX6_isSighting_99 rfl (by decide)
theorem dX6_isSighting_121 : decode cX6_isSighting 121 = .ok (.iconst 0, 1) := dk3 (k := 22) bX6_isSighting_99 rfl
theorem dX6_isSighting_122 : decode cX6_isSighting 122 = .ok (.istore 11, 2) := dk54 (k := 23) bX6_isSighting_99 rfl rfl
theorem bX6_isSighting_124 : bL cX6_isSighting 124 [21, 10, 153, 0, 22, 21, 11, 153, 0, 17, 22, 8, 9, 148, 155, 0, 10, 22, 8, 10, 148, 158, 0, 5] := bL_of (by decide +kernel)
theorem dX6_isSighting_124 : decode cX6_isSighting 124 = .ok (.iload 10, 2) := dk21 (k := 0) bX6_isSighting_124 rfl rfl
theorem dX6_isSighting_126 : decode cX6_isSighting 126 = .ok (.ifCond .eq 22, 3) := dk153 (k := 2) bX6_isSighting_124 rfl (by decide)
theorem dX6_isSighting_129 : decode cX6_isSighting 129 = .ok (.iload 11, 2) := dk21 (k := 5) bX6_isSighting_124 rfl rfl
theorem dX6_isSighting_131 : decode cX6_isSighting 131 = .ok (.ifCond .eq 17, 3) := dk153 (k := 7) bX6_isSighting_124 rfl (by decide)
theorem dX6_isSighting_134 : decode cX6_isSighting 134 = .ok (.lload 8, 2) := dk22 (k := 10) bX6_isSighting_124 rfl rfl
theorem dX6_isSighting_136 : decode cX6_isSighting 136 = .ok (.lconst 0, 1) := dk9 (k := 12) bX6_isSighting_124 rfl
theorem dX6_isSighting_137 : decode cX6_isSighting 137 = .ok (.lcmp, 1) := dk148 (k := 13) bX6_isSighting_124 rfl
theorem dX6_isSighting_138 : decode cX6_isSighting 138 = .ok (.ifCond .lt 10, 3) := dk155 (k := 14) bX6_isSighting_124 rfl (by decide)
theorem dX6_isSighting_141 : decode cX6_isSighting 141 = .ok (.lload 8, 2) := dk22 (k := 17) bX6_isSighting_124 rfl rfl
theorem dX6_isSighting_143 : decode cX6_isSighting 143 = .ok (.lconst 1, 1) := dk10 (k := 19) bX6_isSighting_124 rfl
theorem dX6_isSighting_144 : decode cX6_isSighting 144 = .ok (.lcmp, 1) := dk148 (k := 20) bX6_isSighting_124 rfl
theorem dX6_isSighting_145 : decode cX6_isSighting 145 = .ok (.ifCond .le 5, 3) := dk158 (k := 21) bX6_isSighting_124 rfl (by decide)
theorem bX6_isSighting_148 : bL cX6_isSighting 148 [3, 172, 132, 3, 3, 167, 255, 122, 4, 172] := bL_of (by decide +kernel)
theorem dX6_isSighting_148 : decode cX6_isSighting 148 = .ok (.iconst 0, 1) := dk3 (k := 0) bX6_isSighting_148 rfl
theorem dX6_isSighting_149 : decode cX6_isSighting 149 = .ok (.ireturn, 1) := dk172 (k := 1) bX6_isSighting_148 rfl
theorem dX6_isSighting_150 : decode cX6_isSighting 150 = .ok (.iinc 3 3, 3) := dk132 (k := 2) bX6_isSighting_148 rfl rfl (by decide)
theorem dX6_isSighting_153 : decode cX6_isSighting 153 = .ok (.goto (-134), 3) := dk167 (k := 5) bX6_isSighting_148 rfl (by decide)
theorem dX6_isSighting_156 : decode cX6_isSighting 156 = .ok (.iconst 1, 1) := dk4 (k := 8) bX6_isSighting_148 rfl
theorem dX6_isSighting_157 : decode cX6_isSighting 157 = .ok (.ireturn, 1) := dk172 (k := 9) bX6_isSighting_148 rfl
theorem bX6_countMisses_0 : bL cX6_countMisses 0 [28, 155, 0, 12, 28, 42, 180, 0, 9, 190, 161, 0, 4, 177, 42, 180, 0, 9, 28, 3, 79, 42, 180, 0, 15] := bL_of (by decide +kernel)
theorem dX6_countMisses_0 : decode cX6_countMisses 0 = .ok (.iload_n 2, 1) := dk28 (k := 0) bX6_countMisses_0 rfl
theorem dX6_countMisses_1 : decode cX6_countMisses 1 = .ok (.ifCond .lt 12, 3) := dk155 (k := 1) bX6_countMisses_0 rfl (by decide)
theorem dX6_countMisses_4 : decode cX6_countMisses 4 = .ok (.iload_n 2, 1) := dk28 (k := 4) bX6_countMisses_0 rfl
theorem dX6_countMisses_5 : decode cX6_countMisses 5 = .ok (.aload_n 0, 1) := dk42 (k := 5) bX6_countMisses_0 rfl
theorem dX6_countMisses_6 : decode cX6_countMisses 6 = .ok (.getfield 9, 3) := dk180 (k := 6) bX6_countMisses_0 rfl rfl
theorem dX6_countMisses_9 : decode cX6_countMisses 9 = .ok (.arraylength, 1) := dk190 (k := 9) bX6_countMisses_0 rfl
theorem dX6_countMisses_10 : decode cX6_countMisses 10 = .ok (.if_icmp .lt 4, 3) := dk161 (k := 10) bX6_countMisses_0 rfl (by decide)
theorem dX6_countMisses_13 : decode cX6_countMisses 13 = .ok (.return_, 1) := dk177 (k := 13) bX6_countMisses_0 rfl
theorem dX6_countMisses_14 : decode cX6_countMisses 14 = .ok (.aload_n 0, 1) := dk42 (k := 14) bX6_countMisses_0 rfl
theorem dX6_countMisses_15 : decode cX6_countMisses 15 = .ok (.getfield 9, 3) := dk180 (k := 15) bX6_countMisses_0 rfl rfl
theorem dX6_countMisses_18 : decode cX6_countMisses 18 = .ok (.iload_n 2, 1) := dk28 (k := 18) bX6_countMisses_0 rfl
theorem dX6_countMisses_19 : decode cX6_countMisses 19 = .ok (.iconst 0, 1) := dk3 (k := 19) bX6_countMisses_0 rfl
theorem dX6_countMisses_20 : decode cX6_countMisses 20 = .ok (.iastore, 1) := dk79 (k := 20) bX6_countMisses_0 rfl
theorem dX6_countMisses_21 : decode cX6_countMisses 21 = .ok (.aload_n 0, 1) := dk42 (k := 21) bX6_countMisses_0 rfl
theorem dX6_countMisses_22 : decode cX6_countMisses 22 = .ok (.getfield 15, 3) := dk180 (k := 22) bX6_countMisses_0 rfl rfl
theorem bX6_countMisses_25 : bL cX6_countMisses 25 [28, 2, 79, 3, 62, 29, 42, 180, 0, 55, 162, 0, 97, 42, 180, 0, 25, 27, 6, 29, 104, 182, 0, 82] := bL_of (by decide +kernel)
theorem dX6_countMisses_25 : decode cX6_countMisses 25 = .ok (.iload_n 2, 1) := dk28 (k := 0) bX6_countMisses_25 rfl
theorem dX6_countMisses_26 : decode cX6_countMisses 26 = .ok (.iconst (-1), 1) := dk2 (k := 1) bX6_countMisses_25 rfl
theorem dX6_countMisses_27 : decode cX6_countMisses 27 = .ok (.iastore, 1) := dk79 (k := 2) bX6_countMisses_25 rfl
theorem dX6_countMisses_28 : decode cX6_countMisses 28 = .ok (.iconst 0, 1) := dk3 (k := 3) bX6_countMisses_25 rfl
theorem dX6_countMisses_29 : decode cX6_countMisses 29 = .ok (.istore_n 3, 1) := dk62 (k := 4) bX6_countMisses_25 rfl
theorem dX6_countMisses_30 : decode cX6_countMisses 30 = .ok (.iload_n 3, 1) := dk29 (k := 5) bX6_countMisses_25 rfl
theorem dX6_countMisses_31 : decode cX6_countMisses 31 = .ok (.aload_n 0, 1) := dk42 (k := 6) bX6_countMisses_25 rfl
theorem dX6_countMisses_32 : decode cX6_countMisses 32 = .ok (.getfield 55, 3) := dk180 (k := 7) bX6_countMisses_25 rfl rfl
theorem dX6_countMisses_35 : decode cX6_countMisses 35 = .ok (.if_icmp .ge 97, 3) := dk162 (k := 10) bX6_countMisses_25 rfl (by decide)
theorem dX6_countMisses_38 : decode cX6_countMisses 38 = .ok (.aload_n 0, 1) := dk42 (k := 13) bX6_countMisses_25 rfl
theorem dX6_countMisses_39 : decode cX6_countMisses 39 = .ok (.getfield 25, 3) := dk180 (k := 14) bX6_countMisses_25 rfl rfl
theorem dX6_countMisses_42 : decode cX6_countMisses 42 = .ok (.iload_n 1, 1) := dk27 (k := 17) bX6_countMisses_25 rfl
theorem dX6_countMisses_43 : decode cX6_countMisses 43 = .ok (.iconst 3, 1) := dk6 (k := 18) bX6_countMisses_25 rfl
theorem dX6_countMisses_44 : decode cX6_countMisses 44 = .ok (.iload_n 3, 1) := dk29 (k := 19) bX6_countMisses_25 rfl
theorem dX6_countMisses_45 : decode cX6_countMisses 45 = .ok (.imul, 1) := dk104 (k := 20) bX6_countMisses_25 rfl
theorem dX6_countMisses_46 : decode cX6_countMisses 46 = .ok (.invokevirtual 82, 3) := dk182 (k := 21) bX6_countMisses_25 rfl rfl
theorem bX6_countMisses_49 : bL cX6_countMisses 49 [136, 54, 4, 42, 180, 0, 25, 27, 6, 29, 104, 4, 96, 182, 0, 82, 136, 54, 5, 42, 180, 0, 25, 27] := bL_of (by decide +kernel)
theorem dX6_countMisses_49 : decode cX6_countMisses 49 = .ok (.l2i, 1) := dk136 (k := 0) bX6_countMisses_49 rfl
theorem dX6_countMisses_50 : decode cX6_countMisses 50 = .ok (.istore 4, 2) := dk54 (k := 1) bX6_countMisses_49 rfl rfl
theorem dX6_countMisses_52 : decode cX6_countMisses 52 = .ok (.aload_n 0, 1) := dk42 (k := 3) bX6_countMisses_49 rfl
theorem dX6_countMisses_53 : decode cX6_countMisses 53 = .ok (.getfield 25, 3) := dk180 (k := 4) bX6_countMisses_49 rfl rfl
theorem dX6_countMisses_56 : decode cX6_countMisses 56 = .ok (.iload_n 1, 1) := dk27 (k := 7) bX6_countMisses_49 rfl
theorem dX6_countMisses_57 : decode cX6_countMisses 57 = .ok (.iconst 3, 1) := dk6 (k := 8) bX6_countMisses_49 rfl
theorem dX6_countMisses_58 : decode cX6_countMisses 58 = .ok (.iload_n 3, 1) := dk29 (k := 9) bX6_countMisses_49 rfl
theorem dX6_countMisses_59 : decode cX6_countMisses 59 = .ok (.imul, 1) := dk104 (k := 10) bX6_countMisses_49 rfl
theorem dX6_countMisses_60 : decode cX6_countMisses 60 = .ok (.iconst 1, 1) := dk4 (k := 11) bX6_countMisses_49 rfl
theorem dX6_countMisses_61 : decode cX6_countMisses 61 = .ok (.iadd, 1) := dk96 (k := 12) bX6_countMisses_49 rfl
theorem dX6_countMisses_62 : decode cX6_countMisses 62 = .ok (.invokevirtual 82, 3) := dk182 (k := 13) bX6_countMisses_49 rfl rfl
theorem dX6_countMisses_65 : decode cX6_countMisses 65 = .ok (.l2i, 1) := dk136 (k := 16) bX6_countMisses_49 rfl
theorem dX6_countMisses_66 : decode cX6_countMisses 66 = .ok (.istore 5, 2) := dk54 (k := 17) bX6_countMisses_49 rfl rfl
theorem dX6_countMisses_68 : decode cX6_countMisses 68 = .ok (.aload_n 0, 1) := dk42 (k := 19) bX6_countMisses_49 rfl
theorem dX6_countMisses_69 : decode cX6_countMisses 69 = .ok (.getfield 25, 3) := dk180 (k := 20) bX6_countMisses_49 rfl rfl
theorem dX6_countMisses_72 : decode cX6_countMisses 72 = .ok (.iload_n 1, 1) := dk27 (k := 23) bX6_countMisses_49 rfl
theorem bX6_countMisses_73 : bL cX6_countMisses 73 [6, 29, 104, 5, 96, 182, 0, 82, 10, 148, 154, 0, 7, 4, 167, 0, 4, 3, 54, 6, 42, 180, 0, 29] := bL_of (by decide +kernel)
theorem dX6_countMisses_73 : decode cX6_countMisses 73 = .ok (.iconst 3, 1) := dk6 (k := 0) bX6_countMisses_73 rfl
theorem dX6_countMisses_74 : decode cX6_countMisses 74 = .ok (.iload_n 3, 1) := dk29 (k := 1) bX6_countMisses_73 rfl
theorem dX6_countMisses_75 : decode cX6_countMisses 75 = .ok (.imul, 1) := dk104 (k := 2) bX6_countMisses_73 rfl
theorem dX6_countMisses_76 : decode cX6_countMisses 76 = .ok (.iconst 2, 1) := dk5 (k := 3) bX6_countMisses_73 rfl
theorem dX6_countMisses_77 : decode cX6_countMisses 77 = .ok (.iadd, 1) := dk96 (k := 4) bX6_countMisses_73 rfl
theorem dX6_countMisses_78 : decode cX6_countMisses 78 = .ok (.invokevirtual 82, 3) := dk182 (k := 5) bX6_countMisses_73 rfl rfl
theorem dX6_countMisses_81 : decode cX6_countMisses 81 = .ok (.lconst 1, 1) := dk10 (k := 8) bX6_countMisses_73 rfl
theorem dX6_countMisses_82 : decode cX6_countMisses 82 = .ok (.lcmp, 1) := dk148 (k := 9) bX6_countMisses_73 rfl
theorem dX6_countMisses_83 : decode cX6_countMisses 83 = .ok (.ifCond .ne 7, 3) := dk154 (k := 10) bX6_countMisses_73 rfl (by decide)
theorem dX6_countMisses_86 : decode cX6_countMisses 86 = .ok (.iconst 1, 1) := dk4 (k := 13) bX6_countMisses_73 rfl
theorem dX6_countMisses_87 : decode cX6_countMisses 87 = .ok (.goto 4, 3) := dk167 (k := 14) bX6_countMisses_73 rfl (by decide)
theorem dX6_countMisses_90 : decode cX6_countMisses 90 = .ok (.iconst 0, 1) := dk3 (k := 17) bX6_countMisses_73 rfl
theorem dX6_countMisses_91 : decode cX6_countMisses 91 = .ok (.istore 6, 2) := dk54 (k := 18) bX6_countMisses_73 rfl rfl
theorem dX6_countMisses_93 : decode cX6_countMisses 93 = .ok (.aload_n 0, 1) := dk42 (k := 20) bX6_countMisses_73 rfl
theorem dX6_countMisses_94 : decode cX6_countMisses 94 = .ok (.getfield 29, 3) := dk180 (k := 21) bX6_countMisses_73 rfl rfl
theorem bX6_countMisses_97 : bL cX6_countMisses 97 [21, 4, 21, 5, 182, 0, 93, 21, 6, 159, 0, 20, 42, 180, 0, 9, 28, 92, 46, 4, 96, 79, 42, 180, 0, 15] := bL_of (by decide +kernel)
theorem dX6_countMisses_97 : decode cX6_countMisses 97 = .ok (.iload 4, 2) := dk21 (k := 0) bX6_countMisses_97 rfl rfl
theorem dX6_countMisses_99 : decode cX6_countMisses 99 = .ok (.iload 5, 2) := dk21 (k := 2) bX6_countMisses_97 rfl rfl
theorem dX6_countMisses_101 : decode cX6_countMisses 101 = .ok (.invokevirtual 93, 3) := dk182 (k := 4) bX6_countMisses_97 rfl rfl
theorem dX6_countMisses_104 : decode cX6_countMisses 104 = .ok (.iload 6, 2) := dk21 (k := 7) bX6_countMisses_97 rfl rfl
theorem dX6_countMisses_106 : decode cX6_countMisses 106 = .ok (.if_icmp .eq 20, 3) := dk159 (k := 9) bX6_countMisses_97 rfl (by decide)
theorem dX6_countMisses_109 : decode cX6_countMisses 109 = .ok (.aload_n 0, 1) := dk42 (k := 12) bX6_countMisses_97 rfl
theorem dX6_countMisses_110 : decode cX6_countMisses 110 = .ok (.getfield 9, 3) := dk180 (k := 13) bX6_countMisses_97 rfl rfl
theorem dX6_countMisses_113 : decode cX6_countMisses 113 = .ok (.iload_n 2, 1) := dk28 (k := 16) bX6_countMisses_97 rfl
theorem dX6_countMisses_114 : decode cX6_countMisses 114 = .ok (.dup2, 1) := dk92 (k := 17) bX6_countMisses_97 rfl
theorem dX6_countMisses_115 : decode cX6_countMisses 115 = .ok (.iaload, 1) := dk46 (k := 18) bX6_countMisses_97 rfl
theorem dX6_countMisses_116 : decode cX6_countMisses 116 = .ok (.iconst 1, 1) := dk4 (k := 19) bX6_countMisses_97 rfl
theorem dX6_countMisses_117 : decode cX6_countMisses 117 = .ok (.iadd, 1) := dk96 (k := 20) bX6_countMisses_97 rfl
theorem dX6_countMisses_118 : decode cX6_countMisses 118 = .ok (.iastore, 1) := dk79 (k := 21) bX6_countMisses_97 rfl
theorem dX6_countMisses_119 : decode cX6_countMisses 119 = .ok (.aload_n 0, 1) := dk42 (k := 22) bX6_countMisses_97 rfl
theorem dX6_countMisses_120 : decode cX6_countMisses 120 = .ok (.getfield 15, 3) := dk180 (k := 23) bX6_countMisses_97 rfl rfl
theorem bX6_countMisses_123 : bL cX6_countMisses 123 [28, 29, 79, 132, 3, 1, 167, 255, 157, 177] := bL_of (by decide +kernel)
theorem dX6_countMisses_123 : decode cX6_countMisses 123 = .ok (.iload_n 2, 1) := dk28 (k := 0) bX6_countMisses_123 rfl
theorem dX6_countMisses_124 : decode cX6_countMisses 124 = .ok (.iload_n 3, 1) := dk29 (k := 1) bX6_countMisses_123 rfl
theorem dX6_countMisses_125 : decode cX6_countMisses 125 = .ok (.iastore, 1) := dk79 (k := 2) bX6_countMisses_123 rfl
theorem dX6_countMisses_126 : decode cX6_countMisses 126 = .ok (.iinc 3 1, 3) := dk132 (k := 3) bX6_countMisses_123 rfl rfl (by decide)
theorem dX6_countMisses_129 : decode cX6_countMisses 129 = .ok (.goto (-99), 3) := dk167 (k := 6) bX6_countMisses_123 rfl (by decide)
theorem dX6_countMisses_132 : decode cX6_countMisses 132 = .ok (.return_, 1) := dk177 (k := 9) bX6_countMisses_123 rfl
theorem bX6_hourToMeasure_0 : bL cX6_hourToMeasure 0 [42, 27, 182, 0, 97, 42, 180, 0, 59, 184, 0, 101, 61, 3, 62, 42, 28, 181, 0, 106, 4, 54, 4, 21, 4] := bL_of (by decide +kernel)
theorem dX6_hourToMeasure_0 : decode cX6_hourToMeasure 0 = .ok (.aload_n 0, 1) := dk42 (k := 0) bX6_hourToMeasure_0 rfl
theorem dX6_hourToMeasure_1 : decode cX6_hourToMeasure 1 = .ok (.iload_n 1, 1) := dk27 (k := 1) bX6_hourToMeasure_0 rfl
theorem dX6_hourToMeasure_2 : decode cX6_hourToMeasure 2 = .ok (.invokevirtual 97, 3) := dk182 (k := 2) bX6_hourToMeasure_0 rfl rfl
theorem dX6_hourToMeasure_5 : decode cX6_hourToMeasure 5 = .ok (.aload_n 0, 1) := dk42 (k := 5) bX6_hourToMeasure_0 rfl
theorem dX6_hourToMeasure_6 : decode cX6_hourToMeasure 6 = .ok (.getfield 59, 3) := dk180 (k := 6) bX6_hourToMeasure_0 rfl rfl
theorem dX6_hourToMeasure_9 : decode cX6_hourToMeasure 9 = .ok (.invokestatic 101, 3) := dk184 (k := 9) bX6_hourToMeasure_0 rfl rfl
theorem dX6_hourToMeasure_12 : decode cX6_hourToMeasure 12 = .ok (.istore_n 2, 1) := dk61 (k := 12) bX6_hourToMeasure_0 rfl
theorem dX6_hourToMeasure_13 : decode cX6_hourToMeasure 13 = .ok (.iconst 0, 1) := dk3 (k := 13) bX6_hourToMeasure_0 rfl
theorem dX6_hourToMeasure_14 : decode cX6_hourToMeasure 14 = .ok (.istore_n 3, 1) := dk62 (k := 14) bX6_hourToMeasure_0 rfl
theorem dX6_hourToMeasure_15 : decode cX6_hourToMeasure 15 = .ok (.aload_n 0, 1) := dk42 (k := 15) bX6_hourToMeasure_0 rfl
theorem dX6_hourToMeasure_16 : decode cX6_hourToMeasure 16 = .ok (.iload_n 2, 1) := dk28 (k := 16) bX6_hourToMeasure_0 rfl
theorem dX6_hourToMeasure_17 : decode cX6_hourToMeasure 17 = .ok (.putfield 106, 3) := dk181 (k := 17) bX6_hourToMeasure_0 rfl rfl
theorem dX6_hourToMeasure_20 : decode cX6_hourToMeasure 20 = .ok (.iconst 1, 1) := dk4 (k := 20) bX6_hourToMeasure_0 rfl
theorem dX6_hourToMeasure_21 : decode cX6_hourToMeasure 21 = .ok (.istore 4, 2) := dk54 (k := 21) bX6_hourToMeasure_0 rfl rfl
theorem dX6_hourToMeasure_23 : decode cX6_hourToMeasure 23 = .ok (.iload 4, 2) := dk21 (k := 23) bX6_hourToMeasure_0 rfl rfl
theorem bX6_hourToMeasure_25 : bL cX6_hourToMeasure 25 [42, 180, 0, 18, 190, 162, 0, 48, 42, 180, 0, 18, 21, 4, 46, 28, 42, 180, 0, 18, 21, 4, 46, 100] := bL_of (by decide +kernel)
theorem dX6_hourToMeasure_25 : decode cX6_hourToMeasure 25 = .ok (.aload_n 0, 1) := dk42 (k := 0) bX6_hourToMeasure_25 rfl
theorem dX6_hourToMeasure_26 : decode cX6_hourToMeasure 26 = .ok (.getfield 18, 3) := dk180 (k := 1) bX6_hourToMeasure_25 rfl rfl
theorem dX6_hourToMeasure_29 : decode cX6_hourToMeasure 29 = .ok (.arraylength, 1) := dk190 (k := 4) bX6_hourToMeasure_25 rfl
theorem dX6_hourToMeasure_30 : decode cX6_hourToMeasure 30 = .ok (.if_icmp .ge 48, 3) := dk162 (k := 5) bX6_hourToMeasure_25 rfl (by decide)
theorem dX6_hourToMeasure_33 : decode cX6_hourToMeasure 33 = .ok (.aload_n 0, 1) := dk42 (k := 8) bX6_hourToMeasure_25 rfl
theorem dX6_hourToMeasure_34 : decode cX6_hourToMeasure 34 = .ok (.getfield 18, 3) := dk180 (k := 9) bX6_hourToMeasure_25 rfl rfl
theorem dX6_hourToMeasure_37 : decode cX6_hourToMeasure 37 = .ok (.iload 4, 2) := dk21 (k := 12) bX6_hourToMeasure_25 rfl rfl
theorem dX6_hourToMeasure_39 : decode cX6_hourToMeasure 39 = .ok (.iaload, 1) := dk46 (k := 14) bX6_hourToMeasure_25 rfl
theorem dX6_hourToMeasure_40 : decode cX6_hourToMeasure 40 = .ok (.iload_n 2, 1) := dk28 (k := 15) bX6_hourToMeasure_25 rfl
theorem dX6_hourToMeasure_41 : decode cX6_hourToMeasure 41 = .ok (.aload_n 0, 1) := dk42 (k := 16) bX6_hourToMeasure_25 rfl
theorem dX6_hourToMeasure_42 : decode cX6_hourToMeasure 42 = .ok (.getfield 18, 3) := dk180 (k := 17) bX6_hourToMeasure_25 rfl rfl
theorem dX6_hourToMeasure_45 : decode cX6_hourToMeasure 45 = .ok (.iload 4, 2) := dk21 (k := 20) bX6_hourToMeasure_25 rfl rfl
theorem dX6_hourToMeasure_47 : decode cX6_hourToMeasure 47 = .ok (.iaload, 1) := dk46 (k := 22) bX6_hourToMeasure_25 rfl
theorem dX6_hourToMeasure_48 : decode cX6_hourToMeasure 48 = .ok (.isub, 1) := dk100 (k := 23) bX6_hourToMeasure_25 rfl
theorem bX6_hourToMeasure_49 : bL cX6_hourToMeasure 49 [184, 0, 109, 54, 5, 21, 5, 42, 180, 0, 106, 162, 0, 12, 42, 21, 5, 181, 0, 106, 21, 4, 62, 132, 4, 1] := bL_of (by decide +kernel)
theorem dX6_hourToMeasure_49 : decode cX6_hourToMeasure 49 = .ok (.invokestatic 109, 3) := dk184 (k := 0) bX6_hourToMeasure_49 rfl rfl
theorem dX6_hourToMeasure_52 : decode cX6_hourToMeasure 52 = .ok (.istore 5, 2) := dk54 (k := 3) bX6_hourToMeasure_49 rfl rfl
theorem dX6_hourToMeasure_54 : decode cX6_hourToMeasure 54 = .ok (.iload 5, 2) := dk21 (k := 5) bX6_hourToMeasure_49 rfl rfl
theorem dX6_hourToMeasure_56 : decode cX6_hourToMeasure 56 = .ok (.aload_n 0, 1) := dk42 (k := 7) bX6_hourToMeasure_49 rfl
theorem dX6_hourToMeasure_57 : decode cX6_hourToMeasure 57 = .ok (.getfield 106, 3) := dk180 (k := 8) bX6_hourToMeasure_49 rfl rfl
theorem dX6_hourToMeasure_60 : decode cX6_hourToMeasure 60 = .ok (.if_icmp .ge 12, 3) := dk162 (k := 11) bX6_hourToMeasure_49 rfl (by decide)
theorem dX6_hourToMeasure_63 : decode cX6_hourToMeasure 63 = .ok (.aload_n 0, 1) := dk42 (k := 14) bX6_hourToMeasure_49 rfl
theorem dX6_hourToMeasure_64 : decode cX6_hourToMeasure 64 = .ok (.iload 5, 2) := dk21 (k := 15) bX6_hourToMeasure_49 rfl rfl
theorem dX6_hourToMeasure_66 : decode cX6_hourToMeasure 66 = .ok (.putfield 106, 3) := dk181 (k := 17) bX6_hourToMeasure_49 rfl rfl
theorem dX6_hourToMeasure_69 : decode cX6_hourToMeasure 69 = .ok (.iload 4, 2) := dk21 (k := 20) bX6_hourToMeasure_49 rfl rfl
theorem dX6_hourToMeasure_71 : decode cX6_hourToMeasure 71 = .ok (.istore_n 3, 1) := dk62 (k := 22) bX6_hourToMeasure_49 rfl
theorem dX6_hourToMeasure_72 : decode cX6_hourToMeasure 72 = .ok (.iinc 4 1, 3) := dk132 (k := 23) bX6_hourToMeasure_49 rfl rfl (by decide)
theorem bX6_hourToMeasure_75 : bL cX6_hourToMeasure 75 [167, 255, 204, 29, 172] := bL_of (by decide +kernel)
theorem dX6_hourToMeasure_75 : decode cX6_hourToMeasure 75 = .ok (.goto (-52), 3) := dk167 (k := 0) bX6_hourToMeasure_75 rfl (by decide)
theorem dX6_hourToMeasure_78 : decode cX6_hourToMeasure 78 = .ok (.iload_n 3, 1) := dk29 (k := 3) bX6_hourToMeasure_75 rfl
theorem dX6_hourToMeasure_79 : decode cX6_hourToMeasure 79 = .ok (.ireturn, 1) := dk172 (k := 4) bX6_hourToMeasure_75 rfl
theorem bX6_countShaded_0 : bL cX6_countShaded 0 [3, 61, 28, 42, 180, 0, 18, 190, 162, 0, 16, 42, 180, 0, 18, 28, 3, 79, 132, 2, 1, 167, 255, 237] := bL_of (by decide +kernel)
theorem dX6_countShaded_0 : decode cX6_countShaded 0 = .ok (.iconst 0, 1) := dk3 (k := 0) bX6_countShaded_0 rfl
theorem dX6_countShaded_1 : decode cX6_countShaded 1 = .ok (.istore_n 2, 1) := dk61 (k := 1) bX6_countShaded_0 rfl
theorem dX6_countShaded_2 : decode cX6_countShaded 2 = .ok (.iload_n 2, 1) := dk28 (k := 2) bX6_countShaded_0 rfl
theorem dX6_countShaded_3 : decode cX6_countShaded 3 = .ok (.aload_n 0, 1) := dk42 (k := 3) bX6_countShaded_0 rfl
theorem dX6_countShaded_4 : decode cX6_countShaded 4 = .ok (.getfield 18, 3) := dk180 (k := 4) bX6_countShaded_0 rfl rfl
theorem dX6_countShaded_7 : decode cX6_countShaded 7 = .ok (.arraylength, 1) := dk190 (k := 7) bX6_countShaded_0 rfl
theorem dX6_countShaded_8 : decode cX6_countShaded 8 = .ok (.if_icmp .ge 16, 3) := dk162 (k := 8) bX6_countShaded_0 rfl (by decide)
theorem dX6_countShaded_11 : decode cX6_countShaded 11 = .ok (.aload_n 0, 1) := dk42 (k := 11) bX6_countShaded_0 rfl
theorem dX6_countShaded_12 : decode cX6_countShaded 12 = .ok (.getfield 18, 3) := dk180 (k := 12) bX6_countShaded_0 rfl rfl
theorem dX6_countShaded_15 : decode cX6_countShaded 15 = .ok (.iload_n 2, 1) := dk28 (k := 15) bX6_countShaded_0 rfl
theorem dX6_countShaded_16 : decode cX6_countShaded 16 = .ok (.iconst 0, 1) := dk3 (k := 16) bX6_countShaded_0 rfl
theorem dX6_countShaded_17 : decode cX6_countShaded 17 = .ok (.iastore, 1) := dk79 (k := 17) bX6_countShaded_0 rfl
theorem dX6_countShaded_18 : decode cX6_countShaded 18 = .ok (.iinc 2 1, 3) := dk132 (k := 18) bX6_countShaded_0 rfl rfl (by decide)
theorem dX6_countShaded_21 : decode cX6_countShaded 21 = .ok (.goto (-19), 3) := dk167 (k := 21) bX6_countShaded_0 rfl (by decide)
theorem bX6_countShaded_24 : bL cX6_countShaded 24 [42, 180, 0, 29, 42, 180, 0, 21, 180, 0, 62, 182, 0, 65, 42, 180, 0, 29, 182, 0, 71, 61, 3, 62] := bL_of (by decide +kernel)
theorem dX6_countShaded_24 : decode cX6_countShaded 24 = .ok (.aload_n 0, 1) := dk42 (k := 0) bX6_countShaded_24 rfl
theorem dX6_countShaded_25 : decode cX6_countShaded 25 = .ok (.getfield 29, 3) := dk180 (k := 1) bX6_countShaded_24 rfl rfl
theorem dX6_countShaded_28 : decode cX6_countShaded 28 = .ok (.aload_n 0, 1) := dk42 (k := 4) bX6_countShaded_24 rfl
theorem dX6_countShaded_29 : decode cX6_countShaded 29 = .ok (.getfield 21, 3) := dk180 (k := 5) bX6_countShaded_24 rfl rfl
theorem dX6_countShaded_32 : decode cX6_countShaded 32 = .ok (.getfield 62, 3) := dk180 (k := 8) bX6_countShaded_24 rfl rfl
theorem dX6_countShaded_35 : decode cX6_countShaded 35 = .ok (.invokevirtual 65, 3) := dk182 (k := 11) bX6_countShaded_24 rfl rfl
theorem dX6_countShaded_38 : decode cX6_countShaded 38 = .ok (.aload_n 0, 1) := dk42 (k := 14) bX6_countShaded_24 rfl
theorem dX6_countShaded_39 : decode cX6_countShaded 39 = .ok (.getfield 29, 3) := dk180 (k := 15) bX6_countShaded_24 rfl rfl
theorem dX6_countShaded_42 : decode cX6_countShaded 42 = .ok (.invokevirtual 71, 3) := dk182 (k := 18) bX6_countShaded_24 rfl rfl
theorem dX6_countShaded_45 : decode cX6_countShaded 45 = .ok (.istore_n 2, 1) := dk61 (k := 21) bX6_countShaded_24 rfl
theorem dX6_countShaded_46 : decode cX6_countShaded 46 = .ok (.iconst 0, 1) := dk3 (k := 22) bX6_countShaded_24 rfl
theorem dX6_countShaded_47 : decode cX6_countShaded 47 = .ok (.istore_n 3, 1) := dk62 (k := 23) bX6_countShaded_24 rfl
theorem bX6_countShaded_48 : bL cX6_countShaded 48 [29, 16, 20, 163, 0, 59, 42, 180, 0, 59, 29, 122, 4, 126, 4, 160, 0, 32, 42, 42, 180, 0, 29, 27] := bL_of (by decide +kernel)
theorem dX6_countShaded_48 : decode cX6_countShaded 48 = .ok (.iload_n 3, 1) := dk29 (k := 0) bX6_countShaded_48 rfl
theorem dX6_countShaded_49 : decode cX6_countShaded 49 = .ok (.bipush 20, 2) := dk16 (k := 1) bX6_countShaded_48 rfl (by decide)
theorem dX6_countShaded_51 : decode cX6_countShaded 51 = .ok (.if_icmp .gt 59, 3) := dk163 (k := 3) bX6_countShaded_48 rfl (by decide)
theorem dX6_countShaded_54 : decode cX6_countShaded 54 = .ok (.aload_n 0, 1) := dk42 (k := 6) bX6_countShaded_48 rfl
theorem dX6_countShaded_55 : decode cX6_countShaded 55 = .ok (.getfield 59, 3) := dk180 (k := 7) bX6_countShaded_48 rfl rfl
theorem dX6_countShaded_58 : decode cX6_countShaded 58 = .ok (.iload_n 3, 1) := dk29 (k := 10) bX6_countShaded_48 rfl
theorem dX6_countShaded_59 : decode cX6_countShaded 59 = .ok (.ishr, 1) := dk122 (k := 11) bX6_countShaded_48 rfl
theorem dX6_countShaded_60 : decode cX6_countShaded 60 = .ok (.iconst 1, 1) := dk4 (k := 12) bX6_countShaded_48 rfl
theorem dX6_countShaded_61 : decode cX6_countShaded 61 = .ok (.iand, 1) := dk126 (k := 13) bX6_countShaded_48 rfl
theorem dX6_countShaded_62 : decode cX6_countShaded 62 = .ok (.iconst 1, 1) := dk4 (k := 14) bX6_countShaded_48 rfl
theorem dX6_countShaded_63 : decode cX6_countShaded 63 = .ok (.if_icmp .ne 32, 3) := dk160 (k := 15) bX6_countShaded_48 rfl (by decide)
theorem dX6_countShaded_66 : decode cX6_countShaded 66 = .ok (.aload_n 0, 1) := dk42 (k := 18) bX6_countShaded_48 rfl
theorem dX6_countShaded_67 : decode cX6_countShaded 67 = .ok (.aload_n 0, 1) := dk42 (k := 19) bX6_countShaded_48 rfl
theorem dX6_countShaded_68 : decode cX6_countShaded 68 = .ok (.getfield 29, 3) := dk180 (k := 20) bX6_countShaded_48 rfl rfl
theorem dX6_countShaded_71 : decode cX6_countShaded 71 = .ok (.iload_n 1, 1) := dk27 (k := 23) bX6_countShaded_48 rfl
theorem bX6_countShaded_72 : bL cX6_countShaded 72 [2, 182, 0, 115, 3, 182, 0, 118, 42, 42, 180, 0, 29, 27, 4, 182, 0, 115, 16, 9, 182, 0, 118, 42] := bL_of (by decide +kernel)
theorem dX6_countShaded_72 : decode cX6_countShaded 72 = .ok (.iconst (-1), 1) := dk2 (k := 0) bX6_countShaded_72 rfl
theorem dX6_countShaded_73 : decode cX6_countShaded 73 = .ok (.invokevirtual 115, 3) := dk182 (k := 1) bX6_countShaded_72 rfl rfl
theorem dX6_countShaded_76 : decode cX6_countShaded 76 = .ok (.iconst 0, 1) := dk3 (k := 4) bX6_countShaded_72 rfl
theorem dX6_countShaded_77 : decode cX6_countShaded 77 = .ok (.invokevirtual 118, 3) := dk182 (k := 5) bX6_countShaded_72 rfl rfl
theorem dX6_countShaded_80 : decode cX6_countShaded 80 = .ok (.aload_n 0, 1) := dk42 (k := 8) bX6_countShaded_72 rfl
theorem dX6_countShaded_81 : decode cX6_countShaded 81 = .ok (.aload_n 0, 1) := dk42 (k := 9) bX6_countShaded_72 rfl
theorem dX6_countShaded_82 : decode cX6_countShaded 82 = .ok (.getfield 29, 3) := dk180 (k := 10) bX6_countShaded_72 rfl rfl
theorem dX6_countShaded_85 : decode cX6_countShaded 85 = .ok (.iload_n 1, 1) := dk27 (k := 13) bX6_countShaded_72 rfl
theorem dX6_countShaded_86 : decode cX6_countShaded 86 = .ok (.iconst 1, 1) := dk4 (k := 14) bX6_countShaded_72 rfl
theorem dX6_countShaded_87 : decode cX6_countShaded 87 = .ok (.invokevirtual 115, 3) := dk182 (k := 15) bX6_countShaded_72 rfl rfl
theorem dX6_countShaded_90 : decode cX6_countShaded 90 = .ok (.bipush 9, 2) := dk16 (k := 18) bX6_countShaded_72 rfl (by decide)
theorem dX6_countShaded_92 : decode cX6_countShaded 92 = .ok (.invokevirtual 118, 3) := dk182 (k := 20) bX6_countShaded_72 rfl rfl
theorem dX6_countShaded_95 : decode cX6_countShaded 95 = .ok (.aload_n 0, 1) := dk42 (k := 23) bX6_countShaded_72 rfl
theorem bX6_countShaded_96 : bL cX6_countShaded 96 [180, 0, 29, 28, 4, 182, 0, 79, 132, 3, 1, 167, 255, 197, 177] := bL_of (by decide +kernel)
theorem dX6_countShaded_96 : decode cX6_countShaded 96 = .ok (.getfield 29, 3) := dk180 (k := 0) bX6_countShaded_96 rfl rfl
theorem dX6_countShaded_99 : decode cX6_countShaded 99 = .ok (.iload_n 2, 1) := dk28 (k := 3) bX6_countShaded_96 rfl
theorem dX6_countShaded_100 : decode cX6_countShaded 100 = .ok (.iconst 1, 1) := dk4 (k := 4) bX6_countShaded_96 rfl
theorem dX6_countShaded_101 : decode cX6_countShaded 101 = .ok (.invokevirtual 79, 3) := dk182 (k := 5) bX6_countShaded_96 rfl rfl
theorem dX6_countShaded_104 : decode cX6_countShaded 104 = .ok (.iinc 3 1, 3) := dk132 (k := 8) bX6_countShaded_96 rfl rfl (by decide)
theorem dX6_countShaded_107 : decode cX6_countShaded 107 = .ok (.goto (-59), 3) := dk167 (k := 11) bX6_countShaded_96 rfl (by decide)
theorem dX6_countShaded_110 : decode cX6_countShaded 110 = .ok (.return_, 1) := dk177 (k := 14) bX6_countShaded_96 rfl
theorem bX6_addShaded_0 : bL cX6_addShaded 0 [28, 4, 96, 62, 29, 28, 27, 96, 163, 0, 32, 29, 155, 0, 22, 29, 42, 180, 0, 18, 190, 162, 0, 13] := bL_of (by decide +kernel)
theorem dX6_addShaded_0 : decode cX6_addShaded 0 = .ok (.iload_n 2, 1) := dk28 (k := 0) bX6_addShaded_0 rfl
theorem dX6_addShaded_1 : decode cX6_addShaded 1 = .ok (.iconst 1, 1) := dk4 (k := 1) bX6_addShaded_0 rfl
theorem dX6_addShaded_2 : decode cX6_addShaded 2 = .ok (.iadd, 1) := dk96 (k := 2) bX6_addShaded_0 rfl
theorem dX6_addShaded_3 : decode cX6_addShaded 3 = .ok (.istore_n 3, 1) := dk62 (k := 3) bX6_addShaded_0 rfl
theorem dX6_addShaded_4 : decode cX6_addShaded 4 = .ok (.iload_n 3, 1) := dk29 (k := 4) bX6_addShaded_0 rfl
theorem dX6_addShaded_5 : decode cX6_addShaded 5 = .ok (.iload_n 2, 1) := dk28 (k := 5) bX6_addShaded_0 rfl
theorem dX6_addShaded_6 : decode cX6_addShaded 6 = .ok (.iload_n 1, 1) := dk27 (k := 6) bX6_addShaded_0 rfl
theorem dX6_addShaded_7 : decode cX6_addShaded 7 = .ok (.iadd, 1) := dk96 (k := 7) bX6_addShaded_0 rfl
theorem dX6_addShaded_8 : decode cX6_addShaded 8 = .ok (.if_icmp .gt 32, 3) := dk163 (k := 8) bX6_addShaded_0 rfl (by decide)
theorem dX6_addShaded_11 : decode cX6_addShaded 11 = .ok (.iload_n 3, 1) := dk29 (k := 11) bX6_addShaded_0 rfl
theorem dX6_addShaded_12 : decode cX6_addShaded 12 = .ok (.ifCond .lt 22, 3) := dk155 (k := 12) bX6_addShaded_0 rfl (by decide)
theorem dX6_addShaded_15 : decode cX6_addShaded 15 = .ok (.iload_n 3, 1) := dk29 (k := 15) bX6_addShaded_0 rfl
theorem dX6_addShaded_16 : decode cX6_addShaded 16 = .ok (.aload_n 0, 1) := dk42 (k := 16) bX6_addShaded_0 rfl
theorem dX6_addShaded_17 : decode cX6_addShaded 17 = .ok (.getfield 18, 3) := dk180 (k := 17) bX6_addShaded_0 rfl rfl
theorem dX6_addShaded_20 : decode cX6_addShaded 20 = .ok (.arraylength, 1) := dk190 (k := 20) bX6_addShaded_0 rfl
theorem dX6_addShaded_21 : decode cX6_addShaded 21 = .ok (.if_icmp .ge 13, 3) := dk162 (k := 21) bX6_addShaded_0 rfl (by decide)
theorem bX6_addShaded_24 : bL cX6_addShaded 24 [42, 180, 0, 18, 29, 92, 46, 4, 96, 79, 132, 3, 1, 167, 255, 223, 177] := bL_of (by decide +kernel)
theorem dX6_addShaded_24 : decode cX6_addShaded 24 = .ok (.aload_n 0, 1) := dk42 (k := 0) bX6_addShaded_24 rfl
theorem dX6_addShaded_25 : decode cX6_addShaded 25 = .ok (.getfield 18, 3) := dk180 (k := 1) bX6_addShaded_24 rfl rfl
theorem dX6_addShaded_28 : decode cX6_addShaded 28 = .ok (.iload_n 3, 1) := dk29 (k := 4) bX6_addShaded_24 rfl
theorem dX6_addShaded_29 : decode cX6_addShaded 29 = .ok (.dup2, 1) := dk92 (k := 5) bX6_addShaded_24 rfl
theorem dX6_addShaded_30 : decode cX6_addShaded 30 = .ok (.iaload, 1) := dk46 (k := 6) bX6_addShaded_24 rfl
theorem dX6_addShaded_31 : decode cX6_addShaded 31 = .ok (.iconst 1, 1) := dk4 (k := 7) bX6_addShaded_24 rfl
theorem dX6_addShaded_32 : decode cX6_addShaded 32 = .ok (.iadd, 1) := dk96 (k := 8) bX6_addShaded_24 rfl
theorem dX6_addShaded_33 : decode cX6_addShaded 33 = .ok (.iastore, 1) := dk79 (k := 9) bX6_addShaded_24 rfl
theorem dX6_addShaded_34 : decode cX6_addShaded 34 = .ok (.iinc 3 1, 3) := dk132 (k := 10) bX6_addShaded_24 rfl rfl (by decide)
theorem dX6_addShaded_37 : decode cX6_addShaded 37 = .ok (.goto (-33), 3) := dk167 (k := 13) bX6_addShaded_24 rfl (by decide)
theorem dX6_addShaded_40 : decode cX6_addShaded 40 = .ok (.return_, 1) := dk177 (k := 16) bX6_addShaded_24 rfl
theorem bX6_doubtful_0 : bL cX6_doubtful 0 [42, 180, 0, 59, 153, 0, 8, 42, 180, 0, 55, 172, 3, 60, 3, 61, 28, 42, 180, 0, 55, 162, 0, 20] := bL_of (by decide +kernel)
theorem dX6_doubtful_0 : decode cX6_doubtful 0 = .ok (.aload_n 0, 1) := dk42 (k := 0) bX6_doubtful_0 rfl
theorem dX6_doubtful_1 : decode cX6_doubtful 1 = .ok (.getfield 59, 3) := dk180 (k := 1) bX6_doubtful_0 rfl rfl
theorem dX6_doubtful_4 : decode cX6_doubtful 4 = .ok (.ifCond .eq 8, 3) := dk153 (k := 4) bX6_doubtful_0 rfl (by decide)
theorem dX6_doubtful_7 : decode cX6_doubtful 7 = .ok (.aload_n 0, 1) := dk42 (k := 7) bX6_doubtful_0 rfl
theorem dX6_doubtful_8 : decode cX6_doubtful 8 = .ok (.getfield 55, 3) := dk180 (k := 8) bX6_doubtful_0 rfl rfl
theorem dX6_doubtful_11 : decode cX6_doubtful 11 = .ok (.ireturn, 1) := dk172 (k := 11) bX6_doubtful_0 rfl
theorem dX6_doubtful_12 : decode cX6_doubtful 12 = .ok (.iconst 0, 1) := dk3 (k := 12) bX6_doubtful_0 rfl
theorem dX6_doubtful_13 : decode cX6_doubtful 13 = .ok (.istore_n 1, 1) := dk60 (k := 13) bX6_doubtful_0 rfl
theorem dX6_doubtful_14 : decode cX6_doubtful 14 = .ok (.iconst 0, 1) := dk3 (k := 14) bX6_doubtful_0 rfl
theorem dX6_doubtful_15 : decode cX6_doubtful 15 = .ok (.istore_n 2, 1) := dk61 (k := 15) bX6_doubtful_0 rfl
theorem dX6_doubtful_16 : decode cX6_doubtful 16 = .ok (.iload_n 2, 1) := dk28 (k := 16) bX6_doubtful_0 rfl
theorem dX6_doubtful_17 : decode cX6_doubtful 17 = .ok (.aload_n 0, 1) := dk42 (k := 17) bX6_doubtful_0 rfl
theorem dX6_doubtful_18 : decode cX6_doubtful 18 = .ok (.getfield 55, 3) := dk180 (k := 18) bX6_doubtful_0 rfl rfl
theorem dX6_doubtful_21 : decode cX6_doubtful 21 = .ok (.if_icmp .ge 20, 3) := dk162 (k := 21) bX6_doubtful_0 rfl (by decide)
theorem bX6_doubtful_24 : bL cX6_doubtful 24 [42, 28, 182, 0, 121, 153, 0, 6, 132, 1, 1, 132, 2, 1, 167, 255, 234, 27, 172] := bL_of (by decide +kernel)
theorem dX6_doubtful_24 : decode cX6_doubtful 24 = .ok (.aload_n 0, 1) := dk42 (k := 0) bX6_doubtful_24 rfl
theorem dX6_doubtful_25 : decode cX6_doubtful 25 = .ok (.iload_n 2, 1) := dk28 (k := 1) bX6_doubtful_24 rfl
theorem dX6_doubtful_26 : decode cX6_doubtful 26 = .ok (.invokevirtual 121, 3) := dk182 (k := 2) bX6_doubtful_24 rfl rfl
theorem dX6_doubtful_29 : decode cX6_doubtful 29 = .ok (.ifCond .eq 6, 3) := dk153 (k := 5) bX6_doubtful_24 rfl (by decide)
theorem dX6_doubtful_32 : decode cX6_doubtful 32 = .ok (.iinc 1 1, 3) := dk132 (k := 8) bX6_doubtful_24 rfl rfl (by decide)
theorem dX6_doubtful_35 : decode cX6_doubtful 35 = .ok (.iinc 2 1, 3) := dk132 (k := 11) bX6_doubtful_24 rfl rfl (by decide)
theorem dX6_doubtful_38 : decode cX6_doubtful 38 = .ok (.goto (-22), 3) := dk167 (k := 14) bX6_doubtful_24 rfl (by decide)
theorem dX6_doubtful_41 : decode cX6_doubtful 41 = .ok (.iload_n 1, 1) := dk27 (k := 17) bX6_doubtful_24 rfl
theorem dX6_doubtful_42 : decode cX6_doubtful 42 = .ok (.ireturn, 1) := dk172 (k := 18) bX6_doubtful_24 rfl
theorem bX6_isOnlyMiss_0 : bL cX6_isOnlyMiss 0 [3, 61, 28, 16, 20, 163, 0, 31, 42, 180, 0, 9, 28, 46, 4, 160, 0, 15, 42, 180, 0, 15, 28, 46] := bL_of (by decide +kernel)
theorem dX6_isOnlyMiss_0 : decode cX6_isOnlyMiss 0 = .ok (.iconst 0, 1) := dk3 (k := 0) bX6_isOnlyMiss_0 rfl
theorem dX6_isOnlyMiss_1 : decode cX6_isOnlyMiss 1 = .ok (.istore_n 2, 1) := dk61 (k := 1) bX6_isOnlyMiss_0 rfl
theorem dX6_isOnlyMiss_2 : decode cX6_isOnlyMiss 2 = .ok (.iload_n 2, 1) := dk28 (k := 2) bX6_isOnlyMiss_0 rfl
theorem dX6_isOnlyMiss_3 : decode cX6_isOnlyMiss 3 = .ok (.bipush 20, 2) := dk16 (k := 3) bX6_isOnlyMiss_0 rfl (by decide)
theorem dX6_isOnlyMiss_5 : decode cX6_isOnlyMiss 5 = .ok (.if_icmp .gt 31, 3) := dk163 (k := 5) bX6_isOnlyMiss_0 rfl (by decide)
theorem dX6_isOnlyMiss_8 : decode cX6_isOnlyMiss 8 = .ok (.aload_n 0, 1) := dk42 (k := 8) bX6_isOnlyMiss_0 rfl
theorem dX6_isOnlyMiss_9 : decode cX6_isOnlyMiss 9 = .ok (.getfield 9, 3) := dk180 (k := 9) bX6_isOnlyMiss_0 rfl rfl
theorem dX6_isOnlyMiss_12 : decode cX6_isOnlyMiss 12 = .ok (.iload_n 2, 1) := dk28 (k := 12) bX6_isOnlyMiss_0 rfl
theorem dX6_isOnlyMiss_13 : decode cX6_isOnlyMiss 13 = .ok (.iaload, 1) := dk46 (k := 13) bX6_isOnlyMiss_0 rfl
theorem dX6_isOnlyMiss_14 : decode cX6_isOnlyMiss 14 = .ok (.iconst 1, 1) := dk4 (k := 14) bX6_isOnlyMiss_0 rfl
theorem dX6_isOnlyMiss_15 : decode cX6_isOnlyMiss 15 = .ok (.if_icmp .ne 15, 3) := dk160 (k := 15) bX6_isOnlyMiss_0 rfl (by decide)
theorem dX6_isOnlyMiss_18 : decode cX6_isOnlyMiss 18 = .ok (.aload_n 0, 1) := dk42 (k := 18) bX6_isOnlyMiss_0 rfl
theorem dX6_isOnlyMiss_19 : decode cX6_isOnlyMiss 19 = .ok (.getfield 15, 3) := dk180 (k := 19) bX6_isOnlyMiss_0 rfl rfl
theorem dX6_isOnlyMiss_22 : decode cX6_isOnlyMiss 22 = .ok (.iload_n 2, 1) := dk28 (k := 22) bX6_isOnlyMiss_0 rfl
theorem dX6_isOnlyMiss_23 : decode cX6_isOnlyMiss 23 = .ok (.iaload, 1) := dk46 (k := 23) bX6_isOnlyMiss_0 rfl
theorem bX6_isOnlyMiss_24 : bL cX6_isOnlyMiss 24 [27, 160, 0, 5, 4, 172, 132, 2, 1, 167, 255, 225, 3, 172] := bL_of (by decide +kernel)
theorem dX6_isOnlyMiss_24 : decode cX6_isOnlyMiss 24 = .ok (.iload_n 1, 1) := dk27 (k := 0) bX6_isOnlyMiss_24 rfl
theorem dX6_isOnlyMiss_25 : decode cX6_isOnlyMiss 25 = .ok (.if_icmp .ne 5, 3) := dk160 (k := 1) bX6_isOnlyMiss_24 rfl (by decide)
theorem dX6_isOnlyMiss_28 : decode cX6_isOnlyMiss 28 = .ok (.iconst 1, 1) := dk4 (k := 4) bX6_isOnlyMiss_24 rfl
theorem dX6_isOnlyMiss_29 : decode cX6_isOnlyMiss 29 = .ok (.ireturn, 1) := dk172 (k := 5) bX6_isOnlyMiss_24 rfl
theorem dX6_isOnlyMiss_30 : decode cX6_isOnlyMiss 30 = .ok (.iinc 2 1, 3) := dk132 (k := 6) bX6_isOnlyMiss_24 rfl rfl (by decide)
theorem dX6_isOnlyMiss_33 : decode cX6_isOnlyMiss 33 = .ok (.goto (-31), 3) := dk167 (k := 9) bX6_isOnlyMiss_24 rfl (by decide)
theorem dX6_isOnlyMiss_36 : decode cX6_isOnlyMiss 36 = .ok (.iconst 0, 1) := dk3 (k := 12) bX6_isOnlyMiss_24 rfl
theorem dX6_isOnlyMiss_37 : decode cX6_isOnlyMiss 37 = .ok (.ireturn, 1) := dk172 (k := 13) bX6_isOnlyMiss_24 rfl
theorem bX7_init_0 : bL cX7_init 0 [42, 183, 0, 3, 42, 16, 80] := bL_of (by decide +kernel)
theorem dX7_init_0 : decode cX7_init 0 = .ok (.aload_n 0, 1) := dk42 (k := 0) bX7_init_0 rfl
theorem dX7_init_1 : decode cX7_init 1 = .ok (.invokespecial 3, 3) := dk183 (k := 1) bX7_init_0 rfl rfl
theorem dX7_init_4 : decode cX7_init 4 = .ok (.aload_n 0, 1) := dk42 (k := 4) bX7_init_0 rfl
theorem dX7_init_5 : decode cX7_init 5 = .ok (.bipush 80, 2) := dk16 (k := 5) bX7_init_0 rfl (by decide)
theorem dX7_init_7 : decode cX7_init 7 = .ok (.newarray .int, 2) := by decide +kernel
theorem bX7_init_9 : bL cX7_init 9 [181, 0, 9, 42, 6] := bL_of (by decide +kernel)
theorem dX7_init_9 : decode cX7_init 9 = .ok (.putfield 9, 3) := dk181 (k := 0) bX7_init_9 rfl rfl
theorem dX7_init_12 : decode cX7_init 12 = .ok (.aload_n 0, 1) := dk42 (k := 3) bX7_init_9 rfl
theorem dX7_init_13 : decode cX7_init 13 = .ok (.iconst 3, 1) := dk6 (k := 4) bX7_init_9 rfl
theorem dX7_init_14 : decode cX7_init 14 = .ok (.newarray .int, 2) := by decide +kernel
theorem bX7_init_16 : bL cX7_init 16 [181, 0, 15, 42, 6] := bL_of (by decide +kernel)
theorem dX7_init_16 : decode cX7_init 16 = .ok (.putfield 15, 3) := dk181 (k := 0) bX7_init_16 rfl rfl
theorem dX7_init_19 : decode cX7_init 19 = .ok (.aload_n 0, 1) := dk42 (k := 3) bX7_init_16 rfl
theorem dX7_init_20 : decode cX7_init 20 = .ok (.iconst 3, 1) := dk6 (k := 4) bX7_init_16 rfl
theorem dX7_init_21 : decode cX7_init 21 = .ok (.newarray .int, 2) := by decide +kernel
theorem bX7_init_23 : bL cX7_init 23 [181, 0, 18, 42, 43, 181, 0, 21, 42, 44, 181, 0, 25, 177] := bL_of (by decide +kernel)
theorem dX7_init_23 : decode cX7_init 23 = .ok (.putfield 18, 3) := dk181 (k := 0) bX7_init_23 rfl rfl
theorem dX7_init_26 : decode cX7_init 26 = .ok (.aload_n 0, 1) := dk42 (k := 3) bX7_init_23 rfl
theorem dX7_init_27 : decode cX7_init 27 = .ok (.aload_n 1, 1) := dk43 (k := 4) bX7_init_23 rfl
theorem dX7_init_28 : decode cX7_init 28 = .ok (.putfield 21, 3) := dk181 (k := 5) bX7_init_23 rfl rfl
theorem dX7_init_31 : decode cX7_init 31 = .ok (.aload_n 0, 1) := dk42 (k := 8) bX7_init_23 rfl
theorem dX7_init_32 : decode cX7_init 32 = .ok (.aload_n 2, 1) := dk44 (k := 9) bX7_init_23 rfl
theorem dX7_init_33 : decode cX7_init 33 = .ok (.putfield 25, 3) := dk181 (k := 10) bX7_init_23 rfl rfl
theorem dX7_init_36 : decode cX7_init 36 = .ok (.return_, 1) := dk177 (k := 13) bX7_init_23 rfl
theorem bX7_weighCells_0 : bL cX7_weighCells 0 [42, 180, 0, 25, 42, 180, 0, 21, 180, 0, 29, 182, 0, 34, 3, 60, 27, 42, 180, 0, 25, 180, 0, 40] := bL_of (by decide +kernel)
theorem dX7_weighCells_0 : decode cX7_weighCells 0 = .ok (.aload_n 0, 1) := dk42 (k := 0) bX7_weighCells_0 rfl
theorem dX7_weighCells_1 : decode cX7_weighCells 1 = .ok (.getfield 25, 3) := dk180 (k := 1) bX7_weighCells_0 rfl rfl
theorem dX7_weighCells_4 : decode cX7_weighCells 4 = .ok (.aload_n 0, 1) := dk42 (k := 4) bX7_weighCells_0 rfl
theorem dX7_weighCells_5 : decode cX7_weighCells 5 = .ok (.getfield 21, 3) := dk180 (k := 5) bX7_weighCells_0 rfl rfl
theorem dX7_weighCells_8 : decode cX7_weighCells 8 = .ok (.getfield 29, 3) := dk180 (k := 8) bX7_weighCells_0 rfl rfl
theorem dX7_weighCells_11 : decode cX7_weighCells 11 = .ok (.invokevirtual 34, 3) := dk182 (k := 11) bX7_weighCells_0 rfl rfl
theorem dX7_weighCells_14 : decode cX7_weighCells 14 = .ok (.iconst 0, 1) := dk3 (k := 14) bX7_weighCells_0 rfl
theorem dX7_weighCells_15 : decode cX7_weighCells 15 = .ok (.istore_n 1, 1) := dk60 (k := 15) bX7_weighCells_0 rfl
theorem dX7_weighCells_16 : decode cX7_weighCells 16 = .ok (.iload_n 1, 1) := dk27 (k := 16) bX7_weighCells_0 rfl
theorem dX7_weighCells_17 : decode cX7_weighCells 17 = .ok (.aload_n 0, 1) := dk42 (k := 17) bX7_weighCells_0 rfl
theorem dX7_weighCells_18 : decode cX7_weighCells 18 = .ok (.getfield 25, 3) := dk180 (k := 18) bX7_weighCells_0 rfl rfl
theorem dX7_weighCells_21 : decode cX7_weighCells 21 = .ok (.getfield 40, 3) := dk180 (k := 21) bX7_weighCells_0 rfl rfl
theorem bX7_weighCells_24 : bL cX7_weighCells 24 [162, 0, 60, 42, 180, 0, 25, 27, 182, 0, 44, 158, 0, 43] := bL_of (by decide +kernel)
theorem dX7_weighCells_24 : decode cX7_weighCells 24 = .ok (.if_icmp .ge 60, 3) := dk162 (k := 0) bX7_weighCells_24 rfl (by decide)
theorem dX7_weighCells_27 : decode cX7_weighCells 27 = .ok (.aload_n 0, 1) := dk42 (k := 3) bX7_weighCells_24 rfl
theorem dX7_weighCells_28 : decode cX7_weighCells 28 = .ok (.getfield 25, 3) := dk180 (k := 4) bX7_weighCells_24 rfl rfl
theorem dX7_weighCells_31 : decode cX7_weighCells 31 = .ok (.iload_n 1, 1) := dk27 (k := 7) bX7_weighCells_24 rfl
theorem dX7_weighCells_32 : decode cX7_weighCells 32 = .ok (.invokevirtual 44, 3) := dk182 (k := 8) bX7_weighCells_24 rfl rfl
theorem dX7_weighCells_35 : decode cX7_weighCells 35 = .ok (.ifCond .le 43, 3) := dk158 (k := 11) bX7_weighCells_24 rfl (by decide)
end
section
theorem bX7_weighCells_38 : bL cX7_weighCells 38 [42, 180, 0, 25, 27, 2, 182, 0, 48, 42, 180, 0, 21, 180, 0, 52, 42, 180, 0, 25, 42, 180, 0, 9] := bL_of (by decide +kernel)
theorem dX7_weighCells_38 : decode cX7_weighCells 38 = .ok (.aload_n 0, 1) := dk42 (k := 0) bX7_weighCells_38 rfl
theorem dX7_weighCells_39 : decode cX7_weighCells 39 = .ok (.getfield 25, 3) := dk180 (k := 1) bX7_weighCells_38 rfl rfl
theorem dX7_weighCells_42 : decode cX7_weighCells 42 = .ok (.iload_n 1, 1) := dk27 (k := 4) bX7_weighCells_38 rfl
theorem dX7_weighCells_43 : decode cX7_weighCells 43 = .ok (.iconst (-1), 1) := dk2 (k := 5) bX7_weighCells_38 rfl
theorem dX7_weighCells_44 : decode cX7_weighCells 44 = .ok (.invokevirtual 48, 3) := dk182 (k := 6) bX7_weighCells_38 rfl rfl
theorem dX7_weighCells_47 : decode cX7_weighCells 47 = .ok (.aload_n 0, 1) := dk42 (k := 9) bX7_weighCells_38 rfl
theorem dX7_weighCells_48 : decode cX7_weighCells 48 = .ok (.getfield 21, 3) := dk180 (k := 10) bX7_weighCells_38 rfl rfl
theorem dX7_weighCells_51 : decode cX7_weighCells 51 = .ok (.getfield 52, 3) := dk180 (k := 13) bX7_weighCells_38 rfl rfl
theorem dX7_weighCells_54 : decode cX7_weighCells 54 = .ok (.aload_n 0, 1) := dk42 (k := 16) bX7_weighCells_38 rfl
theorem dX7_weighCells_55 : decode cX7_weighCells 55 = .ok (.getfield 25, 3) := dk180 (k := 17) bX7_weighCells_38 rfl rfl
theorem dX7_weighCells_58 : decode cX7_weighCells 58 = .ok (.aload_n 0, 1) := dk42 (k := 20) bX7_weighCells_38 rfl
theorem dX7_weighCells_59 : decode cX7_weighCells 59 = .ok (.getfield 9, 3) := dk180 (k := 21) bX7_weighCells_38 rfl rfl
theorem bX7_weighCells_62 : bL cX7_weighCells 62 [27, 16, 8, 104, 182, 0, 56, 42, 180, 0, 25, 27, 4, 182, 0, 48, 132, 1, 1, 167, 255, 191, 177] := bL_of (by decide +kernel)
theorem dX7_weighCells_62 : decode cX7_weighCells 62 = .ok (.iload_n 1, 1) := dk27 (k := 0) bX7_weighCells_62 rfl
theorem dX7_weighCells_63 : decode cX7_weighCells 63 = .ok (.bipush 8, 2) := dk16 (k := 1) bX7_weighCells_62 rfl (by decide)
theorem dX7_weighCells_65 : decode cX7_weighCells 65 = .ok (.imul, 1) := dk104 (k := 3) bX7_weighCells_62 rfl
theorem dX7_weighCells_66 : decode cX7_weighCells 66 = .ok (.invokevirtual 56, 3) := dk182 (k := 4) bX7_weighCells_62 rfl rfl
theorem dX7_weighCells_69 : decode cX7_weighCells 69 = .ok (.aload_n 0, 1) := dk42 (k := 7) bX7_weighCells_62 rfl
theorem dX7_weighCells_70 : decode cX7_weighCells 70 = .ok (.getfield 25, 3) := dk180 (k := 8) bX7_weighCells_62 rfl rfl
theorem dX7_weighCells_73 : decode cX7_weighCells 73 = .ok (.iload_n 1, 1) := dk27 (k := 11) bX7_weighCells_62 rfl
theorem dX7_weighCells_74 : decode cX7_weighCells 74 = .ok (.iconst 1, 1) := dk4 (k := 12) bX7_weighCells_62 rfl
theorem dX7_weighCells_75 : decode cX7_weighCells 75 = .ok (.invokevirtual 48, 3) := dk182 (k := 13) bX7_weighCells_62 rfl rfl
theorem dX7_weighCells_78 : decode cX7_weighCells 78 = .ok (.iinc 1 1, 3) := dk132 (k := 16) bX7_weighCells_62 rfl rfl (by decide)
theorem dX7_weighCells_81 : decode cX7_weighCells 81 = .ok (.goto (-65), 3) := dk167 (k := 19) bX7_weighCells_62 rfl (by decide)
theorem dX7_weighCells_84 : decode cX7_weighCells 84 = .ok (.return_, 1) := dk177 (k := 22) bX7_weighCells_62 rfl
theorem bX7_weightOf_0 : bL cX7_weightOf 0 [27, 16, 8, 104, 28, 96, 62, 29, 155, 0, 21, 29, 42, 180, 0, 9, 190, 162, 0, 12, 42, 180, 0, 9] := bL_of (by decide +kernel)
theorem dX7_weightOf_0 : decode cX7_weightOf 0 = .ok (.iload_n 1, 1) := dk27 (k := 0) bX7_weightOf_0 rfl
theorem dX7_weightOf_1 : decode cX7_weightOf 1 = .ok (.bipush 8, 2) := dk16 (k := 1) bX7_weightOf_0 rfl (by decide)
theorem dX7_weightOf_3 : decode cX7_weightOf 3 = .ok (.imul, 1) := dk104 (k := 3) bX7_weightOf_0 rfl
theorem dX7_weightOf_4 : decode cX7_weightOf 4 = .ok (.iload_n 2, 1) := dk28 (k := 4) bX7_weightOf_0 rfl
theorem dX7_weightOf_5 : decode cX7_weightOf 5 = .ok (.iadd, 1) := dk96 (k := 5) bX7_weightOf_0 rfl
theorem dX7_weightOf_6 : decode cX7_weightOf 6 = .ok (.istore_n 3, 1) := dk62 (k := 6) bX7_weightOf_0 rfl
theorem dX7_weightOf_7 : decode cX7_weightOf 7 = .ok (.iload_n 3, 1) := dk29 (k := 7) bX7_weightOf_0 rfl
theorem dX7_weightOf_8 : decode cX7_weightOf 8 = .ok (.ifCond .lt 21, 3) := dk155 (k := 8) bX7_weightOf_0 rfl (by decide)
theorem dX7_weightOf_11 : decode cX7_weightOf 11 = .ok (.iload_n 3, 1) := dk29 (k := 11) bX7_weightOf_0 rfl
theorem dX7_weightOf_12 : decode cX7_weightOf 12 = .ok (.aload_n 0, 1) := dk42 (k := 12) bX7_weightOf_0 rfl
theorem dX7_weightOf_13 : decode cX7_weightOf 13 = .ok (.getfield 9, 3) := dk180 (k := 13) bX7_weightOf_0 rfl rfl
theorem dX7_weightOf_16 : decode cX7_weightOf 16 = .ok (.arraylength, 1) := dk190 (k := 16) bX7_weightOf_0 rfl
theorem dX7_weightOf_17 : decode cX7_weightOf 17 = .ok (.if_icmp .ge 12, 3) := dk162 (k := 17) bX7_weightOf_0 rfl (by decide)
theorem dX7_weightOf_20 : decode cX7_weightOf 20 = .ok (.aload_n 0, 1) := dk42 (k := 20) bX7_weightOf_0 rfl
theorem dX7_weightOf_21 : decode cX7_weightOf 21 = .ok (.getfield 9, 3) := dk180 (k := 21) bX7_weightOf_0 rfl rfl
theorem bX7_weightOf_24 : bL cX7_weightOf 24 [29, 46, 167, 0, 4, 3, 172] := bL_of (by decide +kernel)
theorem dX7_weightOf_24 : decode cX7_weightOf 24 = .ok (.iload_n 3, 1) := dk29 (k := 0) bX7_weightOf_24 rfl
theorem dX7_weightOf_25 : decode cX7_weightOf 25 = .ok (.iaload, 1) := dk46 (k := 1) bX7_weightOf_24 rfl
theorem dX7_weightOf_26 : decode cX7_weightOf 26 = .ok (.goto 4, 3) := dk167 (k := 2) bX7_weightOf_24 rfl (by decide)
theorem dX7_weightOf_29 : decode cX7_weightOf 29 = .ok (.iconst 0, 1) := dk3 (k := 5) bX7_weightOf_24 rfl
theorem dX7_weightOf_30 : decode cX7_weightOf 30 = .ok (.ireturn, 1) := dk172 (k := 6) bX7_weightOf_24 rfl
theorem bX7_votersFor_0 : bL cX7_votersFor 0 [3, 62, 3, 54, 4, 21, 4, 42, 180, 0, 21, 180, 0, 52, 180, 0, 62, 162, 0, 33, 42, 27, 21, 4] := bL_of (by decide +kernel)
theorem dX7_votersFor_0 : decode cX7_votersFor 0 = .ok (.iconst 0, 1) := dk3 (k := 0) bX7_votersFor_0 rfl
theorem dX7_votersFor_1 : decode cX7_votersFor 1 = .ok (.istore_n 3, 1) := dk62 (k := 1) bX7_votersFor_0 rfl
theorem dX7_votersFor_2 : decode cX7_votersFor 2 = .ok (.iconst 0, 1) := dk3 (k := 2) bX7_votersFor_0 rfl
theorem dX7_votersFor_3 : decode cX7_votersFor 3 = .ok (.istore 4, 2) := dk54 (k := 3) bX7_votersFor_0 rfl rfl
theorem dX7_votersFor_5 : decode cX7_votersFor 5 = .ok (.iload 4, 2) := dk21 (k := 5) bX7_votersFor_0 rfl rfl
theorem dX7_votersFor_7 : decode cX7_votersFor 7 = .ok (.aload_n 0, 1) := dk42 (k := 7) bX7_votersFor_0 rfl
theorem dX7_votersFor_8 : decode cX7_votersFor 8 = .ok (.getfield 21, 3) := dk180 (k := 8) bX7_votersFor_0 rfl rfl
theorem dX7_votersFor_11 : decode cX7_votersFor 11 = .ok (.getfield 52, 3) := dk180 (k := 11) bX7_votersFor_0 rfl rfl
theorem dX7_votersFor_14 : decode cX7_votersFor 14 = .ok (.getfield 62, 3) := dk180 (k := 14) bX7_votersFor_0 rfl rfl
theorem dX7_votersFor_17 : decode cX7_votersFor 17 = .ok (.if_icmp .ge 33, 3) := dk162 (k := 17) bX7_votersFor_0 rfl (by decide)
theorem dX7_votersFor_20 : decode cX7_votersFor 20 = .ok (.aload_n 0, 1) := dk42 (k := 20) bX7_votersFor_0 rfl
theorem dX7_votersFor_21 : decode cX7_votersFor 21 = .ok (.iload_n 1, 1) := dk27 (k := 21) bX7_votersFor_0 rfl
theorem dX7_votersFor_22 : decode cX7_votersFor 22 = .ok (.iload 4, 2) := dk21 (k := 22) bX7_votersFor_0 rfl rfl
theorem bX7_votersFor_24 : bL cX7_votersFor 24 [182, 0, 65, 42, 28, 21, 4, 182, 0, 65, 164, 0, 10, 29, 4, 21, 4, 120, 128, 62, 132, 4, 1, 167, 255, 214] := bL_of (by decide +kernel)
theorem dX7_votersFor_24 : decode cX7_votersFor 24 = .ok (.invokevirtual 65, 3) := dk182 (k := 0) bX7_votersFor_24 rfl rfl
theorem dX7_votersFor_27 : decode cX7_votersFor 27 = .ok (.aload_n 0, 1) := dk42 (k := 3) bX7_votersFor_24 rfl
theorem dX7_votersFor_28 : decode cX7_votersFor 28 = .ok (.iload_n 2, 1) := dk28 (k := 4) bX7_votersFor_24 rfl
theorem dX7_votersFor_29 : decode cX7_votersFor 29 = .ok (.iload 4, 2) := dk21 (k := 5) bX7_votersFor_24 rfl rfl
theorem dX7_votersFor_31 : decode cX7_votersFor 31 = .ok (.invokevirtual 65, 3) := dk182 (k := 7) bX7_votersFor_24 rfl rfl
theorem dX7_votersFor_34 : decode cX7_votersFor 34 = .ok (.if_icmp .le 10, 3) := dk164 (k := 10) bX7_votersFor_24 rfl (by decide)
theorem dX7_votersFor_37 : decode cX7_votersFor 37 = .ok (.iload_n 3, 1) := dk29 (k := 13) bX7_votersFor_24 rfl
theorem dX7_votersFor_38 : decode cX7_votersFor 38 = .ok (.iconst 1, 1) := dk4 (k := 14) bX7_votersFor_24 rfl
theorem dX7_votersFor_39 : decode cX7_votersFor 39 = .ok (.iload 4, 2) := dk21 (k := 15) bX7_votersFor_24 rfl rfl
theorem dX7_votersFor_41 : decode cX7_votersFor 41 = .ok (.ishl, 1) := dk120 (k := 17) bX7_votersFor_24 rfl
theorem dX7_votersFor_42 : decode cX7_votersFor 42 = .ok (.ior, 1) := dk128 (k := 18) bX7_votersFor_24 rfl
theorem dX7_votersFor_43 : decode cX7_votersFor 43 = .ok (.istore_n 3, 1) := dk62 (k := 19) bX7_votersFor_24 rfl
theorem dX7_votersFor_44 : decode cX7_votersFor 44 = .ok (.iinc 4 1, 3) := dk132 (k := 20) bX7_votersFor_24 rfl rfl (by decide)
theorem dX7_votersFor_47 : decode cX7_votersFor 47 = .ok (.goto (-42), 3) := dk167 (k := 23) bX7_votersFor_24 rfl (by decide)
theorem bX7_votersFor_50 : bL cX7_votersFor 50 [29, 172] := bL_of (by decide +kernel)
theorem dX7_votersFor_50 : decode cX7_votersFor 50 = .ok (.iload_n 3, 1) := dk29 (k := 0) bX7_votersFor_50 rfl
theorem dX7_votersFor_51 : decode cX7_votersFor 51 = .ok (.ireturn, 1) := dk172 (k := 1) bX7_votersFor_50 rfl
theorem bX7_electedCell_0 : bL cX7_electedCell 0 [42, 182, 0, 69, 3, 60, 27, 42, 180, 0, 21, 180, 0, 29, 180, 0, 40, 162, 0, 33, 42, 180, 0, 21] := bL_of (by decide +kernel)
theorem dX7_electedCell_0 : decode cX7_electedCell 0 = .ok (.aload_n 0, 1) := dk42 (k := 0) bX7_electedCell_0 rfl
theorem dX7_electedCell_1 : decode cX7_electedCell 1 = .ok (.invokevirtual 69, 3) := dk182 (k := 1) bX7_electedCell_0 rfl rfl
theorem dX7_electedCell_4 : decode cX7_electedCell 4 = .ok (.iconst 0, 1) := dk3 (k := 4) bX7_electedCell_0 rfl
theorem dX7_electedCell_5 : decode cX7_electedCell 5 = .ok (.istore_n 1, 1) := dk60 (k := 5) bX7_electedCell_0 rfl
theorem dX7_electedCell_6 : decode cX7_electedCell 6 = .ok (.iload_n 1, 1) := dk27 (k := 6) bX7_electedCell_0 rfl
theorem dX7_electedCell_7 : decode cX7_electedCell 7 = .ok (.aload_n 0, 1) := dk42 (k := 7) bX7_electedCell_0 rfl
theorem dX7_electedCell_8 : decode cX7_electedCell 8 = .ok (.getfield 21, 3) := dk180 (k := 8) bX7_electedCell_0 rfl rfl
theorem dX7_electedCell_11 : decode cX7_electedCell 11 = .ok (.getfield 29, 3) := dk180 (k := 11) bX7_electedCell_0 rfl rfl
theorem dX7_electedCell_14 : decode cX7_electedCell 14 = .ok (.getfield 40, 3) := dk180 (k := 14) bX7_electedCell_0 rfl rfl
theorem dX7_electedCell_17 : decode cX7_electedCell 17 = .ok (.if_icmp .ge 33, 3) := dk162 (k := 17) bX7_electedCell_0 rfl (by decide)
theorem dX7_electedCell_20 : decode cX7_electedCell 20 = .ok (.aload_n 0, 1) := dk42 (k := 20) bX7_electedCell_0 rfl
theorem dX7_electedCell_21 : decode cX7_electedCell 21 = .ok (.getfield 21, 3) := dk180 (k := 21) bX7_electedCell_0 rfl rfl
theorem bX7_electedCell_24 : bL cX7_electedCell 24 [180, 0, 29, 27, 182, 0, 44, 158, 0, 13, 42, 27, 182, 0, 72, 153, 0, 5, 27, 172, 132, 1, 1, 167, 255, 215] := bL_of (by decide +kernel)
theorem dX7_electedCell_24 : decode cX7_electedCell 24 = .ok (.getfield 29, 3) := dk180 (k := 0) bX7_electedCell_24 rfl rfl
theorem dX7_electedCell_27 : decode cX7_electedCell 27 = .ok (.iload_n 1, 1) := dk27 (k := 3) bX7_electedCell_24 rfl
theorem dX7_electedCell_28 : decode cX7_electedCell 28 = .ok (.invokevirtual 44, 3) := dk182 (k := 4) bX7_electedCell_24 rfl rfl
theorem dX7_electedCell_31 : decode cX7_electedCell 31 = .ok (.ifCond .le 13, 3) := dk158 (k := 7) bX7_electedCell_24 rfl (by decide)
theorem dX7_electedCell_34 : decode cX7_electedCell 34 = .ok (.aload_n 0, 1) := dk42 (k := 10) bX7_electedCell_24 rfl
theorem dX7_electedCell_35 : decode cX7_electedCell 35 = .ok (.iload_n 1, 1) := dk27 (k := 11) bX7_electedCell_24 rfl
theorem dX7_electedCell_36 : decode cX7_electedCell 36 = .ok (.invokevirtual 72, 3) := dk182 (k := 12) bX7_electedCell_24 rfl rfl
theorem dX7_electedCell_39 : decode cX7_electedCell 39 = .ok (.ifCond .eq 5, 3) := dk153 (k := 15) bX7_electedCell_24 rfl (by decide)
theorem dX7_electedCell_42 : decode cX7_electedCell 42 = .ok (.iload_n 1, 1) := dk27 (k := 18) bX7_electedCell_24 rfl
theorem dX7_electedCell_43 : decode cX7_electedCell 43 = .ok (.ireturn, 1) := dk172 (k := 19) bX7_electedCell_24 rfl
theorem dX7_electedCell_44 : decode cX7_electedCell 44 = .ok (.iinc 1 1, 3) := dk132 (k := 20) bX7_electedCell_24 rfl rfl (by decide)
theorem dX7_electedCell_47 : decode cX7_electedCell 47 = .ok (.goto (-41), 3) := dk167 (k := 23) bX7_electedCell_24 rfl (by decide)
theorem bX7_electedCell_50 : bL cX7_electedCell 50 [2, 172] := bL_of (by decide +kernel)
theorem dX7_electedCell_50 : decode cX7_electedCell 50 = .ok (.iconst (-1), 1) := dk2 (k := 0) bX7_electedCell_50 rfl
theorem dX7_electedCell_51 : decode cX7_electedCell 51 = .ok (.ireturn, 1) := dk172 (k := 1) bX7_electedCell_50 rfl
theorem bX7_isUnbeaten_0 : bL cX7_isUnbeaten 0 [3, 61, 28, 42, 180, 0, 21, 180, 0, 29, 180, 0, 40, 162, 0, 62, 42, 180, 0, 21, 180, 0, 29, 28] := bL_of (by decide +kernel)
theorem dX7_isUnbeaten_0 : decode cX7_isUnbeaten 0 = .ok (.iconst 0, 1) := dk3 (k := 0) bX7_isUnbeaten_0 rfl
theorem dX7_isUnbeaten_1 : decode cX7_isUnbeaten 1 = .ok (.istore_n 2, 1) := dk61 (k := 1) bX7_isUnbeaten_0 rfl
theorem dX7_isUnbeaten_2 : decode cX7_isUnbeaten 2 = .ok (.iload_n 2, 1) := dk28 (k := 2) bX7_isUnbeaten_0 rfl
theorem dX7_isUnbeaten_3 : decode cX7_isUnbeaten 3 = .ok (.aload_n 0, 1) := dk42 (k := 3) bX7_isUnbeaten_0 rfl
theorem dX7_isUnbeaten_4 : decode cX7_isUnbeaten 4 = .ok (.getfield 21, 3) := dk180 (k := 4) bX7_isUnbeaten_0 rfl rfl
theorem dX7_isUnbeaten_7 : decode cX7_isUnbeaten 7 = .ok (.getfield 29, 3) := dk180 (k := 7) bX7_isUnbeaten_0 rfl rfl
theorem dX7_isUnbeaten_10 : decode cX7_isUnbeaten 10 = .ok (.getfield 40, 3) := dk180 (k := 10) bX7_isUnbeaten_0 rfl rfl
theorem dX7_isUnbeaten_13 : decode cX7_isUnbeaten 13 = .ok (.if_icmp .ge 62, 3) := dk162 (k := 13) bX7_isUnbeaten_0 rfl (by decide)
theorem dX7_isUnbeaten_16 : decode cX7_isUnbeaten 16 = .ok (.aload_n 0, 1) := dk42 (k := 16) bX7_isUnbeaten_0 rfl
theorem dX7_isUnbeaten_17 : decode cX7_isUnbeaten 17 = .ok (.getfield 21, 3) := dk180 (k := 17) bX7_isUnbeaten_0 rfl rfl
theorem dX7_isUnbeaten_20 : decode cX7_isUnbeaten 20 = .ok (.getfield 29, 3) := dk180 (k := 20) bX7_isUnbeaten_0 rfl rfl
theorem dX7_isUnbeaten_23 : decode cX7_isUnbeaten 23 = .ok (.iload_n 2, 1) := dk28 (k := 23) bX7_isUnbeaten_0 rfl
theorem bX7_isUnbeaten_24 : bL cX7_isUnbeaten 24 [182, 0, 44, 158, 0, 42, 42, 180, 0, 21, 180, 0, 52, 42, 27, 28, 182, 0, 76, 182, 0, 79, 62, 29] := bL_of (by decide +kernel)
theorem dX7_isUnbeaten_24 : decode cX7_isUnbeaten 24 = .ok (.invokevirtual 44, 3) := dk182 (k := 0) bX7_isUnbeaten_24 rfl rfl
theorem dX7_isUnbeaten_27 : decode cX7_isUnbeaten 27 = .ok (.ifCond .le 42, 3) := dk158 (k := 3) bX7_isUnbeaten_24 rfl (by decide)
theorem dX7_isUnbeaten_30 : decode cX7_isUnbeaten 30 = .ok (.aload_n 0, 1) := dk42 (k := 6) bX7_isUnbeaten_24 rfl
theorem dX7_isUnbeaten_31 : decode cX7_isUnbeaten 31 = .ok (.getfield 21, 3) := dk180 (k := 7) bX7_isUnbeaten_24 rfl rfl
theorem dX7_isUnbeaten_34 : decode cX7_isUnbeaten 34 = .ok (.getfield 52, 3) := dk180 (k := 10) bX7_isUnbeaten_24 rfl rfl
theorem dX7_isUnbeaten_37 : decode cX7_isUnbeaten 37 = .ok (.aload_n 0, 1) := dk42 (k := 13) bX7_isUnbeaten_24 rfl
theorem dX7_isUnbeaten_38 : decode cX7_isUnbeaten 38 = .ok (.iload_n 1, 1) := dk27 (k := 14) bX7_isUnbeaten_24 rfl
theorem dX7_isUnbeaten_39 : decode cX7_isUnbeaten 39 = .ok (.iload_n 2, 1) := dk28 (k := 15) bX7_isUnbeaten_24 rfl
theorem dX7_isUnbeaten_40 : decode cX7_isUnbeaten 40 = .ok (.invokevirtual 76, 3) := dk182 (k := 16) bX7_isUnbeaten_24 rfl rfl
theorem dX7_isUnbeaten_43 : decode cX7_isUnbeaten 43 = .ok (.invokevirtual 79, 3) := dk182 (k := 19) bX7_isUnbeaten_24 rfl rfl
theorem dX7_isUnbeaten_46 : decode cX7_isUnbeaten 46 = .ok (.istore_n 3, 1) := dk62 (k := 22) bX7_isUnbeaten_24 rfl
theorem dX7_isUnbeaten_47 : decode cX7_isUnbeaten 47 = .ok (.iload_n 3, 1) := dk29 (k := 23) bX7_isUnbeaten_24 rfl
theorem bX7_isUnbeaten_48 : bL cX7_isUnbeaten 48 [42, 180, 0, 21, 180, 0, 52, 42, 28, 27, 182, 0, 76, 182, 0, 79, 162, 0, 5, 3, 172, 132, 2, 1] := bL_of (by decide +kernel)
theorem dX7_isUnbeaten_48 : decode cX7_isUnbeaten 48 = .ok (.aload_n 0, 1) := dk42 (k := 0) bX7_isUnbeaten_48 rfl
theorem dX7_isUnbeaten_49 : decode cX7_isUnbeaten 49 = .ok (.getfield 21, 3) := dk180 (k := 1) bX7_isUnbeaten_48 rfl rfl
theorem dX7_isUnbeaten_52 : decode cX7_isUnbeaten 52 = .ok (.getfield 52, 3) := dk180 (k := 4) bX7_isUnbeaten_48 rfl rfl
theorem dX7_isUnbeaten_55 : decode cX7_isUnbeaten 55 = .ok (.aload_n 0, 1) := dk42 (k := 7) bX7_isUnbeaten_48 rfl
theorem dX7_isUnbeaten_56 : decode cX7_isUnbeaten 56 = .ok (.iload_n 2, 1) := dk28 (k := 8) bX7_isUnbeaten_48 rfl
theorem dX7_isUnbeaten_57 : decode cX7_isUnbeaten 57 = .ok (.iload_n 1, 1) := dk27 (k := 9) bX7_isUnbeaten_48 rfl
theorem dX7_isUnbeaten_58 : decode cX7_isUnbeaten 58 = .ok (.invokevirtual 76, 3) := dk182 (k := 10) bX7_isUnbeaten_48 rfl rfl
theorem dX7_isUnbeaten_61 : decode cX7_isUnbeaten 61 = .ok (.invokevirtual 79, 3) := dk182 (k := 13) bX7_isUnbeaten_48 rfl rfl
theorem dX7_isUnbeaten_64 : decode cX7_isUnbeaten 64 = .ok (.if_icmp .ge 5, 3) := dk162 (k := 16) bX7_isUnbeaten_48 rfl (by decide)
theorem dX7_isUnbeaten_67 : decode cX7_isUnbeaten 67 = .ok (.iconst 0, 1) := dk3 (k := 19) bX7_isUnbeaten_48 rfl
theorem dX7_isUnbeaten_68 : decode cX7_isUnbeaten 68 = .ok (.ireturn, 1) := dk172 (k := 20) bX7_isUnbeaten_48 rfl
theorem dX7_isUnbeaten_69 : decode cX7_isUnbeaten 69 = .ok (.iinc 2 1, 3) := dk132 (k := 21) bX7_isUnbeaten_48 rfl rfl (by decide)
theorem bX7_isUnbeaten_72 : bL cX7_isUnbeaten 72 [167, 255, 186, 4, 172] := bL_of (by decide +kernel)
theorem dX7_isUnbeaten_72 : decode cX7_isUnbeaten 72 = .ok (.goto (-70), 3) := dk167 (k := 0) bX7_isUnbeaten_72 rfl (by decide)
theorem dX7_isUnbeaten_75 : decode cX7_isUnbeaten 75 = .ok (.iconst 1, 1) := dk4 (k := 3) bX7_isUnbeaten_72 rfl
theorem dX7_isUnbeaten_76 : decode cX7_isUnbeaten 76 = .ok (.ireturn, 1) := dk172 (k := 4) bX7_isUnbeaten_72 rfl
theorem bX7_canShape_0 : bL cX7_canShape 0 [42, 180, 0, 21, 182, 0, 82, 153, 0, 30, 27, 155, 0, 26, 27, 6, 163, 0, 21, 42, 180, 0, 21, 180, 0, 29] := bL_of (by decide +kernel)
theorem dX7_canShape_0 : decode cX7_canShape 0 = .ok (.aload_n 0, 1) := dk42 (k := 0) bX7_canShape_0 rfl
theorem dX7_canShape_1 : decode cX7_canShape 1 = .ok (.getfield 21, 3) := dk180 (k := 1) bX7_canShape_0 rfl rfl
theorem dX7_canShape_4 : decode cX7_canShape 4 = .ok (.invokevirtual 82, 3) := dk182 (k := 4) bX7_canShape_0 rfl rfl
theorem dX7_canShape_7 : decode cX7_canShape 7 = .ok (.ifCond .eq 30, 3) := dk153 (k := 7) bX7_canShape_0 rfl (by decide)
theorem dX7_canShape_10 : decode cX7_canShape 10 = .ok (.iload_n 1, 1) := dk27 (k := 10) bX7_canShape_0 rfl
theorem dX7_canShape_11 : decode cX7_canShape 11 = .ok (.ifCond .lt 26, 3) := dk155 (k := 11) bX7_canShape_0 rfl (by decide)
theorem dX7_canShape_14 : decode cX7_canShape 14 = .ok (.iload_n 1, 1) := dk27 (k := 14) bX7_canShape_0 rfl
theorem dX7_canShape_15 : decode cX7_canShape 15 = .ok (.iconst 3, 1) := dk6 (k := 15) bX7_canShape_0 rfl
theorem dX7_canShape_16 : decode cX7_canShape 16 = .ok (.if_icmp .gt 21, 3) := dk163 (k := 16) bX7_canShape_0 rfl (by decide)
theorem dX7_canShape_19 : decode cX7_canShape 19 = .ok (.aload_n 0, 1) := dk42 (k := 19) bX7_canShape_0 rfl
theorem dX7_canShape_20 : decode cX7_canShape 20 = .ok (.getfield 21, 3) := dk180 (k := 20) bX7_canShape_0 rfl rfl
theorem dX7_canShape_23 : decode cX7_canShape 23 = .ok (.getfield 29, 3) := dk180 (k := 23) bX7_canShape_0 rfl rfl
theorem bX7_canShape_26 : bL cX7_canShape 26 [182, 0, 86, 27, 161, 0, 7, 4, 167, 0, 4, 3, 172] := bL_of (by decide +kernel)
theorem dX7_canShape_26 : decode cX7_canShape 26 = .ok (.invokevirtual 86, 3) := dk182 (k := 0) bX7_canShape_26 rfl rfl
theorem dX7_canShape_29 : decode cX7_canShape 29 = .ok (.iload_n 1, 1) := dk27 (k := 3) bX7_canShape_26 rfl
theorem dX7_canShape_30 : decode cX7_canShape 30 = .ok (.if_icmp .lt 7, 3) := dk161 (k := 4) bX7_canShape_26 rfl (by decide)
theorem dX7_canShape_33 : decode cX7_canShape 33 = .ok (.iconst 1, 1) := dk4 (k := 7) bX7_canShape_26 rfl
theorem dX7_canShape_34 : decode cX7_canShape 34 = .ok (.goto 4, 3) := dk167 (k := 8) bX7_canShape_26 rfl (by decide)
theorem dX7_canShape_37 : decode cX7_canShape 37 = .ok (.iconst 0, 1) := dk3 (k := 11) bX7_canShape_26 rfl
theorem dX7_canShape_38 : decode cX7_canShape 38 = .ok (.ireturn, 1) := dk172 (k := 12) bX7_canShape_26 rfl
theorem bX7_shapeBy_0 : bL cX7_shapeBy 0 [42, 180, 0, 25, 42, 180, 0, 21, 180, 0, 29, 182, 0, 34, 42, 3, 181, 0, 90, 42, 27, 3, 3, 182, 0, 94] := bL_of (by decide +kernel)
theorem dX7_shapeBy_0 : decode cX7_shapeBy 0 = .ok (.aload_n 0, 1) := dk42 (k := 0) bX7_shapeBy_0 rfl
theorem dX7_shapeBy_1 : decode cX7_shapeBy 1 = .ok (.getfield 25, 3) := dk180 (k := 1) bX7_shapeBy_0 rfl rfl
theorem dX7_shapeBy_4 : decode cX7_shapeBy 4 = .ok (.aload_n 0, 1) := dk42 (k := 4) bX7_shapeBy_0 rfl
theorem dX7_shapeBy_5 : decode cX7_shapeBy 5 = .ok (.getfield 21, 3) := dk180 (k := 5) bX7_shapeBy_0 rfl rfl
theorem dX7_shapeBy_8 : decode cX7_shapeBy 8 = .ok (.getfield 29, 3) := dk180 (k := 8) bX7_shapeBy_0 rfl rfl
theorem dX7_shapeBy_11 : decode cX7_shapeBy 11 = .ok (.invokevirtual 34, 3) := dk182 (k := 11) bX7_shapeBy_0 rfl rfl
theorem dX7_shapeBy_14 : decode cX7_shapeBy 14 = .ok (.aload_n 0, 1) := dk42 (k := 14) bX7_shapeBy_0 rfl
theorem dX7_shapeBy_15 : decode cX7_shapeBy 15 = .ok (.iconst 0, 1) := dk3 (k := 15) bX7_shapeBy_0 rfl
theorem dX7_shapeBy_16 : decode cX7_shapeBy 16 = .ok (.putfield 90, 3) := dk181 (k := 16) bX7_shapeBy_0 rfl rfl
theorem dX7_shapeBy_19 : decode cX7_shapeBy 19 = .ok (.aload_n 0, 1) := dk42 (k := 19) bX7_shapeBy_0 rfl
theorem dX7_shapeBy_20 : decode cX7_shapeBy 20 = .ok (.iload_n 1, 1) := dk27 (k := 20) bX7_shapeBy_0 rfl
theorem dX7_shapeBy_21 : decode cX7_shapeBy 21 = .ok (.iconst 0, 1) := dk3 (k := 21) bX7_shapeBy_0 rfl
theorem dX7_shapeBy_22 : decode cX7_shapeBy 22 = .ok (.iconst 0, 1) := dk3 (k := 22) bX7_shapeBy_0 rfl
theorem dX7_shapeBy_23 : decode cX7_shapeBy 23 = .ok (.invokevirtual 94, 3) := dk182 (k := 23) bX7_shapeBy_0 rfl rfl
theorem bX7_shapeBy_26 : bL cX7_shapeBy 26 [42, 180, 0, 98, 172] := bL_of (by decide +kernel)
theorem dX7_shapeBy_26 : decode cX7_shapeBy 26 = .ok (.aload_n 0, 1) := dk42 (k := 0) bX7_shapeBy_26 rfl
theorem dX7_shapeBy_27 : decode cX7_shapeBy 27 = .ok (.getfield 98, 3) := dk180 (k := 1) bX7_shapeBy_26 rfl rfl
theorem dX7_shapeBy_30 : decode cX7_shapeBy 30 = .ok (.ireturn, 1) := dk172 (k := 4) bX7_shapeBy_26 rfl
theorem bX7_shapedCell_0 : bL cX7_shapedCell 0 [27, 155, 0, 21, 27, 42, 180, 0, 18, 190, 162, 0, 12, 42, 180, 0, 18, 27, 46, 167, 0, 4, 2, 172] := bL_of (by decide +kernel)
theorem dX7_shapedCell_0 : decode cX7_shapedCell 0 = .ok (.iload_n 1, 1) := dk27 (k := 0) bX7_shapedCell_0 rfl
theorem dX7_shapedCell_1 : decode cX7_shapedCell 1 = .ok (.ifCond .lt 21, 3) := dk155 (k := 1) bX7_shapedCell_0 rfl (by decide)
theorem dX7_shapedCell_4 : decode cX7_shapedCell 4 = .ok (.iload_n 1, 1) := dk27 (k := 4) bX7_shapedCell_0 rfl
theorem dX7_shapedCell_5 : decode cX7_shapedCell 5 = .ok (.aload_n 0, 1) := dk42 (k := 5) bX7_shapedCell_0 rfl
theorem dX7_shapedCell_6 : decode cX7_shapedCell 6 = .ok (.getfield 18, 3) := dk180 (k := 6) bX7_shapedCell_0 rfl rfl
theorem dX7_shapedCell_9 : decode cX7_shapedCell 9 = .ok (.arraylength, 1) := dk190 (k := 9) bX7_shapedCell_0 rfl
theorem dX7_shapedCell_10 : decode cX7_shapedCell 10 = .ok (.if_icmp .ge 12, 3) := dk162 (k := 10) bX7_shapedCell_0 rfl (by decide)
theorem dX7_shapedCell_13 : decode cX7_shapedCell 13 = .ok (.aload_n 0, 1) := dk42 (k := 13) bX7_shapedCell_0 rfl
theorem dX7_shapedCell_14 : decode cX7_shapedCell 14 = .ok (.getfield 18, 3) := dk180 (k := 14) bX7_shapedCell_0 rfl rfl
theorem dX7_shapedCell_17 : decode cX7_shapedCell 17 = .ok (.iload_n 1, 1) := dk27 (k := 17) bX7_shapedCell_0 rfl
theorem dX7_shapedCell_18 : decode cX7_shapedCell 18 = .ok (.iaload, 1) := dk46 (k := 18) bX7_shapedCell_0 rfl
theorem dX7_shapedCell_19 : decode cX7_shapedCell 19 = .ok (.goto 4, 3) := dk167 (k := 19) bX7_shapedCell_0 rfl (by decide)
theorem dX7_shapedCell_22 : decode cX7_shapedCell 22 = .ok (.iconst (-1), 1) := dk2 (k := 22) bX7_shapedCell_0 rfl
theorem dX7_shapedCell_23 : decode cX7_shapedCell 23 = .ok (.ireturn, 1) := dk172 (k := 23) bX7_shapedCell_0 rfl
theorem bX7_search_0 : bL cX7_search 0 [28, 27, 162, 0, 8, 28, 6, 161, 0, 8, 42, 182, 0, 101, 177, 29, 54, 4, 21, 4, 42, 180, 0, 25] := bL_of (by decide +kernel)
theorem dX7_search_0 : decode cX7_search 0 = .ok (.iload_n 2, 1) := dk28 (k := 0) bX7_search_0 rfl
theorem dX7_search_1 : decode cX7_search 1 = .ok (.iload_n 1, 1) := dk27 (k := 1) bX7_search_0 rfl
theorem dX7_search_2 : decode cX7_search 2 = .ok (.if_icmp .ge 8, 3) := dk162 (k := 2) bX7_search_0 rfl (by decide)
theorem dX7_search_5 : decode cX7_search 5 = .ok (.iload_n 2, 1) := dk28 (k := 5) bX7_search_0 rfl
theorem dX7_search_6 : decode cX7_search 6 = .ok (.iconst 3, 1) := dk6 (k := 6) bX7_search_0 rfl
theorem dX7_search_7 : decode cX7_search 7 = .ok (.if_icmp .lt 8, 3) := dk161 (k := 7) bX7_search_0 rfl (by decide)
theorem dX7_search_10 : decode cX7_search 10 = .ok (.aload_n 0, 1) := dk42 (k := 10) bX7_search_0 rfl
theorem dX7_search_11 : decode cX7_search 11 = .ok (.invokevirtual 101, 3) := dk182 (k := 11) bX7_search_0 rfl rfl
theorem dX7_search_14 : decode cX7_search 14 = .ok (.return_, 1) := dk177 (k := 14) bX7_search_0 rfl
theorem dX7_search_15 : decode cX7_search 15 = .ok (.iload_n 3, 1) := dk29 (k := 15) bX7_search_0 rfl
theorem dX7_search_16 : decode cX7_search 16 = .ok (.istore 4, 2) := dk54 (k := 16) bX7_search_0 rfl rfl
theorem dX7_search_18 : decode cX7_search 18 = .ok (.iload 4, 2) := dk21 (k := 18) bX7_search_0 rfl rfl
theorem dX7_search_20 : decode cX7_search 20 = .ok (.aload_n 0, 1) := dk42 (k := 20) bX7_search_0 rfl
theorem dX7_search_21 : decode cX7_search 21 = .ok (.getfield 25, 3) := dk180 (k := 21) bX7_search_0 rfl rfl
theorem bX7_search_24 : bL cX7_search 24 [180, 0, 40, 162, 0, 59, 42, 180, 0, 25, 21, 4, 182, 0, 44, 158, 0, 41, 42, 180, 0, 25, 21, 4] := bL_of (by decide +kernel)
theorem dX7_search_24 : decode cX7_search 24 = .ok (.getfield 40, 3) := dk180 (k := 0) bX7_search_24 rfl rfl
theorem dX7_search_27 : decode cX7_search 27 = .ok (.if_icmp .ge 59, 3) := dk162 (k := 3) bX7_search_24 rfl (by decide)
theorem dX7_search_30 : decode cX7_search 30 = .ok (.aload_n 0, 1) := dk42 (k := 6) bX7_search_24 rfl
theorem dX7_search_31 : decode cX7_search 31 = .ok (.getfield 25, 3) := dk180 (k := 7) bX7_search_24 rfl rfl
theorem dX7_search_34 : decode cX7_search 34 = .ok (.iload 4, 2) := dk21 (k := 10) bX7_search_24 rfl rfl
theorem dX7_search_36 : decode cX7_search 36 = .ok (.invokevirtual 44, 3) := dk182 (k := 12) bX7_search_24 rfl rfl
theorem dX7_search_39 : decode cX7_search 39 = .ok (.ifCond .le 41, 3) := dk158 (k := 15) bX7_search_24 rfl (by decide)
theorem dX7_search_42 : decode cX7_search 42 = .ok (.aload_n 0, 1) := dk42 (k := 18) bX7_search_24 rfl
theorem dX7_search_43 : decode cX7_search 43 = .ok (.getfield 25, 3) := dk180 (k := 19) bX7_search_24 rfl rfl
theorem dX7_search_46 : decode cX7_search 46 = .ok (.iload 4, 2) := dk21 (k := 22) bX7_search_24 rfl rfl
theorem bX7_search_48 : bL cX7_search 48 [2, 182, 0, 48, 42, 180, 0, 15, 28, 21, 4, 79, 42, 27, 28, 4, 96, 21, 4, 182, 0, 94, 42, 180, 0, 25] := bL_of (by decide +kernel)
theorem dX7_search_48 : decode cX7_search 48 = .ok (.iconst (-1), 1) := dk2 (k := 0) bX7_search_48 rfl
theorem dX7_search_49 : decode cX7_search 49 = .ok (.invokevirtual 48, 3) := dk182 (k := 1) bX7_search_48 rfl rfl
theorem dX7_search_52 : decode cX7_search 52 = .ok (.aload_n 0, 1) := dk42 (k := 4) bX7_search_48 rfl
theorem dX7_search_53 : decode cX7_search 53 = .ok (.getfield 15, 3) := dk180 (k := 5) bX7_search_48 rfl rfl
theorem dX7_search_56 : decode cX7_search 56 = .ok (.iload_n 2, 1) := dk28 (k := 8) bX7_search_48 rfl
theorem dX7_search_57 : decode cX7_search 57 = .ok (.iload 4, 2) := dk21 (k := 9) bX7_search_48 rfl rfl
theorem dX7_search_59 : decode cX7_search 59 = .ok (.iastore, 1) := dk79 (k := 11) bX7_search_48 rfl
theorem dX7_search_60 : decode cX7_search 60 = .ok (.aload_n 0, 1) := dk42 (k := 12) bX7_search_48 rfl
theorem dX7_search_61 : decode cX7_search 61 = .ok (.iload_n 1, 1) := dk27 (k := 13) bX7_search_48 rfl
theorem dX7_search_62 : decode cX7_search 62 = .ok (.iload_n 2, 1) := dk28 (k := 14) bX7_search_48 rfl
theorem dX7_search_63 : decode cX7_search 63 = .ok (.iconst 1, 1) := dk4 (k := 15) bX7_search_48 rfl
theorem dX7_search_64 : decode cX7_search 64 = .ok (.iadd, 1) := dk96 (k := 16) bX7_search_48 rfl
theorem dX7_search_65 : decode cX7_search 65 = .ok (.iload 4, 2) := dk21 (k := 17) bX7_search_48 rfl rfl
theorem dX7_search_67 : decode cX7_search 67 = .ok (.invokevirtual 94, 3) := dk182 (k := 19) bX7_search_48 rfl rfl
theorem dX7_search_70 : decode cX7_search 70 = .ok (.aload_n 0, 1) := dk42 (k := 22) bX7_search_48 rfl
theorem dX7_search_71 : decode cX7_search 71 = .ok (.getfield 25, 3) := dk180 (k := 23) bX7_search_48 rfl rfl
theorem bX7_search_74 : bL cX7_search 74 [21, 4, 4, 182, 0, 48, 132, 4, 1, 167, 255, 191, 177] := bL_of (by decide +kernel)
theorem dX7_search_74 : decode cX7_search 74 = .ok (.iload 4, 2) := dk21 (k := 0) bX7_search_74 rfl rfl
theorem dX7_search_76 : decode cX7_search 76 = .ok (.iconst 1, 1) := dk4 (k := 2) bX7_search_74 rfl
theorem dX7_search_77 : decode cX7_search 77 = .ok (.invokevirtual 48, 3) := dk182 (k := 3) bX7_search_74 rfl rfl
theorem dX7_search_80 : decode cX7_search 80 = .ok (.iinc 4 1, 3) := dk132 (k := 6) bX7_search_74 rfl rfl (by decide)
theorem dX7_search_83 : decode cX7_search 83 = .ok (.goto (-65), 3) := dk167 (k := 9) bX7_search_74 rfl (by decide)
theorem dX7_search_86 : decode cX7_search 86 = .ok (.return_, 1) := dk177 (k := 12) bX7_search_74 rfl
theorem bX7_keepIfBetter_0 : bL cX7_keepIfBetter 0 [42, 180, 0, 21, 180, 0, 52, 42, 180, 0, 25, 182, 0, 104, 60, 42, 180, 0, 90, 153, 0, 12, 27, 42] := bL_of (by decide +kernel)
theorem dX7_keepIfBetter_0 : decode cX7_keepIfBetter 0 = .ok (.aload_n 0, 1) := dk42 (k := 0) bX7_keepIfBetter_0 rfl
theorem dX7_keepIfBetter_1 : decode cX7_keepIfBetter 1 = .ok (.getfield 21, 3) := dk180 (k := 1) bX7_keepIfBetter_0 rfl rfl
theorem dX7_keepIfBetter_4 : decode cX7_keepIfBetter 4 = .ok (.getfield 52, 3) := dk180 (k := 4) bX7_keepIfBetter_0 rfl rfl
theorem dX7_keepIfBetter_7 : decode cX7_keepIfBetter 7 = .ok (.aload_n 0, 1) := dk42 (k := 7) bX7_keepIfBetter_0 rfl
theorem dX7_keepIfBetter_8 : decode cX7_keepIfBetter 8 = .ok (.getfield 25, 3) := dk180 (k := 8) bX7_keepIfBetter_0 rfl rfl
theorem dX7_keepIfBetter_11 : decode cX7_keepIfBetter 11 = .ok (.invokevirtual 104, 3) := dk182 (k := 11) bX7_keepIfBetter_0 rfl rfl
theorem dX7_keepIfBetter_14 : decode cX7_keepIfBetter 14 = .ok (.istore_n 1, 1) := dk60 (k := 14) bX7_keepIfBetter_0 rfl
theorem dX7_keepIfBetter_15 : decode cX7_keepIfBetter 15 = .ok (.aload_n 0, 1) := dk42 (k := 15) bX7_keepIfBetter_0 rfl
theorem dX7_keepIfBetter_16 : decode cX7_keepIfBetter 16 = .ok (.getfield 90, 3) := dk180 (k := 16) bX7_keepIfBetter_0 rfl rfl
theorem dX7_keepIfBetter_19 : decode cX7_keepIfBetter 19 = .ok (.ifCond .eq 12, 3) := dk153 (k := 19) bX7_keepIfBetter_0 rfl (by decide)
theorem dX7_keepIfBetter_22 : decode cX7_keepIfBetter 22 = .ok (.iload_n 1, 1) := dk27 (k := 22) bX7_keepIfBetter_0 rfl
theorem dX7_keepIfBetter_23 : decode cX7_keepIfBetter 23 = .ok (.aload_n 0, 1) := dk42 (k := 23) bX7_keepIfBetter_0 rfl
theorem bX7_keepIfBetter_24 : bL cX7_keepIfBetter 24 [180, 0, 98, 163, 0, 4, 177, 42, 4, 181, 0, 90, 42, 27, 181, 0, 98, 3, 61, 28, 6, 162, 0, 21] := bL_of (by decide +kernel)
theorem dX7_keepIfBetter_24 : decode cX7_keepIfBetter 24 = .ok (.getfield 98, 3) := dk180 (k := 0) bX7_keepIfBetter_24 rfl rfl
theorem dX7_keepIfBetter_27 : decode cX7_keepIfBetter 27 = .ok (.if_icmp .gt 4, 3) := dk163 (k := 3) bX7_keepIfBetter_24 rfl (by decide)
theorem dX7_keepIfBetter_30 : decode cX7_keepIfBetter 30 = .ok (.return_, 1) := dk177 (k := 6) bX7_keepIfBetter_24 rfl
theorem dX7_keepIfBetter_31 : decode cX7_keepIfBetter 31 = .ok (.aload_n 0, 1) := dk42 (k := 7) bX7_keepIfBetter_24 rfl
theorem dX7_keepIfBetter_32 : decode cX7_keepIfBetter 32 = .ok (.iconst 1, 1) := dk4 (k := 8) bX7_keepIfBetter_24 rfl
theorem dX7_keepIfBetter_33 : decode cX7_keepIfBetter 33 = .ok (.putfield 90, 3) := dk181 (k := 9) bX7_keepIfBetter_24 rfl rfl
theorem dX7_keepIfBetter_36 : decode cX7_keepIfBetter 36 = .ok (.aload_n 0, 1) := dk42 (k := 12) bX7_keepIfBetter_24 rfl
theorem dX7_keepIfBetter_37 : decode cX7_keepIfBetter 37 = .ok (.iload_n 1, 1) := dk27 (k := 13) bX7_keepIfBetter_24 rfl
theorem dX7_keepIfBetter_38 : decode cX7_keepIfBetter 38 = .ok (.putfield 98, 3) := dk181 (k := 14) bX7_keepIfBetter_24 rfl rfl
theorem dX7_keepIfBetter_41 : decode cX7_keepIfBetter 41 = .ok (.iconst 0, 1) := dk3 (k := 17) bX7_keepIfBetter_24 rfl
theorem dX7_keepIfBetter_42 : decode cX7_keepIfBetter 42 = .ok (.istore_n 2, 1) := dk61 (k := 18) bX7_keepIfBetter_24 rfl
theorem dX7_keepIfBetter_43 : decode cX7_keepIfBetter 43 = .ok (.iload_n 2, 1) := dk28 (k := 19) bX7_keepIfBetter_24 rfl
theorem dX7_keepIfBetter_44 : decode cX7_keepIfBetter 44 = .ok (.iconst 3, 1) := dk6 (k := 20) bX7_keepIfBetter_24 rfl
theorem dX7_keepIfBetter_45 : decode cX7_keepIfBetter 45 = .ok (.if_icmp .ge 21, 3) := dk162 (k := 21) bX7_keepIfBetter_24 rfl (by decide)
theorem bX7_keepIfBetter_48 : bL cX7_keepIfBetter 48 [42, 180, 0, 18, 28, 42, 180, 0, 15, 28, 46, 79, 132, 2, 1, 167, 255, 236, 177] := bL_of (by decide +kernel)
theorem dX7_keepIfBetter_48 : decode cX7_keepIfBetter 48 = .ok (.aload_n 0, 1) := dk42 (k := 0) bX7_keepIfBetter_48 rfl
theorem dX7_keepIfBetter_49 : decode cX7_keepIfBetter 49 = .ok (.getfield 18, 3) := dk180 (k := 1) bX7_keepIfBetter_48 rfl rfl
theorem dX7_keepIfBetter_52 : decode cX7_keepIfBetter 52 = .ok (.iload_n 2, 1) := dk28 (k := 4) bX7_keepIfBetter_48 rfl
theorem dX7_keepIfBetter_53 : decode cX7_keepIfBetter 53 = .ok (.aload_n 0, 1) := dk42 (k := 5) bX7_keepIfBetter_48 rfl
theorem dX7_keepIfBetter_54 : decode cX7_keepIfBetter 54 = .ok (.getfield 15, 3) := dk180 (k := 6) bX7_keepIfBetter_48 rfl rfl
theorem dX7_keepIfBetter_57 : decode cX7_keepIfBetter 57 = .ok (.iload_n 2, 1) := dk28 (k := 9) bX7_keepIfBetter_48 rfl
theorem dX7_keepIfBetter_58 : decode cX7_keepIfBetter 58 = .ok (.iaload, 1) := dk46 (k := 10) bX7_keepIfBetter_48 rfl
theorem dX7_keepIfBetter_59 : decode cX7_keepIfBetter 59 = .ok (.iastore, 1) := dk79 (k := 11) bX7_keepIfBetter_48 rfl
theorem dX7_keepIfBetter_60 : decode cX7_keepIfBetter 60 = .ok (.iinc 2 1, 3) := dk132 (k := 12) bX7_keepIfBetter_48 rfl rfl (by decide)
theorem dX7_keepIfBetter_63 : decode cX7_keepIfBetter 63 = .ok (.goto (-20), 3) := dk167 (k := 15) bX7_keepIfBetter_48 rfl (by decide)
theorem dX7_keepIfBetter_66 : decode cX7_keepIfBetter 66 = .ok (.return_, 1) := dk177 (k := 18) bX7_keepIfBetter_48 rfl
theorem bX7_spoilCell_0 : bL cX7_spoilCell 0 [42, 180, 0, 25, 42, 180, 0, 21, 180, 0, 29, 182, 0, 34, 2, 60, 3, 61, 3, 62, 29, 42, 180, 0, 25] := bL_of (by decide +kernel)
theorem dX7_spoilCell_0 : decode cX7_spoilCell 0 = .ok (.aload_n 0, 1) := dk42 (k := 0) bX7_spoilCell_0 rfl
theorem dX7_spoilCell_1 : decode cX7_spoilCell 1 = .ok (.getfield 25, 3) := dk180 (k := 1) bX7_spoilCell_0 rfl rfl
theorem dX7_spoilCell_4 : decode cX7_spoilCell 4 = .ok (.aload_n 0, 1) := dk42 (k := 4) bX7_spoilCell_0 rfl
theorem dX7_spoilCell_5 : decode cX7_spoilCell 5 = .ok (.getfield 21, 3) := dk180 (k := 5) bX7_spoilCell_0 rfl rfl
theorem dX7_spoilCell_8 : decode cX7_spoilCell 8 = .ok (.getfield 29, 3) := dk180 (k := 8) bX7_spoilCell_0 rfl rfl
theorem dX7_spoilCell_11 : decode cX7_spoilCell 11 = .ok (.invokevirtual 34, 3) := dk182 (k := 11) bX7_spoilCell_0 rfl rfl
theorem dX7_spoilCell_14 : decode cX7_spoilCell 14 = .ok (.iconst (-1), 1) := dk2 (k := 14) bX7_spoilCell_0 rfl
theorem dX7_spoilCell_15 : decode cX7_spoilCell 15 = .ok (.istore_n 1, 1) := dk60 (k := 15) bX7_spoilCell_0 rfl
theorem dX7_spoilCell_16 : decode cX7_spoilCell 16 = .ok (.iconst 0, 1) := dk3 (k := 16) bX7_spoilCell_0 rfl
theorem dX7_spoilCell_17 : decode cX7_spoilCell 17 = .ok (.istore_n 2, 1) := dk61 (k := 17) bX7_spoilCell_0 rfl
theorem dX7_spoilCell_18 : decode cX7_spoilCell 18 = .ok (.iconst 0, 1) := dk3 (k := 18) bX7_spoilCell_0 rfl
theorem dX7_spoilCell_19 : decode cX7_spoilCell 19 = .ok (.istore_n 3, 1) := dk62 (k := 19) bX7_spoilCell_0 rfl
theorem dX7_spoilCell_20 : decode cX7_spoilCell 20 = .ok (.iload_n 3, 1) := dk29 (k := 20) bX7_spoilCell_0 rfl
theorem dX7_spoilCell_21 : decode cX7_spoilCell 21 = .ok (.aload_n 0, 1) := dk42 (k := 21) bX7_spoilCell_0 rfl
theorem dX7_spoilCell_22 : decode cX7_spoilCell 22 = .ok (.getfield 25, 3) := dk180 (k := 22) bX7_spoilCell_0 rfl rfl
theorem bX7_spoilCell_25 : bL cX7_spoilCell 25 [180, 0, 40, 162, 0, 77, 42, 180, 0, 25, 29, 182, 0, 108, 54, 4, 21, 4, 2, 159, 0, 55, 42, 180, 0, 25] := bL_of (by decide +kernel)
theorem dX7_spoilCell_25 : decode cX7_spoilCell 25 = .ok (.getfield 40, 3) := dk180 (k := 0) bX7_spoilCell_25 rfl rfl
theorem dX7_spoilCell_28 : decode cX7_spoilCell 28 = .ok (.if_icmp .ge 77, 3) := dk162 (k := 3) bX7_spoilCell_25 rfl (by decide)
theorem dX7_spoilCell_31 : decode cX7_spoilCell 31 = .ok (.aload_n 0, 1) := dk42 (k := 6) bX7_spoilCell_25 rfl
theorem dX7_spoilCell_32 : decode cX7_spoilCell 32 = .ok (.getfield 25, 3) := dk180 (k := 7) bX7_spoilCell_25 rfl rfl
theorem dX7_spoilCell_35 : decode cX7_spoilCell 35 = .ok (.iload_n 3, 1) := dk29 (k := 10) bX7_spoilCell_25 rfl
theorem dX7_spoilCell_36 : decode cX7_spoilCell 36 = .ok (.invokevirtual 108, 3) := dk182 (k := 11) bX7_spoilCell_25 rfl rfl
theorem dX7_spoilCell_39 : decode cX7_spoilCell 39 = .ok (.istore 4, 2) := dk54 (k := 14) bX7_spoilCell_25 rfl rfl
theorem dX7_spoilCell_41 : decode cX7_spoilCell 41 = .ok (.iload 4, 2) := dk21 (k := 16) bX7_spoilCell_25 rfl rfl
theorem dX7_spoilCell_43 : decode cX7_spoilCell 43 = .ok (.iconst (-1), 1) := dk2 (k := 18) bX7_spoilCell_25 rfl
theorem dX7_spoilCell_44 : decode cX7_spoilCell 44 = .ok (.if_icmp .eq 55, 3) := dk159 (k := 19) bX7_spoilCell_25 rfl (by decide)
theorem dX7_spoilCell_47 : decode cX7_spoilCell 47 = .ok (.aload_n 0, 1) := dk42 (k := 22) bX7_spoilCell_25 rfl
theorem dX7_spoilCell_48 : decode cX7_spoilCell 48 = .ok (.getfield 25, 3) := dk180 (k := 23) bX7_spoilCell_25 rfl rfl
theorem bX7_spoilCell_51 : bL cX7_spoilCell 51 [21, 4, 4, 182, 0, 48, 42, 180, 0, 21, 180, 0, 52, 42, 180, 0, 25, 182, 0, 104, 54, 5, 42, 180, 0, 25] := bL_of (by decide +kernel)
theorem dX7_spoilCell_51 : decode cX7_spoilCell 51 = .ok (.iload 4, 2) := dk21 (k := 0) bX7_spoilCell_51 rfl rfl
theorem dX7_spoilCell_53 : decode cX7_spoilCell 53 = .ok (.iconst 1, 1) := dk4 (k := 2) bX7_spoilCell_51 rfl
theorem dX7_spoilCell_54 : decode cX7_spoilCell 54 = .ok (.invokevirtual 48, 3) := dk182 (k := 3) bX7_spoilCell_51 rfl rfl
theorem dX7_spoilCell_57 : decode cX7_spoilCell 57 = .ok (.aload_n 0, 1) := dk42 (k := 6) bX7_spoilCell_51 rfl
theorem dX7_spoilCell_58 : decode cX7_spoilCell 58 = .ok (.getfield 21, 3) := dk180 (k := 7) bX7_spoilCell_51 rfl rfl
theorem dX7_spoilCell_61 : decode cX7_spoilCell 61 = .ok (.getfield 52, 3) := dk180 (k := 10) bX7_spoilCell_51 rfl rfl
theorem dX7_spoilCell_64 : decode cX7_spoilCell 64 = .ok (.aload_n 0, 1) := dk42 (k := 13) bX7_spoilCell_51 rfl
theorem dX7_spoilCell_65 : decode cX7_spoilCell 65 = .ok (.getfield 25, 3) := dk180 (k := 14) bX7_spoilCell_51 rfl rfl
theorem dX7_spoilCell_68 : decode cX7_spoilCell 68 = .ok (.invokevirtual 104, 3) := dk182 (k := 17) bX7_spoilCell_51 rfl rfl
theorem dX7_spoilCell_71 : decode cX7_spoilCell 71 = .ok (.istore 5, 2) := dk54 (k := 20) bX7_spoilCell_51 rfl rfl
theorem dX7_spoilCell_73 : decode cX7_spoilCell 73 = .ok (.aload_n 0, 1) := dk42 (k := 22) bX7_spoilCell_51 rfl
theorem dX7_spoilCell_74 : decode cX7_spoilCell 74 = .ok (.getfield 25, 3) := dk180 (k := 23) bX7_spoilCell_51 rfl rfl
theorem bX7_spoilCell_77 : bL cX7_spoilCell 77 [21, 4, 2, 182, 0, 48, 27, 2, 159, 0, 9, 21, 5, 28, 164, 0, 8, 29, 60, 21, 5, 61, 132, 3, 1] := bL_of (by decide +kernel)
theorem dX7_spoilCell_77 : decode cX7_spoilCell 77 = .ok (.iload 4, 2) := dk21 (k := 0) bX7_spoilCell_77 rfl rfl
theorem dX7_spoilCell_79 : decode cX7_spoilCell 79 = .ok (.iconst (-1), 1) := dk2 (k := 2) bX7_spoilCell_77 rfl
theorem dX7_spoilCell_80 : decode cX7_spoilCell 80 = .ok (.invokevirtual 48, 3) := dk182 (k := 3) bX7_spoilCell_77 rfl rfl
theorem dX7_spoilCell_83 : decode cX7_spoilCell 83 = .ok (.iload_n 1, 1) := dk27 (k := 6) bX7_spoilCell_77 rfl
theorem dX7_spoilCell_84 : decode cX7_spoilCell 84 = .ok (.iconst (-1), 1) := dk2 (k := 7) bX7_spoilCell_77 rfl
theorem dX7_spoilCell_85 : decode cX7_spoilCell 85 = .ok (.if_icmp .eq 9, 3) := dk159 (k := 8) bX7_spoilCell_77 rfl (by decide)
theorem dX7_spoilCell_88 : decode cX7_spoilCell 88 = .ok (.iload 5, 2) := dk21 (k := 11) bX7_spoilCell_77 rfl rfl
theorem dX7_spoilCell_90 : decode cX7_spoilCell 90 = .ok (.iload_n 2, 1) := dk28 (k := 13) bX7_spoilCell_77 rfl
theorem dX7_spoilCell_91 : decode cX7_spoilCell 91 = .ok (.if_icmp .le 8, 3) := dk164 (k := 14) bX7_spoilCell_77 rfl (by decide)
theorem dX7_spoilCell_94 : decode cX7_spoilCell 94 = .ok (.iload_n 3, 1) := dk29 (k := 17) bX7_spoilCell_77 rfl
theorem dX7_spoilCell_95 : decode cX7_spoilCell 95 = .ok (.istore_n 1, 1) := dk60 (k := 18) bX7_spoilCell_77 rfl
theorem dX7_spoilCell_96 : decode cX7_spoilCell 96 = .ok (.iload 5, 2) := dk21 (k := 19) bX7_spoilCell_77 rfl rfl
theorem dX7_spoilCell_98 : decode cX7_spoilCell 98 = .ok (.istore_n 2, 1) := dk61 (k := 21) bX7_spoilCell_77 rfl
theorem dX7_spoilCell_99 : decode cX7_spoilCell 99 = .ok (.iinc 3 1, 3) := dk132 (k := 22) bX7_spoilCell_77 rfl rfl (by decide)
theorem bX7_spoilCell_102 : bL cX7_spoilCell 102 [167, 255, 174, 27, 172] := bL_of (by decide +kernel)
theorem dX7_spoilCell_102 : decode cX7_spoilCell 102 = .ok (.goto (-82), 3) := dk167 (k := 0) bX7_spoilCell_102 rfl (by decide)
theorem dX7_spoilCell_105 : decode cX7_spoilCell 105 = .ok (.iload_n 1, 1) := dk27 (k := 3) bX7_spoilCell_102 rfl
theorem dX7_spoilCell_106 : decode cX7_spoilCell 106 = .ok (.ireturn, 1) := dk172 (k := 4) bX7_spoilCell_102 rfl
theorem bX8_init_0 : bL cX8_init 0 [42, 183, 0, 3, 42, 7, 16, 60] := bL_of (by decide +kernel)
theorem dX8_init_0 : decode cX8_init 0 = .ok (.aload_n 0, 1) := dk42 (k := 0) bX8_init_0 rfl
theorem dX8_init_1 : decode cX8_init 1 = .ok (.invokespecial 3, 3) := dk183 (k := 1) bX8_init_0 rfl rfl
theorem dX8_init_4 : decode cX8_init 4 = .ok (.aload_n 0, 1) := dk42 (k := 4) bX8_init_0 rfl
theorem dX8_init_5 : decode cX8_init 5 = .ok (.iconst 4, 1) := dk7 (k := 5) bX8_init_0 rfl
theorem dX8_init_6 : decode cX8_init 6 = .ok (.bipush 60, 2) := dk16 (k := 6) bX8_init_0 rfl (by decide)
theorem dX8_init_8 : decode cX8_init 8 = .ok (.multianewarray 9 2, 4) := by decide +kernel
theorem bX8_init_12 : bL cX8_init 12 [181, 0, 11, 42, 7] := bL_of (by decide +kernel)
theorem dX8_init_12 : decode cX8_init 12 = .ok (.putfield 11, 3) := dk181 (k := 0) bX8_init_12 rfl rfl
theorem dX8_init_15 : decode cX8_init 15 = .ok (.aload_n 0, 1) := dk42 (k := 3) bX8_init_12 rfl
theorem dX8_init_16 : decode cX8_init 16 = .ok (.iconst 4, 1) := dk7 (k := 4) bX8_init_12 rfl
theorem dX8_init_17 : decode cX8_init 17 = .ok (.newarray .int, 2) := by decide +kernel
theorem bX8_init_19 : bL cX8_init 19 [181, 0, 16, 42, 7] := bL_of (by decide +kernel)
theorem dX8_init_19 : decode cX8_init 19 = .ok (.putfield 16, 3) := dk181 (k := 0) bX8_init_19 rfl rfl
theorem dX8_init_22 : decode cX8_init 22 = .ok (.aload_n 0, 1) := dk42 (k := 3) bX8_init_19 rfl
theorem dX8_init_23 : decode cX8_init 23 = .ok (.iconst 4, 1) := dk7 (k := 4) bX8_init_19 rfl
theorem dX8_init_24 : decode cX8_init 24 = .ok (.newarray .int, 2) := by decide +kernel
theorem bX8_init_26 : bL cX8_init 26 [89, 3, 2, 79, 89, 4, 2, 79, 89, 5, 2, 79, 89, 6, 2, 79, 181, 0, 20, 177] := bL_of (by decide +kernel)
theorem dX8_init_26 : decode cX8_init 26 = .ok (.dup, 1) := dk89 (k := 0) bX8_init_26 rfl
theorem dX8_init_27 : decode cX8_init 27 = .ok (.iconst 0, 1) := dk3 (k := 1) bX8_init_26 rfl
theorem dX8_init_28 : decode cX8_init 28 = .ok (.iconst (-1), 1) := dk2 (k := 2) bX8_init_26 rfl
theorem dX8_init_29 : decode cX8_init 29 = .ok (.iastore, 1) := dk79 (k := 3) bX8_init_26 rfl
theorem dX8_init_30 : decode cX8_init 30 = .ok (.dup, 1) := dk89 (k := 4) bX8_init_26 rfl
theorem dX8_init_31 : decode cX8_init 31 = .ok (.iconst 1, 1) := dk4 (k := 5) bX8_init_26 rfl
theorem dX8_init_32 : decode cX8_init 32 = .ok (.iconst (-1), 1) := dk2 (k := 6) bX8_init_26 rfl
theorem dX8_init_33 : decode cX8_init 33 = .ok (.iastore, 1) := dk79 (k := 7) bX8_init_26 rfl
theorem dX8_init_34 : decode cX8_init 34 = .ok (.dup, 1) := dk89 (k := 8) bX8_init_26 rfl
theorem dX8_init_35 : decode cX8_init 35 = .ok (.iconst 2, 1) := dk5 (k := 9) bX8_init_26 rfl
theorem dX8_init_36 : decode cX8_init 36 = .ok (.iconst (-1), 1) := dk2 (k := 10) bX8_init_26 rfl
theorem dX8_init_37 : decode cX8_init 37 = .ok (.iastore, 1) := dk79 (k := 11) bX8_init_26 rfl
theorem dX8_init_38 : decode cX8_init 38 = .ok (.dup, 1) := dk89 (k := 12) bX8_init_26 rfl
theorem dX8_init_39 : decode cX8_init 39 = .ok (.iconst 3, 1) := dk6 (k := 13) bX8_init_26 rfl
theorem dX8_init_40 : decode cX8_init 40 = .ok (.iconst (-1), 1) := dk2 (k := 14) bX8_init_26 rfl
theorem dX8_init_41 : decode cX8_init 41 = .ok (.iastore, 1) := dk79 (k := 15) bX8_init_26 rfl
theorem dX8_init_42 : decode cX8_init 42 = .ok (.putfield 20, 3) := dk181 (k := 16) bX8_init_26 rfl rfl
theorem dX8_init_45 : decode cX8_init 45 = .ok (.return_, 1) := dk177 (k := 19) bX8_init_26 rfl
theorem bX8_has_0 : bL cX8_has 0 [27, 155, 0, 12, 27, 7, 162, 0, 7, 4, 167, 0, 4, 3, 172] := bL_of (by decide +kernel)
theorem dX8_has_0 : decode cX8_has 0 = .ok (.iload_n 1, 1) := dk27 (k := 0) bX8_has_0 rfl
theorem dX8_has_1 : decode cX8_has 1 = .ok (.ifCond .lt 12, 3) := dk155 (k := 1) bX8_has_0 rfl (by decide)
theorem dX8_has_4 : decode cX8_has 4 = .ok (.iload_n 1, 1) := dk27 (k := 4) bX8_has_0 rfl
theorem dX8_has_5 : decode cX8_has 5 = .ok (.iconst 4, 1) := dk7 (k := 5) bX8_has_0 rfl
theorem dX8_has_6 : decode cX8_has 6 = .ok (.if_icmp .ge 7, 3) := dk162 (k := 6) bX8_has_0 rfl (by decide)
theorem dX8_has_9 : decode cX8_has 9 = .ok (.iconst 1, 1) := dk4 (k := 9) bX8_has_0 rfl
theorem dX8_has_10 : decode cX8_has 10 = .ok (.goto 4, 3) := dk167 (k := 10) bX8_has_0 rfl (by decide)
theorem dX8_has_13 : decode cX8_has 13 = .ok (.iconst 0, 1) := dk3 (k := 13) bX8_has_0 rfl
theorem dX8_has_14 : decode cX8_has 14 = .ok (.ireturn, 1) := dk172 (k := 14) bX8_has_0 rfl
theorem bX8_sizeOf_0 : bL cX8_sizeOf 0 [27, 155, 0, 17, 27, 7, 162, 0, 12, 42, 180, 0, 20, 27, 46, 167, 0, 4, 2, 172] := bL_of (by decide +kernel)
theorem dX8_sizeOf_0 : decode cX8_sizeOf 0 = .ok (.iload_n 1, 1) := dk27 (k := 0) bX8_sizeOf_0 rfl
theorem dX8_sizeOf_1 : decode cX8_sizeOf 1 = .ok (.ifCond .lt 17, 3) := dk155 (k := 1) bX8_sizeOf_0 rfl (by decide)
theorem dX8_sizeOf_4 : decode cX8_sizeOf 4 = .ok (.iload_n 1, 1) := dk27 (k := 4) bX8_sizeOf_0 rfl
theorem dX8_sizeOf_5 : decode cX8_sizeOf 5 = .ok (.iconst 4, 1) := dk7 (k := 5) bX8_sizeOf_0 rfl
theorem dX8_sizeOf_6 : decode cX8_sizeOf 6 = .ok (.if_icmp .ge 12, 3) := dk162 (k := 6) bX8_sizeOf_0 rfl (by decide)
theorem dX8_sizeOf_9 : decode cX8_sizeOf 9 = .ok (.aload_n 0, 1) := dk42 (k := 9) bX8_sizeOf_0 rfl
theorem dX8_sizeOf_10 : decode cX8_sizeOf 10 = .ok (.getfield 20, 3) := dk180 (k := 10) bX8_sizeOf_0 rfl rfl
theorem dX8_sizeOf_13 : decode cX8_sizeOf 13 = .ok (.iload_n 1, 1) := dk27 (k := 13) bX8_sizeOf_0 rfl
theorem dX8_sizeOf_14 : decode cX8_sizeOf 14 = .ok (.iaload, 1) := dk46 (k := 14) bX8_sizeOf_0 rfl
theorem dX8_sizeOf_15 : decode cX8_sizeOf 15 = .ok (.goto 4, 3) := dk167 (k := 15) bX8_sizeOf_0 rfl (by decide)
theorem dX8_sizeOf_18 : decode cX8_sizeOf 18 = .ok (.iconst (-1), 1) := dk2 (k := 18) bX8_sizeOf_0 rfl
theorem dX8_sizeOf_19 : decode cX8_sizeOf 19 = .ok (.ireturn, 1) := dk172 (k := 19) bX8_sizeOf_0 rfl
theorem bX8_isLaid_0 : bL cX8_isLaid 0 [42, 27, 182, 0, 23, 2, 159, 0, 7, 4, 167, 0, 4, 3, 172] := bL_of (by decide +kernel)
theorem dX8_isLaid_0 : decode cX8_isLaid 0 = .ok (.aload_n 0, 1) := dk42 (k := 0) bX8_isLaid_0 rfl
theorem dX8_isLaid_1 : decode cX8_isLaid 1 = .ok (.iload_n 1, 1) := dk27 (k := 1) bX8_isLaid_0 rfl
theorem dX8_isLaid_2 : decode cX8_isLaid 2 = .ok (.invokevirtual 23, 3) := dk182 (k := 2) bX8_isLaid_0 rfl rfl
theorem dX8_isLaid_5 : decode cX8_isLaid 5 = .ok (.iconst (-1), 1) := dk2 (k := 5) bX8_isLaid_0 rfl
theorem dX8_isLaid_6 : decode cX8_isLaid 6 = .ok (.if_icmp .eq 7, 3) := dk159 (k := 6) bX8_isLaid_0 rfl (by decide)
theorem dX8_isLaid_9 : decode cX8_isLaid 9 = .ok (.iconst 1, 1) := dk4 (k := 9) bX8_isLaid_0 rfl
theorem dX8_isLaid_10 : decode cX8_isLaid 10 = .ok (.goto 4, 3) := dk167 (k := 10) bX8_isLaid_0 rfl (by decide)
theorem dX8_isLaid_13 : decode cX8_isLaid 13 = .ok (.iconst 0, 1) := dk3 (k := 13) bX8_isLaid_0 rfl
theorem dX8_isLaid_14 : decode cX8_isLaid 14 = .ok (.ireturn, 1) := dk172 (k := 14) bX8_isLaid_0 rfl
theorem bX8_widthOf_0 : bL cX8_widthOf 0 [42, 27, 182, 0, 27, 153, 0, 12, 42, 180, 0, 16, 27, 46, 167, 0, 4, 2, 172] := bL_of (by decide +kernel)
theorem dX8_widthOf_0 : decode cX8_widthOf 0 = .ok (.aload_n 0, 1) := dk42 (k := 0) bX8_widthOf_0 rfl
theorem dX8_widthOf_1 : decode cX8_widthOf 1 = .ok (.iload_n 1, 1) := dk27 (k := 1) bX8_widthOf_0 rfl
theorem dX8_widthOf_2 : decode cX8_widthOf 2 = .ok (.invokevirtual 27, 3) := dk182 (k := 2) bX8_widthOf_0 rfl rfl
theorem dX8_widthOf_5 : decode cX8_widthOf 5 = .ok (.ifCond .eq 12, 3) := dk153 (k := 5) bX8_widthOf_0 rfl (by decide)
theorem dX8_widthOf_8 : decode cX8_widthOf 8 = .ok (.aload_n 0, 1) := dk42 (k := 8) bX8_widthOf_0 rfl
theorem dX8_widthOf_9 : decode cX8_widthOf 9 = .ok (.getfield 16, 3) := dk180 (k := 9) bX8_widthOf_0 rfl rfl
theorem dX8_widthOf_12 : decode cX8_widthOf 12 = .ok (.iload_n 1, 1) := dk27 (k := 12) bX8_widthOf_0 rfl
theorem dX8_widthOf_13 : decode cX8_widthOf 13 = .ok (.iaload, 1) := dk46 (k := 13) bX8_widthOf_0 rfl
theorem dX8_widthOf_14 : decode cX8_widthOf 14 = .ok (.goto 4, 3) := dk167 (k := 14) bX8_widthOf_0 rfl (by decide)
theorem dX8_widthOf_17 : decode cX8_widthOf 17 = .ok (.iconst (-1), 1) := dk2 (k := 17) bX8_widthOf_0 rfl
theorem dX8_widthOf_18 : decode cX8_widthOf 18 = .ok (.ireturn, 1) := dk172 (k := 18) bX8_widthOf_0 rfl
theorem bX8_rows_0 : bL cX8_rows 0 [3, 60, 3, 61, 28, 7, 162, 0, 20, 42, 28, 182, 0, 31, 153, 0, 6, 132, 1, 1, 132, 2, 1, 167, 255, 237] := bL_of (by decide +kernel)
theorem dX8_rows_0 : decode cX8_rows 0 = .ok (.iconst 0, 1) := dk3 (k := 0) bX8_rows_0 rfl
theorem dX8_rows_1 : decode cX8_rows 1 = .ok (.istore_n 1, 1) := dk60 (k := 1) bX8_rows_0 rfl
theorem dX8_rows_2 : decode cX8_rows 2 = .ok (.iconst 0, 1) := dk3 (k := 2) bX8_rows_0 rfl
theorem dX8_rows_3 : decode cX8_rows 3 = .ok (.istore_n 2, 1) := dk61 (k := 3) bX8_rows_0 rfl
theorem dX8_rows_4 : decode cX8_rows 4 = .ok (.iload_n 2, 1) := dk28 (k := 4) bX8_rows_0 rfl
theorem dX8_rows_5 : decode cX8_rows 5 = .ok (.iconst 4, 1) := dk7 (k := 5) bX8_rows_0 rfl
theorem dX8_rows_6 : decode cX8_rows 6 = .ok (.if_icmp .ge 20, 3) := dk162 (k := 6) bX8_rows_0 rfl (by decide)
theorem dX8_rows_9 : decode cX8_rows 9 = .ok (.aload_n 0, 1) := dk42 (k := 9) bX8_rows_0 rfl
theorem dX8_rows_10 : decode cX8_rows 10 = .ok (.iload_n 2, 1) := dk28 (k := 10) bX8_rows_0 rfl
theorem dX8_rows_11 : decode cX8_rows 11 = .ok (.invokevirtual 31, 3) := dk182 (k := 11) bX8_rows_0 rfl rfl
theorem dX8_rows_14 : decode cX8_rows 14 = .ok (.ifCond .eq 6, 3) := dk153 (k := 14) bX8_rows_0 rfl (by decide)
theorem dX8_rows_17 : decode cX8_rows 17 = .ok (.iinc 1 1, 3) := dk132 (k := 17) bX8_rows_0 rfl rfl (by decide)
theorem dX8_rows_20 : decode cX8_rows 20 = .ok (.iinc 2 1, 3) := dk132 (k := 20) bX8_rows_0 rfl rfl (by decide)
theorem dX8_rows_23 : decode cX8_rows 23 = .ok (.goto (-19), 3) := dk167 (k := 23) bX8_rows_0 rfl (by decide)
theorem bX8_rows_26 : bL cX8_rows 26 [27, 172] := bL_of (by decide +kernel)
theorem dX8_rows_26 : decode cX8_rows 26 = .ok (.iload_n 1, 1) := dk27 (k := 0) bX8_rows_26 rfl
theorem dX8_rows_27 : decode cX8_rows 27 = .ok (.ireturn, 1) := dk172 (k := 1) bX8_rows_26 rfl
theorem bX8_spans_0 : bL cX8_spans 0 [28, 155, 0, 31, 29, 155, 0, 27, 29, 42, 27, 182, 0, 23, 163, 0, 18, 28, 42, 27, 182, 0, 23, 29] := bL_of (by decide +kernel)
theorem dX8_spans_0 : decode cX8_spans 0 = .ok (.iload_n 2, 1) := dk28 (k := 0) bX8_spans_0 rfl
theorem dX8_spans_1 : decode cX8_spans 1 = .ok (.ifCond .lt 31, 3) := dk155 (k := 1) bX8_spans_0 rfl (by decide)
theorem dX8_spans_4 : decode cX8_spans 4 = .ok (.iload_n 3, 1) := dk29 (k := 4) bX8_spans_0 rfl
theorem dX8_spans_5 : decode cX8_spans 5 = .ok (.ifCond .lt 27, 3) := dk155 (k := 5) bX8_spans_0 rfl (by decide)
theorem dX8_spans_8 : decode cX8_spans 8 = .ok (.iload_n 3, 1) := dk29 (k := 8) bX8_spans_0 rfl
theorem dX8_spans_9 : decode cX8_spans 9 = .ok (.aload_n 0, 1) := dk42 (k := 9) bX8_spans_0 rfl
theorem dX8_spans_10 : decode cX8_spans 10 = .ok (.iload_n 1, 1) := dk27 (k := 10) bX8_spans_0 rfl
theorem dX8_spans_11 : decode cX8_spans 11 = .ok (.invokevirtual 23, 3) := dk182 (k := 11) bX8_spans_0 rfl rfl
theorem dX8_spans_14 : decode cX8_spans 14 = .ok (.if_icmp .gt 18, 3) := dk163 (k := 14) bX8_spans_0 rfl (by decide)
theorem dX8_spans_17 : decode cX8_spans 17 = .ok (.iload_n 2, 1) := dk28 (k := 17) bX8_spans_0 rfl
theorem dX8_spans_18 : decode cX8_spans 18 = .ok (.aload_n 0, 1) := dk42 (k := 18) bX8_spans_0 rfl
theorem dX8_spans_19 : decode cX8_spans 19 = .ok (.iload_n 1, 1) := dk27 (k := 19) bX8_spans_0 rfl
theorem dX8_spans_20 : decode cX8_spans 20 = .ok (.invokevirtual 23, 3) := dk182 (k := 20) bX8_spans_0 rfl rfl
theorem dX8_spans_23 : decode cX8_spans 23 = .ok (.iload_n 3, 1) := dk29 (k := 23) bX8_spans_0 rfl
theorem bX8_spans_24 : bL cX8_spans 24 [100, 163, 0, 7, 4, 167, 0, 4, 3, 172] := bL_of (by decide +kernel)
theorem dX8_spans_24 : decode cX8_spans 24 = .ok (.isub, 1) := dk100 (k := 0) bX8_spans_24 rfl
theorem dX8_spans_25 : decode cX8_spans 25 = .ok (.if_icmp .gt 7, 3) := dk163 (k := 1) bX8_spans_24 rfl (by decide)
theorem dX8_spans_28 : decode cX8_spans 28 = .ok (.iconst 1, 1) := dk4 (k := 4) bX8_spans_24 rfl
theorem dX8_spans_29 : decode cX8_spans 29 = .ok (.goto 4, 3) := dk167 (k := 5) bX8_spans_24 rfl (by decide)
theorem dX8_spans_32 : decode cX8_spans 32 = .ok (.iconst 0, 1) := dk3 (k := 8) bX8_spans_24 rfl
theorem dX8_spans_33 : decode cX8_spans 33 = .ok (.ireturn, 1) := dk172 (k := 9) bX8_spans_24 rfl
theorem bX8_numberAt_0 : bL cX8_numberAt 0 [42, 27, 182, 0, 27, 153, 0, 24, 28, 155, 0, 20, 28, 16, 60, 162, 0, 14, 42, 180, 0, 11, 27, 50] := bL_of (by decide +kernel)
theorem dX8_numberAt_0 : decode cX8_numberAt 0 = .ok (.aload_n 0, 1) := dk42 (k := 0) bX8_numberAt_0 rfl
theorem dX8_numberAt_1 : decode cX8_numberAt 1 = .ok (.iload_n 1, 1) := dk27 (k := 1) bX8_numberAt_0 rfl
theorem dX8_numberAt_2 : decode cX8_numberAt 2 = .ok (.invokevirtual 27, 3) := dk182 (k := 2) bX8_numberAt_0 rfl rfl
theorem dX8_numberAt_5 : decode cX8_numberAt 5 = .ok (.ifCond .eq 24, 3) := dk153 (k := 5) bX8_numberAt_0 rfl (by decide)
theorem dX8_numberAt_8 : decode cX8_numberAt 8 = .ok (.iload_n 2, 1) := dk28 (k := 8) bX8_numberAt_0 rfl
theorem dX8_numberAt_9 : decode cX8_numberAt 9 = .ok (.ifCond .lt 20, 3) := dk155 (k := 9) bX8_numberAt_0 rfl (by decide)
theorem dX8_numberAt_12 : decode cX8_numberAt 12 = .ok (.iload_n 2, 1) := dk28 (k := 12) bX8_numberAt_0 rfl
theorem dX8_numberAt_13 : decode cX8_numberAt 13 = .ok (.bipush 60, 2) := dk16 (k := 13) bX8_numberAt_0 rfl (by decide)
theorem dX8_numberAt_15 : decode cX8_numberAt 15 = .ok (.if_icmp .ge 14, 3) := dk162 (k := 15) bX8_numberAt_0 rfl (by decide)
theorem dX8_numberAt_18 : decode cX8_numberAt 18 = .ok (.aload_n 0, 1) := dk42 (k := 18) bX8_numberAt_0 rfl
theorem dX8_numberAt_19 : decode cX8_numberAt 19 = .ok (.getfield 11, 3) := dk180 (k := 19) bX8_numberAt_0 rfl rfl
theorem dX8_numberAt_22 : decode cX8_numberAt 22 = .ok (.iload_n 1, 1) := dk27 (k := 22) bX8_numberAt_0 rfl
theorem dX8_numberAt_23 : decode cX8_numberAt 23 = .ok (.aaload, 1) := dk50 (k := 23) bX8_numberAt_0 rfl
theorem bX8_numberAt_24 : bL cX8_numberAt 24 [28, 47, 167, 0, 4, 9, 173] := bL_of (by decide +kernel)
theorem dX8_numberAt_24 : decode cX8_numberAt 24 = .ok (.iload_n 2, 1) := dk28 (k := 0) bX8_numberAt_24 rfl
theorem dX8_numberAt_25 : decode cX8_numberAt 25 = .ok (.laload, 1) := dk47 (k := 1) bX8_numberAt_24 rfl
theorem dX8_numberAt_26 : decode cX8_numberAt 26 = .ok (.goto 4, 3) := dk167 (k := 2) bX8_numberAt_24 rfl (by decide)
theorem dX8_numberAt_29 : decode cX8_numberAt 29 = .ok (.lconst 0, 1) := dk9 (k := 5) bX8_numberAt_24 rfl
theorem dX8_numberAt_30 : decode cX8_numberAt 30 = .ok (.lreturn, 1) := dk173 (k := 6) bX8_numberAt_24 rfl
theorem bX8_lay_0 : bL cX8_lay 0 [42, 27, 182, 0, 27, 153, 0, 13, 29, 155, 0, 9, 29, 16, 60, 164, 0, 4, 177, 42, 180, 0, 16, 27] := bL_of (by decide +kernel)
theorem dX8_lay_0 : decode cX8_lay 0 = .ok (.aload_n 0, 1) := dk42 (k := 0) bX8_lay_0 rfl
theorem dX8_lay_1 : decode cX8_lay 1 = .ok (.iload_n 1, 1) := dk27 (k := 1) bX8_lay_0 rfl
theorem dX8_lay_2 : decode cX8_lay 2 = .ok (.invokevirtual 27, 3) := dk182 (k := 2) bX8_lay_0 rfl rfl
theorem dX8_lay_5 : decode cX8_lay 5 = .ok (.ifCond .eq 13, 3) := dk153 (k := 5) bX8_lay_0 rfl (by decide)
theorem dX8_lay_8 : decode cX8_lay 8 = .ok (.iload_n 3, 1) := dk29 (k := 8) bX8_lay_0 rfl
theorem dX8_lay_9 : decode cX8_lay 9 = .ok (.ifCond .lt 9, 3) := dk155 (k := 9) bX8_lay_0 rfl (by decide)
theorem dX8_lay_12 : decode cX8_lay 12 = .ok (.iload_n 3, 1) := dk29 (k := 12) bX8_lay_0 rfl
theorem dX8_lay_13 : decode cX8_lay 13 = .ok (.bipush 60, 2) := dk16 (k := 13) bX8_lay_0 rfl (by decide)
theorem dX8_lay_15 : decode cX8_lay 15 = .ok (.if_icmp .le 4, 3) := dk164 (k := 15) bX8_lay_0 rfl (by decide)
theorem dX8_lay_18 : decode cX8_lay 18 = .ok (.return_, 1) := dk177 (k := 18) bX8_lay_0 rfl
theorem dX8_lay_19 : decode cX8_lay 19 = .ok (.aload_n 0, 1) := dk42 (k := 19) bX8_lay_0 rfl
theorem dX8_lay_20 : decode cX8_lay 20 = .ok (.getfield 16, 3) := dk180 (k := 20) bX8_lay_0 rfl rfl
theorem dX8_lay_23 : decode cX8_lay 23 = .ok (.iload_n 1, 1) := dk27 (k := 23) bX8_lay_0 rfl
theorem bX8_lay_24 : bL cX8_lay 24 [28, 79, 42, 180, 0, 20, 27, 29, 79, 3, 54, 4, 21, 4, 16, 60, 162, 0, 19, 42, 180, 0, 11, 27] := bL_of (by decide +kernel)
theorem dX8_lay_24 : decode cX8_lay 24 = .ok (.iload_n 2, 1) := dk28 (k := 0) bX8_lay_24 rfl
theorem dX8_lay_25 : decode cX8_lay 25 = .ok (.iastore, 1) := dk79 (k := 1) bX8_lay_24 rfl
theorem dX8_lay_26 : decode cX8_lay 26 = .ok (.aload_n 0, 1) := dk42 (k := 2) bX8_lay_24 rfl
theorem dX8_lay_27 : decode cX8_lay 27 = .ok (.getfield 20, 3) := dk180 (k := 3) bX8_lay_24 rfl rfl
theorem dX8_lay_30 : decode cX8_lay 30 = .ok (.iload_n 1, 1) := dk27 (k := 6) bX8_lay_24 rfl
theorem dX8_lay_31 : decode cX8_lay 31 = .ok (.iload_n 3, 1) := dk29 (k := 7) bX8_lay_24 rfl
theorem dX8_lay_32 : decode cX8_lay 32 = .ok (.iastore, 1) := dk79 (k := 8) bX8_lay_24 rfl
theorem dX8_lay_33 : decode cX8_lay 33 = .ok (.iconst 0, 1) := dk3 (k := 9) bX8_lay_24 rfl
theorem dX8_lay_34 : decode cX8_lay 34 = .ok (.istore 4, 2) := dk54 (k := 10) bX8_lay_24 rfl rfl
theorem dX8_lay_36 : decode cX8_lay 36 = .ok (.iload 4, 2) := dk21 (k := 12) bX8_lay_24 rfl rfl
theorem dX8_lay_38 : decode cX8_lay 38 = .ok (.bipush 60, 2) := dk16 (k := 14) bX8_lay_24 rfl (by decide)
theorem dX8_lay_40 : decode cX8_lay 40 = .ok (.if_icmp .ge 19, 3) := dk162 (k := 16) bX8_lay_24 rfl (by decide)
theorem dX8_lay_43 : decode cX8_lay 43 = .ok (.aload_n 0, 1) := dk42 (k := 19) bX8_lay_24 rfl
theorem dX8_lay_44 : decode cX8_lay 44 = .ok (.getfield 11, 3) := dk180 (k := 20) bX8_lay_24 rfl rfl
theorem dX8_lay_47 : decode cX8_lay 47 = .ok (.iload_n 1, 1) := dk27 (k := 23) bX8_lay_24 rfl
theorem bX8_lay_48 : bL cX8_lay 48 [50, 21, 4, 9, 80, 132, 4, 1, 167, 255, 236, 177] := bL_of (by decide +kernel)
theorem dX8_lay_48 : decode cX8_lay 48 = .ok (.aaload, 1) := dk50 (k := 0) bX8_lay_48 rfl
theorem dX8_lay_49 : decode cX8_lay 49 = .ok (.iload 4, 2) := dk21 (k := 1) bX8_lay_48 rfl rfl
theorem dX8_lay_51 : decode cX8_lay 51 = .ok (.lconst 0, 1) := dk9 (k := 3) bX8_lay_48 rfl
theorem dX8_lay_52 : decode cX8_lay 52 = .ok (.lastore, 1) := dk80 (k := 4) bX8_lay_48 rfl
theorem dX8_lay_53 : decode cX8_lay 53 = .ok (.iinc 4 1, 3) := dk132 (k := 5) bX8_lay_48 rfl rfl (by decide)
theorem dX8_lay_56 : decode cX8_lay 56 = .ok (.goto (-20), 3) := dk167 (k := 8) bX8_lay_48 rfl (by decide)
theorem dX8_lay_59 : decode cX8_lay 59 = .ok (.return_, 1) := dk177 (k := 11) bX8_lay_48 rfl
theorem bX8_put_0 : bL cX8_put 0 [42, 27, 182, 0, 27, 153, 0, 31, 28, 155, 0, 27, 28, 16, 60, 162, 0, 21, 42, 180, 0, 11, 27, 50] := bL_of (by decide +kernel)
theorem dX8_put_0 : decode cX8_put 0 = .ok (.aload_n 0, 1) := dk42 (k := 0) bX8_put_0 rfl
theorem dX8_put_1 : decode cX8_put 1 = .ok (.iload_n 1, 1) := dk27 (k := 1) bX8_put_0 rfl
theorem dX8_put_2 : decode cX8_put 2 = .ok (.invokevirtual 27, 3) := dk182 (k := 2) bX8_put_0 rfl rfl
theorem dX8_put_5 : decode cX8_put 5 = .ok (.ifCond .eq 31, 3) := dk153 (k := 5) bX8_put_0 rfl (by decide)
theorem dX8_put_8 : decode cX8_put 8 = .ok (.iload_n 2, 1) := dk28 (k := 8) bX8_put_0 rfl
theorem dX8_put_9 : decode cX8_put 9 = .ok (.ifCond .lt 27, 3) := dk155 (k := 9) bX8_put_0 rfl (by decide)
theorem dX8_put_12 : decode cX8_put 12 = .ok (.iload_n 2, 1) := dk28 (k := 12) bX8_put_0 rfl
theorem dX8_put_13 : decode cX8_put 13 = .ok (.bipush 60, 2) := dk16 (k := 13) bX8_put_0 rfl (by decide)
theorem dX8_put_15 : decode cX8_put 15 = .ok (.if_icmp .ge 21, 3) := dk162 (k := 15) bX8_put_0 rfl (by decide)
theorem dX8_put_18 : decode cX8_put 18 = .ok (.aload_n 0, 1) := dk42 (k := 18) bX8_put_0 rfl
theorem dX8_put_19 : decode cX8_put 19 = .ok (.getfield 11, 3) := dk180 (k := 19) bX8_put_0 rfl rfl
theorem dX8_put_22 : decode cX8_put 22 = .ok (.iload_n 1, 1) := dk27 (k := 22) bX8_put_0 rfl
theorem dX8_put_23 : decode cX8_put 23 = .ok (.aaload, 1) := dk50 (k := 23) bX8_put_0 rfl
theorem bX8_put_24 : bL cX8_put 24 [28, 33, 42, 180, 0, 16, 27, 46, 184, 0, 34, 80, 177] := bL_of (by decide +kernel)
theorem dX8_put_24 : decode cX8_put 24 = .ok (.iload_n 2, 1) := dk28 (k := 0) bX8_put_24 rfl
theorem dX8_put_25 : decode cX8_put 25 = .ok (.lload_n 3, 1) := dk33 (k := 1) bX8_put_24 rfl
theorem dX8_put_26 : decode cX8_put 26 = .ok (.aload_n 0, 1) := dk42 (k := 2) bX8_put_24 rfl
theorem dX8_put_27 : decode cX8_put 27 = .ok (.getfield 16, 3) := dk180 (k := 3) bX8_put_24 rfl rfl
theorem dX8_put_30 : decode cX8_put 30 = .ok (.iload_n 1, 1) := dk27 (k := 6) bX8_put_24 rfl
theorem dX8_put_31 : decode cX8_put 31 = .ok (.iaload, 1) := dk46 (k := 7) bX8_put_24 rfl
theorem dX8_put_32 : decode cX8_put 32 = .ok (.invokestatic 34, 3) := dk184 (k := 8) bX8_put_24 rfl rfl
theorem dX8_put_35 : decode cX8_put 35 = .ok (.lastore, 1) := dk80 (k := 11) bX8_put_24 rfl
theorem dX8_put_36 : decode cX8_put 36 = .ok (.return_, 1) := dk177 (k := 12) bX8_put_24 rfl
theorem bX8_cut_0 : bL cX8_cut 0 [28] := bL_of (by decide +kernel)
theorem dX8_cut_0 : decode cX8_cut 0 = .ok (.iload_n 2, 1) := dk28 (k := 0) bX8_cut_0 rfl
theorem dX8_cut_1 : decode cX8_cut 1 = .ok (.tableswitch 41 0 2 #[27, 32, 37], 27) := by decide +kernel
theorem bX8_cut_28 : bL cX8_cut 28 [30, 136, 145, 133, 173, 30, 136, 147, 133, 173, 30, 136, 133, 173, 30, 173] := bL_of (by decide +kernel)
theorem dX8_cut_28 : decode cX8_cut 28 = .ok (.lload_n 0, 1) := dk30 (k := 0) bX8_cut_28 rfl
theorem dX8_cut_29 : decode cX8_cut 29 = .ok (.l2i, 1) := dk136 (k := 1) bX8_cut_28 rfl
theorem dX8_cut_30 : decode cX8_cut 30 = .ok (.i2b, 1) := dk145 (k := 2) bX8_cut_28 rfl
theorem dX8_cut_31 : decode cX8_cut 31 = .ok (.i2l, 1) := dk133 (k := 3) bX8_cut_28 rfl
theorem dX8_cut_32 : decode cX8_cut 32 = .ok (.lreturn, 1) := dk173 (k := 4) bX8_cut_28 rfl
theorem dX8_cut_33 : decode cX8_cut 33 = .ok (.lload_n 0, 1) := dk30 (k := 5) bX8_cut_28 rfl
theorem dX8_cut_34 : decode cX8_cut 34 = .ok (.l2i, 1) := dk136 (k := 6) bX8_cut_28 rfl
theorem dX8_cut_35 : decode cX8_cut 35 = .ok (.i2s, 1) := dk147 (k := 7) bX8_cut_28 rfl
theorem dX8_cut_36 : decode cX8_cut 36 = .ok (.i2l, 1) := dk133 (k := 8) bX8_cut_28 rfl
theorem dX8_cut_37 : decode cX8_cut 37 = .ok (.lreturn, 1) := dk173 (k := 9) bX8_cut_28 rfl
theorem dX8_cut_38 : decode cX8_cut 38 = .ok (.lload_n 0, 1) := dk30 (k := 10) bX8_cut_28 rfl
theorem dX8_cut_39 : decode cX8_cut 39 = .ok (.l2i, 1) := dk136 (k := 11) bX8_cut_28 rfl
theorem dX8_cut_40 : decode cX8_cut 40 = .ok (.i2l, 1) := dk133 (k := 12) bX8_cut_28 rfl
theorem dX8_cut_41 : decode cX8_cut 41 = .ok (.lreturn, 1) := dk173 (k := 13) bX8_cut_28 rfl
theorem dX8_cut_42 : decode cX8_cut 42 = .ok (.lload_n 0, 1) := dk30 (k := 14) bX8_cut_28 rfl
theorem dX8_cut_43 : decode cX8_cut 43 = .ok (.lreturn, 1) := dk173 (k := 15) bX8_cut_28 rfl
theorem bX8_move_0 : bL cX8_move 0 [42, 27, 182, 0, 27, 153, 0, 54, 42, 29, 182, 0, 27, 153, 0, 46, 42, 27, 28, 21, 5, 182, 0, 38] := bL_of (by decide +kernel)
theorem dX8_move_0 : decode cX8_move 0 = .ok (.aload_n 0, 1) := dk42 (k := 0) bX8_move_0 rfl
theorem dX8_move_1 : decode cX8_move 1 = .ok (.iload_n 1, 1) := dk27 (k := 1) bX8_move_0 rfl
theorem dX8_move_2 : decode cX8_move 2 = .ok (.invokevirtual 27, 3) := dk182 (k := 2) bX8_move_0 rfl rfl
theorem dX8_move_5 : decode cX8_move 5 = .ok (.ifCond .eq 54, 3) := dk153 (k := 5) bX8_move_0 rfl (by decide)
theorem dX8_move_8 : decode cX8_move 8 = .ok (.aload_n 0, 1) := dk42 (k := 8) bX8_move_0 rfl
theorem dX8_move_9 : decode cX8_move 9 = .ok (.iload_n 3, 1) := dk29 (k := 9) bX8_move_0 rfl
theorem dX8_move_10 : decode cX8_move 10 = .ok (.invokevirtual 27, 3) := dk182 (k := 10) bX8_move_0 rfl rfl
theorem dX8_move_13 : decode cX8_move 13 = .ok (.ifCond .eq 46, 3) := dk153 (k := 13) bX8_move_0 rfl (by decide)
theorem dX8_move_16 : decode cX8_move 16 = .ok (.aload_n 0, 1) := dk42 (k := 16) bX8_move_0 rfl
theorem dX8_move_17 : decode cX8_move 17 = .ok (.iload_n 1, 1) := dk27 (k := 17) bX8_move_0 rfl
theorem dX8_move_18 : decode cX8_move 18 = .ok (.iload_n 2, 1) := dk28 (k := 18) bX8_move_0 rfl
theorem dX8_move_19 : decode cX8_move 19 = .ok (.iload 5, 2) := dk21 (k := 19) bX8_move_0 rfl rfl
theorem dX8_move_21 : decode cX8_move 21 = .ok (.invokevirtual 38, 3) := dk182 (k := 21) bX8_move_0 rfl rfl
theorem bX8_move_24 : bL cX8_move 24 [153, 0, 35, 42, 29, 21, 4, 21, 5, 182, 0, 38, 153, 0, 23, 42, 180, 0, 11, 27, 50, 28, 42, 180, 0, 11] := bL_of (by decide +kernel)
theorem dX8_move_24 : decode cX8_move 24 = .ok (.ifCond .eq 35, 3) := dk153 (k := 0) bX8_move_24 rfl (by decide)
theorem dX8_move_27 : decode cX8_move 27 = .ok (.aload_n 0, 1) := dk42 (k := 3) bX8_move_24 rfl
theorem dX8_move_28 : decode cX8_move 28 = .ok (.iload_n 3, 1) := dk29 (k := 4) bX8_move_24 rfl
theorem dX8_move_29 : decode cX8_move 29 = .ok (.iload 4, 2) := dk21 (k := 5) bX8_move_24 rfl rfl
theorem dX8_move_31 : decode cX8_move 31 = .ok (.iload 5, 2) := dk21 (k := 7) bX8_move_24 rfl rfl
theorem dX8_move_33 : decode cX8_move 33 = .ok (.invokevirtual 38, 3) := dk182 (k := 9) bX8_move_24 rfl rfl
theorem dX8_move_36 : decode cX8_move 36 = .ok (.ifCond .eq 23, 3) := dk153 (k := 12) bX8_move_24 rfl (by decide)
theorem dX8_move_39 : decode cX8_move 39 = .ok (.aload_n 0, 1) := dk42 (k := 15) bX8_move_24 rfl
theorem dX8_move_40 : decode cX8_move 40 = .ok (.getfield 11, 3) := dk180 (k := 16) bX8_move_24 rfl rfl
theorem dX8_move_43 : decode cX8_move 43 = .ok (.iload_n 1, 1) := dk27 (k := 19) bX8_move_24 rfl
theorem dX8_move_44 : decode cX8_move 44 = .ok (.aaload, 1) := dk50 (k := 20) bX8_move_24 rfl
theorem dX8_move_45 : decode cX8_move 45 = .ok (.iload_n 2, 1) := dk28 (k := 21) bX8_move_24 rfl
theorem dX8_move_46 : decode cX8_move 46 = .ok (.aload_n 0, 1) := dk42 (k := 22) bX8_move_24 rfl
theorem dX8_move_47 : decode cX8_move 47 = .ok (.getfield 11, 3) := dk180 (k := 23) bX8_move_24 rfl rfl
theorem bX8_move_50 : bL cX8_move 50 [29, 50, 21, 4, 21, 5, 184, 0, 42, 177] := bL_of (by decide +kernel)
theorem dX8_move_50 : decode cX8_move 50 = .ok (.iload_n 3, 1) := dk29 (k := 0) bX8_move_50 rfl
theorem dX8_move_51 : decode cX8_move 51 = .ok (.aaload, 1) := dk50 (k := 1) bX8_move_50 rfl
theorem dX8_move_52 : decode cX8_move 52 = .ok (.iload 4, 2) := dk21 (k := 2) bX8_move_50 rfl rfl
theorem dX8_move_54 : decode cX8_move 54 = .ok (.iload 5, 2) := dk21 (k := 4) bX8_move_50 rfl rfl
theorem dX8_move_56 : decode cX8_move 56 = .ok (.invokestatic 42, 3) := dk184 (k := 6) bX8_move_50 rfl rfl
theorem dX8_move_59 : decode cX8_move 59 = .ok (.return_, 1) := dk177 (k := 9) bX8_move_50 rfl
theorem bX9_init_0 : bL cX9_init 0 [42, 183, 0, 3, 42, 17, 3, 132] := bL_of (by decide +kernel)
theorem dX9_init_0 : decode cX9_init 0 = .ok (.aload_n 0, 1) := dk42 (k := 0) bX9_init_0 rfl
theorem dX9_init_1 : decode cX9_init 1 = .ok (.invokespecial 3, 3) := dk183 (k := 1) bX9_init_0 rfl rfl
theorem dX9_init_4 : decode cX9_init 4 = .ok (.aload_n 0, 1) := dk42 (k := 4) bX9_init_0 rfl
theorem dX9_init_5 : decode cX9_init 5 = .ok (.sipush 900, 3) := dk17 (k := 5) bX9_init_0 rfl (by decide)
theorem dX9_init_8 : decode cX9_init 8 = .ok (.newarray .byte, 2) := by decide +kernel
theorem bX9_init_10 : bL cX9_init 10 [181, 0, 9, 42, 17, 3, 133] := bL_of (by decide +kernel)
theorem dX9_init_10 : decode cX9_init 10 = .ok (.putfield 9, 3) := dk181 (k := 0) bX9_init_10 rfl rfl
theorem dX9_init_13 : decode cX9_init 13 = .ok (.aload_n 0, 1) := dk42 (k := 3) bX9_init_10 rfl
theorem dX9_init_14 : decode cX9_init 14 = .ok (.sipush 901, 3) := dk17 (k := 4) bX9_init_10 rfl (by decide)
theorem dX9_init_17 : decode cX9_init 17 = .ok (.newarray .int, 2) := by decide +kernel
theorem bX9_init_19 : bL cX9_init 19 [181, 0, 15, 42, 17, 3, 133] := bL_of (by decide +kernel)
theorem dX9_init_19 : decode cX9_init 19 = .ok (.putfield 15, 3) := dk181 (k := 0) bX9_init_19 rfl rfl
theorem dX9_init_22 : decode cX9_init 22 = .ok (.aload_n 0, 1) := dk42 (k := 3) bX9_init_19 rfl
theorem dX9_init_23 : decode cX9_init 23 = .ok (.sipush 901, 3) := dk17 (k := 4) bX9_init_19 rfl (by decide)
theorem dX9_init_26 : decode cX9_init 26 = .ok (.newarray .int, 2) := by decide +kernel
theorem bX9_init_28 : bL cX9_init 28 [181, 0, 19, 42, 17, 3, 133] := bL_of (by decide +kernel)
theorem dX9_init_28 : decode cX9_init 28 = .ok (.putfield 19, 3) := dk181 (k := 0) bX9_init_28 rfl rfl
theorem dX9_init_31 : decode cX9_init 31 = .ok (.aload_n 0, 1) := dk42 (k := 3) bX9_init_28 rfl
theorem dX9_init_32 : decode cX9_init 32 = .ok (.sipush 901, 3) := dk17 (k := 4) bX9_init_28 rfl (by decide)
theorem dX9_init_35 : decode cX9_init 35 = .ok (.newarray .int, 2) := by decide +kernel
theorem bX9_init_37 : bL cX9_init 37 [181, 0, 22, 177] := bL_of (by decide +kernel)
theorem dX9_init_37 : decode cX9_init 37 = .ok (.putfield 22, 3) := dk181 (k := 0) bX9_init_37 rfl rfl
theorem dX9_init_40 : decode cX9_init 40 = .ok (.return_, 1) := dk177 (k := 3) bX9_init_37 rfl
theorem bX9_hasRoomFor_0 : bL cX9_hasRoomFor 0 [42, 180, 0, 25, 27, 96, 17, 3, 132, 163, 0, 7, 4, 167, 0, 4, 3, 172] := bL_of (by decide +kernel)
theorem dX9_hasRoomFor_0 : decode cX9_hasRoomFor 0 = .ok (.aload_n 0, 1) := dk42 (k := 0) bX9_hasRoomFor_0 rfl
theorem dX9_hasRoomFor_1 : decode cX9_hasRoomFor 1 = .ok (.getfield 25, 3) := dk180 (k := 1) bX9_hasRoomFor_0 rfl rfl
theorem dX9_hasRoomFor_4 : decode cX9_hasRoomFor 4 = .ok (.iload_n 1, 1) := dk27 (k := 4) bX9_hasRoomFor_0 rfl
theorem dX9_hasRoomFor_5 : decode cX9_hasRoomFor 5 = .ok (.iadd, 1) := dk96 (k := 5) bX9_hasRoomFor_0 rfl
theorem dX9_hasRoomFor_6 : decode cX9_hasRoomFor 6 = .ok (.sipush 900, 3) := dk17 (k := 6) bX9_hasRoomFor_0 rfl (by decide)
theorem dX9_hasRoomFor_9 : decode cX9_hasRoomFor 9 = .ok (.if_icmp .gt 7, 3) := dk163 (k := 9) bX9_hasRoomFor_0 rfl (by decide)
theorem dX9_hasRoomFor_12 : decode cX9_hasRoomFor 12 = .ok (.iconst 1, 1) := dk4 (k := 12) bX9_hasRoomFor_0 rfl
theorem dX9_hasRoomFor_13 : decode cX9_hasRoomFor 13 = .ok (.goto 4, 3) := dk167 (k := 13) bX9_hasRoomFor_0 rfl (by decide)
theorem dX9_hasRoomFor_16 : decode cX9_hasRoomFor 16 = .ok (.iconst 0, 1) := dk3 (k := 16) bX9_hasRoomFor_0 rfl
theorem dX9_hasRoomFor_17 : decode cX9_hasRoomFor 17 = .ok (.ireturn, 1) := dk172 (k := 17) bX9_hasRoomFor_0 rfl
theorem bX9_addNumber_0 : bL cX9_addNumber 0 [16, 24, 61, 28, 155, 0, 51, 42, 180, 0, 25, 155, 0, 38, 42, 180, 0, 25, 42, 180, 0, 9, 190, 162, 0, 26] := bL_of (by decide +kernel)
theorem dX9_addNumber_0 : decode cX9_addNumber 0 = .ok (.bipush 24, 2) := dk16 (k := 0) bX9_addNumber_0 rfl (by decide)
theorem dX9_addNumber_2 : decode cX9_addNumber 2 = .ok (.istore_n 2, 1) := dk61 (k := 2) bX9_addNumber_0 rfl
theorem dX9_addNumber_3 : decode cX9_addNumber 3 = .ok (.iload_n 2, 1) := dk28 (k := 3) bX9_addNumber_0 rfl
theorem dX9_addNumber_4 : decode cX9_addNumber 4 = .ok (.ifCond .lt 51, 3) := dk155 (k := 4) bX9_addNumber_0 rfl (by decide)
theorem dX9_addNumber_7 : decode cX9_addNumber 7 = .ok (.aload_n 0, 1) := dk42 (k := 7) bX9_addNumber_0 rfl
theorem dX9_addNumber_8 : decode cX9_addNumber 8 = .ok (.getfield 25, 3) := dk180 (k := 8) bX9_addNumber_0 rfl rfl
theorem dX9_addNumber_11 : decode cX9_addNumber 11 = .ok (.ifCond .lt 38, 3) := dk155 (k := 11) bX9_addNumber_0 rfl (by decide)
theorem dX9_addNumber_14 : decode cX9_addNumber 14 = .ok (.aload_n 0, 1) := dk42 (k := 14) bX9_addNumber_0 rfl
theorem dX9_addNumber_15 : decode cX9_addNumber 15 = .ok (.getfield 25, 3) := dk180 (k := 15) bX9_addNumber_0 rfl rfl
theorem dX9_addNumber_18 : decode cX9_addNumber 18 = .ok (.aload_n 0, 1) := dk42 (k := 18) bX9_addNumber_0 rfl
theorem dX9_addNumber_19 : decode cX9_addNumber 19 = .ok (.getfield 9, 3) := dk180 (k := 19) bX9_addNumber_0 rfl rfl
theorem dX9_addNumber_22 : decode cX9_addNumber 22 = .ok (.arraylength, 1) := dk190 (k := 22) bX9_addNumber_0 rfl
theorem dX9_addNumber_23 : decode cX9_addNumber 23 = .ok (.if_icmp .ge 26, 3) := dk162 (k := 23) bX9_addNumber_0 rfl (by decide)
theorem bX9_addNumber_26 : bL cX9_addNumber 26 [42, 180, 0, 9, 42, 180, 0, 25, 27, 28, 122, 145, 84, 42, 89, 180, 0, 25, 4, 96, 181, 0, 25, 132, 2, 248] := bL_of (by decide +kernel)
theorem dX9_addNumber_26 : decode cX9_addNumber 26 = .ok (.aload_n 0, 1) := dk42 (k := 0) bX9_addNumber_26 rfl
theorem dX9_addNumber_27 : decode cX9_addNumber 27 = .ok (.getfield 9, 3) := dk180 (k := 1) bX9_addNumber_26 rfl rfl
theorem dX9_addNumber_30 : decode cX9_addNumber 30 = .ok (.aload_n 0, 1) := dk42 (k := 4) bX9_addNumber_26 rfl
theorem dX9_addNumber_31 : decode cX9_addNumber 31 = .ok (.getfield 25, 3) := dk180 (k := 5) bX9_addNumber_26 rfl rfl
theorem dX9_addNumber_34 : decode cX9_addNumber 34 = .ok (.iload_n 1, 1) := dk27 (k := 8) bX9_addNumber_26 rfl
theorem dX9_addNumber_35 : decode cX9_addNumber 35 = .ok (.iload_n 2, 1) := dk28 (k := 9) bX9_addNumber_26 rfl
theorem dX9_addNumber_36 : decode cX9_addNumber 36 = .ok (.ishr, 1) := dk122 (k := 10) bX9_addNumber_26 rfl
theorem dX9_addNumber_37 : decode cX9_addNumber 37 = .ok (.i2b, 1) := dk145 (k := 11) bX9_addNumber_26 rfl
theorem dX9_addNumber_38 : decode cX9_addNumber 38 = .ok (.bastore, 1) := dk84 (k := 12) bX9_addNumber_26 rfl
theorem dX9_addNumber_39 : decode cX9_addNumber 39 = .ok (.aload_n 0, 1) := dk42 (k := 13) bX9_addNumber_26 rfl
theorem dX9_addNumber_40 : decode cX9_addNumber 40 = .ok (.dup, 1) := dk89 (k := 14) bX9_addNumber_26 rfl
theorem dX9_addNumber_41 : decode cX9_addNumber 41 = .ok (.getfield 25, 3) := dk180 (k := 15) bX9_addNumber_26 rfl rfl
theorem dX9_addNumber_44 : decode cX9_addNumber 44 = .ok (.iconst 1, 1) := dk4 (k := 18) bX9_addNumber_26 rfl
theorem dX9_addNumber_45 : decode cX9_addNumber 45 = .ok (.iadd, 1) := dk96 (k := 19) bX9_addNumber_26 rfl
theorem dX9_addNumber_46 : decode cX9_addNumber 46 = .ok (.putfield 25, 3) := dk181 (k := 20) bX9_addNumber_26 rfl rfl
theorem dX9_addNumber_49 : decode cX9_addNumber 49 = .ok (.iinc 2 (-8), 3) := dk132 (k := 23) bX9_addNumber_26 rfl rfl (by decide)
theorem bX9_addNumber_52 : bL cX9_addNumber 52 [167, 255, 207, 177] := bL_of (by decide +kernel)
theorem dX9_addNumber_52 : decode cX9_addNumber 52 = .ok (.goto (-49), 3) := dk167 (k := 0) bX9_addNumber_52 rfl (by decide)
theorem dX9_addNumber_55 : decode cX9_addNumber 55 = .ok (.return_, 1) := dk177 (k := 3) bX9_addNumber_52 rfl
theorem bX9_byteAt_0 : bL cX9_byteAt 0 [27, 155, 0, 33, 27, 42, 180, 0, 25, 162, 0, 25, 27, 42, 180, 0, 9, 190, 162, 0, 16, 42, 180, 0, 9] := bL_of (by decide +kernel)
theorem dX9_byteAt_0 : decode cX9_byteAt 0 = .ok (.iload_n 1, 1) := dk27 (k := 0) bX9_byteAt_0 rfl
theorem dX9_byteAt_1 : decode cX9_byteAt 1 = .ok (.ifCond .lt 33, 3) := dk155 (k := 1) bX9_byteAt_0 rfl (by decide)
theorem dX9_byteAt_4 : decode cX9_byteAt 4 = .ok (.iload_n 1, 1) := dk27 (k := 4) bX9_byteAt_0 rfl
theorem dX9_byteAt_5 : decode cX9_byteAt 5 = .ok (.aload_n 0, 1) := dk42 (k := 5) bX9_byteAt_0 rfl
theorem dX9_byteAt_6 : decode cX9_byteAt 6 = .ok (.getfield 25, 3) := dk180 (k := 6) bX9_byteAt_0 rfl rfl
theorem dX9_byteAt_9 : decode cX9_byteAt 9 = .ok (.if_icmp .ge 25, 3) := dk162 (k := 9) bX9_byteAt_0 rfl (by decide)
theorem dX9_byteAt_12 : decode cX9_byteAt 12 = .ok (.iload_n 1, 1) := dk27 (k := 12) bX9_byteAt_0 rfl
theorem dX9_byteAt_13 : decode cX9_byteAt 13 = .ok (.aload_n 0, 1) := dk42 (k := 13) bX9_byteAt_0 rfl
theorem dX9_byteAt_14 : decode cX9_byteAt 14 = .ok (.getfield 9, 3) := dk180 (k := 14) bX9_byteAt_0 rfl rfl
theorem dX9_byteAt_17 : decode cX9_byteAt 17 = .ok (.arraylength, 1) := dk190 (k := 17) bX9_byteAt_0 rfl
theorem dX9_byteAt_18 : decode cX9_byteAt 18 = .ok (.if_icmp .ge 16, 3) := dk162 (k := 18) bX9_byteAt_0 rfl (by decide)
theorem dX9_byteAt_21 : decode cX9_byteAt 21 = .ok (.aload_n 0, 1) := dk42 (k := 21) bX9_byteAt_0 rfl
theorem dX9_byteAt_22 : decode cX9_byteAt 22 = .ok (.getfield 9, 3) := dk180 (k := 22) bX9_byteAt_0 rfl rfl
theorem bX9_byteAt_25 : bL cX9_byteAt 25 [27, 51, 17, 0, 255, 126, 167, 0, 4, 2, 172] := bL_of (by decide +kernel)
theorem dX9_byteAt_25 : decode cX9_byteAt 25 = .ok (.iload_n 1, 1) := dk27 (k := 0) bX9_byteAt_25 rfl
theorem dX9_byteAt_26 : decode cX9_byteAt 26 = .ok (.baload, 1) := dk51 (k := 1) bX9_byteAt_25 rfl
theorem dX9_byteAt_27 : decode cX9_byteAt 27 = .ok (.sipush 255, 3) := dk17 (k := 2) bX9_byteAt_25 rfl (by decide)
theorem dX9_byteAt_30 : decode cX9_byteAt 30 = .ok (.iand, 1) := dk126 (k := 5) bX9_byteAt_25 rfl
theorem dX9_byteAt_31 : decode cX9_byteAt 31 = .ok (.goto 4, 3) := dk167 (k := 6) bX9_byteAt_25 rfl (by decide)
theorem dX9_byteAt_34 : decode cX9_byteAt 34 = .ok (.iconst (-1), 1) := dk2 (k := 9) bX9_byteAt_25 rfl
theorem dX9_byteAt_35 : decode cX9_byteAt 35 = .ok (.ireturn, 1) := dk172 (k := 10) bX9_byteAt_25 rfl
theorem bX9_cutTokens_0 : bL cX9_cutTokens 0 [42, 3, 181, 0, 29, 3, 60, 3, 61, 28, 17, 3, 132, 162, 0, 120, 27, 42, 180, 0, 25, 162, 0, 112] := bL_of (by decide +kernel)
theorem dX9_cutTokens_0 : decode cX9_cutTokens 0 = .ok (.aload_n 0, 1) := dk42 (k := 0) bX9_cutTokens_0 rfl
theorem dX9_cutTokens_1 : decode cX9_cutTokens 1 = .ok (.iconst 0, 1) := dk3 (k := 1) bX9_cutTokens_0 rfl
theorem dX9_cutTokens_2 : decode cX9_cutTokens 2 = .ok (.putfield 29, 3) := dk181 (k := 2) bX9_cutTokens_0 rfl rfl
theorem dX9_cutTokens_5 : decode cX9_cutTokens 5 = .ok (.iconst 0, 1) := dk3 (k := 5) bX9_cutTokens_0 rfl
theorem dX9_cutTokens_6 : decode cX9_cutTokens 6 = .ok (.istore_n 1, 1) := dk60 (k := 6) bX9_cutTokens_0 rfl
theorem dX9_cutTokens_7 : decode cX9_cutTokens 7 = .ok (.iconst 0, 1) := dk3 (k := 7) bX9_cutTokens_0 rfl
theorem dX9_cutTokens_8 : decode cX9_cutTokens 8 = .ok (.istore_n 2, 1) := dk61 (k := 8) bX9_cutTokens_0 rfl
theorem dX9_cutTokens_9 : decode cX9_cutTokens 9 = .ok (.iload_n 2, 1) := dk28 (k := 9) bX9_cutTokens_0 rfl
theorem dX9_cutTokens_10 : decode cX9_cutTokens 10 = .ok (.sipush 900, 3) := dk17 (k := 10) bX9_cutTokens_0 rfl (by decide)
theorem dX9_cutTokens_13 : decode cX9_cutTokens 13 = .ok (.if_icmp .ge 120, 3) := dk162 (k := 13) bX9_cutTokens_0 rfl (by decide)
theorem dX9_cutTokens_16 : decode cX9_cutTokens 16 = .ok (.iload_n 1, 1) := dk27 (k := 16) bX9_cutTokens_0 rfl
theorem dX9_cutTokens_17 : decode cX9_cutTokens 17 = .ok (.aload_n 0, 1) := dk42 (k := 17) bX9_cutTokens_0 rfl
theorem dX9_cutTokens_18 : decode cX9_cutTokens 18 = .ok (.getfield 25, 3) := dk180 (k := 18) bX9_cutTokens_0 rfl rfl
theorem dX9_cutTokens_21 : decode cX9_cutTokens 21 = .ok (.if_icmp .ge 112, 3) := dk162 (k := 21) bX9_cutTokens_0 rfl (by decide)
theorem bX9_cutTokens_24 : bL cX9_cutTokens 24 [42, 27, 182, 0, 32, 62, 27, 4, 96, 54, 4, 29, 184, 0, 36, 153, 0, 26, 42, 27, 182, 0, 40, 54, 4] := bL_of (by decide +kernel)
theorem dX9_cutTokens_24 : decode cX9_cutTokens 24 = .ok (.aload_n 0, 1) := dk42 (k := 0) bX9_cutTokens_24 rfl
theorem dX9_cutTokens_25 : decode cX9_cutTokens 25 = .ok (.iload_n 1, 1) := dk27 (k := 1) bX9_cutTokens_24 rfl
theorem dX9_cutTokens_26 : decode cX9_cutTokens 26 = .ok (.invokevirtual 32, 3) := dk182 (k := 2) bX9_cutTokens_24 rfl rfl
theorem dX9_cutTokens_29 : decode cX9_cutTokens 29 = .ok (.istore_n 3, 1) := dk62 (k := 5) bX9_cutTokens_24 rfl
theorem dX9_cutTokens_30 : decode cX9_cutTokens 30 = .ok (.iload_n 1, 1) := dk27 (k := 6) bX9_cutTokens_24 rfl
theorem dX9_cutTokens_31 : decode cX9_cutTokens 31 = .ok (.iconst 1, 1) := dk4 (k := 7) bX9_cutTokens_24 rfl
theorem dX9_cutTokens_32 : decode cX9_cutTokens 32 = .ok (.iadd, 1) := dk96 (k := 8) bX9_cutTokens_24 rfl
theorem dX9_cutTokens_33 : decode cX9_cutTokens 33 = .ok (.istore 4, 2) := dk54 (k := 9) bX9_cutTokens_24 rfl rfl
theorem dX9_cutTokens_35 : decode cX9_cutTokens 35 = .ok (.iload_n 3, 1) := dk29 (k := 11) bX9_cutTokens_24 rfl
theorem dX9_cutTokens_36 : decode cX9_cutTokens 36 = .ok (.invokestatic 36, 3) := dk184 (k := 12) bX9_cutTokens_24 rfl rfl
theorem dX9_cutTokens_39 : decode cX9_cutTokens 39 = .ok (.ifCond .eq 26, 3) := dk153 (k := 15) bX9_cutTokens_24 rfl (by decide)
theorem dX9_cutTokens_42 : decode cX9_cutTokens 42 = .ok (.aload_n 0, 1) := dk42 (k := 18) bX9_cutTokens_24 rfl
theorem dX9_cutTokens_43 : decode cX9_cutTokens 43 = .ok (.iload_n 1, 1) := dk27 (k := 19) bX9_cutTokens_24 rfl
theorem dX9_cutTokens_44 : decode cX9_cutTokens 44 = .ok (.invokevirtual 40, 3) := dk182 (k := 20) bX9_cutTokens_24 rfl rfl
theorem dX9_cutTokens_47 : decode cX9_cutTokens 47 = .ok (.istore 4, 2) := dk54 (k := 23) bX9_cutTokens_24 rfl rfl
theorem bX9_cutTokens_49 : bL cX9_cutTokens 49 [42, 42, 27, 21, 4, 182, 0, 43, 27, 3, 182, 0, 47, 167, 0, 62, 29, 184, 0, 51, 153, 0, 26, 42] := bL_of (by decide +kernel)
theorem dX9_cutTokens_49 : decode cX9_cutTokens 49 = .ok (.aload_n 0, 1) := dk42 (k := 0) bX9_cutTokens_49 rfl
theorem dX9_cutTokens_50 : decode cX9_cutTokens 50 = .ok (.aload_n 0, 1) := dk42 (k := 1) bX9_cutTokens_49 rfl
theorem dX9_cutTokens_51 : decode cX9_cutTokens 51 = .ok (.iload_n 1, 1) := dk27 (k := 2) bX9_cutTokens_49 rfl
theorem dX9_cutTokens_52 : decode cX9_cutTokens 52 = .ok (.iload 4, 2) := dk21 (k := 3) bX9_cutTokens_49 rfl rfl
theorem dX9_cutTokens_54 : decode cX9_cutTokens 54 = .ok (.invokevirtual 43, 3) := dk182 (k := 5) bX9_cutTokens_49 rfl rfl
theorem dX9_cutTokens_57 : decode cX9_cutTokens 57 = .ok (.iload_n 1, 1) := dk27 (k := 8) bX9_cutTokens_49 rfl
theorem dX9_cutTokens_58 : decode cX9_cutTokens 58 = .ok (.iconst 0, 1) := dk3 (k := 9) bX9_cutTokens_49 rfl
theorem dX9_cutTokens_59 : decode cX9_cutTokens 59 = .ok (.invokevirtual 47, 3) := dk182 (k := 10) bX9_cutTokens_49 rfl rfl
theorem dX9_cutTokens_62 : decode cX9_cutTokens 62 = .ok (.goto 62, 3) := dk167 (k := 13) bX9_cutTokens_49 rfl (by decide)
theorem dX9_cutTokens_65 : decode cX9_cutTokens 65 = .ok (.iload_n 3, 1) := dk29 (k := 16) bX9_cutTokens_49 rfl
theorem dX9_cutTokens_66 : decode cX9_cutTokens 66 = .ok (.invokestatic 51, 3) := dk184 (k := 17) bX9_cutTokens_49 rfl rfl
theorem dX9_cutTokens_69 : decode cX9_cutTokens 69 = .ok (.ifCond .eq 26, 3) := dk153 (k := 20) bX9_cutTokens_49 rfl (by decide)
theorem dX9_cutTokens_72 : decode cX9_cutTokens 72 = .ok (.aload_n 0, 1) := dk42 (k := 23) bX9_cutTokens_49 rfl
theorem bX9_cutTokens_73 : bL cX9_cutTokens 73 [27, 182, 0, 54, 54, 4, 42, 6, 27, 42, 27, 21, 4, 182, 0, 57, 182, 0, 47, 167, 0, 32, 29, 16, 32] := bL_of (by decide +kernel)
theorem dX9_cutTokens_73 : decode cX9_cutTokens 73 = .ok (.iload_n 1, 1) := dk27 (k := 0) bX9_cutTokens_73 rfl
theorem dX9_cutTokens_74 : decode cX9_cutTokens 74 = .ok (.invokevirtual 54, 3) := dk182 (k := 1) bX9_cutTokens_73 rfl rfl
theorem dX9_cutTokens_77 : decode cX9_cutTokens 77 = .ok (.istore 4, 2) := dk54 (k := 4) bX9_cutTokens_73 rfl rfl
theorem dX9_cutTokens_79 : decode cX9_cutTokens 79 = .ok (.aload_n 0, 1) := dk42 (k := 6) bX9_cutTokens_73 rfl
theorem dX9_cutTokens_80 : decode cX9_cutTokens 80 = .ok (.iconst 3, 1) := dk6 (k := 7) bX9_cutTokens_73 rfl
theorem dX9_cutTokens_81 : decode cX9_cutTokens 81 = .ok (.iload_n 1, 1) := dk27 (k := 8) bX9_cutTokens_73 rfl
theorem dX9_cutTokens_82 : decode cX9_cutTokens 82 = .ok (.aload_n 0, 1) := dk42 (k := 9) bX9_cutTokens_73 rfl
theorem dX9_cutTokens_83 : decode cX9_cutTokens 83 = .ok (.iload_n 1, 1) := dk27 (k := 10) bX9_cutTokens_73 rfl
theorem dX9_cutTokens_84 : decode cX9_cutTokens 84 = .ok (.iload 4, 2) := dk21 (k := 11) bX9_cutTokens_73 rfl rfl
theorem dX9_cutTokens_86 : decode cX9_cutTokens 86 = .ok (.invokevirtual 57, 3) := dk182 (k := 13) bX9_cutTokens_73 rfl rfl
theorem dX9_cutTokens_89 : decode cX9_cutTokens 89 = .ok (.invokevirtual 47, 3) := dk182 (k := 16) bX9_cutTokens_73 rfl rfl
theorem dX9_cutTokens_92 : decode cX9_cutTokens 92 = .ok (.goto 32, 3) := dk167 (k := 19) bX9_cutTokens_73 rfl (by decide)
theorem dX9_cutTokens_95 : decode cX9_cutTokens 95 = .ok (.iload_n 3, 1) := dk29 (k := 22) bX9_cutTokens_73 rfl
theorem dX9_cutTokens_96 : decode cX9_cutTokens 96 = .ok (.bipush 32, 2) := dk16 (k := 23) bX9_cutTokens_73 rfl (by decide)
theorem bX9_cutTokens_98 : bL cX9_cutTokens 98 [159, 0, 26, 29, 16, 10, 159, 0, 20, 42, 29, 16, 59, 160, 0, 7, 5, 167, 0, 4, 4, 27, 3, 182, 0, 47] := bL_of (by decide +kernel)
theorem dX9_cutTokens_98 : decode cX9_cutTokens 98 = .ok (.if_icmp .eq 26, 3) := dk159 (k := 0) bX9_cutTokens_98 rfl (by decide)
theorem dX9_cutTokens_101 : decode cX9_cutTokens 101 = .ok (.iload_n 3, 1) := dk29 (k := 3) bX9_cutTokens_98 rfl
theorem dX9_cutTokens_102 : decode cX9_cutTokens 102 = .ok (.bipush 10, 2) := dk16 (k := 4) bX9_cutTokens_98 rfl (by decide)
theorem dX9_cutTokens_104 : decode cX9_cutTokens 104 = .ok (.if_icmp .eq 20, 3) := dk159 (k := 6) bX9_cutTokens_98 rfl (by decide)
theorem dX9_cutTokens_107 : decode cX9_cutTokens 107 = .ok (.aload_n 0, 1) := dk42 (k := 9) bX9_cutTokens_98 rfl
theorem dX9_cutTokens_108 : decode cX9_cutTokens 108 = .ok (.iload_n 3, 1) := dk29 (k := 10) bX9_cutTokens_98 rfl
theorem dX9_cutTokens_109 : decode cX9_cutTokens 109 = .ok (.bipush 59, 2) := dk16 (k := 11) bX9_cutTokens_98 rfl (by decide)
theorem dX9_cutTokens_111 : decode cX9_cutTokens 111 = .ok (.if_icmp .ne 7, 3) := dk160 (k := 13) bX9_cutTokens_98 rfl (by decide)
theorem dX9_cutTokens_114 : decode cX9_cutTokens 114 = .ok (.iconst 2, 1) := dk5 (k := 16) bX9_cutTokens_98 rfl
theorem dX9_cutTokens_115 : decode cX9_cutTokens 115 = .ok (.goto 4, 3) := dk167 (k := 17) bX9_cutTokens_98 rfl (by decide)
theorem dX9_cutTokens_118 : decode cX9_cutTokens 118 = .ok (.iconst 1, 1) := dk4 (k := 20) bX9_cutTokens_98 rfl
theorem dX9_cutTokens_119 : decode cX9_cutTokens 119 = .ok (.iload_n 1, 1) := dk27 (k := 21) bX9_cutTokens_98 rfl
theorem dX9_cutTokens_120 : decode cX9_cutTokens 120 = .ok (.iconst 0, 1) := dk3 (k := 22) bX9_cutTokens_98 rfl
theorem dX9_cutTokens_121 : decode cX9_cutTokens 121 = .ok (.invokevirtual 47, 3) := dk182 (k := 23) bX9_cutTokens_98 rfl rfl
theorem bX9_cutTokens_124 : bL cX9_cutTokens 124 [21, 4, 60, 132, 2, 1, 167, 255, 135, 42, 3, 42, 180, 0, 25, 3, 182, 0, 47, 177] := bL_of (by decide +kernel)
theorem dX9_cutTokens_124 : decode cX9_cutTokens 124 = .ok (.iload 4, 2) := dk21 (k := 0) bX9_cutTokens_124 rfl rfl
theorem dX9_cutTokens_126 : decode cX9_cutTokens 126 = .ok (.istore_n 1, 1) := dk60 (k := 2) bX9_cutTokens_124 rfl
theorem dX9_cutTokens_127 : decode cX9_cutTokens 127 = .ok (.iinc 2 1, 3) := dk132 (k := 3) bX9_cutTokens_124 rfl rfl (by decide)
theorem dX9_cutTokens_130 : decode cX9_cutTokens 130 = .ok (.goto (-121), 3) := dk167 (k := 6) bX9_cutTokens_124 rfl (by decide)
theorem dX9_cutTokens_133 : decode cX9_cutTokens 133 = .ok (.aload_n 0, 1) := dk42 (k := 9) bX9_cutTokens_124 rfl
theorem dX9_cutTokens_134 : decode cX9_cutTokens 134 = .ok (.iconst 0, 1) := dk3 (k := 10) bX9_cutTokens_124 rfl
theorem dX9_cutTokens_135 : decode cX9_cutTokens 135 = .ok (.aload_n 0, 1) := dk42 (k := 11) bX9_cutTokens_124 rfl
theorem dX9_cutTokens_136 : decode cX9_cutTokens 136 = .ok (.getfield 25, 3) := dk180 (k := 12) bX9_cutTokens_124 rfl rfl
theorem dX9_cutTokens_139 : decode cX9_cutTokens 139 = .ok (.iconst 0, 1) := dk3 (k := 15) bX9_cutTokens_124 rfl
theorem dX9_cutTokens_140 : decode cX9_cutTokens 140 = .ok (.invokevirtual 47, 3) := dk182 (k := 16) bX9_cutTokens_124 rfl rfl
theorem dX9_cutTokens_143 : decode cX9_cutTokens 143 = .ok (.return_, 1) := dk177 (k := 19) bX9_cutTokens_124 rfl
theorem bX9_addToken_0 : bL cX9_addToken 0 [42, 180, 0, 29, 155, 0, 55, 42, 180, 0, 29, 42, 180, 0, 15, 190, 162, 0, 43, 42, 180, 0, 15, 42] := bL_of (by decide +kernel)
theorem dX9_addToken_0 : decode cX9_addToken 0 = .ok (.aload_n 0, 1) := dk42 (k := 0) bX9_addToken_0 rfl
theorem dX9_addToken_1 : decode cX9_addToken 1 = .ok (.getfield 29, 3) := dk180 (k := 1) bX9_addToken_0 rfl rfl
theorem dX9_addToken_4 : decode cX9_addToken 4 = .ok (.ifCond .lt 55, 3) := dk155 (k := 4) bX9_addToken_0 rfl (by decide)
theorem dX9_addToken_7 : decode cX9_addToken 7 = .ok (.aload_n 0, 1) := dk42 (k := 7) bX9_addToken_0 rfl
theorem dX9_addToken_8 : decode cX9_addToken 8 = .ok (.getfield 29, 3) := dk180 (k := 8) bX9_addToken_0 rfl rfl
theorem dX9_addToken_11 : decode cX9_addToken 11 = .ok (.aload_n 0, 1) := dk42 (k := 11) bX9_addToken_0 rfl
theorem dX9_addToken_12 : decode cX9_addToken 12 = .ok (.getfield 15, 3) := dk180 (k := 12) bX9_addToken_0 rfl rfl
theorem dX9_addToken_15 : decode cX9_addToken 15 = .ok (.arraylength, 1) := dk190 (k := 15) bX9_addToken_0 rfl
theorem dX9_addToken_16 : decode cX9_addToken 16 = .ok (.if_icmp .ge 43, 3) := dk162 (k := 16) bX9_addToken_0 rfl (by decide)
theorem dX9_addToken_19 : decode cX9_addToken 19 = .ok (.aload_n 0, 1) := dk42 (k := 19) bX9_addToken_0 rfl
theorem dX9_addToken_20 : decode cX9_addToken 20 = .ok (.getfield 15, 3) := dk180 (k := 20) bX9_addToken_0 rfl rfl
theorem dX9_addToken_23 : decode cX9_addToken 23 = .ok (.aload_n 0, 1) := dk42 (k := 23) bX9_addToken_0 rfl
theorem bX9_addToken_24 : bL cX9_addToken 24 [180, 0, 29, 27, 79, 42, 180, 0, 19, 42, 180, 0, 29, 28, 79, 42, 180, 0, 22, 42, 180, 0, 29, 29] := bL_of (by decide +kernel)
theorem dX9_addToken_24 : decode cX9_addToken 24 = .ok (.getfield 29, 3) := dk180 (k := 0) bX9_addToken_24 rfl rfl
theorem dX9_addToken_27 : decode cX9_addToken 27 = .ok (.iload_n 1, 1) := dk27 (k := 3) bX9_addToken_24 rfl
theorem dX9_addToken_28 : decode cX9_addToken 28 = .ok (.iastore, 1) := dk79 (k := 4) bX9_addToken_24 rfl
theorem dX9_addToken_29 : decode cX9_addToken 29 = .ok (.aload_n 0, 1) := dk42 (k := 5) bX9_addToken_24 rfl
theorem dX9_addToken_30 : decode cX9_addToken 30 = .ok (.getfield 19, 3) := dk180 (k := 6) bX9_addToken_24 rfl rfl
theorem dX9_addToken_33 : decode cX9_addToken 33 = .ok (.aload_n 0, 1) := dk42 (k := 9) bX9_addToken_24 rfl
theorem dX9_addToken_34 : decode cX9_addToken 34 = .ok (.getfield 29, 3) := dk180 (k := 10) bX9_addToken_24 rfl rfl
theorem dX9_addToken_37 : decode cX9_addToken 37 = .ok (.iload_n 2, 1) := dk28 (k := 13) bX9_addToken_24 rfl
theorem dX9_addToken_38 : decode cX9_addToken 38 = .ok (.iastore, 1) := dk79 (k := 14) bX9_addToken_24 rfl
theorem dX9_addToken_39 : decode cX9_addToken 39 = .ok (.aload_n 0, 1) := dk42 (k := 15) bX9_addToken_24 rfl
theorem dX9_addToken_40 : decode cX9_addToken 40 = .ok (.getfield 22, 3) := dk180 (k := 16) bX9_addToken_24 rfl rfl
theorem dX9_addToken_43 : decode cX9_addToken 43 = .ok (.aload_n 0, 1) := dk42 (k := 19) bX9_addToken_24 rfl
theorem dX9_addToken_44 : decode cX9_addToken 44 = .ok (.getfield 29, 3) := dk180 (k := 20) bX9_addToken_24 rfl rfl
theorem dX9_addToken_47 : decode cX9_addToken 47 = .ok (.iload_n 3, 1) := dk29 (k := 23) bX9_addToken_24 rfl
theorem bX9_addToken_48 : bL cX9_addToken 48 [79, 42, 89, 180, 0, 29, 4, 96, 181, 0, 29, 177] := bL_of (by decide +kernel)
theorem dX9_addToken_48 : decode cX9_addToken 48 = .ok (.iastore, 1) := dk79 (k := 0) bX9_addToken_48 rfl
theorem dX9_addToken_49 : decode cX9_addToken 49 = .ok (.aload_n 0, 1) := dk42 (k := 1) bX9_addToken_48 rfl
theorem dX9_addToken_50 : decode cX9_addToken 50 = .ok (.dup, 1) := dk89 (k := 2) bX9_addToken_48 rfl
theorem dX9_addToken_51 : decode cX9_addToken 51 = .ok (.getfield 29, 3) := dk180 (k := 3) bX9_addToken_48 rfl rfl
theorem dX9_addToken_54 : decode cX9_addToken 54 = .ok (.iconst 1, 1) := dk4 (k := 6) bX9_addToken_48 rfl
theorem dX9_addToken_55 : decode cX9_addToken 55 = .ok (.iadd, 1) := dk96 (k := 7) bX9_addToken_48 rfl
theorem dX9_addToken_56 : decode cX9_addToken 56 = .ok (.putfield 29, 3) := dk181 (k := 8) bX9_addToken_48 rfl rfl
theorem dX9_addToken_59 : decode cX9_addToken 59 = .ok (.return_, 1) := dk177 (k := 11) bX9_addToken_48 rfl
theorem bX9_wordEnd_0 : bL cX9_wordEnd 0 [27, 61, 3, 62, 29, 17, 3, 132, 162, 0, 23, 42, 28, 182, 0, 32, 184, 0, 36, 153, 0, 12, 132, 2, 1] := bL_of (by decide +kernel)
theorem dX9_wordEnd_0 : decode cX9_wordEnd 0 = .ok (.iload_n 1, 1) := dk27 (k := 0) bX9_wordEnd_0 rfl
theorem dX9_wordEnd_1 : decode cX9_wordEnd 1 = .ok (.istore_n 2, 1) := dk61 (k := 1) bX9_wordEnd_0 rfl
theorem dX9_wordEnd_2 : decode cX9_wordEnd 2 = .ok (.iconst 0, 1) := dk3 (k := 2) bX9_wordEnd_0 rfl
theorem dX9_wordEnd_3 : decode cX9_wordEnd 3 = .ok (.istore_n 3, 1) := dk62 (k := 3) bX9_wordEnd_0 rfl
theorem dX9_wordEnd_4 : decode cX9_wordEnd 4 = .ok (.iload_n 3, 1) := dk29 (k := 4) bX9_wordEnd_0 rfl
theorem dX9_wordEnd_5 : decode cX9_wordEnd 5 = .ok (.sipush 900, 3) := dk17 (k := 5) bX9_wordEnd_0 rfl (by decide)
theorem dX9_wordEnd_8 : decode cX9_wordEnd 8 = .ok (.if_icmp .ge 23, 3) := dk162 (k := 8) bX9_wordEnd_0 rfl (by decide)
theorem dX9_wordEnd_11 : decode cX9_wordEnd 11 = .ok (.aload_n 0, 1) := dk42 (k := 11) bX9_wordEnd_0 rfl
theorem dX9_wordEnd_12 : decode cX9_wordEnd 12 = .ok (.iload_n 2, 1) := dk28 (k := 12) bX9_wordEnd_0 rfl
theorem dX9_wordEnd_13 : decode cX9_wordEnd 13 = .ok (.invokevirtual 32, 3) := dk182 (k := 13) bX9_wordEnd_0 rfl rfl
theorem dX9_wordEnd_16 : decode cX9_wordEnd 16 = .ok (.invokestatic 36, 3) := dk184 (k := 16) bX9_wordEnd_0 rfl rfl
theorem dX9_wordEnd_19 : decode cX9_wordEnd 19 = .ok (.ifCond .eq 12, 3) := dk153 (k := 19) bX9_wordEnd_0 rfl (by decide)
theorem dX9_wordEnd_22 : decode cX9_wordEnd 22 = .ok (.iinc 2 1, 3) := dk132 (k := 22) bX9_wordEnd_0 rfl rfl (by decide)
theorem bX9_wordEnd_25 : bL cX9_wordEnd 25 [132, 3, 1, 167, 255, 232, 28, 172] := bL_of (by decide +kernel)
theorem dX9_wordEnd_25 : decode cX9_wordEnd 25 = .ok (.iinc 3 1, 3) := dk132 (k := 0) bX9_wordEnd_25 rfl rfl (by decide)
theorem dX9_wordEnd_28 : decode cX9_wordEnd 28 = .ok (.goto (-24), 3) := dk167 (k := 3) bX9_wordEnd_25 rfl (by decide)
theorem dX9_wordEnd_31 : decode cX9_wordEnd 31 = .ok (.iload_n 2, 1) := dk28 (k := 6) bX9_wordEnd_25 rfl
theorem dX9_wordEnd_32 : decode cX9_wordEnd 32 = .ok (.ireturn, 1) := dk172 (k := 7) bX9_wordEnd_25 rfl
theorem bX9_numberEnd_0 : bL cX9_numberEnd 0 [27, 61, 3, 62, 29, 17, 3, 132, 162, 0, 23, 42, 28, 182, 0, 32, 184, 0, 51, 153, 0, 12, 132, 2, 1] := bL_of (by decide +kernel)
theorem dX9_numberEnd_0 : decode cX9_numberEnd 0 = .ok (.iload_n 1, 1) := dk27 (k := 0) bX9_numberEnd_0 rfl
theorem dX9_numberEnd_1 : decode cX9_numberEnd 1 = .ok (.istore_n 2, 1) := dk61 (k := 1) bX9_numberEnd_0 rfl
theorem dX9_numberEnd_2 : decode cX9_numberEnd 2 = .ok (.iconst 0, 1) := dk3 (k := 2) bX9_numberEnd_0 rfl
theorem dX9_numberEnd_3 : decode cX9_numberEnd 3 = .ok (.istore_n 3, 1) := dk62 (k := 3) bX9_numberEnd_0 rfl
theorem dX9_numberEnd_4 : decode cX9_numberEnd 4 = .ok (.iload_n 3, 1) := dk29 (k := 4) bX9_numberEnd_0 rfl
theorem dX9_numberEnd_5 : decode cX9_numberEnd 5 = .ok (.sipush 900, 3) := dk17 (k := 5) bX9_numberEnd_0 rfl (by decide)
theorem dX9_numberEnd_8 : decode cX9_numberEnd 8 = .ok (.if_icmp .ge 23, 3) := dk162 (k := 8) bX9_numberEnd_0 rfl (by decide)
theorem dX9_numberEnd_11 : decode cX9_numberEnd 11 = .ok (.aload_n 0, 1) := dk42 (k := 11) bX9_numberEnd_0 rfl
theorem dX9_numberEnd_12 : decode cX9_numberEnd 12 = .ok (.iload_n 2, 1) := dk28 (k := 12) bX9_numberEnd_0 rfl
theorem dX9_numberEnd_13 : decode cX9_numberEnd 13 = .ok (.invokevirtual 32, 3) := dk182 (k := 13) bX9_numberEnd_0 rfl rfl
theorem dX9_numberEnd_16 : decode cX9_numberEnd 16 = .ok (.invokestatic 51, 3) := dk184 (k := 16) bX9_numberEnd_0 rfl rfl
theorem dX9_numberEnd_19 : decode cX9_numberEnd 19 = .ok (.ifCond .eq 12, 3) := dk153 (k := 19) bX9_numberEnd_0 rfl (by decide)
theorem dX9_numberEnd_22 : decode cX9_numberEnd 22 = .ok (.iinc 2 1, 3) := dk132 (k := 22) bX9_numberEnd_0 rfl rfl (by decide)
theorem bX9_numberEnd_25 : bL cX9_numberEnd 25 [132, 3, 1, 167, 255, 232, 28, 172] := bL_of (by decide +kernel)
theorem dX9_numberEnd_25 : decode cX9_numberEnd 25 = .ok (.iinc 3 1, 3) := dk132 (k := 0) bX9_numberEnd_25 rfl rfl (by decide)
theorem dX9_numberEnd_28 : decode cX9_numberEnd 28 = .ok (.goto (-24), 3) := dk167 (k := 3) bX9_numberEnd_25 rfl (by decide)
theorem dX9_numberEnd_31 : decode cX9_numberEnd 31 = .ok (.iload_n 2, 1) := dk28 (k := 6) bX9_numberEnd_25 rfl
theorem dX9_numberEnd_32 : decode cX9_numberEnd 32 = .ok (.ireturn, 1) := dk172 (k := 7) bX9_numberEnd_25 rfl
theorem bX9_numberOf_0 : bL cX9_numberOf 0 [3, 62, 27, 54, 4, 21, 4, 28, 162, 0, 30, 29, 18, 60, 162, 0, 18, 29, 16, 10, 104, 42, 21, 4] := bL_of (by decide +kernel)
theorem dX9_numberOf_0 : decode cX9_numberOf 0 = .ok (.iconst 0, 1) := dk3 (k := 0) bX9_numberOf_0 rfl
theorem dX9_numberOf_1 : decode cX9_numberOf 1 = .ok (.istore_n 3, 1) := dk62 (k := 1) bX9_numberOf_0 rfl
theorem dX9_numberOf_2 : decode cX9_numberOf 2 = .ok (.iload_n 1, 1) := dk27 (k := 2) bX9_numberOf_0 rfl
theorem dX9_numberOf_3 : decode cX9_numberOf 3 = .ok (.istore 4, 2) := dk54 (k := 3) bX9_numberOf_0 rfl rfl
theorem dX9_numberOf_5 : decode cX9_numberOf 5 = .ok (.iload 4, 2) := dk21 (k := 5) bX9_numberOf_0 rfl rfl
theorem dX9_numberOf_7 : decode cX9_numberOf 7 = .ok (.iload_n 2, 1) := dk28 (k := 7) bX9_numberOf_0 rfl
theorem dX9_numberOf_8 : decode cX9_numberOf 8 = .ok (.if_icmp .ge 30, 3) := dk162 (k := 8) bX9_numberOf_0 rfl (by decide)
theorem dX9_numberOf_11 : decode cX9_numberOf 11 = .ok (.iload_n 3, 1) := dk29 (k := 11) bX9_numberOf_0 rfl
theorem dX9_numberOf_12 : decode cX9_numberOf 12 = .ok (.ldc 60, 2) := dk18 (k := 12) bX9_numberOf_0 rfl rfl
theorem dX9_numberOf_14 : decode cX9_numberOf 14 = .ok (.if_icmp .ge 18, 3) := dk162 (k := 14) bX9_numberOf_0 rfl (by decide)
theorem dX9_numberOf_17 : decode cX9_numberOf 17 = .ok (.iload_n 3, 1) := dk29 (k := 17) bX9_numberOf_0 rfl
theorem dX9_numberOf_18 : decode cX9_numberOf 18 = .ok (.bipush 10, 2) := dk16 (k := 18) bX9_numberOf_0 rfl (by decide)
theorem dX9_numberOf_20 : decode cX9_numberOf 20 = .ok (.imul, 1) := dk104 (k := 20) bX9_numberOf_0 rfl
theorem dX9_numberOf_21 : decode cX9_numberOf 21 = .ok (.aload_n 0, 1) := dk42 (k := 21) bX9_numberOf_0 rfl
theorem dX9_numberOf_22 : decode cX9_numberOf 22 = .ok (.iload 4, 2) := dk21 (k := 22) bX9_numberOf_0 rfl rfl
theorem bX9_numberOf_24 : bL cX9_numberOf 24 [182, 0, 32, 96, 16, 48, 100, 62, 132, 4, 1, 167, 255, 226, 29, 172] := bL_of (by decide +kernel)
theorem dX9_numberOf_24 : decode cX9_numberOf 24 = .ok (.invokevirtual 32, 3) := dk182 (k := 0) bX9_numberOf_24 rfl rfl
theorem dX9_numberOf_27 : decode cX9_numberOf 27 = .ok (.iadd, 1) := dk96 (k := 3) bX9_numberOf_24 rfl
theorem dX9_numberOf_28 : decode cX9_numberOf 28 = .ok (.bipush 48, 2) := dk16 (k := 4) bX9_numberOf_24 rfl (by decide)
theorem dX9_numberOf_30 : decode cX9_numberOf 30 = .ok (.isub, 1) := dk100 (k := 6) bX9_numberOf_24 rfl
theorem dX9_numberOf_31 : decode cX9_numberOf 31 = .ok (.istore_n 3, 1) := dk62 (k := 7) bX9_numberOf_24 rfl
theorem dX9_numberOf_32 : decode cX9_numberOf 32 = .ok (.iinc 4 1, 3) := dk132 (k := 8) bX9_numberOf_24 rfl rfl (by decide)
theorem dX9_numberOf_35 : decode cX9_numberOf 35 = .ok (.goto (-30), 3) := dk167 (k := 11) bX9_numberOf_24 rfl (by decide)
theorem dX9_numberOf_38 : decode cX9_numberOf 38 = .ok (.iload_n 3, 1) := dk29 (k := 14) bX9_numberOf_24 rfl
theorem dX9_numberOf_39 : decode cX9_numberOf 39 = .ok (.ireturn, 1) := dk172 (k := 15) bX9_numberOf_24 rfl
theorem bX9_wordKind_0 : bL cX9_wordKind 0 [7, 62, 29, 16, 16, 163, 0, 24, 42, 27, 28, 29, 184, 0, 61, 182, 0, 65, 153, 0, 5, 29, 172, 132, 3, 1] := bL_of (by decide +kernel)
theorem dX9_wordKind_0 : decode cX9_wordKind 0 = .ok (.iconst 4, 1) := dk7 (k := 0) bX9_wordKind_0 rfl
theorem dX9_wordKind_1 : decode cX9_wordKind 1 = .ok (.istore_n 3, 1) := dk62 (k := 1) bX9_wordKind_0 rfl
theorem dX9_wordKind_2 : decode cX9_wordKind 2 = .ok (.iload_n 3, 1) := dk29 (k := 2) bX9_wordKind_0 rfl
theorem dX9_wordKind_3 : decode cX9_wordKind 3 = .ok (.bipush 16, 2) := dk16 (k := 3) bX9_wordKind_0 rfl (by decide)
theorem dX9_wordKind_5 : decode cX9_wordKind 5 = .ok (.if_icmp .gt 24, 3) := dk163 (k := 5) bX9_wordKind_0 rfl (by decide)
theorem dX9_wordKind_8 : decode cX9_wordKind 8 = .ok (.aload_n 0, 1) := dk42 (k := 8) bX9_wordKind_0 rfl
theorem dX9_wordKind_9 : decode cX9_wordKind 9 = .ok (.iload_n 1, 1) := dk27 (k := 9) bX9_wordKind_0 rfl
theorem dX9_wordKind_10 : decode cX9_wordKind 10 = .ok (.iload_n 2, 1) := dk28 (k := 10) bX9_wordKind_0 rfl
theorem dX9_wordKind_11 : decode cX9_wordKind 11 = .ok (.iload_n 3, 1) := dk29 (k := 11) bX9_wordKind_0 rfl
theorem dX9_wordKind_12 : decode cX9_wordKind 12 = .ok (.invokestatic 61, 3) := dk184 (k := 12) bX9_wordKind_0 rfl rfl
theorem dX9_wordKind_15 : decode cX9_wordKind 15 = .ok (.invokevirtual 65, 3) := dk182 (k := 15) bX9_wordKind_0 rfl rfl
theorem dX9_wordKind_18 : decode cX9_wordKind 18 = .ok (.ifCond .eq 5, 3) := dk153 (k := 18) bX9_wordKind_0 rfl (by decide)
theorem dX9_wordKind_21 : decode cX9_wordKind 21 = .ok (.iload_n 3, 1) := dk29 (k := 21) bX9_wordKind_0 rfl
theorem dX9_wordKind_22 : decode cX9_wordKind 22 = .ok (.ireturn, 1) := dk172 (k := 22) bX9_wordKind_0 rfl
theorem dX9_wordKind_23 : decode cX9_wordKind 23 = .ok (.iinc 3 1, 3) := dk132 (k := 23) bX9_wordKind_0 rfl rfl (by decide)
theorem bX9_wordKind_26 : bL cX9_wordKind 26 [167, 255, 232, 4, 172] := bL_of (by decide +kernel)
theorem dX9_wordKind_26 : decode cX9_wordKind 26 = .ok (.goto (-24), 3) := dk167 (k := 0) bX9_wordKind_26 rfl (by decide)
theorem dX9_wordKind_29 : decode cX9_wordKind 29 = .ok (.iconst 1, 1) := dk4 (k := 3) bX9_wordKind_26 rfl
theorem dX9_wordKind_30 : decode cX9_wordKind 30 = .ok (.ireturn, 1) := dk172 (k := 4) bX9_wordKind_26 rfl
theorem bX9_isText_0 : bL cX9_isText 0 [28, 27, 100, 45, 182, 0, 69, 159, 0, 5, 3, 172, 3, 54, 4, 21, 4, 45, 182, 0, 69, 162, 0, 28] := bL_of (by decide +kernel)
theorem dX9_isText_0 : decode cX9_isText 0 = .ok (.iload_n 2, 1) := dk28 (k := 0) bX9_isText_0 rfl
theorem dX9_isText_1 : decode cX9_isText 1 = .ok (.iload_n 1, 1) := dk27 (k := 1) bX9_isText_0 rfl
theorem dX9_isText_2 : decode cX9_isText 2 = .ok (.isub, 1) := dk100 (k := 2) bX9_isText_0 rfl
theorem dX9_isText_3 : decode cX9_isText 3 = .ok (.aload_n 3, 1) := dk45 (k := 3) bX9_isText_0 rfl
theorem dX9_isText_4 : decode cX9_isText 4 = .ok (.invokevirtual 69, 3) := dk182 (k := 4) bX9_isText_0 rfl rfl
theorem dX9_isText_7 : decode cX9_isText 7 = .ok (.if_icmp .eq 5, 3) := dk159 (k := 7) bX9_isText_0 rfl (by decide)
theorem dX9_isText_10 : decode cX9_isText 10 = .ok (.iconst 0, 1) := dk3 (k := 10) bX9_isText_0 rfl
theorem dX9_isText_11 : decode cX9_isText 11 = .ok (.ireturn, 1) := dk172 (k := 11) bX9_isText_0 rfl
theorem dX9_isText_12 : decode cX9_isText 12 = .ok (.iconst 0, 1) := dk3 (k := 12) bX9_isText_0 rfl
theorem dX9_isText_13 : decode cX9_isText 13 = .ok (.istore 4, 2) := dk54 (k := 13) bX9_isText_0 rfl rfl
theorem dX9_isText_15 : decode cX9_isText 15 = .ok (.iload 4, 2) := dk21 (k := 15) bX9_isText_0 rfl rfl
theorem dX9_isText_17 : decode cX9_isText 17 = .ok (.aload_n 3, 1) := dk45 (k := 17) bX9_isText_0 rfl
theorem dX9_isText_18 : decode cX9_isText 18 = .ok (.invokevirtual 69, 3) := dk182 (k := 18) bX9_isText_0 rfl rfl
theorem dX9_isText_21 : decode cX9_isText 21 = .ok (.if_icmp .ge 28, 3) := dk162 (k := 21) bX9_isText_0 rfl (by decide)
theorem bX9_isText_24 : bL cX9_isText 24 [42, 27, 21, 4, 96, 182, 0, 32, 45, 21, 4, 182, 0, 75, 159, 0, 5, 3, 172, 132, 4, 1, 167, 255, 225] := bL_of (by decide +kernel)
theorem dX9_isText_24 : decode cX9_isText 24 = .ok (.aload_n 0, 1) := dk42 (k := 0) bX9_isText_24 rfl
theorem dX9_isText_25 : decode cX9_isText 25 = .ok (.iload_n 1, 1) := dk27 (k := 1) bX9_isText_24 rfl
theorem dX9_isText_26 : decode cX9_isText 26 = .ok (.iload 4, 2) := dk21 (k := 2) bX9_isText_24 rfl rfl
theorem dX9_isText_28 : decode cX9_isText 28 = .ok (.iadd, 1) := dk96 (k := 4) bX9_isText_24 rfl
theorem dX9_isText_29 : decode cX9_isText 29 = .ok (.invokevirtual 32, 3) := dk182 (k := 5) bX9_isText_24 rfl rfl
theorem dX9_isText_32 : decode cX9_isText 32 = .ok (.aload_n 3, 1) := dk45 (k := 8) bX9_isText_24 rfl
theorem dX9_isText_33 : decode cX9_isText 33 = .ok (.iload 4, 2) := dk21 (k := 9) bX9_isText_24 rfl rfl
theorem dX9_isText_35 : decode cX9_isText 35 = .ok (.invokevirtual 75, 3) := dk182 (k := 11) bX9_isText_24 rfl rfl
theorem dX9_isText_38 : decode cX9_isText 38 = .ok (.if_icmp .eq 5, 3) := dk159 (k := 14) bX9_isText_24 rfl (by decide)
theorem dX9_isText_41 : decode cX9_isText 41 = .ok (.iconst 0, 1) := dk3 (k := 17) bX9_isText_24 rfl
theorem dX9_isText_42 : decode cX9_isText 42 = .ok (.ireturn, 1) := dk172 (k := 18) bX9_isText_24 rfl
theorem dX9_isText_43 : decode cX9_isText 43 = .ok (.iinc 4 1, 3) := dk132 (k := 19) bX9_isText_24 rfl rfl (by decide)
theorem dX9_isText_46 : decode cX9_isText 46 = .ok (.goto (-31), 3) := dk167 (k := 22) bX9_isText_24 rfl (by decide)
theorem bX9_isText_49 : bL cX9_isText 49 [4, 172] := bL_of (by decide +kernel)
theorem dX9_isText_49 : decode cX9_isText 49 = .ok (.iconst 1, 1) := dk4 (k := 0) bX9_isText_49 rfl
theorem dX9_isText_50 : decode cX9_isText 50 = .ok (.ireturn, 1) := dk172 (k := 1) bX9_isText_49 rfl
theorem bX9_textOf_0 : bL cX9_textOf 0 [26] := bL_of (by decide +kernel)
theorem dX9_textOf_0 : decode cX9_textOf 0 = .ok (.iload_n 0, 1) := dk26 (k := 0) bX9_textOf_0 rfl
theorem dX9_textOf_1 : decode cX9_textOf 1 = .ok (.tableswitch 99 4 15 #[63, 66, 69, 72, 75, 78, 81, 84, 87, 90, 93, 96], 63) := by decide +kernel
theorem bX9_textOf_64 : bL cX9_textOf 64 [18, 79, 176, 18, 81, 176, 18, 83, 176, 18, 85, 176, 18, 87, 176, 18, 89, 176, 18, 91, 176, 18, 93, 176] := bL_of (by decide +kernel)
theorem dX9_textOf_64 : decode cX9_textOf 64 = .ok (.ldc 79, 2) := dk18 (k := 0) bX9_textOf_64 rfl rfl
theorem dX9_textOf_66 : decode cX9_textOf 66 = .ok (.areturn, 1) := dk176 (k := 2) bX9_textOf_64 rfl
theorem dX9_textOf_67 : decode cX9_textOf 67 = .ok (.ldc 81, 2) := dk18 (k := 3) bX9_textOf_64 rfl rfl
theorem dX9_textOf_69 : decode cX9_textOf 69 = .ok (.areturn, 1) := dk176 (k := 5) bX9_textOf_64 rfl
theorem dX9_textOf_70 : decode cX9_textOf 70 = .ok (.ldc 83, 2) := dk18 (k := 6) bX9_textOf_64 rfl rfl
theorem dX9_textOf_72 : decode cX9_textOf 72 = .ok (.areturn, 1) := dk176 (k := 8) bX9_textOf_64 rfl
theorem dX9_textOf_73 : decode cX9_textOf 73 = .ok (.ldc 85, 2) := dk18 (k := 9) bX9_textOf_64 rfl rfl
theorem dX9_textOf_75 : decode cX9_textOf 75 = .ok (.areturn, 1) := dk176 (k := 11) bX9_textOf_64 rfl
theorem dX9_textOf_76 : decode cX9_textOf 76 = .ok (.ldc 87, 2) := dk18 (k := 12) bX9_textOf_64 rfl rfl
theorem dX9_textOf_78 : decode cX9_textOf 78 = .ok (.areturn, 1) := dk176 (k := 14) bX9_textOf_64 rfl
theorem dX9_textOf_79 : decode cX9_textOf 79 = .ok (.ldc 89, 2) := dk18 (k := 15) bX9_textOf_64 rfl rfl
theorem dX9_textOf_81 : decode cX9_textOf 81 = .ok (.areturn, 1) := dk176 (k := 17) bX9_textOf_64 rfl
theorem dX9_textOf_82 : decode cX9_textOf 82 = .ok (.ldc 91, 2) := dk18 (k := 18) bX9_textOf_64 rfl rfl
theorem dX9_textOf_84 : decode cX9_textOf 84 = .ok (.areturn, 1) := dk176 (k := 20) bX9_textOf_64 rfl
theorem dX9_textOf_85 : decode cX9_textOf 85 = .ok (.ldc 93, 2) := dk18 (k := 21) bX9_textOf_64 rfl rfl
theorem dX9_textOf_87 : decode cX9_textOf 87 = .ok (.areturn, 1) := dk176 (k := 23) bX9_textOf_64 rfl
theorem bX9_textOf_88 : bL cX9_textOf 88 [18, 95, 176, 18, 97, 176, 18, 99, 176, 18, 101, 176, 18, 103, 176] := bL_of (by decide +kernel)
theorem dX9_textOf_88 : decode cX9_textOf 88 = .ok (.ldc 95, 2) := dk18 (k := 0) bX9_textOf_88 rfl rfl
theorem dX9_textOf_90 : decode cX9_textOf 90 = .ok (.areturn, 1) := dk176 (k := 2) bX9_textOf_88 rfl
theorem dX9_textOf_91 : decode cX9_textOf 91 = .ok (.ldc 97, 2) := dk18 (k := 3) bX9_textOf_88 rfl rfl
theorem dX9_textOf_93 : decode cX9_textOf 93 = .ok (.areturn, 1) := dk176 (k := 5) bX9_textOf_88 rfl
theorem dX9_textOf_94 : decode cX9_textOf 94 = .ok (.ldc 99, 2) := dk18 (k := 6) bX9_textOf_88 rfl rfl
theorem dX9_textOf_96 : decode cX9_textOf 96 = .ok (.areturn, 1) := dk176 (k := 8) bX9_textOf_88 rfl
theorem dX9_textOf_97 : decode cX9_textOf 97 = .ok (.ldc 101, 2) := dk18 (k := 9) bX9_textOf_88 rfl rfl
theorem dX9_textOf_99 : decode cX9_textOf 99 = .ok (.areturn, 1) := dk176 (k := 11) bX9_textOf_88 rfl
theorem dX9_textOf_100 : decode cX9_textOf 100 = .ok (.ldc 103, 2) := dk18 (k := 12) bX9_textOf_88 rfl rfl
theorem dX9_textOf_102 : decode cX9_textOf 102 = .ok (.areturn, 1) := dk176 (k := 14) bX9_textOf_88 rfl
theorem bX9_isLetter_0 : bL cX9_isLetter 0 [26, 16, 97, 161, 0, 13, 26, 16, 122, 163, 0, 7, 4, 167, 0, 4, 3, 172] := bL_of (by decide +kernel)
theorem dX9_isLetter_0 : decode cX9_isLetter 0 = .ok (.iload_n 0, 1) := dk26 (k := 0) bX9_isLetter_0 rfl
theorem dX9_isLetter_1 : decode cX9_isLetter 1 = .ok (.bipush 97, 2) := dk16 (k := 1) bX9_isLetter_0 rfl (by decide)
theorem dX9_isLetter_3 : decode cX9_isLetter 3 = .ok (.if_icmp .lt 13, 3) := dk161 (k := 3) bX9_isLetter_0 rfl (by decide)
theorem dX9_isLetter_6 : decode cX9_isLetter 6 = .ok (.iload_n 0, 1) := dk26 (k := 6) bX9_isLetter_0 rfl
theorem dX9_isLetter_7 : decode cX9_isLetter 7 = .ok (.bipush 122, 2) := dk16 (k := 7) bX9_isLetter_0 rfl (by decide)
theorem dX9_isLetter_9 : decode cX9_isLetter 9 = .ok (.if_icmp .gt 7, 3) := dk163 (k := 9) bX9_isLetter_0 rfl (by decide)
theorem dX9_isLetter_12 : decode cX9_isLetter 12 = .ok (.iconst 1, 1) := dk4 (k := 12) bX9_isLetter_0 rfl
theorem dX9_isLetter_13 : decode cX9_isLetter 13 = .ok (.goto 4, 3) := dk167 (k := 13) bX9_isLetter_0 rfl (by decide)
theorem dX9_isLetter_16 : decode cX9_isLetter 16 = .ok (.iconst 0, 1) := dk3 (k := 16) bX9_isLetter_0 rfl
theorem dX9_isLetter_17 : decode cX9_isLetter 17 = .ok (.ireturn, 1) := dk172 (k := 17) bX9_isLetter_0 rfl
theorem bX9_isDigit_0 : bL cX9_isDigit 0 [26, 16, 48, 161, 0, 13, 26, 16, 57, 163, 0, 7, 4, 167, 0, 4, 3, 172] := bL_of (by decide +kernel)
theorem dX9_isDigit_0 : decode cX9_isDigit 0 = .ok (.iload_n 0, 1) := dk26 (k := 0) bX9_isDigit_0 rfl
theorem dX9_isDigit_1 : decode cX9_isDigit 1 = .ok (.bipush 48, 2) := dk16 (k := 1) bX9_isDigit_0 rfl (by decide)
theorem dX9_isDigit_3 : decode cX9_isDigit 3 = .ok (.if_icmp .lt 13, 3) := dk161 (k := 3) bX9_isDigit_0 rfl (by decide)
theorem dX9_isDigit_6 : decode cX9_isDigit 6 = .ok (.iload_n 0, 1) := dk26 (k := 6) bX9_isDigit_0 rfl
theorem dX9_isDigit_7 : decode cX9_isDigit 7 = .ok (.bipush 57, 2) := dk16 (k := 7) bX9_isDigit_0 rfl (by decide)
theorem dX9_isDigit_9 : decode cX9_isDigit 9 = .ok (.if_icmp .gt 7, 3) := dk163 (k := 9) bX9_isDigit_0 rfl (by decide)
theorem dX9_isDigit_12 : decode cX9_isDigit 12 = .ok (.iconst 1, 1) := dk4 (k := 12) bX9_isDigit_0 rfl
theorem dX9_isDigit_13 : decode cX9_isDigit 13 = .ok (.goto 4, 3) := dk167 (k := 13) bX9_isDigit_0 rfl (by decide)
theorem dX9_isDigit_16 : decode cX9_isDigit 16 = .ok (.iconst 0, 1) := dk3 (k := 16) bX9_isDigit_0 rfl
theorem dX9_isDigit_17 : decode cX9_isDigit 17 = .ok (.ireturn, 1) := dk172 (k := 17) bX9_isDigit_0 rfl
theorem bX10_init_0 : bL cX10_init 0 [42, 183, 0, 3, 42, 16, 11] := bL_of (by decide +kernel)
theorem dX10_init_0 : decode cX10_init 0 = .ok (.aload_n 0, 1) := dk42 (k := 0) bX10_init_0 rfl
theorem dX10_init_1 : decode cX10_init 1 = .ok (.invokespecial 3, 3) := dk183 (k := 1) bX10_init_0 rfl rfl
theorem dX10_init_4 : decode cX10_init 4 = .ok (.aload_n 0, 1) := dk42 (k := 4) bX10_init_0 rfl
theorem dX10_init_5 : decode cX10_init 5 = .ok (.bipush 11, 2) := dk16 (k := 5) bX10_init_0 rfl (by decide)
theorem dX10_init_7 : decode cX10_init 7 = .ok (.newarray .int, 2) := by decide +kernel
theorem bX10_init_9 : bL cX10_init 9 [181, 0, 9, 42, 43, 181, 0, 15, 177] := bL_of (by decide +kernel)
theorem dX10_init_9 : decode cX10_init 9 = .ok (.putfield 9, 3) := dk181 (k := 0) bX10_init_9 rfl rfl
theorem dX10_init_12 : decode cX10_init 12 = .ok (.aload_n 0, 1) := dk42 (k := 3) bX10_init_9 rfl
theorem dX10_init_13 : decode cX10_init 13 = .ok (.aload_n 1, 1) := dk43 (k := 4) bX10_init_9 rfl
theorem dX10_init_14 : decode cX10_init 14 = .ok (.putfield 15, 3) := dk181 (k := 5) bX10_init_9 rfl rfl
theorem dX10_init_17 : decode cX10_init 17 = .ok (.return_, 1) := dk177 (k := 8) bX10_init_9 rfl
theorem bX10_gatherNames_0 : bL cX10_gatherNames 0 [42, 180, 0, 15, 180, 0, 19, 42, 180, 0, 15, 180, 0, 25, 2, 182, 0, 29, 60, 3, 61, 28, 16, 10] := bL_of (by decide +kernel)
theorem dX10_gatherNames_0 : decode cX10_gatherNames 0 = .ok (.aload_n 0, 1) := dk42 (k := 0) bX10_gatherNames_0 rfl
theorem dX10_gatherNames_1 : decode cX10_gatherNames 1 = .ok (.getfield 15, 3) := dk180 (k := 1) bX10_gatherNames_0 rfl rfl
theorem dX10_gatherNames_4 : decode cX10_gatherNames 4 = .ok (.getfield 19, 3) := dk180 (k := 4) bX10_gatherNames_0 rfl rfl
theorem dX10_gatherNames_7 : decode cX10_gatherNames 7 = .ok (.aload_n 0, 1) := dk42 (k := 7) bX10_gatherNames_0 rfl
theorem dX10_gatherNames_8 : decode cX10_gatherNames 8 = .ok (.getfield 15, 3) := dk180 (k := 8) bX10_gatherNames_0 rfl rfl
theorem dX10_gatherNames_11 : decode cX10_gatherNames 11 = .ok (.getfield 25, 3) := dk180 (k := 11) bX10_gatherNames_0 rfl rfl
theorem dX10_gatherNames_14 : decode cX10_gatherNames 14 = .ok (.iconst (-1), 1) := dk2 (k := 14) bX10_gatherNames_0 rfl
theorem dX10_gatherNames_15 : decode cX10_gatherNames 15 = .ok (.invokevirtual 29, 3) := dk182 (k := 15) bX10_gatherNames_0 rfl rfl
theorem dX10_gatherNames_18 : decode cX10_gatherNames 18 = .ok (.istore_n 1, 1) := dk60 (k := 18) bX10_gatherNames_0 rfl
theorem dX10_gatherNames_19 : decode cX10_gatherNames 19 = .ok (.iconst 0, 1) := dk3 (k := 19) bX10_gatherNames_0 rfl
theorem dX10_gatherNames_20 : decode cX10_gatherNames 20 = .ok (.istore_n 2, 1) := dk61 (k := 20) bX10_gatherNames_0 rfl
theorem dX10_gatherNames_21 : decode cX10_gatherNames 21 = .ok (.iload_n 2, 1) := dk28 (k := 21) bX10_gatherNames_0 rfl
theorem dX10_gatherNames_22 : decode cX10_gatherNames 22 = .ok (.bipush 10, 2) := dk16 (k := 22) bX10_gatherNames_0 rfl (by decide)
theorem bX10_gatherNames_24 : bL cX10_gatherNames 24 [162, 0, 94, 3, 62, 3, 54, 4, 21, 4, 42, 180, 0, 15, 180, 0, 19, 180, 0, 35, 162, 0, 52, 27] := bL_of (by decide +kernel)
theorem dX10_gatherNames_24 : decode cX10_gatherNames 24 = .ok (.if_icmp .ge 94, 3) := dk162 (k := 0) bX10_gatherNames_24 rfl (by decide)
theorem dX10_gatherNames_27 : decode cX10_gatherNames 27 = .ok (.iconst 0, 1) := dk3 (k := 3) bX10_gatherNames_24 rfl
theorem dX10_gatherNames_28 : decode cX10_gatherNames 28 = .ok (.istore_n 3, 1) := dk62 (k := 4) bX10_gatherNames_24 rfl
theorem dX10_gatherNames_29 : decode cX10_gatherNames 29 = .ok (.iconst 0, 1) := dk3 (k := 5) bX10_gatherNames_24 rfl
theorem dX10_gatherNames_30 : decode cX10_gatherNames 30 = .ok (.istore 4, 2) := dk54 (k := 6) bX10_gatherNames_24 rfl rfl
theorem dX10_gatherNames_32 : decode cX10_gatherNames 32 = .ok (.iload 4, 2) := dk21 (k := 8) bX10_gatherNames_24 rfl rfl
theorem dX10_gatherNames_34 : decode cX10_gatherNames 34 = .ok (.aload_n 0, 1) := dk42 (k := 10) bX10_gatherNames_24 rfl
theorem dX10_gatherNames_35 : decode cX10_gatherNames 35 = .ok (.getfield 15, 3) := dk180 (k := 11) bX10_gatherNames_24 rfl rfl
theorem dX10_gatherNames_38 : decode cX10_gatherNames 38 = .ok (.getfield 19, 3) := dk180 (k := 14) bX10_gatherNames_24 rfl rfl
theorem dX10_gatherNames_41 : decode cX10_gatherNames 41 = .ok (.getfield 35, 3) := dk180 (k := 17) bX10_gatherNames_24 rfl rfl
theorem dX10_gatherNames_44 : decode cX10_gatherNames 44 = .ok (.if_icmp .ge 52, 3) := dk162 (k := 20) bX10_gatherNames_24 rfl (by decide)
theorem dX10_gatherNames_47 : decode cX10_gatherNames 47 = .ok (.iload_n 1, 1) := dk27 (k := 23) bX10_gatherNames_24 rfl
theorem bX10_gatherNames_48 : bL cX10_gatherNames 48 [21, 4, 122, 4, 126, 4, 160, 0, 36, 42, 180, 0, 15, 180, 0, 19, 21, 4, 3, 182, 0, 39, 28, 160, 0, 19] := bL_of (by decide +kernel)
theorem dX10_gatherNames_48 : decode cX10_gatherNames 48 = .ok (.iload 4, 2) := dk21 (k := 0) bX10_gatherNames_48 rfl rfl
theorem dX10_gatherNames_50 : decode cX10_gatherNames 50 = .ok (.ishr, 1) := dk122 (k := 2) bX10_gatherNames_48 rfl
theorem dX10_gatherNames_51 : decode cX10_gatherNames 51 = .ok (.iconst 1, 1) := dk4 (k := 3) bX10_gatherNames_48 rfl
theorem dX10_gatherNames_52 : decode cX10_gatherNames 52 = .ok (.iand, 1) := dk126 (k := 4) bX10_gatherNames_48 rfl
theorem dX10_gatherNames_53 : decode cX10_gatherNames 53 = .ok (.iconst 1, 1) := dk4 (k := 5) bX10_gatherNames_48 rfl
theorem dX10_gatherNames_54 : decode cX10_gatherNames 54 = .ok (.if_icmp .ne 36, 3) := dk160 (k := 6) bX10_gatherNames_48 rfl (by decide)
theorem dX10_gatherNames_57 : decode cX10_gatherNames 57 = .ok (.aload_n 0, 1) := dk42 (k := 9) bX10_gatherNames_48 rfl
theorem dX10_gatherNames_58 : decode cX10_gatherNames 58 = .ok (.getfield 15, 3) := dk180 (k := 10) bX10_gatherNames_48 rfl rfl
theorem dX10_gatherNames_61 : decode cX10_gatherNames 61 = .ok (.getfield 19, 3) := dk180 (k := 13) bX10_gatherNames_48 rfl rfl
theorem dX10_gatherNames_64 : decode cX10_gatherNames 64 = .ok (.iload 4, 2) := dk21 (k := 16) bX10_gatherNames_48 rfl rfl
theorem dX10_gatherNames_66 : decode cX10_gatherNames 66 = .ok (.iconst 0, 1) := dk3 (k := 18) bX10_gatherNames_48 rfl
theorem dX10_gatherNames_67 : decode cX10_gatherNames 67 = .ok (.invokevirtual 39, 3) := dk182 (k := 19) bX10_gatherNames_48 rfl rfl
theorem dX10_gatherNames_70 : decode cX10_gatherNames 70 = .ok (.iload_n 2, 1) := dk28 (k := 22) bX10_gatherNames_48 rfl
theorem dX10_gatherNames_71 : decode cX10_gatherNames 71 = .ok (.if_icmp .ne 19, 3) := dk160 (k := 23) bX10_gatherNames_48 rfl (by decide)
theorem bX10_gatherNames_74 : bL cX10_gatherNames 74 [29, 42, 180, 0, 15, 180, 0, 19, 21, 4, 4, 182, 0, 39, 96, 62, 132, 4, 1, 167, 255, 195, 42, 180, 0, 9] := bL_of (by decide +kernel)
theorem dX10_gatherNames_74 : decode cX10_gatherNames 74 = .ok (.iload_n 3, 1) := dk29 (k := 0) bX10_gatherNames_74 rfl
theorem dX10_gatherNames_75 : decode cX10_gatherNames 75 = .ok (.aload_n 0, 1) := dk42 (k := 1) bX10_gatherNames_74 rfl
theorem dX10_gatherNames_76 : decode cX10_gatherNames 76 = .ok (.getfield 15, 3) := dk180 (k := 2) bX10_gatherNames_74 rfl rfl
theorem dX10_gatherNames_79 : decode cX10_gatherNames 79 = .ok (.getfield 19, 3) := dk180 (k := 5) bX10_gatherNames_74 rfl rfl
theorem dX10_gatherNames_82 : decode cX10_gatherNames 82 = .ok (.iload 4, 2) := dk21 (k := 8) bX10_gatherNames_74 rfl rfl
theorem dX10_gatherNames_84 : decode cX10_gatherNames 84 = .ok (.iconst 1, 1) := dk4 (k := 10) bX10_gatherNames_74 rfl
theorem dX10_gatherNames_85 : decode cX10_gatherNames 85 = .ok (.invokevirtual 39, 3) := dk182 (k := 11) bX10_gatherNames_74 rfl rfl
theorem dX10_gatherNames_88 : decode cX10_gatherNames 88 = .ok (.iadd, 1) := dk96 (k := 14) bX10_gatherNames_74 rfl
theorem dX10_gatherNames_89 : decode cX10_gatherNames 89 = .ok (.istore_n 3, 1) := dk62 (k := 15) bX10_gatherNames_74 rfl
theorem dX10_gatherNames_90 : decode cX10_gatherNames 90 = .ok (.iinc 4 1, 3) := dk132 (k := 16) bX10_gatherNames_74 rfl rfl (by decide)
theorem dX10_gatherNames_93 : decode cX10_gatherNames 93 = .ok (.goto (-61), 3) := dk167 (k := 19) bX10_gatherNames_74 rfl (by decide)
theorem dX10_gatherNames_96 : decode cX10_gatherNames 96 = .ok (.aload_n 0, 1) := dk42 (k := 22) bX10_gatherNames_74 rfl
theorem dX10_gatherNames_97 : decode cX10_gatherNames 97 = .ok (.getfield 9, 3) := dk180 (k := 23) bX10_gatherNames_74 rfl rfl
theorem bX10_gatherNames_100 : bL cX10_gatherNames 100 [28, 4, 96, 42, 180, 0, 9, 28, 46, 29, 96, 79, 132, 2, 1, 167, 255, 162, 177] := bL_of (by decide +kernel)
theorem dX10_gatherNames_100 : decode cX10_gatherNames 100 = .ok (.iload_n 2, 1) := dk28 (k := 0) bX10_gatherNames_100 rfl
theorem dX10_gatherNames_101 : decode cX10_gatherNames 101 = .ok (.iconst 1, 1) := dk4 (k := 1) bX10_gatherNames_100 rfl
theorem dX10_gatherNames_102 : decode cX10_gatherNames 102 = .ok (.iadd, 1) := dk96 (k := 2) bX10_gatherNames_100 rfl
theorem dX10_gatherNames_103 : decode cX10_gatherNames 103 = .ok (.aload_n 0, 1) := dk42 (k := 3) bX10_gatherNames_100 rfl
theorem dX10_gatherNames_104 : decode cX10_gatherNames 104 = .ok (.getfield 9, 3) := dk180 (k := 4) bX10_gatherNames_100 rfl rfl
theorem dX10_gatherNames_107 : decode cX10_gatherNames 107 = .ok (.iload_n 2, 1) := dk28 (k := 7) bX10_gatherNames_100 rfl
theorem dX10_gatherNames_108 : decode cX10_gatherNames 108 = .ok (.iaload, 1) := dk46 (k := 8) bX10_gatherNames_100 rfl
theorem dX10_gatherNames_109 : decode cX10_gatherNames 109 = .ok (.iload_n 3, 1) := dk29 (k := 9) bX10_gatherNames_100 rfl
theorem dX10_gatherNames_110 : decode cX10_gatherNames 110 = .ok (.iadd, 1) := dk96 (k := 10) bX10_gatherNames_100 rfl
theorem dX10_gatherNames_111 : decode cX10_gatherNames 111 = .ok (.iastore, 1) := dk79 (k := 11) bX10_gatherNames_100 rfl
theorem dX10_gatherNames_112 : decode cX10_gatherNames 112 = .ok (.iinc 2 1, 3) := dk132 (k := 12) bX10_gatherNames_100 rfl rfl (by decide)
theorem dX10_gatherNames_115 : decode cX10_gatherNames 115 = .ok (.goto (-94), 3) := dk167 (k := 15) bX10_gatherNames_100 rfl (by decide)
theorem dX10_gatherNames_118 : decode cX10_gatherNames 118 = .ok (.return_, 1) := dk177 (k := 18) bX10_gatherNames_100 rfl
theorem bX10_namesWithin_0 : bL cX10_namesWithin 0 [27, 28, 163, 0, 18, 27, 155, 0, 14, 28, 4, 96, 42, 180, 0, 9, 190, 161, 0, 5, 3, 172, 42, 180, 0, 9] := bL_of (by decide +kernel)
theorem dX10_namesWithin_0 : decode cX10_namesWithin 0 = .ok (.iload_n 1, 1) := dk27 (k := 0) bX10_namesWithin_0 rfl
theorem dX10_namesWithin_1 : decode cX10_namesWithin 1 = .ok (.iload_n 2, 1) := dk28 (k := 1) bX10_namesWithin_0 rfl
theorem dX10_namesWithin_2 : decode cX10_namesWithin 2 = .ok (.if_icmp .gt 18, 3) := dk163 (k := 2) bX10_namesWithin_0 rfl (by decide)
theorem dX10_namesWithin_5 : decode cX10_namesWithin 5 = .ok (.iload_n 1, 1) := dk27 (k := 5) bX10_namesWithin_0 rfl
theorem dX10_namesWithin_6 : decode cX10_namesWithin 6 = .ok (.ifCond .lt 14, 3) := dk155 (k := 6) bX10_namesWithin_0 rfl (by decide)
theorem dX10_namesWithin_9 : decode cX10_namesWithin 9 = .ok (.iload_n 2, 1) := dk28 (k := 9) bX10_namesWithin_0 rfl
theorem dX10_namesWithin_10 : decode cX10_namesWithin 10 = .ok (.iconst 1, 1) := dk4 (k := 10) bX10_namesWithin_0 rfl
theorem dX10_namesWithin_11 : decode cX10_namesWithin 11 = .ok (.iadd, 1) := dk96 (k := 11) bX10_namesWithin_0 rfl
theorem dX10_namesWithin_12 : decode cX10_namesWithin 12 = .ok (.aload_n 0, 1) := dk42 (k := 12) bX10_namesWithin_0 rfl
theorem dX10_namesWithin_13 : decode cX10_namesWithin 13 = .ok (.getfield 9, 3) := dk180 (k := 13) bX10_namesWithin_0 rfl rfl
theorem dX10_namesWithin_16 : decode cX10_namesWithin 16 = .ok (.arraylength, 1) := dk190 (k := 16) bX10_namesWithin_0 rfl
theorem dX10_namesWithin_17 : decode cX10_namesWithin 17 = .ok (.if_icmp .lt 5, 3) := dk161 (k := 17) bX10_namesWithin_0 rfl (by decide)
theorem dX10_namesWithin_20 : decode cX10_namesWithin 20 = .ok (.iconst 0, 1) := dk3 (k := 20) bX10_namesWithin_0 rfl
theorem dX10_namesWithin_21 : decode cX10_namesWithin 21 = .ok (.ireturn, 1) := dk172 (k := 21) bX10_namesWithin_0 rfl
theorem dX10_namesWithin_22 : decode cX10_namesWithin 22 = .ok (.aload_n 0, 1) := dk42 (k := 22) bX10_namesWithin_0 rfl
theorem dX10_namesWithin_23 : decode cX10_namesWithin 23 = .ok (.getfield 9, 3) := dk180 (k := 23) bX10_namesWithin_0 rfl rfl
theorem bX10_namesWithin_26 : bL cX10_namesWithin 26 [28, 4, 96, 46, 42, 180, 0, 9, 27, 46, 100, 172] := bL_of (by decide +kernel)
theorem dX10_namesWithin_26 : decode cX10_namesWithin 26 = .ok (.iload_n 2, 1) := dk28 (k := 0) bX10_namesWithin_26 rfl
theorem dX10_namesWithin_27 : decode cX10_namesWithin 27 = .ok (.iconst 1, 1) := dk4 (k := 1) bX10_namesWithin_26 rfl
theorem dX10_namesWithin_28 : decode cX10_namesWithin 28 = .ok (.iadd, 1) := dk96 (k := 2) bX10_namesWithin_26 rfl
theorem dX10_namesWithin_29 : decode cX10_namesWithin 29 = .ok (.iaload, 1) := dk46 (k := 3) bX10_namesWithin_26 rfl
theorem dX10_namesWithin_30 : decode cX10_namesWithin 30 = .ok (.aload_n 0, 1) := dk42 (k := 4) bX10_namesWithin_26 rfl
theorem dX10_namesWithin_31 : decode cX10_namesWithin 31 = .ok (.getfield 9, 3) := dk180 (k := 5) bX10_namesWithin_26 rfl rfl
theorem dX10_namesWithin_34 : decode cX10_namesWithin 34 = .ok (.iload_n 1, 1) := dk27 (k := 8) bX10_namesWithin_26 rfl
theorem dX10_namesWithin_35 : decode cX10_namesWithin 35 = .ok (.iaload, 1) := dk46 (k := 9) bX10_namesWithin_26 rfl
theorem dX10_namesWithin_36 : decode cX10_namesWithin 36 = .ok (.isub, 1) := dk100 (k := 10) bX10_namesWithin_26 rfl
theorem dX10_namesWithin_37 : decode cX10_namesWithin 37 = .ok (.ireturn, 1) := dk172 (k := 11) bX10_namesWithin_26 rfl
theorem bX10_namesOfBoth_0 : bL cX10_namesOfBoth 0 [42, 27, 29, 184, 0, 43, 28, 21, 4, 184, 0, 48, 182, 0, 51, 54, 5, 42, 27, 28, 182, 0, 51, 42] := bL_of (by decide +kernel)
theorem dX10_namesOfBoth_0 : decode cX10_namesOfBoth 0 = .ok (.aload_n 0, 1) := dk42 (k := 0) bX10_namesOfBoth_0 rfl
theorem dX10_namesOfBoth_1 : decode cX10_namesOfBoth 1 = .ok (.iload_n 1, 1) := dk27 (k := 1) bX10_namesOfBoth_0 rfl
theorem dX10_namesOfBoth_2 : decode cX10_namesOfBoth 2 = .ok (.iload_n 3, 1) := dk29 (k := 2) bX10_namesOfBoth_0 rfl
theorem dX10_namesOfBoth_3 : decode cX10_namesOfBoth 3 = .ok (.invokestatic 43, 3) := dk184 (k := 3) bX10_namesOfBoth_0 rfl rfl
theorem dX10_namesOfBoth_6 : decode cX10_namesOfBoth 6 = .ok (.iload_n 2, 1) := dk28 (k := 6) bX10_namesOfBoth_0 rfl
theorem dX10_namesOfBoth_7 : decode cX10_namesOfBoth 7 = .ok (.iload 4, 2) := dk21 (k := 7) bX10_namesOfBoth_0 rfl rfl
theorem dX10_namesOfBoth_9 : decode cX10_namesOfBoth 9 = .ok (.invokestatic 48, 3) := dk184 (k := 9) bX10_namesOfBoth_0 rfl rfl
theorem dX10_namesOfBoth_12 : decode cX10_namesOfBoth 12 = .ok (.invokevirtual 51, 3) := dk182 (k := 12) bX10_namesOfBoth_0 rfl rfl
theorem dX10_namesOfBoth_15 : decode cX10_namesOfBoth 15 = .ok (.istore 5, 2) := dk54 (k := 15) bX10_namesOfBoth_0 rfl rfl
theorem dX10_namesOfBoth_17 : decode cX10_namesOfBoth 17 = .ok (.aload_n 0, 1) := dk42 (k := 17) bX10_namesOfBoth_0 rfl
theorem dX10_namesOfBoth_18 : decode cX10_namesOfBoth 18 = .ok (.iload_n 1, 1) := dk27 (k := 18) bX10_namesOfBoth_0 rfl
theorem dX10_namesOfBoth_19 : decode cX10_namesOfBoth 19 = .ok (.iload_n 2, 1) := dk28 (k := 19) bX10_namesOfBoth_0 rfl
theorem dX10_namesOfBoth_20 : decode cX10_namesOfBoth 20 = .ok (.invokevirtual 51, 3) := dk182 (k := 20) bX10_namesOfBoth_0 rfl rfl
theorem dX10_namesOfBoth_23 : decode cX10_namesOfBoth 23 = .ok (.aload_n 0, 1) := dk42 (k := 23) bX10_namesOfBoth_0 rfl
theorem bX10_namesOfBoth_24 : bL cX10_namesOfBoth 24 [29, 21, 4, 182, 0, 51, 96, 21, 5, 100, 172] := bL_of (by decide +kernel)
theorem dX10_namesOfBoth_24 : decode cX10_namesOfBoth 24 = .ok (.iload_n 3, 1) := dk29 (k := 0) bX10_namesOfBoth_24 rfl
theorem dX10_namesOfBoth_25 : decode cX10_namesOfBoth 25 = .ok (.iload 4, 2) := dk21 (k := 1) bX10_namesOfBoth_24 rfl rfl
theorem dX10_namesOfBoth_27 : decode cX10_namesOfBoth 27 = .ok (.invokevirtual 51, 3) := dk182 (k := 3) bX10_namesOfBoth_24 rfl rfl
theorem dX10_namesOfBoth_30 : decode cX10_namesOfBoth 30 = .ok (.iadd, 1) := dk96 (k := 6) bX10_namesOfBoth_24 rfl
theorem dX10_namesOfBoth_31 : decode cX10_namesOfBoth 31 = .ok (.iload 5, 2) := dk21 (k := 7) bX10_namesOfBoth_24 rfl rfl
theorem dX10_namesOfBoth_33 : decode cX10_namesOfBoth 33 = .ok (.isub, 1) := dk100 (k := 9) bX10_namesOfBoth_24 rfl
theorem dX10_namesOfBoth_34 : decode cX10_namesOfBoth 34 = .ok (.ireturn, 1) := dk172 (k := 10) bX10_namesOfBoth_24 rfl
theorem bX10_stepsOf_0 : bL cX10_stepsOf 0 [28, 27, 100, 26, 27, 100, 28, 26, 100, 184, 0, 48, 96, 172] := bL_of (by decide +kernel)
theorem dX10_stepsOf_0 : decode cX10_stepsOf 0 = .ok (.iload_n 2, 1) := dk28 (k := 0) bX10_stepsOf_0 rfl
theorem dX10_stepsOf_1 : decode cX10_stepsOf 1 = .ok (.iload_n 1, 1) := dk27 (k := 1) bX10_stepsOf_0 rfl
theorem dX10_stepsOf_2 : decode cX10_stepsOf 2 = .ok (.isub, 1) := dk100 (k := 2) bX10_stepsOf_0 rfl
theorem dX10_stepsOf_3 : decode cX10_stepsOf 3 = .ok (.iload_n 0, 1) := dk26 (k := 3) bX10_stepsOf_0 rfl
theorem dX10_stepsOf_4 : decode cX10_stepsOf 4 = .ok (.iload_n 1, 1) := dk27 (k := 4) bX10_stepsOf_0 rfl
theorem dX10_stepsOf_5 : decode cX10_stepsOf 5 = .ok (.isub, 1) := dk100 (k := 5) bX10_stepsOf_0 rfl
theorem dX10_stepsOf_6 : decode cX10_stepsOf 6 = .ok (.iload_n 2, 1) := dk28 (k := 6) bX10_stepsOf_0 rfl
theorem dX10_stepsOf_7 : decode cX10_stepsOf 7 = .ok (.iload_n 0, 1) := dk26 (k := 7) bX10_stepsOf_0 rfl
theorem dX10_stepsOf_8 : decode cX10_stepsOf 8 = .ok (.isub, 1) := dk100 (k := 8) bX10_stepsOf_0 rfl
theorem dX10_stepsOf_9 : decode cX10_stepsOf 9 = .ok (.invokestatic 48, 3) := dk184 (k := 9) bX10_stepsOf_0 rfl rfl
theorem dX10_stepsOf_12 : decode cX10_stepsOf 12 = .ok (.iadd, 1) := dk96 (k := 12) bX10_stepsOf_0 rfl
theorem dX10_stepsOf_13 : decode cX10_stepsOf 13 = .ok (.ireturn, 1) := dk172 (k := 13) bX10_stepsOf_0 rfl
theorem bX10_walkOne_0 : bL cX10_walkOne 0 [42, 182, 0, 54, 2, 62, 3, 54, 4, 21, 4, 27, 163, 0, 81, 27, 54, 5, 21, 5, 42, 180, 0, 15] := bL_of (by decide +kernel)
theorem dX10_walkOne_0 : decode cX10_walkOne 0 = .ok (.aload_n 0, 1) := dk42 (k := 0) bX10_walkOne_0 rfl
theorem dX10_walkOne_1 : decode cX10_walkOne 1 = .ok (.invokevirtual 54, 3) := dk182 (k := 1) bX10_walkOne_0 rfl rfl
theorem dX10_walkOne_4 : decode cX10_walkOne 4 = .ok (.iconst (-1), 1) := dk2 (k := 4) bX10_walkOne_0 rfl
theorem dX10_walkOne_5 : decode cX10_walkOne 5 = .ok (.istore_n 3, 1) := dk62 (k := 5) bX10_walkOne_0 rfl
theorem dX10_walkOne_6 : decode cX10_walkOne 6 = .ok (.iconst 0, 1) := dk3 (k := 6) bX10_walkOne_0 rfl
theorem dX10_walkOne_7 : decode cX10_walkOne 7 = .ok (.istore 4, 2) := dk54 (k := 7) bX10_walkOne_0 rfl rfl
theorem dX10_walkOne_9 : decode cX10_walkOne 9 = .ok (.iload 4, 2) := dk21 (k := 9) bX10_walkOne_0 rfl rfl
theorem dX10_walkOne_11 : decode cX10_walkOne 11 = .ok (.iload_n 1, 1) := dk27 (k := 11) bX10_walkOne_0 rfl
theorem dX10_walkOne_12 : decode cX10_walkOne 12 = .ok (.if_icmp .gt 81, 3) := dk163 (k := 12) bX10_walkOne_0 rfl (by decide)
theorem dX10_walkOne_15 : decode cX10_walkOne 15 = .ok (.iload_n 1, 1) := dk27 (k := 15) bX10_walkOne_0 rfl
theorem dX10_walkOne_16 : decode cX10_walkOne 16 = .ok (.istore 5, 2) := dk54 (k := 16) bX10_walkOne_0 rfl rfl
theorem dX10_walkOne_18 : decode cX10_walkOne 18 = .ok (.iload 5, 2) := dk21 (k := 18) bX10_walkOne_0 rfl rfl
theorem dX10_walkOne_20 : decode cX10_walkOne 20 = .ok (.aload_n 0, 1) := dk42 (k := 20) bX10_walkOne_0 rfl
theorem dX10_walkOne_21 : decode cX10_walkOne 21 = .ok (.getfield 15, 3) := dk180 (k := 21) bX10_walkOne_0 rfl rfl
theorem bX10_walkOne_24 : bL cX10_walkOne 24 [180, 0, 25, 180, 0, 57, 162, 0, 57, 27, 21, 4, 21, 5, 184, 0, 62, 54, 6, 29, 2, 159, 0, 9] := bL_of (by decide +kernel)
theorem dX10_walkOne_24 : decode cX10_walkOne 24 = .ok (.getfield 25, 3) := dk180 (k := 0) bX10_walkOne_24 rfl rfl
theorem dX10_walkOne_27 : decode cX10_walkOne 27 = .ok (.getfield 57, 3) := dk180 (k := 3) bX10_walkOne_24 rfl rfl
theorem dX10_walkOne_30 : decode cX10_walkOne 30 = .ok (.if_icmp .ge 57, 3) := dk162 (k := 6) bX10_walkOne_24 rfl (by decide)
theorem dX10_walkOne_33 : decode cX10_walkOne 33 = .ok (.iload_n 1, 1) := dk27 (k := 9) bX10_walkOne_24 rfl
theorem dX10_walkOne_34 : decode cX10_walkOne 34 = .ok (.iload 4, 2) := dk21 (k := 10) bX10_walkOne_24 rfl rfl
theorem dX10_walkOne_36 : decode cX10_walkOne 36 = .ok (.iload 5, 2) := dk21 (k := 12) bX10_walkOne_24 rfl rfl
theorem dX10_walkOne_38 : decode cX10_walkOne 38 = .ok (.invokestatic 62, 3) := dk184 (k := 14) bX10_walkOne_24 rfl rfl
theorem dX10_walkOne_41 : decode cX10_walkOne 41 = .ok (.istore 6, 2) := dk54 (k := 17) bX10_walkOne_24 rfl rfl
theorem dX10_walkOne_43 : decode cX10_walkOne 43 = .ok (.iload_n 3, 1) := dk29 (k := 19) bX10_walkOne_24 rfl
theorem dX10_walkOne_44 : decode cX10_walkOne 44 = .ok (.iconst (-1), 1) := dk2 (k := 20) bX10_walkOne_24 rfl
theorem dX10_walkOne_45 : decode cX10_walkOne 45 = .ok (.if_icmp .eq 9, 3) := dk159 (k := 21) bX10_walkOne_24 rfl (by decide)
theorem bX10_walkOne_48 : bL cX10_walkOne 48 [21, 6, 29, 162, 0, 30, 42, 21, 4, 21, 5, 182, 0, 51, 28, 161, 0, 18, 21, 6, 62, 42, 21, 4] := bL_of (by decide +kernel)
theorem dX10_walkOne_48 : decode cX10_walkOne 48 = .ok (.iload 6, 2) := dk21 (k := 0) bX10_walkOne_48 rfl rfl
theorem dX10_walkOne_50 : decode cX10_walkOne 50 = .ok (.iload_n 3, 1) := dk29 (k := 2) bX10_walkOne_48 rfl
theorem dX10_walkOne_51 : decode cX10_walkOne 51 = .ok (.if_icmp .ge 30, 3) := dk162 (k := 3) bX10_walkOne_48 rfl (by decide)
theorem dX10_walkOne_54 : decode cX10_walkOne 54 = .ok (.aload_n 0, 1) := dk42 (k := 6) bX10_walkOne_48 rfl
theorem dX10_walkOne_55 : decode cX10_walkOne 55 = .ok (.iload 4, 2) := dk21 (k := 7) bX10_walkOne_48 rfl rfl
theorem dX10_walkOne_57 : decode cX10_walkOne 57 = .ok (.iload 5, 2) := dk21 (k := 9) bX10_walkOne_48 rfl rfl
theorem dX10_walkOne_59 : decode cX10_walkOne 59 = .ok (.invokevirtual 51, 3) := dk182 (k := 11) bX10_walkOne_48 rfl rfl
theorem dX10_walkOne_62 : decode cX10_walkOne 62 = .ok (.iload_n 2, 1) := dk28 (k := 14) bX10_walkOne_48 rfl
theorem dX10_walkOne_63 : decode cX10_walkOne 63 = .ok (.if_icmp .lt 18, 3) := dk161 (k := 15) bX10_walkOne_48 rfl (by decide)
theorem dX10_walkOne_66 : decode cX10_walkOne 66 = .ok (.iload 6, 2) := dk21 (k := 18) bX10_walkOne_48 rfl rfl
theorem dX10_walkOne_68 : decode cX10_walkOne 68 = .ok (.istore_n 3, 1) := dk62 (k := 20) bX10_walkOne_48 rfl
theorem dX10_walkOne_69 : decode cX10_walkOne 69 = .ok (.aload_n 0, 1) := dk42 (k := 21) bX10_walkOne_48 rfl
theorem dX10_walkOne_70 : decode cX10_walkOne 70 = .ok (.iload 4, 2) := dk21 (k := 22) bX10_walkOne_48 rfl rfl
theorem bX10_walkOne_72 : bL cX10_walkOne 72 [181, 0, 66, 42, 21, 5, 181, 0, 69, 132, 5, 1, 167, 255, 190, 132, 4, 1, 167, 255, 175, 29, 172] := bL_of (by decide +kernel)
theorem dX10_walkOne_72 : decode cX10_walkOne 72 = .ok (.putfield 66, 3) := dk181 (k := 0) bX10_walkOne_72 rfl rfl
theorem dX10_walkOne_75 : decode cX10_walkOne 75 = .ok (.aload_n 0, 1) := dk42 (k := 3) bX10_walkOne_72 rfl
theorem dX10_walkOne_76 : decode cX10_walkOne 76 = .ok (.iload 5, 2) := dk21 (k := 4) bX10_walkOne_72 rfl rfl
theorem dX10_walkOne_78 : decode cX10_walkOne 78 = .ok (.putfield 69, 3) := dk181 (k := 6) bX10_walkOne_72 rfl rfl
theorem dX10_walkOne_81 : decode cX10_walkOne 81 = .ok (.iinc 5 1, 3) := dk132 (k := 9) bX10_walkOne_72 rfl rfl (by decide)
theorem dX10_walkOne_84 : decode cX10_walkOne 84 = .ok (.goto (-66), 3) := dk167 (k := 12) bX10_walkOne_72 rfl (by decide)
theorem dX10_walkOne_87 : decode cX10_walkOne 87 = .ok (.iinc 4 1, 3) := dk132 (k := 15) bX10_walkOne_72 rfl rfl (by decide)
theorem dX10_walkOne_90 : decode cX10_walkOne 90 = .ok (.goto (-81), 3) := dk167 (k := 18) bX10_walkOne_72 rfl (by decide)
theorem dX10_walkOne_93 : decode cX10_walkOne 93 = .ok (.iload_n 3, 1) := dk29 (k := 21) bX10_walkOne_72 rfl
theorem dX10_walkOne_94 : decode cX10_walkOne 94 = .ok (.ireturn, 1) := dk172 (k := 22) bX10_walkOne_72 rfl
theorem bX10_walkTwo_0 : bL cX10_walkTwo 0 [42, 182, 0, 54, 2, 54, 4, 3, 54, 5, 21, 5, 27, 163, 0, 86, 27, 54, 6, 21, 6, 42, 180, 0, 15] := bL_of (by decide +kernel)
theorem dX10_walkTwo_0 : decode cX10_walkTwo 0 = .ok (.aload_n 0, 1) := dk42 (k := 0) bX10_walkTwo_0 rfl
theorem dX10_walkTwo_1 : decode cX10_walkTwo 1 = .ok (.invokevirtual 54, 3) := dk182 (k := 1) bX10_walkTwo_0 rfl rfl
theorem dX10_walkTwo_4 : decode cX10_walkTwo 4 = .ok (.iconst (-1), 1) := dk2 (k := 4) bX10_walkTwo_0 rfl
theorem dX10_walkTwo_5 : decode cX10_walkTwo 5 = .ok (.istore 4, 2) := dk54 (k := 5) bX10_walkTwo_0 rfl rfl
theorem dX10_walkTwo_7 : decode cX10_walkTwo 7 = .ok (.iconst 0, 1) := dk3 (k := 7) bX10_walkTwo_0 rfl
theorem dX10_walkTwo_8 : decode cX10_walkTwo 8 = .ok (.istore 5, 2) := dk54 (k := 8) bX10_walkTwo_0 rfl rfl
theorem dX10_walkTwo_10 : decode cX10_walkTwo 10 = .ok (.iload 5, 2) := dk21 (k := 10) bX10_walkTwo_0 rfl rfl
theorem dX10_walkTwo_12 : decode cX10_walkTwo 12 = .ok (.iload_n 1, 1) := dk27 (k := 12) bX10_walkTwo_0 rfl
theorem dX10_walkTwo_13 : decode cX10_walkTwo 13 = .ok (.if_icmp .gt 86, 3) := dk163 (k := 13) bX10_walkTwo_0 rfl (by decide)
theorem dX10_walkTwo_16 : decode cX10_walkTwo 16 = .ok (.iload_n 1, 1) := dk27 (k := 16) bX10_walkTwo_0 rfl
theorem dX10_walkTwo_17 : decode cX10_walkTwo 17 = .ok (.istore 6, 2) := dk54 (k := 17) bX10_walkTwo_0 rfl rfl
theorem dX10_walkTwo_19 : decode cX10_walkTwo 19 = .ok (.iload 6, 2) := dk21 (k := 19) bX10_walkTwo_0 rfl rfl
theorem dX10_walkTwo_21 : decode cX10_walkTwo 21 = .ok (.aload_n 0, 1) := dk42 (k := 21) bX10_walkTwo_0 rfl
theorem dX10_walkTwo_22 : decode cX10_walkTwo 22 = .ok (.getfield 15, 3) := dk180 (k := 22) bX10_walkTwo_0 rfl rfl
theorem bX10_walkTwo_25 : bL cX10_walkTwo 25 [180, 0, 25, 180, 0, 57, 162, 0, 62, 42, 28, 29, 21, 5, 21, 6, 182, 0, 72, 54, 7, 21, 7, 2] := bL_of (by decide +kernel)
theorem dX10_walkTwo_25 : decode cX10_walkTwo 25 = .ok (.getfield 25, 3) := dk180 (k := 0) bX10_walkTwo_25 rfl rfl
theorem dX10_walkTwo_28 : decode cX10_walkTwo 28 = .ok (.getfield 57, 3) := dk180 (k := 3) bX10_walkTwo_25 rfl rfl
theorem dX10_walkTwo_31 : decode cX10_walkTwo 31 = .ok (.if_icmp .ge 62, 3) := dk162 (k := 6) bX10_walkTwo_25 rfl (by decide)
theorem dX10_walkTwo_34 : decode cX10_walkTwo 34 = .ok (.aload_n 0, 1) := dk42 (k := 9) bX10_walkTwo_25 rfl
theorem dX10_walkTwo_35 : decode cX10_walkTwo 35 = .ok (.iload_n 2, 1) := dk28 (k := 10) bX10_walkTwo_25 rfl
theorem dX10_walkTwo_36 : decode cX10_walkTwo 36 = .ok (.iload_n 3, 1) := dk29 (k := 11) bX10_walkTwo_25 rfl
theorem dX10_walkTwo_37 : decode cX10_walkTwo 37 = .ok (.iload 5, 2) := dk21 (k := 12) bX10_walkTwo_25 rfl rfl
theorem dX10_walkTwo_39 : decode cX10_walkTwo 39 = .ok (.iload 6, 2) := dk21 (k := 14) bX10_walkTwo_25 rfl rfl
theorem dX10_walkTwo_41 : decode cX10_walkTwo 41 = .ok (.invokevirtual 72, 3) := dk182 (k := 16) bX10_walkTwo_25 rfl rfl
theorem dX10_walkTwo_44 : decode cX10_walkTwo 44 = .ok (.istore 7, 2) := dk54 (k := 19) bX10_walkTwo_25 rfl rfl
theorem dX10_walkTwo_46 : decode cX10_walkTwo 46 = .ok (.iload 7, 2) := dk21 (k := 21) bX10_walkTwo_25 rfl rfl
theorem dX10_walkTwo_48 : decode cX10_walkTwo 48 = .ok (.iconst (-1), 1) := dk2 (k := 23) bX10_walkTwo_25 rfl
theorem bX10_walkTwo_49 : bL cX10_walkTwo 49 [159, 0, 38, 21, 7, 27, 21, 5, 21, 6, 184, 0, 62, 184, 0, 43, 54, 7, 21, 4, 2, 160, 0, 8] := bL_of (by decide +kernel)
theorem dX10_walkTwo_49 : decode cX10_walkTwo 49 = .ok (.if_icmp .eq 38, 3) := dk159 (k := 0) bX10_walkTwo_49 rfl (by decide)
theorem dX10_walkTwo_52 : decode cX10_walkTwo 52 = .ok (.iload 7, 2) := dk21 (k := 3) bX10_walkTwo_49 rfl rfl
theorem dX10_walkTwo_54 : decode cX10_walkTwo 54 = .ok (.iload_n 1, 1) := dk27 (k := 5) bX10_walkTwo_49 rfl
theorem dX10_walkTwo_55 : decode cX10_walkTwo 55 = .ok (.iload 5, 2) := dk21 (k := 6) bX10_walkTwo_49 rfl rfl
theorem dX10_walkTwo_57 : decode cX10_walkTwo 57 = .ok (.iload 6, 2) := dk21 (k := 8) bX10_walkTwo_49 rfl rfl
theorem dX10_walkTwo_59 : decode cX10_walkTwo 59 = .ok (.invokestatic 62, 3) := dk184 (k := 10) bX10_walkTwo_49 rfl rfl
theorem dX10_walkTwo_62 : decode cX10_walkTwo 62 = .ok (.invokestatic 43, 3) := dk184 (k := 13) bX10_walkTwo_49 rfl rfl
theorem dX10_walkTwo_65 : decode cX10_walkTwo 65 = .ok (.istore 7, 2) := dk54 (k := 16) bX10_walkTwo_49 rfl rfl
theorem dX10_walkTwo_67 : decode cX10_walkTwo 67 = .ok (.iload 4, 2) := dk21 (k := 18) bX10_walkTwo_49 rfl rfl
theorem dX10_walkTwo_69 : decode cX10_walkTwo 69 = .ok (.iconst (-1), 1) := dk2 (k := 20) bX10_walkTwo_49 rfl
theorem dX10_walkTwo_70 : decode cX10_walkTwo 70 = .ok (.if_icmp .ne 8, 3) := dk160 (k := 21) bX10_walkTwo_49 rfl (by decide)
theorem bX10_walkTwo_73 : bL cX10_walkTwo 73 [21, 7, 167, 0, 10, 21, 4, 21, 7, 184, 0, 48, 54, 4, 132, 6, 1, 167, 255, 185, 132, 5, 1, 167, 255, 170] := bL_of (by decide +kernel)
theorem dX10_walkTwo_73 : decode cX10_walkTwo 73 = .ok (.iload 7, 2) := dk21 (k := 0) bX10_walkTwo_73 rfl rfl
theorem dX10_walkTwo_75 : decode cX10_walkTwo 75 = .ok (.goto 10, 3) := dk167 (k := 2) bX10_walkTwo_73 rfl (by decide)
theorem dX10_walkTwo_78 : decode cX10_walkTwo 78 = .ok (.iload 4, 2) := dk21 (k := 5) bX10_walkTwo_73 rfl rfl
theorem dX10_walkTwo_80 : decode cX10_walkTwo 80 = .ok (.iload 7, 2) := dk21 (k := 7) bX10_walkTwo_73 rfl rfl
theorem dX10_walkTwo_82 : decode cX10_walkTwo 82 = .ok (.invokestatic 48, 3) := dk184 (k := 9) bX10_walkTwo_73 rfl rfl
theorem dX10_walkTwo_85 : decode cX10_walkTwo 85 = .ok (.istore 4, 2) := dk54 (k := 12) bX10_walkTwo_73 rfl rfl
theorem dX10_walkTwo_87 : decode cX10_walkTwo 87 = .ok (.iinc 6 1, 3) := dk132 (k := 14) bX10_walkTwo_73 rfl rfl (by decide)
theorem dX10_walkTwo_90 : decode cX10_walkTwo 90 = .ok (.goto (-71), 3) := dk167 (k := 17) bX10_walkTwo_73 rfl (by decide)
theorem dX10_walkTwo_93 : decode cX10_walkTwo 93 = .ok (.iinc 5 1, 3) := dk132 (k := 20) bX10_walkTwo_73 rfl rfl (by decide)
theorem dX10_walkTwo_96 : decode cX10_walkTwo 96 = .ok (.goto (-86), 3) := dk167 (k := 23) bX10_walkTwo_73 rfl (by decide)
theorem bX10_walkTwo_99 : bL cX10_walkTwo 99 [21, 4, 172] := bL_of (by decide +kernel)
theorem dX10_walkTwo_99 : decode cX10_walkTwo 99 = .ok (.iload 4, 2) := dk21 (k := 0) bX10_walkTwo_99 rfl rfl
theorem dX10_walkTwo_101 : decode cX10_walkTwo 101 = .ok (.ireturn, 1) := dk172 (k := 2) bX10_walkTwo_99 rfl
theorem bX10_besides_0 : bL cX10_besides 0 [2, 54, 5, 3, 54, 6, 21, 6, 27, 163, 0, 75, 27, 54, 7, 21, 7, 42, 180, 0, 15, 180, 0, 25] := bL_of (by decide +kernel)
theorem dX10_besides_0 : decode cX10_besides 0 = .ok (.iconst (-1), 1) := dk2 (k := 0) bX10_besides_0 rfl
theorem dX10_besides_1 : decode cX10_besides 1 = .ok (.istore 5, 2) := dk54 (k := 1) bX10_besides_0 rfl rfl
theorem dX10_besides_3 : decode cX10_besides 3 = .ok (.iconst 0, 1) := dk3 (k := 3) bX10_besides_0 rfl
theorem dX10_besides_4 : decode cX10_besides 4 = .ok (.istore 6, 2) := dk54 (k := 4) bX10_besides_0 rfl rfl
theorem dX10_besides_6 : decode cX10_besides 6 = .ok (.iload 6, 2) := dk21 (k := 6) bX10_besides_0 rfl rfl
theorem dX10_besides_8 : decode cX10_besides 8 = .ok (.iload_n 1, 1) := dk27 (k := 8) bX10_besides_0 rfl
theorem dX10_besides_9 : decode cX10_besides 9 = .ok (.if_icmp .gt 75, 3) := dk163 (k := 9) bX10_besides_0 rfl (by decide)
theorem dX10_besides_12 : decode cX10_besides 12 = .ok (.iload_n 1, 1) := dk27 (k := 12) bX10_besides_0 rfl
theorem dX10_besides_13 : decode cX10_besides 13 = .ok (.istore 7, 2) := dk54 (k := 13) bX10_besides_0 rfl rfl
theorem dX10_besides_15 : decode cX10_besides 15 = .ok (.iload 7, 2) := dk21 (k := 15) bX10_besides_0 rfl rfl
theorem dX10_besides_17 : decode cX10_besides 17 = .ok (.aload_n 0, 1) := dk42 (k := 17) bX10_besides_0 rfl
theorem dX10_besides_18 : decode cX10_besides 18 = .ok (.getfield 15, 3) := dk180 (k := 18) bX10_besides_0 rfl rfl
theorem dX10_besides_21 : decode cX10_besides 21 = .ok (.getfield 25, 3) := dk180 (k := 21) bX10_besides_0 rfl rfl
theorem bX10_besides_24 : bL cX10_besides 24 [180, 0, 57, 162, 0, 51, 27, 21, 6, 21, 7, 184, 0, 62, 54, 8, 21, 5, 2, 159, 0, 10, 21, 8] := bL_of (by decide +kernel)
theorem dX10_besides_24 : decode cX10_besides 24 = .ok (.getfield 57, 3) := dk180 (k := 0) bX10_besides_24 rfl rfl
theorem dX10_besides_27 : decode cX10_besides 27 = .ok (.if_icmp .ge 51, 3) := dk162 (k := 3) bX10_besides_24 rfl (by decide)
theorem dX10_besides_30 : decode cX10_besides 30 = .ok (.iload_n 1, 1) := dk27 (k := 6) bX10_besides_24 rfl
theorem dX10_besides_31 : decode cX10_besides 31 = .ok (.iload 6, 2) := dk21 (k := 7) bX10_besides_24 rfl rfl
theorem dX10_besides_33 : decode cX10_besides 33 = .ok (.iload 7, 2) := dk21 (k := 9) bX10_besides_24 rfl rfl
theorem dX10_besides_35 : decode cX10_besides 35 = .ok (.invokestatic 62, 3) := dk184 (k := 11) bX10_besides_24 rfl rfl
theorem dX10_besides_38 : decode cX10_besides 38 = .ok (.istore 8, 2) := dk54 (k := 14) bX10_besides_24 rfl rfl
theorem dX10_besides_40 : decode cX10_besides 40 = .ok (.iload 5, 2) := dk21 (k := 16) bX10_besides_24 rfl rfl
theorem dX10_besides_42 : decode cX10_besides 42 = .ok (.iconst (-1), 1) := dk2 (k := 18) bX10_besides_24 rfl
theorem dX10_besides_43 : decode cX10_besides 43 = .ok (.if_icmp .eq 10, 3) := dk159 (k := 19) bX10_besides_24 rfl (by decide)
theorem dX10_besides_46 : decode cX10_besides 46 = .ok (.iload 8, 2) := dk21 (k := 22) bX10_besides_24 rfl rfl
theorem bX10_besides_48 : bL cX10_besides 48 [21, 5, 162, 0, 22, 42, 29, 21, 4, 21, 6, 21, 7, 182, 0, 76, 28, 161, 0, 7, 21, 8, 54, 5] := bL_of (by decide +kernel)
theorem dX10_besides_48 : decode cX10_besides 48 = .ok (.iload 5, 2) := dk21 (k := 0) bX10_besides_48 rfl rfl
theorem dX10_besides_50 : decode cX10_besides 50 = .ok (.if_icmp .ge 22, 3) := dk162 (k := 2) bX10_besides_48 rfl (by decide)
theorem dX10_besides_53 : decode cX10_besides 53 = .ok (.aload_n 0, 1) := dk42 (k := 5) bX10_besides_48 rfl
theorem dX10_besides_54 : decode cX10_besides 54 = .ok (.iload_n 3, 1) := dk29 (k := 6) bX10_besides_48 rfl
theorem dX10_besides_55 : decode cX10_besides 55 = .ok (.iload 4, 2) := dk21 (k := 7) bX10_besides_48 rfl rfl
theorem dX10_besides_57 : decode cX10_besides 57 = .ok (.iload 6, 2) := dk21 (k := 9) bX10_besides_48 rfl rfl
theorem dX10_besides_59 : decode cX10_besides 59 = .ok (.iload 7, 2) := dk21 (k := 11) bX10_besides_48 rfl rfl
theorem dX10_besides_61 : decode cX10_besides 61 = .ok (.invokevirtual 76, 3) := dk182 (k := 13) bX10_besides_48 rfl rfl
theorem dX10_besides_64 : decode cX10_besides 64 = .ok (.iload_n 2, 1) := dk28 (k := 16) bX10_besides_48 rfl
theorem dX10_besides_65 : decode cX10_besides 65 = .ok (.if_icmp .lt 7, 3) := dk161 (k := 17) bX10_besides_48 rfl (by decide)
theorem dX10_besides_68 : decode cX10_besides 68 = .ok (.iload 8, 2) := dk21 (k := 20) bX10_besides_48 rfl rfl
theorem dX10_besides_70 : decode cX10_besides 70 = .ok (.istore 5, 2) := dk54 (k := 22) bX10_besides_48 rfl rfl
theorem bX10_besides_72 : bL cX10_besides 72 [132, 7, 1, 167, 255, 196, 132, 6, 1, 167, 255, 181, 21, 5, 172] := bL_of (by decide +kernel)
theorem dX10_besides_72 : decode cX10_besides 72 = .ok (.iinc 7 1, 3) := dk132 (k := 0) bX10_besides_72 rfl rfl (by decide)
theorem dX10_besides_75 : decode cX10_besides 75 = .ok (.goto (-60), 3) := dk167 (k := 3) bX10_besides_72 rfl (by decide)
theorem dX10_besides_78 : decode cX10_besides 78 = .ok (.iinc 6 1, 3) := dk132 (k := 6) bX10_besides_72 rfl rfl (by decide)
theorem dX10_besides_81 : decode cX10_besides 81 = .ok (.goto (-75), 3) := dk167 (k := 9) bX10_besides_72 rfl (by decide)
theorem dX10_besides_84 : decode cX10_besides 84 = .ok (.iload 5, 2) := dk21 (k := 12) bX10_besides_72 rfl rfl
theorem dX10_besides_86 : decode cX10_besides 86 = .ok (.ireturn, 1) := dk172 (k := 14) bX10_besides_72 rfl
theorem bX11_init_0 : bL cX11_init 0 [42, 183, 0, 1, 42, 187, 0, 7, 89, 183, 0, 9, 181, 0, 10, 42, 187, 0, 16, 89, 42, 180, 0, 10] := bL_of (by decide +kernel)
theorem dX11_init_0 : decode cX11_init 0 = .ok (.aload_n 0, 1) := dk42 (k := 0) bX11_init_0 rfl
theorem dX11_init_1 : decode cX11_init 1 = .ok (.invokespecial 1, 3) := dk183 (k := 1) bX11_init_0 rfl rfl
theorem dX11_init_4 : decode cX11_init 4 = .ok (.aload_n 0, 1) := dk42 (k := 4) bX11_init_0 rfl
theorem dX11_init_5 : decode cX11_init 5 = .ok (.new 7, 3) := dk187 (k := 5) bX11_init_0 rfl rfl
theorem dX11_init_8 : decode cX11_init 8 = .ok (.dup, 1) := dk89 (k := 8) bX11_init_0 rfl
theorem dX11_init_9 : decode cX11_init 9 = .ok (.invokespecial 9, 3) := dk183 (k := 9) bX11_init_0 rfl rfl
theorem dX11_init_12 : decode cX11_init 12 = .ok (.putfield 10, 3) := dk181 (k := 12) bX11_init_0 rfl rfl
theorem dX11_init_15 : decode cX11_init 15 = .ok (.aload_n 0, 1) := dk42 (k := 15) bX11_init_0 rfl
theorem dX11_init_16 : decode cX11_init 16 = .ok (.new 16, 3) := dk187 (k := 16) bX11_init_0 rfl rfl
theorem dX11_init_19 : decode cX11_init 19 = .ok (.dup, 1) := dk89 (k := 19) bX11_init_0 rfl
theorem dX11_init_20 : decode cX11_init 20 = .ok (.aload_n 0, 1) := dk42 (k := 20) bX11_init_0 rfl
theorem dX11_init_21 : decode cX11_init 21 = .ok (.getfield 10, 3) := dk180 (k := 21) bX11_init_0 rfl rfl
theorem bX11_init_24 : bL cX11_init 24 [183, 0, 18, 181, 0, 21, 42, 187, 0, 25, 89, 183, 0, 27, 181, 0, 28, 42, 6, 189, 0, 25, 181, 0, 32] := bL_of (by decide +kernel)
theorem dX11_init_24 : decode cX11_init 24 = .ok (.invokespecial 18, 3) := dk183 (k := 0) bX11_init_24 rfl rfl
theorem dX11_init_27 : decode cX11_init 27 = .ok (.putfield 21, 3) := dk181 (k := 3) bX11_init_24 rfl rfl
theorem dX11_init_30 : decode cX11_init 30 = .ok (.aload_n 0, 1) := dk42 (k := 6) bX11_init_24 rfl
theorem dX11_init_31 : decode cX11_init 31 = .ok (.new 25, 3) := dk187 (k := 7) bX11_init_24 rfl rfl
theorem dX11_init_34 : decode cX11_init 34 = .ok (.dup, 1) := dk89 (k := 10) bX11_init_24 rfl
theorem dX11_init_35 : decode cX11_init 35 = .ok (.invokespecial 27, 3) := dk183 (k := 11) bX11_init_24 rfl rfl
theorem dX11_init_38 : decode cX11_init 38 = .ok (.putfield 28, 3) := dk181 (k := 14) bX11_init_24 rfl rfl
theorem dX11_init_41 : decode cX11_init 41 = .ok (.aload_n 0, 1) := dk42 (k := 17) bX11_init_24 rfl
theorem dX11_init_42 : decode cX11_init 42 = .ok (.iconst 3, 1) := dk6 (k := 18) bX11_init_24 rfl
theorem dX11_init_43 : decode cX11_init 43 = .ok (.anewarray 25, 3) := dk189 (k := 19) bX11_init_24 rfl rfl
theorem dX11_init_46 : decode cX11_init 46 = .ok (.putfield 32, 3) := dk181 (k := 22) bX11_init_24 rfl rfl
theorem bX11_init_49 : bL cX11_init 49 [3, 60, 27, 6, 162, 0, 22, 42, 180, 0, 32, 27, 187, 0, 25, 89, 183, 0, 27, 83, 132, 1, 1, 167, 255, 235] := bL_of (by decide +kernel)
theorem dX11_init_49 : decode cX11_init 49 = .ok (.iconst 0, 1) := dk3 (k := 0) bX11_init_49 rfl
theorem dX11_init_50 : decode cX11_init 50 = .ok (.istore_n 1, 1) := dk60 (k := 1) bX11_init_49 rfl
theorem dX11_init_51 : decode cX11_init 51 = .ok (.iload_n 1, 1) := dk27 (k := 2) bX11_init_49 rfl
theorem dX11_init_52 : decode cX11_init 52 = .ok (.iconst 3, 1) := dk6 (k := 3) bX11_init_49 rfl
theorem dX11_init_53 : decode cX11_init 53 = .ok (.if_icmp .ge 22, 3) := dk162 (k := 4) bX11_init_49 rfl (by decide)
theorem dX11_init_56 : decode cX11_init 56 = .ok (.aload_n 0, 1) := dk42 (k := 7) bX11_init_49 rfl
theorem dX11_init_57 : decode cX11_init 57 = .ok (.getfield 32, 3) := dk180 (k := 8) bX11_init_49 rfl rfl
theorem dX11_init_60 : decode cX11_init 60 = .ok (.iload_n 1, 1) := dk27 (k := 11) bX11_init_49 rfl
theorem dX11_init_61 : decode cX11_init 61 = .ok (.new 25, 3) := dk187 (k := 12) bX11_init_49 rfl rfl
theorem dX11_init_64 : decode cX11_init 64 = .ok (.dup, 1) := dk89 (k := 15) bX11_init_49 rfl
theorem dX11_init_65 : decode cX11_init 65 = .ok (.invokespecial 27, 3) := dk183 (k := 16) bX11_init_49 rfl rfl
theorem dX11_init_68 : decode cX11_init 68 = .ok (.aastore, 1) := dk83 (k := 19) bX11_init_49 rfl
theorem dX11_init_69 : decode cX11_init 69 = .ok (.iinc 1 1, 3) := dk132 (k := 20) bX11_init_49 rfl rfl (by decide)
theorem dX11_init_72 : decode cX11_init 72 = .ok (.goto (-21), 3) := dk167 (k := 23) bX11_init_49 rfl (by decide)
theorem bX11_init_75 : bL cX11_init 75 [42, 6] := bL_of (by decide +kernel)
theorem dX11_init_75 : decode cX11_init 75 = .ok (.aload_n 0, 1) := dk42 (k := 0) bX11_init_75 rfl
theorem dX11_init_76 : decode cX11_init 76 = .ok (.iconst 3, 1) := dk6 (k := 1) bX11_init_75 rfl
theorem dX11_init_77 : decode cX11_init 77 = .ok (.newarray .boolean, 2) := by decide +kernel
theorem bX11_init_79 : bL cX11_init 79 [181, 0, 36, 42, 187, 0, 40, 89, 183, 0, 42, 181, 0, 43, 42, 187, 0, 47, 89, 183, 0, 49, 181, 0, 50] := bL_of (by decide +kernel)
theorem dX11_init_79 : decode cX11_init 79 = .ok (.putfield 36, 3) := dk181 (k := 0) bX11_init_79 rfl rfl
theorem dX11_init_82 : decode cX11_init 82 = .ok (.aload_n 0, 1) := dk42 (k := 3) bX11_init_79 rfl
theorem dX11_init_83 : decode cX11_init 83 = .ok (.new 40, 3) := dk187 (k := 4) bX11_init_79 rfl rfl
theorem dX11_init_86 : decode cX11_init 86 = .ok (.dup, 1) := dk89 (k := 7) bX11_init_79 rfl
theorem dX11_init_87 : decode cX11_init 87 = .ok (.invokespecial 42, 3) := dk183 (k := 8) bX11_init_79 rfl rfl
theorem dX11_init_90 : decode cX11_init 90 = .ok (.putfield 43, 3) := dk181 (k := 11) bX11_init_79 rfl rfl
theorem dX11_init_93 : decode cX11_init 93 = .ok (.aload_n 0, 1) := dk42 (k := 14) bX11_init_79 rfl
theorem dX11_init_94 : decode cX11_init 94 = .ok (.new 47, 3) := dk187 (k := 15) bX11_init_79 rfl rfl
theorem dX11_init_97 : decode cX11_init 97 = .ok (.dup, 1) := dk89 (k := 18) bX11_init_79 rfl
theorem dX11_init_98 : decode cX11_init 98 = .ok (.invokespecial 49, 3) := dk183 (k := 19) bX11_init_79 rfl rfl
theorem dX11_init_101 : decode cX11_init 101 = .ok (.putfield 50, 3) := dk181 (k := 22) bX11_init_79 rfl rfl
theorem bX11_init_104 : bL cX11_init 104 [42, 187, 0, 54, 89, 42, 180, 0, 28, 183, 0, 56, 181, 0, 59, 42, 187, 0, 63, 89, 42, 180, 0, 28] := bL_of (by decide +kernel)
theorem dX11_init_104 : decode cX11_init 104 = .ok (.aload_n 0, 1) := dk42 (k := 0) bX11_init_104 rfl
theorem dX11_init_105 : decode cX11_init 105 = .ok (.new 54, 3) := dk187 (k := 1) bX11_init_104 rfl rfl
theorem dX11_init_108 : decode cX11_init 108 = .ok (.dup, 1) := dk89 (k := 4) bX11_init_104 rfl
theorem dX11_init_109 : decode cX11_init 109 = .ok (.aload_n 0, 1) := dk42 (k := 5) bX11_init_104 rfl
theorem dX11_init_110 : decode cX11_init 110 = .ok (.getfield 28, 3) := dk180 (k := 6) bX11_init_104 rfl rfl
theorem dX11_init_113 : decode cX11_init 113 = .ok (.invokespecial 56, 3) := dk183 (k := 9) bX11_init_104 rfl rfl
theorem dX11_init_116 : decode cX11_init 116 = .ok (.putfield 59, 3) := dk181 (k := 12) bX11_init_104 rfl rfl
theorem dX11_init_119 : decode cX11_init 119 = .ok (.aload_n 0, 1) := dk42 (k := 15) bX11_init_104 rfl
theorem dX11_init_120 : decode cX11_init 120 = .ok (.new 63, 3) := dk187 (k := 16) bX11_init_104 rfl rfl
theorem dX11_init_123 : decode cX11_init 123 = .ok (.dup, 1) := dk89 (k := 19) bX11_init_104 rfl
theorem dX11_init_124 : decode cX11_init 124 = .ok (.aload_n 0, 1) := dk42 (k := 20) bX11_init_104 rfl
theorem dX11_init_125 : decode cX11_init 125 = .ok (.getfield 28, 3) := dk180 (k := 21) bX11_init_104 rfl rfl
theorem bX11_init_128 : bL cX11_init 128 [183, 0, 65, 181, 0, 66, 42, 187, 0, 70, 89, 42, 180, 0, 28, 42, 180, 0, 50, 183, 0, 72, 181, 0, 75] := bL_of (by decide +kernel)
theorem dX11_init_128 : decode cX11_init 128 = .ok (.invokespecial 65, 3) := dk183 (k := 0) bX11_init_128 rfl rfl
theorem dX11_init_131 : decode cX11_init 131 = .ok (.putfield 66, 3) := dk181 (k := 3) bX11_init_128 rfl rfl
theorem dX11_init_134 : decode cX11_init 134 = .ok (.aload_n 0, 1) := dk42 (k := 6) bX11_init_128 rfl
theorem dX11_init_135 : decode cX11_init 135 = .ok (.new 70, 3) := dk187 (k := 7) bX11_init_128 rfl rfl
theorem dX11_init_138 : decode cX11_init 138 = .ok (.dup, 1) := dk89 (k := 10) bX11_init_128 rfl
theorem dX11_init_139 : decode cX11_init 139 = .ok (.aload_n 0, 1) := dk42 (k := 11) bX11_init_128 rfl
theorem dX11_init_140 : decode cX11_init 140 = .ok (.getfield 28, 3) := dk180 (k := 12) bX11_init_128 rfl rfl
theorem dX11_init_143 : decode cX11_init 143 = .ok (.aload_n 0, 1) := dk42 (k := 15) bX11_init_128 rfl
theorem dX11_init_144 : decode cX11_init 144 = .ok (.getfield 50, 3) := dk180 (k := 16) bX11_init_128 rfl rfl
theorem dX11_init_147 : decode cX11_init 147 = .ok (.invokespecial 72, 3) := dk183 (k := 19) bX11_init_128 rfl rfl
theorem dX11_init_150 : decode cX11_init 150 = .ok (.putfield 75, 3) := dk181 (k := 22) bX11_init_128 rfl rfl
theorem bX11_init_153 : bL cX11_init 153 [42, 187, 0, 79, 89, 42, 180, 0, 28, 42, 180, 0, 50, 183, 0, 81, 181, 0, 82, 42, 187, 0, 86, 89] := bL_of (by decide +kernel)
theorem dX11_init_153 : decode cX11_init 153 = .ok (.aload_n 0, 1) := dk42 (k := 0) bX11_init_153 rfl
theorem dX11_init_154 : decode cX11_init 154 = .ok (.new 79, 3) := dk187 (k := 1) bX11_init_153 rfl rfl
theorem dX11_init_157 : decode cX11_init 157 = .ok (.dup, 1) := dk89 (k := 4) bX11_init_153 rfl
theorem dX11_init_158 : decode cX11_init 158 = .ok (.aload_n 0, 1) := dk42 (k := 5) bX11_init_153 rfl
theorem dX11_init_159 : decode cX11_init 159 = .ok (.getfield 28, 3) := dk180 (k := 6) bX11_init_153 rfl rfl
theorem dX11_init_162 : decode cX11_init 162 = .ok (.aload_n 0, 1) := dk42 (k := 9) bX11_init_153 rfl
theorem dX11_init_163 : decode cX11_init 163 = .ok (.getfield 50, 3) := dk180 (k := 10) bX11_init_153 rfl rfl
theorem dX11_init_166 : decode cX11_init 166 = .ok (.invokespecial 81, 3) := dk183 (k := 13) bX11_init_153 rfl rfl
theorem dX11_init_169 : decode cX11_init 169 = .ok (.putfield 82, 3) := dk181 (k := 16) bX11_init_153 rfl rfl
theorem dX11_init_172 : decode cX11_init 172 = .ok (.aload_n 0, 1) := dk42 (k := 19) bX11_init_153 rfl
theorem dX11_init_173 : decode cX11_init 173 = .ok (.new 86, 3) := dk187 (k := 20) bX11_init_153 rfl rfl
theorem dX11_init_176 : decode cX11_init 176 = .ok (.dup, 1) := dk89 (k := 23) bX11_init_153 rfl
theorem bX11_init_177 : bL cX11_init 177 [42, 180, 0, 28, 42, 180, 0, 43, 42, 180, 0, 50, 183, 0, 88, 181, 0, 91, 177] := bL_of (by decide +kernel)
theorem dX11_init_177 : decode cX11_init 177 = .ok (.aload_n 0, 1) := dk42 (k := 0) bX11_init_177 rfl
theorem dX11_init_178 : decode cX11_init 178 = .ok (.getfield 28, 3) := dk180 (k := 1) bX11_init_177 rfl rfl
theorem dX11_init_181 : decode cX11_init 181 = .ok (.aload_n 0, 1) := dk42 (k := 4) bX11_init_177 rfl
theorem dX11_init_182 : decode cX11_init 182 = .ok (.getfield 43, 3) := dk180 (k := 5) bX11_init_177 rfl rfl
theorem dX11_init_185 : decode cX11_init 185 = .ok (.aload_n 0, 1) := dk42 (k := 8) bX11_init_177 rfl
theorem dX11_init_186 : decode cX11_init 186 = .ok (.getfield 50, 3) := dk180 (k := 9) bX11_init_177 rfl rfl
theorem dX11_init_189 : decode cX11_init 189 = .ok (.invokespecial 88, 3) := dk183 (k := 12) bX11_init_177 rfl rfl
theorem dX11_init_192 : decode cX11_init 192 = .ok (.putfield 91, 3) := dk181 (k := 15) bX11_init_177 rfl rfl
theorem dX11_init_195 : decode cX11_init 195 = .ok (.return_, 1) := dk177 (k := 18) bX11_init_177 rfl
theorem bX11_feed_0 : bL cX11_feed 0 [42, 180, 0, 10, 16, 20, 182, 0, 95, 154, 0, 5, 2, 172, 42, 180, 0, 10, 27, 182, 0, 99, 42, 180, 0, 10] := bL_of (by decide +kernel)
theorem dX11_feed_0 : decode cX11_feed 0 = .ok (.aload_n 0, 1) := dk42 (k := 0) bX11_feed_0 rfl
theorem dX11_feed_1 : decode cX11_feed 1 = .ok (.getfield 10, 3) := dk180 (k := 1) bX11_feed_0 rfl rfl
theorem dX11_feed_4 : decode cX11_feed 4 = .ok (.bipush 20, 2) := dk16 (k := 4) bX11_feed_0 rfl (by decide)
theorem dX11_feed_6 : decode cX11_feed 6 = .ok (.invokevirtual 95, 3) := dk182 (k := 6) bX11_feed_0 rfl rfl
theorem dX11_feed_9 : decode cX11_feed 9 = .ok (.ifCond .ne 5, 3) := dk154 (k := 9) bX11_feed_0 rfl (by decide)
theorem dX11_feed_12 : decode cX11_feed 12 = .ok (.iconst (-1), 1) := dk2 (k := 12) bX11_feed_0 rfl
theorem dX11_feed_13 : decode cX11_feed 13 = .ok (.ireturn, 1) := dk172 (k := 13) bX11_feed_0 rfl
theorem dX11_feed_14 : decode cX11_feed 14 = .ok (.aload_n 0, 1) := dk42 (k := 14) bX11_feed_0 rfl
theorem dX11_feed_15 : decode cX11_feed 15 = .ok (.getfield 10, 3) := dk180 (k := 15) bX11_feed_0 rfl rfl
theorem dX11_feed_18 : decode cX11_feed 18 = .ok (.iload_n 1, 1) := dk27 (k := 18) bX11_feed_0 rfl
theorem dX11_feed_19 : decode cX11_feed 19 = .ok (.invokevirtual 99, 3) := dk182 (k := 19) bX11_feed_0 rfl rfl
theorem dX11_feed_22 : decode cX11_feed 22 = .ok (.aload_n 0, 1) := dk42 (k := 22) bX11_feed_0 rfl
theorem dX11_feed_23 : decode cX11_feed 23 = .ok (.getfield 10, 3) := dk180 (k := 23) bX11_feed_0 rfl rfl
theorem bX11_feed_26 : bL cX11_feed 26 [28, 182, 0, 99, 42, 180, 0, 10, 29, 182, 0, 99, 42, 180, 0, 10, 21, 4, 182, 0, 99, 42, 180, 0, 10] := bL_of (by decide +kernel)
theorem dX11_feed_26 : decode cX11_feed 26 = .ok (.iload_n 2, 1) := dk28 (k := 0) bX11_feed_26 rfl
theorem dX11_feed_27 : decode cX11_feed 27 = .ok (.invokevirtual 99, 3) := dk182 (k := 1) bX11_feed_26 rfl rfl
theorem dX11_feed_30 : decode cX11_feed 30 = .ok (.aload_n 0, 1) := dk42 (k := 4) bX11_feed_26 rfl
theorem dX11_feed_31 : decode cX11_feed 31 = .ok (.getfield 10, 3) := dk180 (k := 5) bX11_feed_26 rfl rfl
theorem dX11_feed_34 : decode cX11_feed 34 = .ok (.iload_n 3, 1) := dk29 (k := 8) bX11_feed_26 rfl
theorem dX11_feed_35 : decode cX11_feed 35 = .ok (.invokevirtual 99, 3) := dk182 (k := 9) bX11_feed_26 rfl rfl
theorem dX11_feed_38 : decode cX11_feed 38 = .ok (.aload_n 0, 1) := dk42 (k := 12) bX11_feed_26 rfl
theorem dX11_feed_39 : decode cX11_feed 39 = .ok (.getfield 10, 3) := dk180 (k := 13) bX11_feed_26 rfl rfl
theorem dX11_feed_42 : decode cX11_feed 42 = .ok (.iload 4, 2) := dk21 (k := 16) bX11_feed_26 rfl rfl
theorem dX11_feed_44 : decode cX11_feed 44 = .ok (.invokevirtual 99, 3) := dk182 (k := 18) bX11_feed_26 rfl rfl
theorem dX11_feed_47 : decode cX11_feed 47 = .ok (.aload_n 0, 1) := dk42 (k := 21) bX11_feed_26 rfl
theorem dX11_feed_48 : decode cX11_feed 48 = .ok (.getfield 10, 3) := dk180 (k := 22) bX11_feed_26 rfl rfl
theorem bX11_feed_51 : bL cX11_feed 51 [21, 5, 182, 0, 99, 42, 180, 0, 10, 180, 0, 103, 172] := bL_of (by decide +kernel)
theorem dX11_feed_51 : decode cX11_feed 51 = .ok (.iload 5, 2) := dk21 (k := 0) bX11_feed_51 rfl rfl
theorem dX11_feed_53 : decode cX11_feed 53 = .ok (.invokevirtual 99, 3) := dk182 (k := 2) bX11_feed_51 rfl rfl
theorem dX11_feed_56 : decode cX11_feed 56 = .ok (.aload_n 0, 1) := dk42 (k := 5) bX11_feed_51 rfl
theorem dX11_feed_57 : decode cX11_feed 57 = .ok (.getfield 10, 3) := dk180 (k := 6) bX11_feed_51 rfl rfl
theorem dX11_feed_60 : decode cX11_feed 60 = .ok (.getfield 103, 3) := dk180 (k := 9) bX11_feed_51 rfl rfl
theorem dX11_feed_63 : decode cX11_feed 63 = .ok (.ireturn, 1) := dk172 (k := 12) bX11_feed_51 rfl
theorem bX11_end_0 : bL cX11_end 0 [27, 155, 0, 14, 27, 42, 180, 0, 10, 180, 0, 103, 164, 0, 5, 2, 172, 42, 180, 0, 10, 27, 181, 0, 103] := bL_of (by decide +kernel)
theorem dX11_end_0 : decode cX11_end 0 = .ok (.iload_n 1, 1) := dk27 (k := 0) bX11_end_0 rfl
theorem dX11_end_1 : decode cX11_end 1 = .ok (.ifCond .lt 14, 3) := dk155 (k := 1) bX11_end_0 rfl (by decide)
theorem dX11_end_4 : decode cX11_end 4 = .ok (.iload_n 1, 1) := dk27 (k := 4) bX11_end_0 rfl
theorem dX11_end_5 : decode cX11_end 5 = .ok (.aload_n 0, 1) := dk42 (k := 5) bX11_end_0 rfl
theorem dX11_end_6 : decode cX11_end 6 = .ok (.getfield 10, 3) := dk180 (k := 6) bX11_end_0 rfl rfl
theorem dX11_end_9 : decode cX11_end 9 = .ok (.getfield 103, 3) := dk180 (k := 9) bX11_end_0 rfl rfl
theorem dX11_end_12 : decode cX11_end 12 = .ok (.if_icmp .le 5, 3) := dk164 (k := 12) bX11_end_0 rfl (by decide)
theorem dX11_end_15 : decode cX11_end 15 = .ok (.iconst (-1), 1) := dk2 (k := 15) bX11_end_0 rfl
theorem dX11_end_16 : decode cX11_end 16 = .ok (.ireturn, 1) := dk172 (k := 16) bX11_end_0 rfl
theorem dX11_end_17 : decode cX11_end 17 = .ok (.aload_n 0, 1) := dk42 (k := 17) bX11_end_0 rfl
theorem dX11_end_18 : decode cX11_end 18 = .ok (.getfield 10, 3) := dk180 (k := 18) bX11_end_0 rfl rfl
theorem dX11_end_21 : decode cX11_end 21 = .ok (.iload_n 1, 1) := dk27 (k := 21) bX11_end_0 rfl
theorem dX11_end_22 : decode cX11_end 22 = .ok (.putfield 103, 3) := dk181 (k := 22) bX11_end_0 rfl rfl
theorem bX11_end_25 : bL cX11_end 25 [27, 172] := bL_of (by decide +kernel)
theorem dX11_end_25 : decode cX11_end 25 = .ok (.iload_n 1, 1) := dk27 (k := 0) bX11_end_25 rfl
theorem dX11_end_26 : decode cX11_end 26 = .ok (.ireturn, 1) := dk172 (k := 1) bX11_end_25 rfl
theorem bX11_mount_0 : bL cX11_mount 0 [42, 180, 0, 21, 182, 0, 107, 60, 42, 180, 0, 10, 3, 181, 0, 103, 27, 154, 0, 6, 16, 252, 172, 42] := bL_of (by decide +kernel)
theorem dX11_mount_0 : decode cX11_mount 0 = .ok (.aload_n 0, 1) := dk42 (k := 0) bX11_mount_0 rfl
theorem dX11_mount_1 : decode cX11_mount 1 = .ok (.getfield 21, 3) := dk180 (k := 1) bX11_mount_0 rfl rfl
theorem dX11_mount_4 : decode cX11_mount 4 = .ok (.invokevirtual 107, 3) := dk182 (k := 4) bX11_mount_0 rfl rfl
theorem dX11_mount_7 : decode cX11_mount 7 = .ok (.istore_n 1, 1) := dk60 (k := 7) bX11_mount_0 rfl
theorem dX11_mount_8 : decode cX11_mount 8 = .ok (.aload_n 0, 1) := dk42 (k := 8) bX11_mount_0 rfl
theorem dX11_mount_9 : decode cX11_mount 9 = .ok (.getfield 10, 3) := dk180 (k := 9) bX11_mount_0 rfl rfl
theorem dX11_mount_12 : decode cX11_mount 12 = .ok (.iconst 0, 1) := dk3 (k := 12) bX11_mount_0 rfl
theorem dX11_mount_13 : decode cX11_mount 13 = .ok (.putfield 103, 3) := dk181 (k := 13) bX11_mount_0 rfl rfl
theorem dX11_mount_16 : decode cX11_mount 16 = .ok (.iload_n 1, 1) := dk27 (k := 16) bX11_mount_0 rfl
theorem dX11_mount_17 : decode cX11_mount 17 = .ok (.ifCond .ne 6, 3) := dk154 (k := 17) bX11_mount_0 rfl (by decide)
theorem dX11_mount_20 : decode cX11_mount 20 = .ok (.bipush (-4), 2) := dk16 (k := 20) bX11_mount_0 rfl (by decide)
theorem dX11_mount_22 : decode cX11_mount 22 = .ok (.ireturn, 1) := dk172 (k := 22) bX11_mount_0 rfl
theorem dX11_mount_23 : decode cX11_mount 23 = .ok (.aload_n 0, 1) := dk42 (k := 23) bX11_mount_0 rfl
theorem bX11_mount_24 : bL cX11_mount 24 [180, 0, 28, 42, 180, 0, 21, 180, 0, 111, 182, 0, 114, 42, 180, 0, 28, 180, 0, 117, 172] := bL_of (by decide +kernel)
theorem dX11_mount_24 : decode cX11_mount 24 = .ok (.getfield 28, 3) := dk180 (k := 0) bX11_mount_24 rfl rfl
theorem dX11_mount_27 : decode cX11_mount 27 = .ok (.aload_n 0, 1) := dk42 (k := 3) bX11_mount_24 rfl
theorem dX11_mount_28 : decode cX11_mount 28 = .ok (.getfield 21, 3) := dk180 (k := 4) bX11_mount_24 rfl rfl
theorem dX11_mount_31 : decode cX11_mount 31 = .ok (.getfield 111, 3) := dk180 (k := 7) bX11_mount_24 rfl rfl
theorem dX11_mount_34 : decode cX11_mount 34 = .ok (.invokevirtual 114, 3) := dk182 (k := 10) bX11_mount_24 rfl rfl
theorem dX11_mount_37 : decode cX11_mount 37 = .ok (.aload_n 0, 1) := dk42 (k := 13) bX11_mount_24 rfl
theorem dX11_mount_38 : decode cX11_mount 38 = .ok (.getfield 28, 3) := dk180 (k := 14) bX11_mount_24 rfl rfl
theorem dX11_mount_41 : decode cX11_mount 41 = .ok (.getfield 117, 3) := dk180 (k := 17) bX11_mount_24 rfl rfl
theorem dX11_mount_44 : decode cX11_mount 44 = .ok (.ireturn, 1) := dk172 (k := 20) bX11_mount_24 rfl
theorem bX11_fault_0 : bL cX11_fault 0 [27, 154, 0, 11, 42, 180, 0, 21, 180, 0, 120, 172, 27, 4, 160, 0, 13, 42, 180, 0, 21, 180, 0, 123] := bL_of (by decide +kernel)
theorem dX11_fault_0 : decode cX11_fault 0 = .ok (.iload_n 1, 1) := dk27 (k := 0) bX11_fault_0 rfl
theorem dX11_fault_1 : decode cX11_fault 1 = .ok (.ifCond .ne 11, 3) := dk154 (k := 1) bX11_fault_0 rfl (by decide)
theorem dX11_fault_4 : decode cX11_fault 4 = .ok (.aload_n 0, 1) := dk42 (k := 4) bX11_fault_0 rfl
theorem dX11_fault_5 : decode cX11_fault 5 = .ok (.getfield 21, 3) := dk180 (k := 5) bX11_fault_0 rfl rfl
theorem dX11_fault_8 : decode cX11_fault 8 = .ok (.getfield 120, 3) := dk180 (k := 8) bX11_fault_0 rfl rfl
theorem dX11_fault_11 : decode cX11_fault 11 = .ok (.ireturn, 1) := dk172 (k := 11) bX11_fault_0 rfl
theorem dX11_fault_12 : decode cX11_fault 12 = .ok (.iload_n 1, 1) := dk27 (k := 12) bX11_fault_0 rfl
theorem dX11_fault_13 : decode cX11_fault 13 = .ok (.iconst 1, 1) := dk4 (k := 13) bX11_fault_0 rfl
theorem dX11_fault_14 : decode cX11_fault 14 = .ok (.if_icmp .ne 13, 3) := dk160 (k := 14) bX11_fault_0 rfl (by decide)
theorem dX11_fault_17 : decode cX11_fault 17 = .ok (.aload_n 0, 1) := dk42 (k := 17) bX11_fault_0 rfl
theorem dX11_fault_18 : decode cX11_fault 18 = .ok (.getfield 21, 3) := dk180 (k := 18) bX11_fault_0 rfl rfl
theorem dX11_fault_21 : decode cX11_fault 21 = .ok (.getfield 123, 3) := dk180 (k := 21) bX11_fault_0 rfl rfl
theorem bX11_fault_24 : bL cX11_fault 24 [167, 0, 4, 2, 172] := bL_of (by decide +kernel)
theorem dX11_fault_24 : decode cX11_fault 24 = .ok (.goto 4, 3) := dk167 (k := 0) bX11_fault_24 rfl (by decide)
theorem dX11_fault_27 : decode cX11_fault 27 = .ok (.iconst (-1), 1) := dk2 (k := 3) bX11_fault_24 rfl
theorem dX11_fault_28 : decode cX11_fault 28 = .ok (.ireturn, 1) := dk172 (k := 4) bX11_fault_24 rfl
theorem bX11_folk_0 : bL cX11_folk 0 [42, 180, 0, 28, 180, 0, 126, 27, 182, 0, 130, 153, 0, 13, 28, 155, 0, 9, 28, 16, 7, 161, 0, 6] := bL_of (by decide +kernel)
theorem dX11_folk_0 : decode cX11_folk 0 = .ok (.aload_n 0, 1) := dk42 (k := 0) bX11_folk_0 rfl
theorem dX11_folk_1 : decode cX11_folk 1 = .ok (.getfield 28, 3) := dk180 (k := 1) bX11_folk_0 rfl rfl
theorem dX11_folk_4 : decode cX11_folk 4 = .ok (.getfield 126, 3) := dk180 (k := 4) bX11_folk_0 rfl rfl
theorem dX11_folk_7 : decode cX11_folk 7 = .ok (.iload_n 1, 1) := dk27 (k := 7) bX11_folk_0 rfl
theorem dX11_folk_8 : decode cX11_folk 8 = .ok (.invokevirtual 130, 3) := dk182 (k := 8) bX11_folk_0 rfl rfl
theorem dX11_folk_11 : decode cX11_folk 11 = .ok (.ifCond .eq 13, 3) := dk153 (k := 11) bX11_folk_0 rfl (by decide)
theorem dX11_folk_14 : decode cX11_folk 14 = .ok (.iload_n 2, 1) := dk28 (k := 14) bX11_folk_0 rfl
theorem dX11_folk_15 : decode cX11_folk 15 = .ok (.ifCond .lt 9, 3) := dk155 (k := 15) bX11_folk_0 rfl (by decide)
theorem dX11_folk_18 : decode cX11_folk 18 = .ok (.iload_n 2, 1) := dk28 (k := 18) bX11_folk_0 rfl
theorem dX11_folk_19 : decode cX11_folk 19 = .ok (.bipush 7, 2) := dk16 (k := 19) bX11_folk_0 rfl (by decide)
theorem dX11_folk_21 : decode cX11_folk 21 = .ok (.if_icmp .lt 6, 3) := dk161 (k := 21) bX11_folk_0 rfl (by decide)
theorem bX11_folk_24 : bL cX11_folk 24 [16, 254, 172, 42, 180, 0, 28, 180, 0, 126, 27, 28, 182, 0, 135, 172] := bL_of (by decide +kernel)
theorem dX11_folk_24 : decode cX11_folk 24 = .ok (.bipush (-2), 2) := dk16 (k := 0) bX11_folk_24 rfl (by decide)
theorem dX11_folk_26 : decode cX11_folk 26 = .ok (.ireturn, 1) := dk172 (k := 2) bX11_folk_24 rfl
theorem dX11_folk_27 : decode cX11_folk 27 = .ok (.aload_n 0, 1) := dk42 (k := 3) bX11_folk_24 rfl
theorem dX11_folk_28 : decode cX11_folk 28 = .ok (.getfield 28, 3) := dk180 (k := 4) bX11_folk_24 rfl rfl
theorem dX11_folk_31 : decode cX11_folk 31 = .ok (.getfield 126, 3) := dk180 (k := 7) bX11_folk_24 rfl rfl
theorem dX11_folk_34 : decode cX11_folk 34 = .ok (.iload_n 1, 1) := dk27 (k := 10) bX11_folk_24 rfl
theorem dX11_folk_35 : decode cX11_folk 35 = .ok (.iload_n 2, 1) := dk28 (k := 11) bX11_folk_24 rfl
theorem dX11_folk_36 : decode cX11_folk 36 = .ok (.invokevirtual 135, 3) := dk182 (k := 12) bX11_folk_24 rfl rfl
theorem dX11_folk_39 : decode cX11_folk 39 = .ok (.ireturn, 1) := dk172 (k := 15) bX11_folk_24 rfl
theorem bX11_height_0 : bL cX11_height 0 [42, 180, 0, 28, 180, 0, 139, 27, 182, 0, 142, 153, 0, 17, 42, 180, 0, 28, 180, 0, 139, 27, 182, 0, 143] := bL_of (by decide +kernel)
theorem dX11_height_0 : decode cX11_height 0 = .ok (.aload_n 0, 1) := dk42 (k := 0) bX11_height_0 rfl
theorem dX11_height_1 : decode cX11_height 1 = .ok (.getfield 28, 3) := dk180 (k := 1) bX11_height_0 rfl rfl
theorem dX11_height_4 : decode cX11_height 4 = .ok (.getfield 139, 3) := dk180 (k := 4) bX11_height_0 rfl rfl
theorem dX11_height_7 : decode cX11_height 7 = .ok (.iload_n 1, 1) := dk27 (k := 7) bX11_height_0 rfl
theorem dX11_height_8 : decode cX11_height 8 = .ok (.invokevirtual 142, 3) := dk182 (k := 8) bX11_height_0 rfl rfl
theorem dX11_height_11 : decode cX11_height 11 = .ok (.ifCond .eq 17, 3) := dk153 (k := 11) bX11_height_0 rfl (by decide)
theorem dX11_height_14 : decode cX11_height 14 = .ok (.aload_n 0, 1) := dk42 (k := 14) bX11_height_0 rfl
theorem dX11_height_15 : decode cX11_height 15 = .ok (.getfield 28, 3) := dk180 (k := 15) bX11_height_0 rfl rfl
theorem dX11_height_18 : decode cX11_height 18 = .ok (.getfield 139, 3) := dk180 (k := 18) bX11_height_0 rfl rfl
theorem dX11_height_21 : decode cX11_height 21 = .ok (.iload_n 1, 1) := dk27 (k := 21) bX11_height_0 rfl
theorem dX11_height_22 : decode cX11_height 22 = .ok (.invokevirtual 143, 3) := dk182 (k := 22) bX11_height_0 rfl rfl
theorem bX11_height_25 : bL cX11_height 25 [167, 0, 5, 16, 254, 172] := bL_of (by decide +kernel)
theorem dX11_height_25 : decode cX11_height 25 = .ok (.goto 5, 3) := dk167 (k := 0) bX11_height_25 rfl (by decide)
theorem dX11_height_28 : decode cX11_height 28 = .ok (.bipush (-2), 2) := dk16 (k := 3) bX11_height_25 rfl (by decide)
theorem dX11_height_30 : decode cX11_height 30 = .ok (.ireturn, 1) := dk172 (k := 5) bX11_height_25 rfl
theorem bX11_shade_0 : bL cX11_shade 0 [42, 180, 0, 28, 180, 0, 139, 27, 182, 0, 142, 153, 0, 10, 28, 184, 0, 147, 154, 0, 6, 16, 254, 172] := bL_of (by decide +kernel)
theorem dX11_shade_0 : decode cX11_shade 0 = .ok (.aload_n 0, 1) := dk42 (k := 0) bX11_shade_0 rfl
theorem dX11_shade_1 : decode cX11_shade 1 = .ok (.getfield 28, 3) := dk180 (k := 1) bX11_shade_0 rfl rfl
theorem dX11_shade_4 : decode cX11_shade 4 = .ok (.getfield 139, 3) := dk180 (k := 4) bX11_shade_0 rfl rfl
theorem dX11_shade_7 : decode cX11_shade 7 = .ok (.iload_n 1, 1) := dk27 (k := 7) bX11_shade_0 rfl
theorem dX11_shade_8 : decode cX11_shade 8 = .ok (.invokevirtual 142, 3) := dk182 (k := 8) bX11_shade_0 rfl rfl
theorem dX11_shade_11 : decode cX11_shade 11 = .ok (.ifCond .eq 10, 3) := dk153 (k := 11) bX11_shade_0 rfl (by decide)
theorem dX11_shade_14 : decode cX11_shade 14 = .ok (.iload_n 2, 1) := dk28 (k := 14) bX11_shade_0 rfl
theorem dX11_shade_15 : decode cX11_shade 15 = .ok (.invokestatic 147, 3) := dk184 (k := 15) bX11_shade_0 rfl rfl
theorem dX11_shade_18 : decode cX11_shade 18 = .ok (.ifCond .ne 6, 3) := dk154 (k := 18) bX11_shade_0 rfl (by decide)
theorem dX11_shade_21 : decode cX11_shade 21 = .ok (.bipush (-2), 2) := dk16 (k := 21) bX11_shade_0 rfl (by decide)
theorem dX11_shade_23 : decode cX11_shade 23 = .ok (.ireturn, 1) := dk172 (k := 23) bX11_shade_0 rfl
theorem bX11_shade_24 : bL cX11_shade 24 [42, 180, 0, 28, 180, 0, 139, 27, 28, 182, 0, 150, 153, 0, 7, 4, 167, 0, 4, 3, 172] := bL_of (by decide +kernel)
theorem dX11_shade_24 : decode cX11_shade 24 = .ok (.aload_n 0, 1) := dk42 (k := 0) bX11_shade_24 rfl
theorem dX11_shade_25 : decode cX11_shade 25 = .ok (.getfield 28, 3) := dk180 (k := 1) bX11_shade_24 rfl rfl
theorem dX11_shade_28 : decode cX11_shade 28 = .ok (.getfield 139, 3) := dk180 (k := 4) bX11_shade_24 rfl rfl
theorem dX11_shade_31 : decode cX11_shade 31 = .ok (.iload_n 1, 1) := dk27 (k := 7) bX11_shade_24 rfl
theorem dX11_shade_32 : decode cX11_shade 32 = .ok (.iload_n 2, 1) := dk28 (k := 8) bX11_shade_24 rfl
theorem dX11_shade_33 : decode cX11_shade 33 = .ok (.invokevirtual 150, 3) := dk182 (k := 9) bX11_shade_24 rfl rfl
theorem dX11_shade_36 : decode cX11_shade 36 = .ok (.ifCond .eq 7, 3) := dk153 (k := 12) bX11_shade_24 rfl (by decide)
theorem dX11_shade_39 : decode cX11_shade 39 = .ok (.iconst 1, 1) := dk4 (k := 15) bX11_shade_24 rfl
theorem dX11_shade_40 : decode cX11_shade 40 = .ok (.goto 4, 3) := dk167 (k := 16) bX11_shade_24 rfl (by decide)
theorem dX11_shade_43 : decode cX11_shade 43 = .ok (.iconst 0, 1) := dk3 (k := 19) bX11_shade_24 rfl
theorem dX11_shade_44 : decode cX11_shade 44 = .ok (.ireturn, 1) := dk172 (k := 20) bX11_shade_24 rfl
theorem bX11_light_0 : bL cX11_light 0 [42, 180, 0, 28, 180, 0, 139, 27, 182, 0, 142, 153, 0, 17, 42, 180, 0, 28, 180, 0, 139, 27, 182, 0, 154] := bL_of (by decide +kernel)
theorem dX11_light_0 : decode cX11_light 0 = .ok (.aload_n 0, 1) := dk42 (k := 0) bX11_light_0 rfl
theorem dX11_light_1 : decode cX11_light 1 = .ok (.getfield 28, 3) := dk180 (k := 1) bX11_light_0 rfl rfl
theorem dX11_light_4 : decode cX11_light 4 = .ok (.getfield 139, 3) := dk180 (k := 4) bX11_light_0 rfl rfl
theorem dX11_light_7 : decode cX11_light 7 = .ok (.iload_n 1, 1) := dk27 (k := 7) bX11_light_0 rfl
theorem dX11_light_8 : decode cX11_light 8 = .ok (.invokevirtual 142, 3) := dk182 (k := 8) bX11_light_0 rfl rfl
theorem dX11_light_11 : decode cX11_light 11 = .ok (.ifCond .eq 17, 3) := dk153 (k := 11) bX11_light_0 rfl (by decide)
theorem dX11_light_14 : decode cX11_light 14 = .ok (.aload_n 0, 1) := dk42 (k := 14) bX11_light_0 rfl
theorem dX11_light_15 : decode cX11_light 15 = .ok (.getfield 28, 3) := dk180 (k := 15) bX11_light_0 rfl rfl
theorem dX11_light_18 : decode cX11_light 18 = .ok (.getfield 139, 3) := dk180 (k := 18) bX11_light_0 rfl rfl
theorem dX11_light_21 : decode cX11_light 21 = .ok (.iload_n 1, 1) := dk27 (k := 21) bX11_light_0 rfl
theorem dX11_light_22 : decode cX11_light 22 = .ok (.invokevirtual 154, 3) := dk182 (k := 22) bX11_light_0 rfl rfl
theorem bX11_light_25 : bL cX11_light 25 [167, 0, 5, 16, 254, 172] := bL_of (by decide +kernel)
theorem dX11_light_25 : decode cX11_light 25 = .ok (.goto 5, 3) := dk167 (k := 0) bX11_light_25 rfl (by decide)
theorem dX11_light_28 : decode cX11_light 28 = .ok (.bipush (-2), 2) := dk16 (k := 3) bX11_light_25 rfl (by decide)
theorem dX11_light_30 : decode cX11_light 30 = .ok (.ireturn, 1) := dk172 (k := 5) bX11_light_25 rfl
theorem bX11_dark_0 : bL cX11_dark 0 [42, 180, 0, 28, 182, 0, 157, 153, 0, 24, 27, 184, 0, 147, 153, 0, 17, 42, 180, 0, 28, 180, 0, 139] := bL_of (by decide +kernel)
theorem dX11_dark_0 : decode cX11_dark 0 = .ok (.aload_n 0, 1) := dk42 (k := 0) bX11_dark_0 rfl
theorem dX11_dark_1 : decode cX11_dark 1 = .ok (.getfield 28, 3) := dk180 (k := 1) bX11_dark_0 rfl rfl
theorem dX11_dark_4 : decode cX11_dark 4 = .ok (.invokevirtual 157, 3) := dk182 (k := 4) bX11_dark_0 rfl rfl
theorem dX11_dark_7 : decode cX11_dark 7 = .ok (.ifCond .eq 24, 3) := dk153 (k := 7) bX11_dark_0 rfl (by decide)
theorem dX11_dark_10 : decode cX11_dark 10 = .ok (.iload_n 1, 1) := dk27 (k := 10) bX11_dark_0 rfl
theorem dX11_dark_11 : decode cX11_dark 11 = .ok (.invokestatic 147, 3) := dk184 (k := 11) bX11_dark_0 rfl rfl
theorem dX11_dark_14 : decode cX11_dark 14 = .ok (.ifCond .eq 17, 3) := dk153 (k := 14) bX11_dark_0 rfl (by decide)
theorem dX11_dark_17 : decode cX11_dark 17 = .ok (.aload_n 0, 1) := dk42 (k := 17) bX11_dark_0 rfl
theorem dX11_dark_18 : decode cX11_dark 18 = .ok (.getfield 28, 3) := dk180 (k := 18) bX11_dark_0 rfl rfl
theorem dX11_dark_21 : decode cX11_dark 21 = .ok (.getfield 139, 3) := dk180 (k := 21) bX11_dark_0 rfl rfl
theorem bX11_dark_24 : bL cX11_dark 24 [27, 182, 0, 160, 167, 0, 5, 16, 254, 172] := bL_of (by decide +kernel)
theorem dX11_dark_24 : decode cX11_dark 24 = .ok (.iload_n 1, 1) := dk27 (k := 0) bX11_dark_24 rfl
theorem dX11_dark_25 : decode cX11_dark 25 = .ok (.invokevirtual 160, 3) := dk182 (k := 1) bX11_dark_24 rfl rfl
theorem dX11_dark_28 : decode cX11_dark 28 = .ok (.goto 5, 3) := dk167 (k := 4) bX11_dark_24 rfl (by decide)
theorem dX11_dark_31 : decode cX11_dark 31 = .ok (.bipush (-2), 2) := dk16 (k := 7) bX11_dark_24 rfl (by decide)
theorem dX11_dark_33 : decode cX11_dark 33 = .ok (.ireturn, 1) := dk172 (k := 9) bX11_dark_24 rfl
theorem bX11_snow_0 : bL cX11_snow 0 [42, 180, 0, 28, 182, 0, 157, 153, 0, 16, 42, 180, 0, 28, 180, 0, 139, 182, 0, 163, 167, 0, 5, 16, 254] := bL_of (by decide +kernel)
theorem dX11_snow_0 : decode cX11_snow 0 = .ok (.aload_n 0, 1) := dk42 (k := 0) bX11_snow_0 rfl
theorem dX11_snow_1 : decode cX11_snow 1 = .ok (.getfield 28, 3) := dk180 (k := 1) bX11_snow_0 rfl rfl
theorem dX11_snow_4 : decode cX11_snow 4 = .ok (.invokevirtual 157, 3) := dk182 (k := 4) bX11_snow_0 rfl rfl
theorem dX11_snow_7 : decode cX11_snow 7 = .ok (.ifCond .eq 16, 3) := dk153 (k := 7) bX11_snow_0 rfl (by decide)
theorem dX11_snow_10 : decode cX11_snow 10 = .ok (.aload_n 0, 1) := dk42 (k := 10) bX11_snow_0 rfl
theorem dX11_snow_11 : decode cX11_snow 11 = .ok (.getfield 28, 3) := dk180 (k := 11) bX11_snow_0 rfl rfl
theorem dX11_snow_14 : decode cX11_snow 14 = .ok (.getfield 139, 3) := dk180 (k := 14) bX11_snow_0 rfl rfl
theorem dX11_snow_17 : decode cX11_snow 17 = .ok (.invokevirtual 163, 3) := dk182 (k := 17) bX11_snow_0 rfl rfl
theorem dX11_snow_20 : decode cX11_snow 20 = .ok (.goto 5, 3) := dk167 (k := 20) bX11_snow_0 rfl (by decide)
theorem dX11_snow_23 : decode cX11_snow 23 = .ok (.bipush (-2), 2) := dk16 (k := 23) bX11_snow_0 rfl (by decide)
theorem bX11_snow_25 : bL cX11_snow 25 [172] := bL_of (by decide +kernel)
theorem dX11_snow_25 : decode cX11_snow 25 = .ok (.ireturn, 1) := dk172 (k := 0) bX11_snow_25 rfl
theorem bX11_top_0 : bL cX11_top 0 [42, 180, 0, 28, 182, 0, 157, 153, 0, 16, 42, 180, 0, 28, 180, 0, 139, 182, 0, 167, 167, 0, 5, 16, 254] := bL_of (by decide +kernel)
theorem dX11_top_0 : decode cX11_top 0 = .ok (.aload_n 0, 1) := dk42 (k := 0) bX11_top_0 rfl
theorem dX11_top_1 : decode cX11_top 1 = .ok (.getfield 28, 3) := dk180 (k := 1) bX11_top_0 rfl rfl
theorem dX11_top_4 : decode cX11_top 4 = .ok (.invokevirtual 157, 3) := dk182 (k := 4) bX11_top_0 rfl rfl
theorem dX11_top_7 : decode cX11_top 7 = .ok (.ifCond .eq 16, 3) := dk153 (k := 7) bX11_top_0 rfl (by decide)
theorem dX11_top_10 : decode cX11_top 10 = .ok (.aload_n 0, 1) := dk42 (k := 10) bX11_top_0 rfl
theorem dX11_top_11 : decode cX11_top 11 = .ok (.getfield 28, 3) := dk180 (k := 11) bX11_top_0 rfl rfl
theorem dX11_top_14 : decode cX11_top 14 = .ok (.getfield 139, 3) := dk180 (k := 14) bX11_top_0 rfl rfl
theorem dX11_top_17 : decode cX11_top 17 = .ok (.invokevirtual 167, 3) := dk182 (k := 17) bX11_top_0 rfl rfl
theorem dX11_top_20 : decode cX11_top 20 = .ok (.goto 5, 3) := dk167 (k := 20) bX11_top_0 rfl (by decide)
theorem dX11_top_23 : decode cX11_top 23 = .ok (.bipush (-2), 2) := dk16 (k := 23) bX11_top_0 rfl (by decide)
theorem bX11_top_25 : bL cX11_top 25 [172] := bL_of (by decide +kernel)
theorem dX11_top_25 : decode cX11_top 25 = .ok (.ireturn, 1) := dk172 (k := 0) bX11_top_25 rfl
theorem bX11_gain_0 : bL cX11_gain 0 [42, 180, 0, 28, 180, 0, 126, 27, 182, 0, 130, 153, 0, 24, 42, 180, 0, 28, 180, 0, 126, 42, 180, 0, 28] := bL_of (by decide +kernel)
theorem dX11_gain_0 : decode cX11_gain 0 = .ok (.aload_n 0, 1) := dk42 (k := 0) bX11_gain_0 rfl
theorem dX11_gain_1 : decode cX11_gain 1 = .ok (.getfield 28, 3) := dk180 (k := 1) bX11_gain_0 rfl rfl
theorem dX11_gain_4 : decode cX11_gain 4 = .ok (.getfield 126, 3) := dk180 (k := 4) bX11_gain_0 rfl rfl
theorem dX11_gain_7 : decode cX11_gain 7 = .ok (.iload_n 1, 1) := dk27 (k := 7) bX11_gain_0 rfl
theorem dX11_gain_8 : decode cX11_gain 8 = .ok (.invokevirtual 130, 3) := dk182 (k := 8) bX11_gain_0 rfl rfl
theorem dX11_gain_11 : decode cX11_gain 11 = .ok (.ifCond .eq 24, 3) := dk153 (k := 11) bX11_gain_0 rfl (by decide)
theorem dX11_gain_14 : decode cX11_gain 14 = .ok (.aload_n 0, 1) := dk42 (k := 14) bX11_gain_0 rfl
theorem dX11_gain_15 : decode cX11_gain 15 = .ok (.getfield 28, 3) := dk180 (k := 15) bX11_gain_0 rfl rfl
theorem dX11_gain_18 : decode cX11_gain 18 = .ok (.getfield 126, 3) := dk180 (k := 18) bX11_gain_0 rfl rfl
theorem dX11_gain_21 : decode cX11_gain 21 = .ok (.aload_n 0, 1) := dk42 (k := 21) bX11_gain_0 rfl
theorem dX11_gain_22 : decode cX11_gain 22 = .ok (.getfield 28, 3) := dk180 (k := 22) bX11_gain_0 rfl rfl
theorem bX11_gain_25 : bL cX11_gain 25 [180, 0, 139, 27, 182, 0, 170, 167, 0, 6, 17, 252, 24, 172] := bL_of (by decide +kernel)
theorem dX11_gain_25 : decode cX11_gain 25 = .ok (.getfield 139, 3) := dk180 (k := 0) bX11_gain_25 rfl rfl
theorem dX11_gain_28 : decode cX11_gain 28 = .ok (.iload_n 1, 1) := dk27 (k := 3) bX11_gain_25 rfl
theorem dX11_gain_29 : decode cX11_gain 29 = .ok (.invokevirtual 170, 3) := dk182 (k := 4) bX11_gain_25 rfl rfl
theorem dX11_gain_32 : decode cX11_gain 32 = .ok (.goto 6, 3) := dk167 (k := 7) bX11_gain_25 rfl (by decide)
theorem dX11_gain_35 : decode cX11_gain 35 = .ok (.sipush (-1000), 3) := dk17 (k := 10) bX11_gain_25 rfl (by decide)
theorem dX11_gain_38 : decode cX11_gain 38 = .ok (.ireturn, 1) := dk172 (k := 13) bX11_gain_25 rfl
theorem bX11_hopes_0 : bL cX11_hopes 0 [42, 180, 0, 28, 180, 0, 126, 27, 182, 0, 130, 153, 0, 13, 28, 155, 0, 9, 28, 16, 20, 164, 0, 7] := bL_of (by decide +kernel)
theorem dX11_hopes_0 : decode cX11_hopes 0 = .ok (.aload_n 0, 1) := dk42 (k := 0) bX11_hopes_0 rfl
theorem dX11_hopes_1 : decode cX11_hopes 1 = .ok (.getfield 28, 3) := dk180 (k := 1) bX11_hopes_0 rfl rfl
theorem dX11_hopes_4 : decode cX11_hopes 4 = .ok (.getfield 126, 3) := dk180 (k := 4) bX11_hopes_0 rfl rfl
theorem dX11_hopes_7 : decode cX11_hopes 7 = .ok (.iload_n 1, 1) := dk27 (k := 7) bX11_hopes_0 rfl
theorem dX11_hopes_8 : decode cX11_hopes 8 = .ok (.invokevirtual 130, 3) := dk182 (k := 8) bX11_hopes_0 rfl rfl
theorem dX11_hopes_11 : decode cX11_hopes 11 = .ok (.ifCond .eq 13, 3) := dk153 (k := 11) bX11_hopes_0 rfl (by decide)
theorem dX11_hopes_14 : decode cX11_hopes 14 = .ok (.iload_n 2, 1) := dk28 (k := 14) bX11_hopes_0 rfl
theorem dX11_hopes_15 : decode cX11_hopes 15 = .ok (.ifCond .lt 9, 3) := dk155 (k := 15) bX11_hopes_0 rfl (by decide)
theorem dX11_hopes_18 : decode cX11_hopes 18 = .ok (.iload_n 2, 1) := dk28 (k := 18) bX11_hopes_0 rfl
theorem dX11_hopes_19 : decode cX11_hopes 19 = .ok (.bipush 20, 2) := dk16 (k := 19) bX11_hopes_0 rfl (by decide)
theorem dX11_hopes_21 : decode cX11_hopes 21 = .ok (.if_icmp .le 7, 3) := dk164 (k := 21) bX11_hopes_0 rfl (by decide)
theorem bX11_hopes_24 : bL cX11_hopes 24 [17, 252, 24, 172, 42, 180, 0, 82, 27, 28, 182, 0, 174, 42, 180, 0, 28, 180, 0, 126, 42, 180, 0, 28] := bL_of (by decide +kernel)
theorem dX11_hopes_24 : decode cX11_hopes 24 = .ok (.sipush (-1000), 3) := dk17 (k := 0) bX11_hopes_24 rfl (by decide)
theorem dX11_hopes_27 : decode cX11_hopes 27 = .ok (.ireturn, 1) := dk172 (k := 3) bX11_hopes_24 rfl
theorem dX11_hopes_28 : decode cX11_hopes 28 = .ok (.aload_n 0, 1) := dk42 (k := 4) bX11_hopes_24 rfl
theorem dX11_hopes_29 : decode cX11_hopes 29 = .ok (.getfield 82, 3) := dk180 (k := 5) bX11_hopes_24 rfl rfl
theorem dX11_hopes_32 : decode cX11_hopes 32 = .ok (.iload_n 1, 1) := dk27 (k := 8) bX11_hopes_24 rfl
theorem dX11_hopes_33 : decode cX11_hopes 33 = .ok (.iload_n 2, 1) := dk28 (k := 9) bX11_hopes_24 rfl
theorem dX11_hopes_34 : decode cX11_hopes 34 = .ok (.invokevirtual 174, 3) := dk182 (k := 10) bX11_hopes_24 rfl rfl
theorem dX11_hopes_37 : decode cX11_hopes 37 = .ok (.aload_n 0, 1) := dk42 (k := 13) bX11_hopes_24 rfl
theorem dX11_hopes_38 : decode cX11_hopes 38 = .ok (.getfield 28, 3) := dk180 (k := 14) bX11_hopes_24 rfl rfl
theorem dX11_hopes_41 : decode cX11_hopes 41 = .ok (.getfield 126, 3) := dk180 (k := 17) bX11_hopes_24 rfl rfl
theorem dX11_hopes_44 : decode cX11_hopes 44 = .ok (.aload_n 0, 1) := dk42 (k := 20) bX11_hopes_24 rfl
theorem dX11_hopes_45 : decode cX11_hopes 45 = .ok (.getfield 28, 3) := dk180 (k := 21) bX11_hopes_24 rfl rfl
theorem bX11_hopes_48 : bL cX11_hopes 48 [180, 0, 139, 27, 182, 0, 170, 100, 172] := bL_of (by decide +kernel)
theorem dX11_hopes_48 : decode cX11_hopes 48 = .ok (.getfield 139, 3) := dk180 (k := 0) bX11_hopes_48 rfl rfl
theorem dX11_hopes_51 : decode cX11_hopes 51 = .ok (.iload_n 1, 1) := dk27 (k := 3) bX11_hopes_48 rfl
theorem dX11_hopes_52 : decode cX11_hopes 52 = .ok (.invokevirtual 170, 3) := dk182 (k := 4) bX11_hopes_48 rfl rfl
theorem dX11_hopes_55 : decode cX11_hopes 55 = .ok (.isub, 1) := dk100 (k := 7) bX11_hopes_48 rfl
theorem dX11_hopes_56 : decode cX11_hopes 56 = .ok (.ireturn, 1) := dk172 (k := 8) bX11_hopes_48 rfl
theorem bX11_wishes_0 : bL cX11_wishes 0 [42, 180, 0, 28, 180, 0, 126, 27, 182, 0, 130, 153, 0, 14, 42, 180, 0, 82, 27, 182, 0, 177, 167, 0, 5] := bL_of (by decide +kernel)
theorem dX11_wishes_0 : decode cX11_wishes 0 = .ok (.aload_n 0, 1) := dk42 (k := 0) bX11_wishes_0 rfl
theorem dX11_wishes_1 : decode cX11_wishes 1 = .ok (.getfield 28, 3) := dk180 (k := 1) bX11_wishes_0 rfl rfl
theorem dX11_wishes_4 : decode cX11_wishes 4 = .ok (.getfield 126, 3) := dk180 (k := 4) bX11_wishes_0 rfl rfl
theorem dX11_wishes_7 : decode cX11_wishes 7 = .ok (.iload_n 1, 1) := dk27 (k := 7) bX11_wishes_0 rfl
theorem dX11_wishes_8 : decode cX11_wishes 8 = .ok (.invokevirtual 130, 3) := dk182 (k := 8) bX11_wishes_0 rfl rfl
theorem dX11_wishes_11 : decode cX11_wishes 11 = .ok (.ifCond .eq 14, 3) := dk153 (k := 11) bX11_wishes_0 rfl (by decide)
theorem dX11_wishes_14 : decode cX11_wishes 14 = .ok (.aload_n 0, 1) := dk42 (k := 14) bX11_wishes_0 rfl
theorem dX11_wishes_15 : decode cX11_wishes 15 = .ok (.getfield 82, 3) := dk180 (k := 15) bX11_wishes_0 rfl rfl
theorem dX11_wishes_18 : decode cX11_wishes 18 = .ok (.iload_n 1, 1) := dk27 (k := 18) bX11_wishes_0 rfl
theorem dX11_wishes_19 : decode cX11_wishes 19 = .ok (.invokevirtual 177, 3) := dk182 (k := 19) bX11_wishes_0 rfl rfl
theorem dX11_wishes_22 : decode cX11_wishes 22 = .ok (.goto 5, 3) := dk167 (k := 22) bX11_wishes_0 rfl (by decide)
theorem bX11_wishes_25 : bL cX11_wishes 25 [16, 254, 172] := bL_of (by decide +kernel)
theorem dX11_wishes_25 : decode cX11_wishes 25 = .ok (.bipush (-2), 2) := dk16 (k := 0) bX11_wishes_25 rfl (by decide)
theorem dX11_wishes_27 : decode cX11_wishes 27 = .ok (.ireturn, 1) := dk172 (k := 2) bX11_wishes_25 rfl
theorem bX11_gains_0 : bL cX11_gains 0 [42, 180, 0, 28, 182, 0, 157, 153, 0, 23, 42, 180, 0, 28, 180, 0, 126, 42, 180, 0, 28, 180, 0, 139] := bL_of (by decide +kernel)
theorem dX11_gains_0 : decode cX11_gains 0 = .ok (.aload_n 0, 1) := dk42 (k := 0) bX11_gains_0 rfl
theorem dX11_gains_1 : decode cX11_gains 1 = .ok (.getfield 28, 3) := dk180 (k := 1) bX11_gains_0 rfl rfl
theorem dX11_gains_4 : decode cX11_gains 4 = .ok (.invokevirtual 157, 3) := dk182 (k := 4) bX11_gains_0 rfl rfl
theorem dX11_gains_7 : decode cX11_gains 7 = .ok (.ifCond .eq 23, 3) := dk153 (k := 7) bX11_gains_0 rfl (by decide)
theorem dX11_gains_10 : decode cX11_gains 10 = .ok (.aload_n 0, 1) := dk42 (k := 10) bX11_gains_0 rfl
theorem dX11_gains_11 : decode cX11_gains 11 = .ok (.getfield 28, 3) := dk180 (k := 11) bX11_gains_0 rfl rfl
theorem dX11_gains_14 : decode cX11_gains 14 = .ok (.getfield 126, 3) := dk180 (k := 14) bX11_gains_0 rfl rfl
theorem dX11_gains_17 : decode cX11_gains 17 = .ok (.aload_n 0, 1) := dk42 (k := 17) bX11_gains_0 rfl
theorem dX11_gains_18 : decode cX11_gains 18 = .ok (.getfield 28, 3) := dk180 (k := 18) bX11_gains_0 rfl rfl
theorem dX11_gains_21 : decode cX11_gains 21 = .ok (.getfield 139, 3) := dk180 (k := 21) bX11_gains_0 rfl rfl
theorem bX11_gains_24 : bL cX11_gains 24 [182, 0, 180, 167, 0, 5, 16, 254, 172] := bL_of (by decide +kernel)
theorem dX11_gains_24 : decode cX11_gains 24 = .ok (.invokevirtual 180, 3) := dk182 (k := 0) bX11_gains_24 rfl rfl
theorem dX11_gains_27 : decode cX11_gains 27 = .ok (.goto 5, 3) := dk167 (k := 3) bX11_gains_24 rfl (by decide)
theorem dX11_gains_30 : decode cX11_gains 30 = .ok (.bipush (-2), 2) := dk16 (k := 6) bX11_gains_24 rfl (by decide)
theorem dX11_gains_32 : decode cX11_gains 32 = .ok (.ireturn, 1) := dk172 (k := 8) bX11_gains_24 rfl
theorem bX11_take_0 : bL cX11_take 0 [42, 180, 0, 28, 182, 0, 157, 154, 0, 6, 16, 254, 172, 42, 180, 0, 28, 182, 0, 184, 153, 0, 16, 42] := bL_of (by decide +kernel)
theorem dX11_take_0 : decode cX11_take 0 = .ok (.aload_n 0, 1) := dk42 (k := 0) bX11_take_0 rfl
theorem dX11_take_1 : decode cX11_take 1 = .ok (.getfield 28, 3) := dk180 (k := 1) bX11_take_0 rfl rfl
theorem dX11_take_4 : decode cX11_take 4 = .ok (.invokevirtual 157, 3) := dk182 (k := 4) bX11_take_0 rfl rfl
theorem dX11_take_7 : decode cX11_take 7 = .ok (.ifCond .ne 6, 3) := dk154 (k := 7) bX11_take_0 rfl (by decide)
theorem dX11_take_10 : decode cX11_take 10 = .ok (.bipush (-2), 2) := dk16 (k := 10) bX11_take_0 rfl (by decide)
theorem dX11_take_12 : decode cX11_take 12 = .ok (.ireturn, 1) := dk172 (k := 12) bX11_take_0 rfl
theorem dX11_take_13 : decode cX11_take 13 = .ok (.aload_n 0, 1) := dk42 (k := 13) bX11_take_0 rfl
theorem dX11_take_14 : decode cX11_take 14 = .ok (.getfield 28, 3) := dk180 (k := 14) bX11_take_0 rfl rfl
theorem dX11_take_17 : decode cX11_take 17 = .ok (.invokevirtual 184, 3) := dk182 (k := 17) bX11_take_0 rfl rfl
theorem dX11_take_20 : decode cX11_take 20 = .ok (.ifCond .eq 16, 3) := dk153 (k := 20) bX11_take_0 rfl (by decide)
theorem dX11_take_23 : decode cX11_take 23 = .ok (.aload_n 0, 1) := dk42 (k := 23) bX11_take_0 rfl
theorem bX11_take_24 : bL cX11_take 24 [180, 0, 28, 180, 0, 139, 182, 0, 187, 154, 0, 6, 16, 251, 172, 42, 180, 0, 28, 180, 0, 139, 182, 0, 167] := bL_of (by decide +kernel)
theorem dX11_take_24 : decode cX11_take 24 = .ok (.getfield 28, 3) := dk180 (k := 0) bX11_take_24 rfl rfl
theorem dX11_take_27 : decode cX11_take 27 = .ok (.getfield 139, 3) := dk180 (k := 3) bX11_take_24 rfl rfl
theorem dX11_take_30 : decode cX11_take 30 = .ok (.invokevirtual 187, 3) := dk182 (k := 6) bX11_take_24 rfl rfl
theorem dX11_take_33 : decode cX11_take 33 = .ok (.ifCond .ne 6, 3) := dk154 (k := 9) bX11_take_24 rfl (by decide)
theorem dX11_take_36 : decode cX11_take 36 = .ok (.bipush (-5), 2) := dk16 (k := 12) bX11_take_24 rfl (by decide)
theorem dX11_take_38 : decode cX11_take 38 = .ok (.ireturn, 1) := dk172 (k := 14) bX11_take_24 rfl
theorem dX11_take_39 : decode cX11_take 39 = .ok (.aload_n 0, 1) := dk42 (k := 15) bX11_take_24 rfl
theorem dX11_take_40 : decode cX11_take 40 = .ok (.getfield 28, 3) := dk180 (k := 16) bX11_take_24 rfl rfl
theorem dX11_take_43 : decode cX11_take 43 = .ok (.getfield 139, 3) := dk180 (k := 19) bX11_take_24 rfl rfl
theorem dX11_take_46 : decode cX11_take 46 = .ok (.invokevirtual 167, 3) := dk182 (k := 22) bX11_take_24 rfl rfl
theorem bX11_take_49 : bL cX11_take 49 [60, 42, 180, 0, 28, 27, 2, 182, 0, 190, 27, 172] := bL_of (by decide +kernel)
theorem dX11_take_49 : decode cX11_take 49 = .ok (.istore_n 1, 1) := dk60 (k := 0) bX11_take_49 rfl
theorem dX11_take_50 : decode cX11_take 50 = .ok (.aload_n 0, 1) := dk42 (k := 1) bX11_take_49 rfl
theorem dX11_take_51 : decode cX11_take 51 = .ok (.getfield 28, 3) := dk180 (k := 2) bX11_take_49 rfl rfl
theorem dX11_take_54 : decode cX11_take 54 = .ok (.iload_n 1, 1) := dk27 (k := 5) bX11_take_49 rfl
theorem dX11_take_55 : decode cX11_take 55 = .ok (.iconst (-1), 1) := dk2 (k := 6) bX11_take_49 rfl
theorem dX11_take_56 : decode cX11_take 56 = .ok (.invokevirtual 190, 3) := dk182 (k := 7) bX11_take_49 rfl rfl
theorem dX11_take_59 : decode cX11_take 59 = .ok (.iload_n 1, 1) := dk27 (k := 10) bX11_take_49 rfl
theorem dX11_take_60 : decode cX11_take 60 = .ok (.ireturn, 1) := dk172 (k := 11) bX11_take_49 rfl
theorem bX11_heap_0 : bL cX11_heap 0 [42, 180, 0, 28, 180, 0, 139, 27, 182, 0, 142, 154, 0, 6, 16, 254, 172, 42, 180, 0, 28, 180, 0, 139] := bL_of (by decide +kernel)
theorem dX11_heap_0 : decode cX11_heap 0 = .ok (.aload_n 0, 1) := dk42 (k := 0) bX11_heap_0 rfl
theorem dX11_heap_1 : decode cX11_heap 1 = .ok (.getfield 28, 3) := dk180 (k := 1) bX11_heap_0 rfl rfl
theorem dX11_heap_4 : decode cX11_heap 4 = .ok (.getfield 139, 3) := dk180 (k := 4) bX11_heap_0 rfl rfl
theorem dX11_heap_7 : decode cX11_heap 7 = .ok (.iload_n 1, 1) := dk27 (k := 7) bX11_heap_0 rfl
theorem dX11_heap_8 : decode cX11_heap 8 = .ok (.invokevirtual 142, 3) := dk182 (k := 8) bX11_heap_0 rfl rfl
theorem dX11_heap_11 : decode cX11_heap 11 = .ok (.ifCond .ne 6, 3) := dk154 (k := 11) bX11_heap_0 rfl (by decide)
theorem dX11_heap_14 : decode cX11_heap 14 = .ok (.bipush (-2), 2) := dk16 (k := 14) bX11_heap_0 rfl (by decide)
theorem dX11_heap_16 : decode cX11_heap 16 = .ok (.ireturn, 1) := dk172 (k := 16) bX11_heap_0 rfl
theorem dX11_heap_17 : decode cX11_heap 17 = .ok (.aload_n 0, 1) := dk42 (k := 17) bX11_heap_0 rfl
theorem dX11_heap_18 : decode cX11_heap 18 = .ok (.getfield 28, 3) := dk180 (k := 18) bX11_heap_0 rfl rfl
theorem dX11_heap_21 : decode cX11_heap 21 = .ok (.getfield 139, 3) := dk180 (k := 21) bX11_heap_0 rfl rfl
theorem bX11_heap_24 : bL cX11_heap 24 [27, 182, 0, 194, 61, 42, 180, 0, 28, 182, 0, 184, 153, 0, 8, 28, 2, 160, 0, 6, 16, 251, 172, 42] := bL_of (by decide +kernel)
theorem dX11_heap_24 : decode cX11_heap 24 = .ok (.iload_n 1, 1) := dk27 (k := 0) bX11_heap_24 rfl
theorem dX11_heap_25 : decode cX11_heap 25 = .ok (.invokevirtual 194, 3) := dk182 (k := 1) bX11_heap_24 rfl rfl
theorem dX11_heap_28 : decode cX11_heap 28 = .ok (.istore_n 2, 1) := dk61 (k := 4) bX11_heap_24 rfl
theorem dX11_heap_29 : decode cX11_heap 29 = .ok (.aload_n 0, 1) := dk42 (k := 5) bX11_heap_24 rfl
theorem dX11_heap_30 : decode cX11_heap 30 = .ok (.getfield 28, 3) := dk180 (k := 6) bX11_heap_24 rfl rfl
theorem dX11_heap_33 : decode cX11_heap 33 = .ok (.invokevirtual 184, 3) := dk182 (k := 9) bX11_heap_24 rfl rfl
theorem dX11_heap_36 : decode cX11_heap 36 = .ok (.ifCond .eq 8, 3) := dk153 (k := 12) bX11_heap_24 rfl (by decide)
theorem dX11_heap_39 : decode cX11_heap 39 = .ok (.iload_n 2, 1) := dk28 (k := 15) bX11_heap_24 rfl
theorem dX11_heap_40 : decode cX11_heap 40 = .ok (.iconst (-1), 1) := dk2 (k := 16) bX11_heap_24 rfl
theorem dX11_heap_41 : decode cX11_heap 41 = .ok (.if_icmp .ne 6, 3) := dk160 (k := 17) bX11_heap_24 rfl (by decide)
theorem dX11_heap_44 : decode cX11_heap 44 = .ok (.bipush (-5), 2) := dk16 (k := 20) bX11_heap_24 rfl (by decide)
theorem dX11_heap_46 : decode cX11_heap 46 = .ok (.ireturn, 1) := dk172 (k := 22) bX11_heap_24 rfl
theorem dX11_heap_47 : decode cX11_heap 47 = .ok (.aload_n 0, 1) := dk42 (k := 23) bX11_heap_24 rfl
theorem bX11_heap_48 : bL cX11_heap 48 [180, 0, 28, 28, 4, 182, 0, 190, 28, 172] := bL_of (by decide +kernel)
theorem dX11_heap_48 : decode cX11_heap 48 = .ok (.getfield 28, 3) := dk180 (k := 0) bX11_heap_48 rfl rfl
theorem dX11_heap_51 : decode cX11_heap 51 = .ok (.iload_n 2, 1) := dk28 (k := 3) bX11_heap_48 rfl
theorem dX11_heap_52 : decode cX11_heap 52 = .ok (.iconst 1, 1) := dk4 (k := 4) bX11_heap_48 rfl
theorem dX11_heap_53 : decode cX11_heap 53 = .ok (.invokevirtual 190, 3) := dk182 (k := 5) bX11_heap_48 rfl rfl
theorem dX11_heap_56 : decode cX11_heap 56 = .ok (.iload_n 2, 1) := dk28 (k := 8) bX11_heap_48 rfl
theorem dX11_heap_57 : decode cX11_heap 57 = .ok (.ireturn, 1) := dk172 (k := 9) bX11_heap_48 rfl
theorem bX11_slides_0 : bL cX11_slides 0 [42, 180, 0, 28, 180, 0, 139, 27, 182, 0, 142, 153, 0, 17, 42, 180, 0, 28, 180, 0, 139, 27, 182, 0, 194] := bL_of (by decide +kernel)
theorem dX11_slides_0 : decode cX11_slides 0 = .ok (.aload_n 0, 1) := dk42 (k := 0) bX11_slides_0 rfl
theorem dX11_slides_1 : decode cX11_slides 1 = .ok (.getfield 28, 3) := dk180 (k := 1) bX11_slides_0 rfl rfl
theorem dX11_slides_4 : decode cX11_slides 4 = .ok (.getfield 139, 3) := dk180 (k := 4) bX11_slides_0 rfl rfl
theorem dX11_slides_7 : decode cX11_slides 7 = .ok (.iload_n 1, 1) := dk27 (k := 7) bX11_slides_0 rfl
theorem dX11_slides_8 : decode cX11_slides 8 = .ok (.invokevirtual 142, 3) := dk182 (k := 8) bX11_slides_0 rfl rfl
theorem dX11_slides_11 : decode cX11_slides 11 = .ok (.ifCond .eq 17, 3) := dk153 (k := 11) bX11_slides_0 rfl (by decide)
theorem dX11_slides_14 : decode cX11_slides 14 = .ok (.aload_n 0, 1) := dk42 (k := 14) bX11_slides_0 rfl
theorem dX11_slides_15 : decode cX11_slides 15 = .ok (.getfield 28, 3) := dk180 (k := 15) bX11_slides_0 rfl rfl
theorem dX11_slides_18 : decode cX11_slides 18 = .ok (.getfield 139, 3) := dk180 (k := 18) bX11_slides_0 rfl rfl
theorem dX11_slides_21 : decode cX11_slides 21 = .ok (.iload_n 1, 1) := dk27 (k := 21) bX11_slides_0 rfl
theorem dX11_slides_22 : decode cX11_slides 22 = .ok (.invokevirtual 194, 3) := dk182 (k := 22) bX11_slides_0 rfl rfl
theorem bX11_slides_25 : bL cX11_slides 25 [167, 0, 5, 16, 254, 172] := bL_of (by decide +kernel)
theorem dX11_slides_25 : decode cX11_slides 25 = .ok (.goto 5, 3) := dk167 (k := 0) bX11_slides_25 rfl (by decide)
theorem dX11_slides_28 : decode cX11_slides 28 = .ok (.bipush (-2), 2) := dk16 (k := 3) bX11_slides_25 rfl (by decide)
theorem dX11_slides_30 : decode cX11_slides 30 = .ok (.ireturn, 1) := dk172 (k := 5) bX11_slides_25 rfl
theorem bX11_undo_0 : bL cX11_undo 0 [42, 180, 0, 28, 182, 0, 157, 154, 0, 6, 16, 254, 172, 42, 180, 0, 28, 182, 0, 197, 153, 0, 13, 42] := bL_of (by decide +kernel)
theorem dX11_undo_0 : decode cX11_undo 0 = .ok (.aload_n 0, 1) := dk42 (k := 0) bX11_undo_0 rfl
theorem dX11_undo_1 : decode cX11_undo 1 = .ok (.getfield 28, 3) := dk180 (k := 1) bX11_undo_0 rfl rfl
theorem dX11_undo_4 : decode cX11_undo 4 = .ok (.invokevirtual 157, 3) := dk182 (k := 4) bX11_undo_0 rfl rfl
theorem dX11_undo_7 : decode cX11_undo 7 = .ok (.ifCond .ne 6, 3) := dk154 (k := 7) bX11_undo_0 rfl (by decide)
theorem dX11_undo_10 : decode cX11_undo 10 = .ok (.bipush (-2), 2) := dk16 (k := 10) bX11_undo_0 rfl (by decide)
theorem dX11_undo_12 : decode cX11_undo 12 = .ok (.ireturn, 1) := dk172 (k := 12) bX11_undo_0 rfl
theorem dX11_undo_13 : decode cX11_undo 13 = .ok (.aload_n 0, 1) := dk42 (k := 13) bX11_undo_0 rfl
theorem dX11_undo_14 : decode cX11_undo 14 = .ok (.getfield 28, 3) := dk180 (k := 14) bX11_undo_0 rfl rfl
theorem dX11_undo_17 : decode cX11_undo 17 = .ok (.invokevirtual 197, 3) := dk182 (k := 17) bX11_undo_0 rfl rfl
theorem dX11_undo_20 : decode cX11_undo 20 = .ok (.ifCond .eq 13, 3) := dk153 (k := 20) bX11_undo_0 rfl (by decide)
theorem dX11_undo_23 : decode cX11_undo 23 = .ok (.aload_n 0, 1) := dk42 (k := 23) bX11_undo_0 rfl
theorem bX11_undo_24 : bL cX11_undo 24 [180, 0, 28, 180, 0, 200, 167, 0, 5, 16, 251, 172] := bL_of (by decide +kernel)
theorem dX11_undo_24 : decode cX11_undo 24 = .ok (.getfield 28, 3) := dk180 (k := 0) bX11_undo_24 rfl rfl
theorem dX11_undo_27 : decode cX11_undo 27 = .ok (.getfield 200, 3) := dk180 (k := 3) bX11_undo_24 rfl rfl
theorem dX11_undo_30 : decode cX11_undo 30 = .ok (.goto 5, 3) := dk167 (k := 6) bX11_undo_24 rfl (by decide)
theorem dX11_undo_33 : decode cX11_undo 33 = .ok (.bipush (-5), 2) := dk16 (k := 9) bX11_undo_24 rfl (by decide)
theorem dX11_undo_35 : decode cX11_undo 35 = .ok (.ireturn, 1) := dk172 (k := 11) bX11_undo_24 rfl
theorem bX11_anew_0 : bL cX11_anew 0 [42, 180, 0, 28, 182, 0, 157, 154, 0, 6, 16, 254, 172, 42, 180, 0, 28, 180, 0, 200, 60, 3, 61, 28] := bL_of (by decide +kernel)
theorem dX11_anew_0 : decode cX11_anew 0 = .ok (.aload_n 0, 1) := dk42 (k := 0) bX11_anew_0 rfl
theorem dX11_anew_1 : decode cX11_anew 1 = .ok (.getfield 28, 3) := dk180 (k := 1) bX11_anew_0 rfl rfl
theorem dX11_anew_4 : decode cX11_anew 4 = .ok (.invokevirtual 157, 3) := dk182 (k := 4) bX11_anew_0 rfl rfl
theorem dX11_anew_7 : decode cX11_anew 7 = .ok (.ifCond .ne 6, 3) := dk154 (k := 7) bX11_anew_0 rfl (by decide)
theorem dX11_anew_10 : decode cX11_anew 10 = .ok (.bipush (-2), 2) := dk16 (k := 10) bX11_anew_0 rfl (by decide)
theorem dX11_anew_12 : decode cX11_anew 12 = .ok (.ireturn, 1) := dk172 (k := 12) bX11_anew_0 rfl
theorem dX11_anew_13 : decode cX11_anew 13 = .ok (.aload_n 0, 1) := dk42 (k := 13) bX11_anew_0 rfl
theorem dX11_anew_14 : decode cX11_anew 14 = .ok (.getfield 28, 3) := dk180 (k := 14) bX11_anew_0 rfl rfl
theorem dX11_anew_17 : decode cX11_anew 17 = .ok (.getfield 200, 3) := dk180 (k := 17) bX11_anew_0 rfl rfl
theorem dX11_anew_20 : decode cX11_anew 20 = .ok (.istore_n 1, 1) := dk60 (k := 20) bX11_anew_0 rfl
theorem dX11_anew_21 : decode cX11_anew 21 = .ok (.iconst 0, 1) := dk3 (k := 21) bX11_anew_0 rfl
theorem dX11_anew_22 : decode cX11_anew 22 = .ok (.istore_n 2, 1) := dk61 (k := 22) bX11_anew_0 rfl
theorem dX11_anew_23 : decode cX11_anew 23 = .ok (.iload_n 2, 1) := dk28 (k := 23) bX11_anew_0 rfl
theorem bX11_anew_24 : bL cX11_anew 24 [27, 162, 0, 17, 42, 180, 0, 28, 182, 0, 197, 87, 132, 2, 1, 167, 255, 240, 27, 172] := bL_of (by decide +kernel)
theorem dX11_anew_24 : decode cX11_anew 24 = .ok (.iload_n 1, 1) := dk27 (k := 0) bX11_anew_24 rfl
theorem dX11_anew_25 : decode cX11_anew 25 = .ok (.if_icmp .ge 17, 3) := dk162 (k := 1) bX11_anew_24 rfl (by decide)
theorem dX11_anew_28 : decode cX11_anew 28 = .ok (.aload_n 0, 1) := dk42 (k := 4) bX11_anew_24 rfl
theorem dX11_anew_29 : decode cX11_anew 29 = .ok (.getfield 28, 3) := dk180 (k := 5) bX11_anew_24 rfl rfl
theorem dX11_anew_32 : decode cX11_anew 32 = .ok (.invokevirtual 197, 3) := dk182 (k := 8) bX11_anew_24 rfl rfl
theorem dX11_anew_35 : decode cX11_anew 35 = .ok (.pop, 1) := dk87 (k := 11) bX11_anew_24 rfl
theorem dX11_anew_36 : decode cX11_anew 36 = .ok (.iinc 2 1, 3) := dk132 (k := 12) bX11_anew_24 rfl rfl (by decide)
theorem dX11_anew_39 : decode cX11_anew 39 = .ok (.goto (-16), 3) := dk167 (k := 15) bX11_anew_24 rfl (by decide)
theorem dX11_anew_42 : decode cX11_anew 42 = .ok (.iload_n 1, 1) := dk27 (k := 18) bX11_anew_24 rfl
theorem dX11_anew_43 : decode cX11_anew 43 = .ok (.ireturn, 1) := dk172 (k := 19) bX11_anew_24 rfl
theorem bX11_willing_0 : bL cX11_willing 0 [42, 180, 0, 28, 182, 0, 157, 153, 0, 24, 42, 180, 0, 28, 180, 0, 126, 42, 180, 0, 28, 180, 0, 139] := bL_of (by decide +kernel)
theorem dX11_willing_0 : decode cX11_willing 0 = .ok (.aload_n 0, 1) := dk42 (k := 0) bX11_willing_0 rfl
theorem dX11_willing_1 : decode cX11_willing 1 = .ok (.getfield 28, 3) := dk180 (k := 1) bX11_willing_0 rfl rfl
theorem dX11_willing_4 : decode cX11_willing 4 = .ok (.invokevirtual 157, 3) := dk182 (k := 4) bX11_willing_0 rfl rfl
theorem dX11_willing_7 : decode cX11_willing 7 = .ok (.ifCond .eq 24, 3) := dk153 (k := 7) bX11_willing_0 rfl (by decide)
theorem dX11_willing_10 : decode cX11_willing 10 = .ok (.aload_n 0, 1) := dk42 (k := 10) bX11_willing_0 rfl
theorem dX11_willing_11 : decode cX11_willing 11 = .ok (.getfield 28, 3) := dk180 (k := 11) bX11_willing_0 rfl rfl
theorem dX11_willing_14 : decode cX11_willing 14 = .ok (.getfield 126, 3) := dk180 (k := 14) bX11_willing_0 rfl rfl
theorem dX11_willing_17 : decode cX11_willing 17 = .ok (.aload_n 0, 1) := dk42 (k := 17) bX11_willing_0 rfl
theorem dX11_willing_18 : decode cX11_willing 18 = .ok (.getfield 28, 3) := dk180 (k := 18) bX11_willing_0 rfl rfl
theorem dX11_willing_21 : decode cX11_willing 21 = .ok (.getfield 139, 3) := dk180 (k := 21) bX11_willing_0 rfl rfl
theorem bX11_willing_24 : bL cX11_willing 24 [2, 182, 0, 203, 167, 0, 5, 16, 254, 172] := bL_of (by decide +kernel)
theorem dX11_willing_24 : decode cX11_willing 24 = .ok (.iconst (-1), 1) := dk2 (k := 0) bX11_willing_24 rfl
theorem dX11_willing_25 : decode cX11_willing 25 = .ok (.invokevirtual 203, 3) := dk182 (k := 1) bX11_willing_24 rfl rfl
theorem dX11_willing_28 : decode cX11_willing 28 = .ok (.goto 5, 3) := dk167 (k := 4) bX11_willing_24 rfl (by decide)
theorem dX11_willing_31 : decode cX11_willing 31 = .ok (.bipush (-2), 2) := dk16 (k := 7) bX11_willing_24 rfl (by decide)
theorem dX11_willing_33 : decode cX11_willing 33 = .ok (.ireturn, 1) := dk172 (k := 9) bX11_willing_24 rfl
theorem bX11_signers_0 : bL cX11_signers 0 [42, 180, 0, 28, 27, 182, 0, 206, 153, 0, 14, 42, 180, 0, 59, 27, 182, 0, 209, 167, 0, 5, 16, 254] := bL_of (by decide +kernel)
theorem dX11_signers_0 : decode cX11_signers 0 = .ok (.aload_n 0, 1) := dk42 (k := 0) bX11_signers_0 rfl
theorem dX11_signers_1 : decode cX11_signers 1 = .ok (.getfield 28, 3) := dk180 (k := 1) bX11_signers_0 rfl rfl
theorem dX11_signers_4 : decode cX11_signers 4 = .ok (.iload_n 1, 1) := dk27 (k := 4) bX11_signers_0 rfl
theorem dX11_signers_5 : decode cX11_signers 5 = .ok (.invokevirtual 206, 3) := dk182 (k := 5) bX11_signers_0 rfl rfl
theorem dX11_signers_8 : decode cX11_signers 8 = .ok (.ifCond .eq 14, 3) := dk153 (k := 8) bX11_signers_0 rfl (by decide)
theorem dX11_signers_11 : decode cX11_signers 11 = .ok (.aload_n 0, 1) := dk42 (k := 11) bX11_signers_0 rfl
theorem dX11_signers_12 : decode cX11_signers 12 = .ok (.getfield 59, 3) := dk180 (k := 12) bX11_signers_0 rfl rfl
theorem dX11_signers_15 : decode cX11_signers 15 = .ok (.iload_n 1, 1) := dk27 (k := 15) bX11_signers_0 rfl
theorem dX11_signers_16 : decode cX11_signers 16 = .ok (.invokevirtual 209, 3) := dk182 (k := 16) bX11_signers_0 rfl rfl
theorem dX11_signers_19 : decode cX11_signers 19 = .ok (.goto 5, 3) := dk167 (k := 19) bX11_signers_0 rfl (by decide)
theorem dX11_signers_22 : decode cX11_signers 22 = .ok (.bipush (-2), 2) := dk16 (k := 22) bX11_signers_0 rfl (by decide)
theorem bX11_signers_24 : bL cX11_signers 24 [172] := bL_of (by decide +kernel)
theorem dX11_signers_24 : decode cX11_signers 24 = .ok (.ireturn, 1) := dk172 (k := 0) bX11_signers_24 rfl
theorem bX11_names_0 : bL cX11_names 0 [42, 180, 0, 28, 27, 182, 0, 206, 153, 0, 24, 42, 180, 0, 28, 180, 0, 126, 42, 180, 0, 59, 27, 182, 0, 209] := bL_of (by decide +kernel)
theorem dX11_names_0 : decode cX11_names 0 = .ok (.aload_n 0, 1) := dk42 (k := 0) bX11_names_0 rfl
theorem dX11_names_1 : decode cX11_names 1 = .ok (.getfield 28, 3) := dk180 (k := 1) bX11_names_0 rfl rfl
theorem dX11_names_4 : decode cX11_names 4 = .ok (.iload_n 1, 1) := dk27 (k := 4) bX11_names_0 rfl
theorem dX11_names_5 : decode cX11_names 5 = .ok (.invokevirtual 206, 3) := dk182 (k := 5) bX11_names_0 rfl rfl
theorem dX11_names_8 : decode cX11_names 8 = .ok (.ifCond .eq 24, 3) := dk153 (k := 8) bX11_names_0 rfl (by decide)
theorem dX11_names_11 : decode cX11_names 11 = .ok (.aload_n 0, 1) := dk42 (k := 11) bX11_names_0 rfl
theorem dX11_names_12 : decode cX11_names 12 = .ok (.getfield 28, 3) := dk180 (k := 12) bX11_names_0 rfl rfl
theorem dX11_names_15 : decode cX11_names 15 = .ok (.getfield 126, 3) := dk180 (k := 15) bX11_names_0 rfl rfl
theorem dX11_names_18 : decode cX11_names 18 = .ok (.aload_n 0, 1) := dk42 (k := 18) bX11_names_0 rfl
theorem dX11_names_19 : decode cX11_names 19 = .ok (.getfield 59, 3) := dk180 (k := 19) bX11_names_0 rfl rfl
theorem dX11_names_22 : decode cX11_names 22 = .ok (.iload_n 1, 1) := dk27 (k := 22) bX11_names_0 rfl
theorem dX11_names_23 : decode cX11_names 23 = .ok (.invokevirtual 209, 3) := dk182 (k := 23) bX11_names_0 rfl rfl
theorem bX11_names_26 : bL cX11_names 26 [182, 0, 212, 167, 0, 5, 16, 254, 172] := bL_of (by decide +kernel)
theorem dX11_names_26 : decode cX11_names 26 = .ok (.invokevirtual 212, 3) := dk182 (k := 0) bX11_names_26 rfl rfl
theorem dX11_names_29 : decode cX11_names 29 = .ok (.goto 5, 3) := dk167 (k := 3) bX11_names_26 rfl (by decide)
theorem dX11_names_32 : decode cX11_names 32 = .ok (.bipush (-2), 2) := dk16 (k := 6) bX11_names_26 rfl (by decide)
theorem dX11_names_34 : decode cX11_names 34 = .ok (.ireturn, 1) := dk172 (k := 8) bX11_names_26 rfl
theorem bX11_first_0 : bL cX11_first 0 [42, 180, 0, 28, 182, 0, 157, 154, 0, 6, 16, 254, 172, 42, 180, 0, 59, 182, 0, 215, 60, 27, 2, 160, 0, 7] := bL_of (by decide +kernel)
theorem dX11_first_0 : decode cX11_first 0 = .ok (.aload_n 0, 1) := dk42 (k := 0) bX11_first_0 rfl
theorem dX11_first_1 : decode cX11_first 1 = .ok (.getfield 28, 3) := dk180 (k := 1) bX11_first_0 rfl rfl
theorem dX11_first_4 : decode cX11_first 4 = .ok (.invokevirtual 157, 3) := dk182 (k := 4) bX11_first_0 rfl rfl
theorem dX11_first_7 : decode cX11_first 7 = .ok (.ifCond .ne 6, 3) := dk154 (k := 7) bX11_first_0 rfl (by decide)
theorem dX11_first_10 : decode cX11_first 10 = .ok (.bipush (-2), 2) := dk16 (k := 10) bX11_first_0 rfl (by decide)
theorem dX11_first_12 : decode cX11_first 12 = .ok (.ireturn, 1) := dk172 (k := 12) bX11_first_0 rfl
theorem dX11_first_13 : decode cX11_first 13 = .ok (.aload_n 0, 1) := dk42 (k := 13) bX11_first_0 rfl
theorem dX11_first_14 : decode cX11_first 14 = .ok (.getfield 59, 3) := dk180 (k := 14) bX11_first_0 rfl rfl
theorem dX11_first_17 : decode cX11_first 17 = .ok (.invokevirtual 215, 3) := dk182 (k := 17) bX11_first_0 rfl rfl
theorem dX11_first_20 : decode cX11_first 20 = .ok (.istore_n 1, 1) := dk60 (k := 20) bX11_first_0 rfl
theorem dX11_first_21 : decode cX11_first 21 = .ok (.iload_n 1, 1) := dk27 (k := 21) bX11_first_0 rfl
theorem dX11_first_22 : decode cX11_first 22 = .ok (.iconst (-1), 1) := dk2 (k := 22) bX11_first_0 rfl
theorem dX11_first_23 : decode cX11_first 23 = .ok (.if_icmp .ne 7, 3) := dk160 (k := 23) bX11_first_0 rfl (by decide)
theorem bX11_first_26 : bL cX11_first 26 [2, 167, 0, 7, 27, 184, 0, 218, 172] := bL_of (by decide +kernel)
theorem dX11_first_26 : decode cX11_first 26 = .ok (.iconst (-1), 1) := dk2 (k := 0) bX11_first_26 rfl
theorem dX11_first_27 : decode cX11_first 27 = .ok (.goto 7, 3) := dk167 (k := 1) bX11_first_26 rfl (by decide)
theorem dX11_first_30 : decode cX11_first 30 = .ok (.iload_n 1, 1) := dk27 (k := 4) bX11_first_26 rfl
theorem dX11_first_31 : decode cX11_first 31 = .ok (.invokestatic 218, 3) := dk184 (k := 5) bX11_first_26 rfl rfl
theorem dX11_first_34 : decode cX11_first 34 = .ok (.ireturn, 1) := dk172 (k := 8) bX11_first_26 rfl
theorem bX11_firsts_0 : bL cX11_firsts 0 [42, 180, 0, 28, 182, 0, 157, 153, 0, 13, 42, 180, 0, 59, 182, 0, 215, 167, 0, 5, 16, 254, 172] := bL_of (by decide +kernel)
theorem dX11_firsts_0 : decode cX11_firsts 0 = .ok (.aload_n 0, 1) := dk42 (k := 0) bX11_firsts_0 rfl
theorem dX11_firsts_1 : decode cX11_firsts 1 = .ok (.getfield 28, 3) := dk180 (k := 1) bX11_firsts_0 rfl rfl
theorem dX11_firsts_4 : decode cX11_firsts 4 = .ok (.invokevirtual 157, 3) := dk182 (k := 4) bX11_firsts_0 rfl rfl
theorem dX11_firsts_7 : decode cX11_firsts 7 = .ok (.ifCond .eq 13, 3) := dk153 (k := 7) bX11_firsts_0 rfl (by decide)
theorem dX11_firsts_10 : decode cX11_firsts 10 = .ok (.aload_n 0, 1) := dk42 (k := 10) bX11_firsts_0 rfl
theorem dX11_firsts_11 : decode cX11_firsts 11 = .ok (.getfield 59, 3) := dk180 (k := 11) bX11_firsts_0 rfl rfl
theorem dX11_firsts_14 : decode cX11_firsts 14 = .ok (.invokevirtual 215, 3) := dk182 (k := 14) bX11_firsts_0 rfl rfl
theorem dX11_firsts_17 : decode cX11_firsts 17 = .ok (.goto 5, 3) := dk167 (k := 17) bX11_firsts_0 rfl (by decide)
theorem dX11_firsts_20 : decode cX11_firsts 20 = .ok (.bipush (-2), 2) := dk16 (k := 20) bX11_firsts_0 rfl (by decide)
theorem dX11_firsts_22 : decode cX11_firsts 22 = .ok (.ireturn, 1) := dk172 (k := 22) bX11_firsts_0 rfl
theorem bX11_next_0 : bL cX11_next 0 [42, 180, 0, 28, 27, 182, 0, 206, 153, 0, 14, 42, 180, 0, 59, 27, 182, 0, 223, 167, 0, 5, 16, 254] := bL_of (by decide +kernel)
theorem dX11_next_0 : decode cX11_next 0 = .ok (.aload_n 0, 1) := dk42 (k := 0) bX11_next_0 rfl
theorem dX11_next_1 : decode cX11_next 1 = .ok (.getfield 28, 3) := dk180 (k := 1) bX11_next_0 rfl rfl
theorem dX11_next_4 : decode cX11_next 4 = .ok (.iload_n 1, 1) := dk27 (k := 4) bX11_next_0 rfl
theorem dX11_next_5 : decode cX11_next 5 = .ok (.invokevirtual 206, 3) := dk182 (k := 5) bX11_next_0 rfl rfl
theorem dX11_next_8 : decode cX11_next 8 = .ok (.ifCond .eq 14, 3) := dk153 (k := 8) bX11_next_0 rfl (by decide)
theorem dX11_next_11 : decode cX11_next 11 = .ok (.aload_n 0, 1) := dk42 (k := 11) bX11_next_0 rfl
theorem dX11_next_12 : decode cX11_next 12 = .ok (.getfield 59, 3) := dk180 (k := 12) bX11_next_0 rfl rfl
theorem dX11_next_15 : decode cX11_next 15 = .ok (.iload_n 1, 1) := dk27 (k := 15) bX11_next_0 rfl
theorem dX11_next_16 : decode cX11_next 16 = .ok (.invokevirtual 223, 3) := dk182 (k := 16) bX11_next_0 rfl rfl
theorem dX11_next_19 : decode cX11_next 19 = .ok (.goto 5, 3) := dk167 (k := 19) bX11_next_0 rfl (by decide)
theorem dX11_next_22 : decode cX11_next 22 = .ok (.bipush (-2), 2) := dk16 (k := 22) bX11_next_0 rfl (by decide)
theorem bX11_next_24 : bL cX11_next 24 [172] := bL_of (by decide +kernel)
theorem dX11_next_24 : decode cX11_next 24 = .ok (.ireturn, 1) := dk172 (k := 0) bX11_next_24 rfl
theorem bX11_needed_0 : bL cX11_needed 0 [42, 180, 0, 28, 182, 0, 157, 153, 0, 13, 42, 180, 0, 59, 182, 0, 226, 167, 0, 5, 16, 254, 172] := bL_of (by decide +kernel)
theorem dX11_needed_0 : decode cX11_needed 0 = .ok (.aload_n 0, 1) := dk42 (k := 0) bX11_needed_0 rfl
theorem dX11_needed_1 : decode cX11_needed 1 = .ok (.getfield 28, 3) := dk180 (k := 1) bX11_needed_0 rfl rfl
theorem dX11_needed_4 : decode cX11_needed 4 = .ok (.invokevirtual 157, 3) := dk182 (k := 4) bX11_needed_0 rfl rfl
theorem dX11_needed_7 : decode cX11_needed 7 = .ok (.ifCond .eq 13, 3) := dk153 (k := 7) bX11_needed_0 rfl (by decide)
theorem dX11_needed_10 : decode cX11_needed 10 = .ok (.aload_n 0, 1) := dk42 (k := 10) bX11_needed_0 rfl
theorem dX11_needed_11 : decode cX11_needed 11 = .ok (.getfield 59, 3) := dk180 (k := 11) bX11_needed_0 rfl rfl
theorem dX11_needed_14 : decode cX11_needed 14 = .ok (.invokevirtual 226, 3) := dk182 (k := 14) bX11_needed_0 rfl rfl
theorem dX11_needed_17 : decode cX11_needed 17 = .ok (.goto 5, 3) := dk167 (k := 17) bX11_needed_0 rfl (by decide)
theorem dX11_needed_20 : decode cX11_needed 20 = .ok (.bipush (-2), 2) := dk16 (k := 20) bX11_needed_0 rfl (by decide)
theorem dX11_needed_22 : decode cX11_needed 22 = .ok (.ireturn, 1) := dk172 (k := 22) bX11_needed_0 rfl
theorem bX11_play_0 : bL cX11_play 0 [42, 27, 28, 182, 0, 229, 154, 0, 6, 16, 254, 172, 42, 180, 0, 59, 27, 28, 182, 0, 232, 153, 0, 7] := bL_of (by decide +kernel)
theorem dX11_play_0 : decode cX11_play 0 = .ok (.aload_n 0, 1) := dk42 (k := 0) bX11_play_0 rfl
theorem dX11_play_1 : decode cX11_play 1 = .ok (.iload_n 1, 1) := dk27 (k := 1) bX11_play_0 rfl
theorem dX11_play_2 : decode cX11_play 2 = .ok (.iload_n 2, 1) := dk28 (k := 2) bX11_play_0 rfl
theorem dX11_play_3 : decode cX11_play 3 = .ok (.invokevirtual 229, 3) := dk182 (k := 3) bX11_play_0 rfl rfl
theorem dX11_play_6 : decode cX11_play 6 = .ok (.ifCond .ne 6, 3) := dk154 (k := 6) bX11_play_0 rfl (by decide)
theorem dX11_play_9 : decode cX11_play 9 = .ok (.bipush (-2), 2) := dk16 (k := 9) bX11_play_0 rfl (by decide)
theorem dX11_play_11 : decode cX11_play 11 = .ok (.ireturn, 1) := dk172 (k := 11) bX11_play_0 rfl
theorem dX11_play_12 : decode cX11_play 12 = .ok (.aload_n 0, 1) := dk42 (k := 12) bX11_play_0 rfl
theorem dX11_play_13 : decode cX11_play 13 = .ok (.getfield 59, 3) := dk180 (k := 13) bX11_play_0 rfl rfl
theorem dX11_play_16 : decode cX11_play 16 = .ok (.iload_n 1, 1) := dk27 (k := 16) bX11_play_0 rfl
theorem dX11_play_17 : decode cX11_play 17 = .ok (.iload_n 2, 1) := dk28 (k := 17) bX11_play_0 rfl
theorem dX11_play_18 : decode cX11_play 18 = .ok (.invokevirtual 232, 3) := dk182 (k := 18) bX11_play_0 rfl rfl
theorem dX11_play_21 : decode cX11_play 21 = .ok (.ifCond .eq 7, 3) := dk153 (k := 21) bX11_play_0 rfl (by decide)
theorem bX11_play_24 : bL cX11_play 24 [4, 167, 0, 4, 3, 172] := bL_of (by decide +kernel)
theorem dX11_play_24 : decode cX11_play 24 = .ok (.iconst 1, 1) := dk4 (k := 0) bX11_play_24 rfl
theorem dX11_play_25 : decode cX11_play 25 = .ok (.goto 4, 3) := dk167 (k := 1) bX11_play_24 rfl (by decide)
theorem dX11_play_28 : decode cX11_play 28 = .ok (.iconst 0, 1) := dk3 (k := 4) bX11_play_24 rfl
theorem dX11_play_29 : decode cX11_play 29 = .ok (.ireturn, 1) := dk172 (k := 5) bX11_play_24 rfl
theorem bX11_moves_0 : bL cX11_moves 0 [42, 27, 28, 182, 0, 229, 154, 0, 6, 16, 254, 172, 42, 180, 0, 59, 27, 28, 182, 0, 235, 172] := bL_of (by decide +kernel)
theorem dX11_moves_0 : decode cX11_moves 0 = .ok (.aload_n 0, 1) := dk42 (k := 0) bX11_moves_0 rfl
theorem dX11_moves_1 : decode cX11_moves 1 = .ok (.iload_n 1, 1) := dk27 (k := 1) bX11_moves_0 rfl
theorem dX11_moves_2 : decode cX11_moves 2 = .ok (.iload_n 2, 1) := dk28 (k := 2) bX11_moves_0 rfl
theorem dX11_moves_3 : decode cX11_moves 3 = .ok (.invokevirtual 229, 3) := dk182 (k := 3) bX11_moves_0 rfl rfl
theorem dX11_moves_6 : decode cX11_moves 6 = .ok (.ifCond .ne 6, 3) := dk154 (k := 6) bX11_moves_0 rfl (by decide)
theorem dX11_moves_9 : decode cX11_moves 9 = .ok (.bipush (-2), 2) := dk16 (k := 9) bX11_moves_0 rfl (by decide)
theorem dX11_moves_11 : decode cX11_moves 11 = .ok (.ireturn, 1) := dk172 (k := 11) bX11_moves_0 rfl
theorem dX11_moves_12 : decode cX11_moves 12 = .ok (.aload_n 0, 1) := dk42 (k := 12) bX11_moves_0 rfl
theorem dX11_moves_13 : decode cX11_moves 13 = .ok (.getfield 59, 3) := dk180 (k := 13) bX11_moves_0 rfl rfl
theorem dX11_moves_16 : decode cX11_moves 16 = .ok (.iload_n 1, 1) := dk27 (k := 16) bX11_moves_0 rfl
theorem dX11_moves_17 : decode cX11_moves 17 = .ok (.iload_n 2, 1) := dk28 (k := 17) bX11_moves_0 rfl
theorem dX11_moves_18 : decode cX11_moves 18 = .ok (.invokevirtual 235, 3) := dk182 (k := 18) bX11_moves_0 rfl rfl
theorem dX11_moves_21 : decode cX11_moves 21 = .ok (.ireturn, 1) := dk172 (k := 21) bX11_moves_0 rfl
theorem bX11_round_0 : bL cX11_round 0 [42, 27, 28, 182, 0, 238, 153, 0, 15, 42, 180, 0, 66, 27, 28, 182, 0, 241, 167, 0, 5, 16, 254, 172] := bL_of (by decide +kernel)
theorem dX11_round_0 : decode cX11_round 0 = .ok (.aload_n 0, 1) := dk42 (k := 0) bX11_round_0 rfl
theorem dX11_round_1 : decode cX11_round 1 = .ok (.iload_n 1, 1) := dk27 (k := 1) bX11_round_0 rfl
theorem dX11_round_2 : decode cX11_round 2 = .ok (.iload_n 2, 1) := dk28 (k := 2) bX11_round_0 rfl
theorem dX11_round_3 : decode cX11_round 3 = .ok (.invokevirtual 238, 3) := dk182 (k := 3) bX11_round_0 rfl rfl
theorem dX11_round_6 : decode cX11_round 6 = .ok (.ifCond .eq 15, 3) := dk153 (k := 6) bX11_round_0 rfl (by decide)
theorem dX11_round_9 : decode cX11_round 9 = .ok (.aload_n 0, 1) := dk42 (k := 9) bX11_round_0 rfl
theorem dX11_round_10 : decode cX11_round 10 = .ok (.getfield 66, 3) := dk180 (k := 10) bX11_round_0 rfl rfl
theorem dX11_round_13 : decode cX11_round 13 = .ok (.iload_n 1, 1) := dk27 (k := 13) bX11_round_0 rfl
theorem dX11_round_14 : decode cX11_round 14 = .ok (.iload_n 2, 1) := dk28 (k := 14) bX11_round_0 rfl
theorem dX11_round_15 : decode cX11_round 15 = .ok (.invokevirtual 241, 3) := dk182 (k := 15) bX11_round_0 rfl rfl
theorem dX11_round_18 : decode cX11_round 18 = .ok (.goto 5, 3) := dk167 (k := 18) bX11_round_0 rfl (by decide)
theorem dX11_round_21 : decode cX11_round 21 = .ok (.bipush (-2), 2) := dk16 (k := 21) bX11_round_0 rfl (by decide)
theorem dX11_round_23 : decode cX11_round 23 = .ok (.ireturn, 1) := dk172 (k := 23) bX11_round_0 rfl
theorem bX11_goes_0 : bL cX11_goes 0 [42, 27, 28, 182, 0, 238, 153, 0, 12, 29, 155, 0, 8, 29, 4, 164, 0, 6, 16, 254, 172, 42, 180, 0, 66] := bL_of (by decide +kernel)
theorem dX11_goes_0 : decode cX11_goes 0 = .ok (.aload_n 0, 1) := dk42 (k := 0) bX11_goes_0 rfl
theorem dX11_goes_1 : decode cX11_goes 1 = .ok (.iload_n 1, 1) := dk27 (k := 1) bX11_goes_0 rfl
theorem dX11_goes_2 : decode cX11_goes 2 = .ok (.iload_n 2, 1) := dk28 (k := 2) bX11_goes_0 rfl
theorem dX11_goes_3 : decode cX11_goes 3 = .ok (.invokevirtual 238, 3) := dk182 (k := 3) bX11_goes_0 rfl rfl
theorem dX11_goes_6 : decode cX11_goes 6 = .ok (.ifCond .eq 12, 3) := dk153 (k := 6) bX11_goes_0 rfl (by decide)
theorem dX11_goes_9 : decode cX11_goes 9 = .ok (.iload_n 3, 1) := dk29 (k := 9) bX11_goes_0 rfl
theorem dX11_goes_10 : decode cX11_goes 10 = .ok (.ifCond .lt 8, 3) := dk155 (k := 10) bX11_goes_0 rfl (by decide)
theorem dX11_goes_13 : decode cX11_goes 13 = .ok (.iload_n 3, 1) := dk29 (k := 13) bX11_goes_0 rfl
theorem dX11_goes_14 : decode cX11_goes 14 = .ok (.iconst 1, 1) := dk4 (k := 14) bX11_goes_0 rfl
theorem dX11_goes_15 : decode cX11_goes 15 = .ok (.if_icmp .le 6, 3) := dk164 (k := 15) bX11_goes_0 rfl (by decide)
theorem dX11_goes_18 : decode cX11_goes 18 = .ok (.bipush (-2), 2) := dk16 (k := 18) bX11_goes_0 rfl (by decide)
theorem dX11_goes_20 : decode cX11_goes 20 = .ok (.ireturn, 1) := dk172 (k := 20) bX11_goes_0 rfl
theorem dX11_goes_21 : decode cX11_goes 21 = .ok (.aload_n 0, 1) := dk42 (k := 21) bX11_goes_0 rfl
theorem dX11_goes_22 : decode cX11_goes 22 = .ok (.getfield 66, 3) := dk180 (k := 22) bX11_goes_0 rfl rfl
theorem bX11_goes_25 : bL cX11_goes 25 [27, 28, 182, 0, 241, 2, 160, 0, 5, 2, 172, 29, 154, 0, 13, 42, 180, 0, 66, 180, 0, 244, 167, 0, 10] := bL_of (by decide +kernel)
theorem dX11_goes_25 : decode cX11_goes 25 = .ok (.iload_n 1, 1) := dk27 (k := 0) bX11_goes_25 rfl
theorem dX11_goes_26 : decode cX11_goes 26 = .ok (.iload_n 2, 1) := dk28 (k := 1) bX11_goes_25 rfl
theorem dX11_goes_27 : decode cX11_goes 27 = .ok (.invokevirtual 241, 3) := dk182 (k := 2) bX11_goes_25 rfl rfl
theorem dX11_goes_30 : decode cX11_goes 30 = .ok (.iconst (-1), 1) := dk2 (k := 5) bX11_goes_25 rfl
theorem dX11_goes_31 : decode cX11_goes 31 = .ok (.if_icmp .ne 5, 3) := dk160 (k := 6) bX11_goes_25 rfl (by decide)
theorem dX11_goes_34 : decode cX11_goes 34 = .ok (.iconst (-1), 1) := dk2 (k := 9) bX11_goes_25 rfl
theorem dX11_goes_35 : decode cX11_goes 35 = .ok (.ireturn, 1) := dk172 (k := 10) bX11_goes_25 rfl
theorem dX11_goes_36 : decode cX11_goes 36 = .ok (.iload_n 3, 1) := dk29 (k := 11) bX11_goes_25 rfl
theorem dX11_goes_37 : decode cX11_goes 37 = .ok (.ifCond .ne 13, 3) := dk154 (k := 12) bX11_goes_25 rfl (by decide)
theorem dX11_goes_40 : decode cX11_goes 40 = .ok (.aload_n 0, 1) := dk42 (k := 15) bX11_goes_25 rfl
theorem dX11_goes_41 : decode cX11_goes 41 = .ok (.getfield 66, 3) := dk180 (k := 16) bX11_goes_25 rfl rfl
theorem dX11_goes_44 : decode cX11_goes 44 = .ok (.getfield 244, 3) := dk180 (k := 19) bX11_goes_25 rfl rfl
theorem dX11_goes_47 : decode cX11_goes 47 = .ok (.goto 10, 3) := dk167 (k := 22) bX11_goes_25 rfl (by decide)
theorem bX11_goes_50 : bL cX11_goes 50 [42, 180, 0, 66, 180, 0, 247, 172] := bL_of (by decide +kernel)
theorem dX11_goes_50 : decode cX11_goes 50 = .ok (.aload_n 0, 1) := dk42 (k := 0) bX11_goes_50 rfl
theorem dX11_goes_51 : decode cX11_goes 51 = .ok (.getfield 66, 3) := dk180 (k := 1) bX11_goes_50 rfl rfl
theorem dX11_goes_54 : decode cX11_goes 54 = .ok (.getfield 247, 3) := dk180 (k := 4) bX11_goes_50 rfl rfl
theorem dX11_goes_57 : decode cX11_goes 57 = .ok (.ireturn, 1) := dk172 (k := 7) bX11_goes_50 rfl
theorem bX11_two_0 : bL cX11_two 0 [42, 27, 29, 182, 0, 238, 153, 0, 25, 42, 28, 29, 182, 0, 238, 153, 0, 16, 42, 180, 0, 66, 27, 28] := bL_of (by decide +kernel)
theorem dX11_two_0 : decode cX11_two 0 = .ok (.aload_n 0, 1) := dk42 (k := 0) bX11_two_0 rfl
theorem dX11_two_1 : decode cX11_two 1 = .ok (.iload_n 1, 1) := dk27 (k := 1) bX11_two_0 rfl
theorem dX11_two_2 : decode cX11_two 2 = .ok (.iload_n 3, 1) := dk29 (k := 2) bX11_two_0 rfl
theorem dX11_two_3 : decode cX11_two 3 = .ok (.invokevirtual 238, 3) := dk182 (k := 3) bX11_two_0 rfl rfl
theorem dX11_two_6 : decode cX11_two 6 = .ok (.ifCond .eq 25, 3) := dk153 (k := 6) bX11_two_0 rfl (by decide)
theorem dX11_two_9 : decode cX11_two 9 = .ok (.aload_n 0, 1) := dk42 (k := 9) bX11_two_0 rfl
theorem dX11_two_10 : decode cX11_two 10 = .ok (.iload_n 2, 1) := dk28 (k := 10) bX11_two_0 rfl
theorem dX11_two_11 : decode cX11_two 11 = .ok (.iload_n 3, 1) := dk29 (k := 11) bX11_two_0 rfl
theorem dX11_two_12 : decode cX11_two 12 = .ok (.invokevirtual 238, 3) := dk182 (k := 12) bX11_two_0 rfl rfl
theorem dX11_two_15 : decode cX11_two 15 = .ok (.ifCond .eq 16, 3) := dk153 (k := 15) bX11_two_0 rfl (by decide)
theorem dX11_two_18 : decode cX11_two 18 = .ok (.aload_n 0, 1) := dk42 (k := 18) bX11_two_0 rfl
theorem dX11_two_19 : decode cX11_two 19 = .ok (.getfield 66, 3) := dk180 (k := 19) bX11_two_0 rfl rfl
theorem dX11_two_22 : decode cX11_two 22 = .ok (.iload_n 1, 1) := dk27 (k := 22) bX11_two_0 rfl
theorem dX11_two_23 : decode cX11_two 23 = .ok (.iload_n 2, 1) := dk28 (k := 23) bX11_two_0 rfl
theorem bX11_two_24 : bL cX11_two 24 [29, 182, 0, 250, 167, 0, 5, 16, 254, 172] := bL_of (by decide +kernel)
theorem dX11_two_24 : decode cX11_two 24 = .ok (.iload_n 3, 1) := dk29 (k := 0) bX11_two_24 rfl
theorem dX11_two_25 : decode cX11_two 25 = .ok (.invokevirtual 250, 3) := dk182 (k := 1) bX11_two_24 rfl rfl
theorem dX11_two_28 : decode cX11_two 28 = .ok (.goto 5, 3) := dk167 (k := 4) bX11_two_24 rfl (by decide)
theorem dX11_two_31 : decode cX11_two 31 = .ok (.bipush (-2), 2) := dk16 (k := 7) bX11_two_24 rfl (by decide)
theorem dX11_two_33 : decode cX11_two 33 = .ok (.ireturn, 1) := dk172 (k := 9) bX11_two_24 rfl
theorem bX11_flows_0 : bL cX11_flows 0 [42, 180, 0, 28, 180, 0, 139, 27, 182, 0, 142, 153, 0, 17, 42, 180, 0, 28, 180, 0, 139, 27, 182, 0, 254] := bL_of (by decide +kernel)
theorem dX11_flows_0 : decode cX11_flows 0 = .ok (.aload_n 0, 1) := dk42 (k := 0) bX11_flows_0 rfl
theorem dX11_flows_1 : decode cX11_flows 1 = .ok (.getfield 28, 3) := dk180 (k := 1) bX11_flows_0 rfl rfl
theorem dX11_flows_4 : decode cX11_flows 4 = .ok (.getfield 139, 3) := dk180 (k := 4) bX11_flows_0 rfl rfl
theorem dX11_flows_7 : decode cX11_flows 7 = .ok (.iload_n 1, 1) := dk27 (k := 7) bX11_flows_0 rfl
theorem dX11_flows_8 : decode cX11_flows 8 = .ok (.invokevirtual 142, 3) := dk182 (k := 8) bX11_flows_0 rfl rfl
theorem dX11_flows_11 : decode cX11_flows 11 = .ok (.ifCond .eq 17, 3) := dk153 (k := 11) bX11_flows_0 rfl (by decide)
theorem dX11_flows_14 : decode cX11_flows 14 = .ok (.aload_n 0, 1) := dk42 (k := 14) bX11_flows_0 rfl
theorem dX11_flows_15 : decode cX11_flows 15 = .ok (.getfield 28, 3) := dk180 (k := 15) bX11_flows_0 rfl rfl
theorem dX11_flows_18 : decode cX11_flows 18 = .ok (.getfield 139, 3) := dk180 (k := 18) bX11_flows_0 rfl rfl
theorem dX11_flows_21 : decode cX11_flows 21 = .ok (.iload_n 1, 1) := dk27 (k := 21) bX11_flows_0 rfl
theorem dX11_flows_22 : decode cX11_flows 22 = .ok (.invokevirtual 254, 3) := dk182 (k := 22) bX11_flows_0 rfl rfl
theorem bX11_flows_25 : bL cX11_flows 25 [167, 0, 5, 16, 254, 172] := bL_of (by decide +kernel)
theorem dX11_flows_25 : decode cX11_flows 25 = .ok (.goto 5, 3) := dk167 (k := 0) bX11_flows_25 rfl (by decide)
theorem dX11_flows_28 : decode cX11_flows 28 = .ok (.bipush (-2), 2) := dk16 (k := 3) bX11_flows_25 rfl (by decide)
theorem dX11_flows_30 : decode cX11_flows 30 = .ok (.ireturn, 1) := dk172 (k := 5) bX11_flows_25 rfl
theorem bX11_basin_0 : bL cX11_basin 0 [42, 180, 0, 28, 180, 0, 139, 27, 182, 0, 142, 153, 0, 17, 42, 180, 0, 28, 180, 0, 139, 27, 182, 1, 1] := bL_of (by decide +kernel)
theorem dX11_basin_0 : decode cX11_basin 0 = .ok (.aload_n 0, 1) := dk42 (k := 0) bX11_basin_0 rfl
theorem dX11_basin_1 : decode cX11_basin 1 = .ok (.getfield 28, 3) := dk180 (k := 1) bX11_basin_0 rfl rfl
theorem dX11_basin_4 : decode cX11_basin 4 = .ok (.getfield 139, 3) := dk180 (k := 4) bX11_basin_0 rfl rfl
theorem dX11_basin_7 : decode cX11_basin 7 = .ok (.iload_n 1, 1) := dk27 (k := 7) bX11_basin_0 rfl
theorem dX11_basin_8 : decode cX11_basin 8 = .ok (.invokevirtual 142, 3) := dk182 (k := 8) bX11_basin_0 rfl rfl
theorem dX11_basin_11 : decode cX11_basin 11 = .ok (.ifCond .eq 17, 3) := dk153 (k := 11) bX11_basin_0 rfl (by decide)
theorem dX11_basin_14 : decode cX11_basin 14 = .ok (.aload_n 0, 1) := dk42 (k := 14) bX11_basin_0 rfl
theorem dX11_basin_15 : decode cX11_basin 15 = .ok (.getfield 28, 3) := dk180 (k := 15) bX11_basin_0 rfl rfl
theorem dX11_basin_18 : decode cX11_basin 18 = .ok (.getfield 139, 3) := dk180 (k := 18) bX11_basin_0 rfl rfl
theorem dX11_basin_21 : decode cX11_basin 21 = .ok (.iload_n 1, 1) := dk27 (k := 21) bX11_basin_0 rfl
theorem dX11_basin_22 : decode cX11_basin 22 = .ok (.invokevirtual 257, 3) := dk182 (k := 22) bX11_basin_0 rfl rfl
theorem bX11_basin_25 : bL cX11_basin 25 [167, 0, 5, 16, 254, 172] := bL_of (by decide +kernel)
theorem dX11_basin_25 : decode cX11_basin 25 = .ok (.goto 5, 3) := dk167 (k := 0) bX11_basin_25 rfl (by decide)
theorem dX11_basin_28 : decode cX11_basin 28 = .ok (.bipush (-2), 2) := dk16 (k := 3) bX11_basin_25 rfl (by decide)
theorem dX11_basin_30 : decode cX11_basin 30 = .ok (.ireturn, 1) := dk172 (k := 5) bX11_basin_25 rfl
theorem bX11_cliffs_0 : bL cX11_cliffs 0 [42, 180, 0, 28, 182, 0, 157, 153, 0, 16, 42, 180, 0, 28, 180, 0, 139, 182, 1, 4, 167, 0, 5, 16, 254] := bL_of (by decide +kernel)
theorem dX11_cliffs_0 : decode cX11_cliffs 0 = .ok (.aload_n 0, 1) := dk42 (k := 0) bX11_cliffs_0 rfl
theorem dX11_cliffs_1 : decode cX11_cliffs 1 = .ok (.getfield 28, 3) := dk180 (k := 1) bX11_cliffs_0 rfl rfl
theorem dX11_cliffs_4 : decode cX11_cliffs 4 = .ok (.invokevirtual 157, 3) := dk182 (k := 4) bX11_cliffs_0 rfl rfl
theorem dX11_cliffs_7 : decode cX11_cliffs 7 = .ok (.ifCond .eq 16, 3) := dk153 (k := 7) bX11_cliffs_0 rfl (by decide)
theorem dX11_cliffs_10 : decode cX11_cliffs 10 = .ok (.aload_n 0, 1) := dk42 (k := 10) bX11_cliffs_0 rfl
theorem dX11_cliffs_11 : decode cX11_cliffs 11 = .ok (.getfield 28, 3) := dk180 (k := 11) bX11_cliffs_0 rfl rfl
theorem dX11_cliffs_14 : decode cX11_cliffs 14 = .ok (.getfield 139, 3) := dk180 (k := 14) bX11_cliffs_0 rfl rfl
theorem dX11_cliffs_17 : decode cX11_cliffs 17 = .ok (.invokevirtual 260, 3) := dk182 (k := 17) bX11_cliffs_0 rfl rfl
theorem dX11_cliffs_20 : decode cX11_cliffs 20 = .ok (.goto 5, 3) := dk167 (k := 20) bX11_cliffs_0 rfl (by decide)
theorem dX11_cliffs_23 : decode cX11_cliffs 23 = .ok (.bipush (-2), 2) := dk16 (k := 23) bX11_cliffs_0 rfl (by decide)
theorem bX11_cliffs_25 : bL cX11_cliffs 25 [172] := bL_of (by decide +kernel)
theorem dX11_cliffs_25 : decode cX11_cliffs 25 = .ok (.ireturn, 1) := dk172 (k := 0) bX11_cliffs_25 rfl
theorem bX11_springs_0 : bL cX11_springs 0 [42, 180, 0, 28, 182, 0, 157, 153, 0, 16, 42, 180, 0, 28, 180, 0, 139, 182, 1, 7, 167, 0, 5, 16, 254] := bL_of (by decide +kernel)
theorem dX11_springs_0 : decode cX11_springs 0 = .ok (.aload_n 0, 1) := dk42 (k := 0) bX11_springs_0 rfl
theorem dX11_springs_1 : decode cX11_springs 1 = .ok (.getfield 28, 3) := dk180 (k := 1) bX11_springs_0 rfl rfl
theorem dX11_springs_4 : decode cX11_springs 4 = .ok (.invokevirtual 157, 3) := dk182 (k := 4) bX11_springs_0 rfl rfl
theorem dX11_springs_7 : decode cX11_springs 7 = .ok (.ifCond .eq 16, 3) := dk153 (k := 7) bX11_springs_0 rfl (by decide)
theorem dX11_springs_10 : decode cX11_springs 10 = .ok (.aload_n 0, 1) := dk42 (k := 10) bX11_springs_0 rfl
theorem dX11_springs_11 : decode cX11_springs 11 = .ok (.getfield 28, 3) := dk180 (k := 11) bX11_springs_0 rfl rfl
theorem dX11_springs_14 : decode cX11_springs 14 = .ok (.getfield 139, 3) := dk180 (k := 14) bX11_springs_0 rfl rfl
theorem dX11_springs_17 : decode cX11_springs 17 = .ok (.invokevirtual 263, 3) := dk182 (k := 17) bX11_springs_0 rfl rfl
theorem dX11_springs_20 : decode cX11_springs 20 = .ok (.goto 5, 3) := dk167 (k := 20) bX11_springs_0 rfl (by decide)
theorem dX11_springs_23 : decode cX11_springs 23 = .ok (.bipush (-2), 2) := dk16 (k := 23) bX11_springs_0 rfl (by decide)
theorem bX11_springs_25 : bL cX11_springs 25 [172] := bL_of (by decide +kernel)
theorem dX11_springs_25 : decode cX11_springs 25 = .ok (.ireturn, 1) := dk172 (k := 0) bX11_springs_25 rfl
theorem bX11_sees_0 : bL cX11_sees 0 [42, 180, 0, 28, 180, 0, 139, 27, 182, 0, 142, 153, 0, 17, 42, 180, 0, 28, 180, 0, 139, 27, 182, 1, 10] := bL_of (by decide +kernel)
theorem dX11_sees_0 : decode cX11_sees 0 = .ok (.aload_n 0, 1) := dk42 (k := 0) bX11_sees_0 rfl
theorem dX11_sees_1 : decode cX11_sees 1 = .ok (.getfield 28, 3) := dk180 (k := 1) bX11_sees_0 rfl rfl
theorem dX11_sees_4 : decode cX11_sees 4 = .ok (.getfield 139, 3) := dk180 (k := 4) bX11_sees_0 rfl rfl
theorem dX11_sees_7 : decode cX11_sees 7 = .ok (.iload_n 1, 1) := dk27 (k := 7) bX11_sees_0 rfl
theorem dX11_sees_8 : decode cX11_sees 8 = .ok (.invokevirtual 142, 3) := dk182 (k := 8) bX11_sees_0 rfl rfl
theorem dX11_sees_11 : decode cX11_sees 11 = .ok (.ifCond .eq 17, 3) := dk153 (k := 11) bX11_sees_0 rfl (by decide)
theorem dX11_sees_14 : decode cX11_sees 14 = .ok (.aload_n 0, 1) := dk42 (k := 14) bX11_sees_0 rfl
theorem dX11_sees_15 : decode cX11_sees 15 = .ok (.getfield 28, 3) := dk180 (k := 15) bX11_sees_0 rfl rfl
theorem dX11_sees_18 : decode cX11_sees 18 = .ok (.getfield 139, 3) := dk180 (k := 18) bX11_sees_0 rfl rfl
theorem dX11_sees_21 : decode cX11_sees 21 = .ok (.iload_n 1, 1) := dk27 (k := 21) bX11_sees_0 rfl
theorem dX11_sees_22 : decode cX11_sees 22 = .ok (.invokevirtual 266, 3) := dk182 (k := 22) bX11_sees_0 rfl rfl
theorem bX11_sees_25 : bL cX11_sees 25 [167, 0, 5, 16, 254, 172] := bL_of (by decide +kernel)
theorem dX11_sees_25 : decode cX11_sees 25 = .ok (.goto 5, 3) := dk167 (k := 0) bX11_sees_25 rfl (by decide)
theorem dX11_sees_28 : decode cX11_sees 28 = .ok (.bipush (-2), 2) := dk16 (k := 3) bX11_sees_25 rfl (by decide)
theorem dX11_sees_30 : decode cX11_sees 30 = .ok (.ireturn, 1) := dk172 (k := 5) bX11_sees_25 rfl
theorem bX11_lookout_0 : bL cX11_lookout 0 [42, 180, 0, 28, 182, 0, 157, 153, 0, 16, 42, 180, 0, 28, 180, 0, 139, 182, 1, 13, 167, 0, 5, 16, 254] := bL_of (by decide +kernel)
theorem dX11_lookout_0 : decode cX11_lookout 0 = .ok (.aload_n 0, 1) := dk42 (k := 0) bX11_lookout_0 rfl
theorem dX11_lookout_1 : decode cX11_lookout 1 = .ok (.getfield 28, 3) := dk180 (k := 1) bX11_lookout_0 rfl rfl
theorem dX11_lookout_4 : decode cX11_lookout 4 = .ok (.invokevirtual 157, 3) := dk182 (k := 4) bX11_lookout_0 rfl rfl
theorem dX11_lookout_7 : decode cX11_lookout 7 = .ok (.ifCond .eq 16, 3) := dk153 (k := 7) bX11_lookout_0 rfl (by decide)
theorem dX11_lookout_10 : decode cX11_lookout 10 = .ok (.aload_n 0, 1) := dk42 (k := 10) bX11_lookout_0 rfl
theorem dX11_lookout_11 : decode cX11_lookout 11 = .ok (.getfield 28, 3) := dk180 (k := 11) bX11_lookout_0 rfl rfl
theorem dX11_lookout_14 : decode cX11_lookout 14 = .ok (.getfield 139, 3) := dk180 (k := 14) bX11_lookout_0 rfl rfl
theorem dX11_lookout_17 : decode cX11_lookout 17 = .ok (.invokevirtual 269, 3) := dk182 (k := 17) bX11_lookout_0 rfl rfl
theorem dX11_lookout_20 : decode cX11_lookout 20 = .ok (.goto 5, 3) := dk167 (k := 20) bX11_lookout_0 rfl (by decide)
theorem dX11_lookout_23 : decode cX11_lookout 23 = .ok (.bipush (-2), 2) := dk16 (k := 23) bX11_lookout_0 rfl (by decide)
theorem bX11_lookout_25 : bL cX11_lookout 25 [172] := bL_of (by decide +kernel)
theorem dX11_lookout_25 : decode cX11_lookout 25 = .ok (.ireturn, 1) := dk172 (k := 0) bX11_lookout_25 rfl
theorem bX11_votes_0 : bL cX11_votes 0 [42, 180, 0, 28, 180, 0, 139, 27, 182, 0, 143, 153, 0, 17, 42, 180, 0, 28, 180, 0, 139, 28, 182, 0, 143] := bL_of (by decide +kernel)
theorem dX11_votes_0 : decode cX11_votes 0 = .ok (.aload_n 0, 1) := dk42 (k := 0) bX11_votes_0 rfl
theorem dX11_votes_1 : decode cX11_votes 1 = .ok (.getfield 28, 3) := dk180 (k := 1) bX11_votes_0 rfl rfl
theorem dX11_votes_4 : decode cX11_votes 4 = .ok (.getfield 139, 3) := dk180 (k := 4) bX11_votes_0 rfl rfl
theorem dX11_votes_7 : decode cX11_votes 7 = .ok (.iload_n 1, 1) := dk27 (k := 7) bX11_votes_0 rfl
theorem dX11_votes_8 : decode cX11_votes 8 = .ok (.invokevirtual 143, 3) := dk182 (k := 8) bX11_votes_0 rfl rfl
theorem dX11_votes_11 : decode cX11_votes 11 = .ok (.ifCond .eq 17, 3) := dk153 (k := 11) bX11_votes_0 rfl (by decide)
theorem dX11_votes_14 : decode cX11_votes 14 = .ok (.aload_n 0, 1) := dk42 (k := 14) bX11_votes_0 rfl
theorem dX11_votes_15 : decode cX11_votes 15 = .ok (.getfield 28, 3) := dk180 (k := 15) bX11_votes_0 rfl rfl
theorem dX11_votes_18 : decode cX11_votes 18 = .ok (.getfield 139, 3) := dk180 (k := 18) bX11_votes_0 rfl rfl
theorem dX11_votes_21 : decode cX11_votes 21 = .ok (.iload_n 2, 1) := dk28 (k := 21) bX11_votes_0 rfl
theorem dX11_votes_22 : decode cX11_votes 22 = .ok (.invokevirtual 143, 3) := dk182 (k := 22) bX11_votes_0 rfl rfl
theorem bX11_votes_25 : bL cX11_votes 25 [154, 0, 6, 16, 254, 172, 42, 180, 0, 75, 182, 1, 16, 42, 180, 0, 75, 27, 28, 182, 1, 19, 172] := bL_of (by decide +kernel)
theorem dX11_votes_25 : decode cX11_votes 25 = .ok (.ifCond .ne 6, 3) := dk154 (k := 0) bX11_votes_25 rfl (by decide)
theorem dX11_votes_28 : decode cX11_votes 28 = .ok (.bipush (-2), 2) := dk16 (k := 3) bX11_votes_25 rfl (by decide)
theorem dX11_votes_30 : decode cX11_votes 30 = .ok (.ireturn, 1) := dk172 (k := 5) bX11_votes_25 rfl
theorem dX11_votes_31 : decode cX11_votes 31 = .ok (.aload_n 0, 1) := dk42 (k := 6) bX11_votes_25 rfl
theorem dX11_votes_32 : decode cX11_votes 32 = .ok (.getfield 75, 3) := dk180 (k := 7) bX11_votes_25 rfl rfl
theorem dX11_votes_35 : decode cX11_votes 35 = .ok (.invokevirtual 272, 3) := dk182 (k := 10) bX11_votes_25 rfl rfl
theorem dX11_votes_38 : decode cX11_votes 38 = .ok (.aload_n 0, 1) := dk42 (k := 13) bX11_votes_25 rfl
theorem dX11_votes_39 : decode cX11_votes 39 = .ok (.getfield 75, 3) := dk180 (k := 14) bX11_votes_25 rfl rfl
theorem dX11_votes_42 : decode cX11_votes 42 = .ok (.iload_n 1, 1) := dk27 (k := 17) bX11_votes_25 rfl
theorem dX11_votes_43 : decode cX11_votes 43 = .ok (.iload_n 2, 1) := dk28 (k := 18) bX11_votes_25 rfl
theorem dX11_votes_44 : decode cX11_votes 44 = .ok (.invokevirtual 275, 3) := dk182 (k := 19) bX11_votes_25 rfl rfl
theorem dX11_votes_47 : decode cX11_votes 47 = .ok (.ireturn, 1) := dk172 (k := 22) bX11_votes_25 rfl
theorem bX11_elected_0 : bL cX11_elected 0 [42, 180, 0, 28, 182, 0, 157, 153, 0, 13, 42, 180, 0, 75, 182, 1, 22, 167, 0, 5, 16, 254, 172] := bL_of (by decide +kernel)
theorem dX11_elected_0 : decode cX11_elected 0 = .ok (.aload_n 0, 1) := dk42 (k := 0) bX11_elected_0 rfl
theorem dX11_elected_1 : decode cX11_elected 1 = .ok (.getfield 28, 3) := dk180 (k := 1) bX11_elected_0 rfl rfl
theorem dX11_elected_4 : decode cX11_elected 4 = .ok (.invokevirtual 157, 3) := dk182 (k := 4) bX11_elected_0 rfl rfl
theorem dX11_elected_7 : decode cX11_elected 7 = .ok (.ifCond .eq 13, 3) := dk153 (k := 7) bX11_elected_0 rfl (by decide)
theorem dX11_elected_10 : decode cX11_elected 10 = .ok (.aload_n 0, 1) := dk42 (k := 10) bX11_elected_0 rfl
theorem dX11_elected_11 : decode cX11_elected 11 = .ok (.getfield 75, 3) := dk180 (k := 11) bX11_elected_0 rfl rfl
theorem dX11_elected_14 : decode cX11_elected 14 = .ok (.invokevirtual 278, 3) := dk182 (k := 14) bX11_elected_0 rfl rfl
theorem dX11_elected_17 : decode cX11_elected 17 = .ok (.goto 5, 3) := dk167 (k := 17) bX11_elected_0 rfl (by decide)
theorem dX11_elected_20 : decode cX11_elected 20 = .ok (.bipush (-2), 2) := dk16 (k := 20) bX11_elected_0 rfl (by decide)
theorem dX11_elected_22 : decode cX11_elected 22 = .ok (.ireturn, 1) := dk172 (k := 22) bX11_elected_0 rfl
theorem bX11_best_0 : bL cX11_best 0 [42, 180, 0, 28, 182, 0, 157, 154, 0, 6, 16, 254, 172, 42, 180, 0, 75, 4, 182, 1, 25, 154, 0, 5] := bL_of (by decide +kernel)
theorem dX11_best_0 : decode cX11_best 0 = .ok (.aload_n 0, 1) := dk42 (k := 0) bX11_best_0 rfl
theorem dX11_best_1 : decode cX11_best 1 = .ok (.getfield 28, 3) := dk180 (k := 1) bX11_best_0 rfl rfl
theorem dX11_best_4 : decode cX11_best 4 = .ok (.invokevirtual 157, 3) := dk182 (k := 4) bX11_best_0 rfl rfl
theorem dX11_best_7 : decode cX11_best 7 = .ok (.ifCond .ne 6, 3) := dk154 (k := 7) bX11_best_0 rfl (by decide)
theorem dX11_best_10 : decode cX11_best 10 = .ok (.bipush (-2), 2) := dk16 (k := 10) bX11_best_0 rfl (by decide)
theorem dX11_best_12 : decode cX11_best 12 = .ok (.ireturn, 1) := dk172 (k := 12) bX11_best_0 rfl
theorem dX11_best_13 : decode cX11_best 13 = .ok (.aload_n 0, 1) := dk42 (k := 13) bX11_best_0 rfl
theorem dX11_best_14 : decode cX11_best 14 = .ok (.getfield 75, 3) := dk180 (k := 14) bX11_best_0 rfl rfl
theorem dX11_best_17 : decode cX11_best 17 = .ok (.iconst 1, 1) := dk4 (k := 17) bX11_best_0 rfl
theorem dX11_best_18 : decode cX11_best 18 = .ok (.invokevirtual 281, 3) := dk182 (k := 18) bX11_best_0 rfl rfl
theorem dX11_best_21 : decode cX11_best 21 = .ok (.ifCond .ne 5, 3) := dk154 (k := 21) bX11_best_0 rfl (by decide)
theorem bX11_best_24 : bL cX11_best 24 [2, 172, 42, 180, 0, 75, 4, 182, 1, 28, 87, 42, 180, 0, 75, 3, 182, 1, 31, 172] := bL_of (by decide +kernel)
theorem dX11_best_24 : decode cX11_best 24 = .ok (.iconst (-1), 1) := dk2 (k := 0) bX11_best_24 rfl
theorem dX11_best_25 : decode cX11_best 25 = .ok (.ireturn, 1) := dk172 (k := 1) bX11_best_24 rfl
theorem dX11_best_26 : decode cX11_best 26 = .ok (.aload_n 0, 1) := dk42 (k := 2) bX11_best_24 rfl
theorem dX11_best_27 : decode cX11_best 27 = .ok (.getfield 75, 3) := dk180 (k := 3) bX11_best_24 rfl rfl
theorem dX11_best_30 : decode cX11_best 30 = .ok (.iconst 1, 1) := dk4 (k := 6) bX11_best_24 rfl
theorem dX11_best_31 : decode cX11_best 31 = .ok (.invokevirtual 284, 3) := dk182 (k := 7) bX11_best_24 rfl rfl
theorem dX11_best_34 : decode cX11_best 34 = .ok (.pop, 1) := dk87 (k := 10) bX11_best_24 rfl
theorem dX11_best_35 : decode cX11_best 35 = .ok (.aload_n 0, 1) := dk42 (k := 11) bX11_best_24 rfl
theorem dX11_best_36 : decode cX11_best 36 = .ok (.getfield 75, 3) := dk180 (k := 12) bX11_best_24 rfl rfl
theorem dX11_best_39 : decode cX11_best 39 = .ok (.iconst 0, 1) := dk3 (k := 15) bX11_best_24 rfl
theorem dX11_best_40 : decode cX11_best 40 = .ok (.invokevirtual 287, 3) := dk182 (k := 16) bX11_best_24 rfl rfl
theorem dX11_best_43 : decode cX11_best 43 = .ok (.ireturn, 1) := dk172 (k := 19) bX11_best_24 rfl
theorem bX11_shape_0 : bL cX11_shape 0 [42, 180, 0, 75, 27, 182, 1, 25, 153, 0, 14, 42, 180, 0, 75, 27, 182, 1, 28, 167, 0, 5, 16, 254] := bL_of (by decide +kernel)
theorem dX11_shape_0 : decode cX11_shape 0 = .ok (.aload_n 0, 1) := dk42 (k := 0) bX11_shape_0 rfl
theorem dX11_shape_1 : decode cX11_shape 1 = .ok (.getfield 75, 3) := dk180 (k := 1) bX11_shape_0 rfl rfl
theorem dX11_shape_4 : decode cX11_shape 4 = .ok (.iload_n 1, 1) := dk27 (k := 4) bX11_shape_0 rfl
theorem dX11_shape_5 : decode cX11_shape 5 = .ok (.invokevirtual 281, 3) := dk182 (k := 5) bX11_shape_0 rfl rfl
theorem dX11_shape_8 : decode cX11_shape 8 = .ok (.ifCond .eq 14, 3) := dk153 (k := 8) bX11_shape_0 rfl (by decide)
theorem dX11_shape_11 : decode cX11_shape 11 = .ok (.aload_n 0, 1) := dk42 (k := 11) bX11_shape_0 rfl
theorem dX11_shape_12 : decode cX11_shape 12 = .ok (.getfield 75, 3) := dk180 (k := 12) bX11_shape_0 rfl rfl
theorem dX11_shape_15 : decode cX11_shape 15 = .ok (.iload_n 1, 1) := dk27 (k := 15) bX11_shape_0 rfl
theorem dX11_shape_16 : decode cX11_shape 16 = .ok (.invokevirtual 284, 3) := dk182 (k := 16) bX11_shape_0 rfl rfl
theorem dX11_shape_19 : decode cX11_shape 19 = .ok (.goto 5, 3) := dk167 (k := 19) bX11_shape_0 rfl (by decide)
theorem dX11_shape_22 : decode cX11_shape 22 = .ok (.bipush (-2), 2) := dk16 (k := 22) bX11_shape_0 rfl (by decide)
theorem bX11_shape_24 : bL cX11_shape 24 [172] := bL_of (by decide +kernel)
theorem dX11_shape_24 : decode cX11_shape 24 = .ok (.ireturn, 1) := dk172 (k := 0) bX11_shape_24 rfl
theorem bX11_shaped_0 : bL cX11_shaped 0 [42, 180, 0, 75, 27, 182, 1, 25, 154, 0, 6, 16, 254, 172, 42, 180, 0, 75, 27, 182, 1, 28, 87, 28] := bL_of (by decide +kernel)
theorem dX11_shaped_0 : decode cX11_shaped 0 = .ok (.aload_n 0, 1) := dk42 (k := 0) bX11_shaped_0 rfl
theorem dX11_shaped_1 : decode cX11_shaped 1 = .ok (.getfield 75, 3) := dk180 (k := 1) bX11_shaped_0 rfl rfl
theorem dX11_shaped_4 : decode cX11_shaped 4 = .ok (.iload_n 1, 1) := dk27 (k := 4) bX11_shaped_0 rfl
theorem dX11_shaped_5 : decode cX11_shaped 5 = .ok (.invokevirtual 281, 3) := dk182 (k := 5) bX11_shaped_0 rfl rfl
theorem dX11_shaped_8 : decode cX11_shaped 8 = .ok (.ifCond .ne 6, 3) := dk154 (k := 8) bX11_shaped_0 rfl (by decide)
theorem dX11_shaped_11 : decode cX11_shaped 11 = .ok (.bipush (-2), 2) := dk16 (k := 11) bX11_shaped_0 rfl (by decide)
theorem dX11_shaped_13 : decode cX11_shaped 13 = .ok (.ireturn, 1) := dk172 (k := 13) bX11_shaped_0 rfl
theorem dX11_shaped_14 : decode cX11_shaped 14 = .ok (.aload_n 0, 1) := dk42 (k := 14) bX11_shaped_0 rfl
theorem dX11_shaped_15 : decode cX11_shaped 15 = .ok (.getfield 75, 3) := dk180 (k := 15) bX11_shaped_0 rfl rfl
theorem dX11_shaped_18 : decode cX11_shaped 18 = .ok (.iload_n 1, 1) := dk27 (k := 18) bX11_shaped_0 rfl
theorem dX11_shaped_19 : decode cX11_shaped 19 = .ok (.invokevirtual 284, 3) := dk182 (k := 19) bX11_shaped_0 rfl rfl
theorem dX11_shaped_22 : decode cX11_shaped 22 = .ok (.pop, 1) := dk87 (k := 22) bX11_shaped_0 rfl
theorem dX11_shaped_23 : decode cX11_shaped 23 = .ok (.iload_n 2, 1) := dk28 (k := 23) bX11_shaped_0 rfl
theorem bX11_shaped_24 : bL cX11_shaped 24 [155, 0, 8, 28, 27, 161, 0, 7, 2, 167, 0, 11, 42, 180, 0, 75, 28, 182, 1, 31, 172] := bL_of (by decide +kernel)
theorem dX11_shaped_24 : decode cX11_shaped 24 = .ok (.ifCond .lt 8, 3) := dk155 (k := 0) bX11_shaped_24 rfl (by decide)
theorem dX11_shaped_27 : decode cX11_shaped 27 = .ok (.iload_n 2, 1) := dk28 (k := 3) bX11_shaped_24 rfl
theorem dX11_shaped_28 : decode cX11_shaped 28 = .ok (.iload_n 1, 1) := dk27 (k := 4) bX11_shaped_24 rfl
theorem dX11_shaped_29 : decode cX11_shaped 29 = .ok (.if_icmp .lt 7, 3) := dk161 (k := 5) bX11_shaped_24 rfl (by decide)
theorem dX11_shaped_32 : decode cX11_shaped 32 = .ok (.iconst (-1), 1) := dk2 (k := 8) bX11_shaped_24 rfl
theorem dX11_shaped_33 : decode cX11_shaped 33 = .ok (.goto 11, 3) := dk167 (k := 9) bX11_shaped_24 rfl (by decide)
theorem dX11_shaped_36 : decode cX11_shaped 36 = .ok (.aload_n 0, 1) := dk42 (k := 12) bX11_shaped_24 rfl
theorem dX11_shaped_37 : decode cX11_shaped 37 = .ok (.getfield 75, 3) := dk180 (k := 13) bX11_shaped_24 rfl rfl
theorem dX11_shaped_40 : decode cX11_shaped 40 = .ok (.iload_n 2, 1) := dk28 (k := 16) bX11_shaped_24 rfl
theorem dX11_shaped_41 : decode cX11_shaped 41 = .ok (.invokevirtual 287, 3) := dk182 (k := 17) bX11_shaped_24 rfl rfl
theorem dX11_shaped_44 : decode cX11_shaped 44 = .ok (.ireturn, 1) := dk172 (k := 20) bX11_shaped_24 rfl
theorem bX11_spoil_0 : bL cX11_spoil 0 [42, 180, 0, 28, 182, 0, 157, 153, 0, 13, 42, 180, 0, 75, 182, 1, 34, 167, 0, 5, 16, 254, 172] := bL_of (by decide +kernel)
theorem dX11_spoil_0 : decode cX11_spoil 0 = .ok (.aload_n 0, 1) := dk42 (k := 0) bX11_spoil_0 rfl
theorem dX11_spoil_1 : decode cX11_spoil 1 = .ok (.getfield 28, 3) := dk180 (k := 1) bX11_spoil_0 rfl rfl
theorem dX11_spoil_4 : decode cX11_spoil 4 = .ok (.invokevirtual 157, 3) := dk182 (k := 4) bX11_spoil_0 rfl rfl
theorem dX11_spoil_7 : decode cX11_spoil 7 = .ok (.ifCond .eq 13, 3) := dk153 (k := 7) bX11_spoil_0 rfl (by decide)
theorem dX11_spoil_10 : decode cX11_spoil 10 = .ok (.aload_n 0, 1) := dk42 (k := 10) bX11_spoil_0 rfl
theorem dX11_spoil_11 : decode cX11_spoil 11 = .ok (.getfield 75, 3) := dk180 (k := 11) bX11_spoil_0 rfl rfl
theorem dX11_spoil_14 : decode cX11_spoil 14 = .ok (.invokevirtual 290, 3) := dk182 (k := 14) bX11_spoil_0 rfl rfl
theorem dX11_spoil_17 : decode cX11_spoil 17 = .ok (.goto 5, 3) := dk167 (k := 17) bX11_spoil_0 rfl (by decide)
theorem dX11_spoil_20 : decode cX11_spoil 20 = .ok (.bipush (-2), 2) := dk16 (k := 20) bX11_spoil_0 rfl (by decide)
theorem dX11_spoil_22 : decode cX11_spoil 22 = .ok (.ireturn, 1) := dk172 (k := 22) bX11_spoil_0 rfl
theorem bX11_course_0 : bL cX11_course 0 [42, 27, 182, 1, 37, 153, 0, 14, 42, 180, 0, 82, 27, 182, 1, 40, 167, 0, 5, 16, 254, 172] := bL_of (by decide +kernel)
theorem dX11_course_0 : decode cX11_course 0 = .ok (.aload_n 0, 1) := dk42 (k := 0) bX11_course_0 rfl
theorem dX11_course_1 : decode cX11_course 1 = .ok (.iload_n 1, 1) := dk27 (k := 1) bX11_course_0 rfl
theorem dX11_course_2 : decode cX11_course 2 = .ok (.invokevirtual 293, 3) := dk182 (k := 2) bX11_course_0 rfl rfl
theorem dX11_course_5 : decode cX11_course 5 = .ok (.ifCond .eq 14, 3) := dk153 (k := 5) bX11_course_0 rfl (by decide)
theorem dX11_course_8 : decode cX11_course 8 = .ok (.aload_n 0, 1) := dk42 (k := 8) bX11_course_0 rfl
theorem dX11_course_9 : decode cX11_course 9 = .ok (.getfield 82, 3) := dk180 (k := 9) bX11_course_0 rfl rfl
theorem dX11_course_12 : decode cX11_course 12 = .ok (.iload_n 1, 1) := dk27 (k := 12) bX11_course_0 rfl
theorem dX11_course_13 : decode cX11_course 13 = .ok (.invokevirtual 296, 3) := dk182 (k := 13) bX11_course_0 rfl rfl
theorem dX11_course_16 : decode cX11_course 16 = .ok (.goto 5, 3) := dk167 (k := 16) bX11_course_0 rfl (by decide)
theorem dX11_course_19 : decode cX11_course 19 = .ok (.bipush (-2), 2) := dk16 (k := 19) bX11_course_0 rfl (by decide)
theorem dX11_course_21 : decode cX11_course 21 = .ok (.ireturn, 1) := dk172 (k := 21) bX11_course_0 rfl
theorem bX11_ends_0 : bL cX11_ends 0 [42, 27, 182, 1, 37, 154, 0, 6, 16, 254, 172, 42, 180, 0, 82, 27, 182, 1, 40, 87, 42, 180, 0, 50] := bL_of (by decide +kernel)
theorem dX11_ends_0 : decode cX11_ends 0 = .ok (.aload_n 0, 1) := dk42 (k := 0) bX11_ends_0 rfl
theorem dX11_ends_1 : decode cX11_ends 1 = .ok (.iload_n 1, 1) := dk27 (k := 1) bX11_ends_0 rfl
theorem dX11_ends_2 : decode cX11_ends 2 = .ok (.invokevirtual 293, 3) := dk182 (k := 2) bX11_ends_0 rfl rfl
theorem dX11_ends_5 : decode cX11_ends 5 = .ok (.ifCond .ne 6, 3) := dk154 (k := 5) bX11_ends_0 rfl (by decide)
theorem dX11_ends_8 : decode cX11_ends 8 = .ok (.bipush (-2), 2) := dk16 (k := 8) bX11_ends_0 rfl (by decide)
theorem dX11_ends_10 : decode cX11_ends 10 = .ok (.ireturn, 1) := dk172 (k := 10) bX11_ends_0 rfl
theorem dX11_ends_11 : decode cX11_ends 11 = .ok (.aload_n 0, 1) := dk42 (k := 11) bX11_ends_0 rfl
theorem dX11_ends_12 : decode cX11_ends 12 = .ok (.getfield 82, 3) := dk180 (k := 12) bX11_ends_0 rfl rfl
theorem dX11_ends_15 : decode cX11_ends 15 = .ok (.iload_n 1, 1) := dk27 (k := 15) bX11_ends_0 rfl
theorem dX11_ends_16 : decode cX11_ends 16 = .ok (.invokevirtual 296, 3) := dk182 (k := 16) bX11_ends_0 rfl rfl
theorem dX11_ends_19 : decode cX11_ends 19 = .ok (.pop, 1) := dk87 (k := 19) bX11_ends_0 rfl
theorem dX11_ends_20 : decode cX11_ends 20 = .ok (.aload_n 0, 1) := dk42 (k := 20) bX11_ends_0 rfl
theorem dX11_ends_21 : decode cX11_ends 21 = .ok (.getfield 50, 3) := dk180 (k := 21) bX11_ends_0 rfl rfl
theorem bX11_ends_24 : bL cX11_ends 24 [182, 0, 187, 172] := bL_of (by decide +kernel)
theorem dX11_ends_24 : decode cX11_ends 24 = .ok (.invokevirtual 187, 3) := dk182 (k := 0) bX11_ends_24 rfl rfl
theorem dX11_ends_27 : decode cX11_ends 27 = .ok (.ireturn, 1) := dk172 (k := 3) bX11_ends_24 rfl
theorem bX11_left_0 : bL cX11_left 0 [42, 27, 182, 1, 37, 153, 0, 17, 42, 180, 0, 28, 180, 0, 126, 28, 182, 0, 130, 154, 0, 7, 17, 252, 24] := bL_of (by decide +kernel)
theorem dX11_left_0 : decode cX11_left 0 = .ok (.aload_n 0, 1) := dk42 (k := 0) bX11_left_0 rfl
theorem dX11_left_1 : decode cX11_left 1 = .ok (.iload_n 1, 1) := dk27 (k := 1) bX11_left_0 rfl
theorem dX11_left_2 : decode cX11_left 2 = .ok (.invokevirtual 293, 3) := dk182 (k := 2) bX11_left_0 rfl rfl
theorem dX11_left_5 : decode cX11_left 5 = .ok (.ifCond .eq 17, 3) := dk153 (k := 5) bX11_left_0 rfl (by decide)
theorem dX11_left_8 : decode cX11_left 8 = .ok (.aload_n 0, 1) := dk42 (k := 8) bX11_left_0 rfl
theorem dX11_left_9 : decode cX11_left 9 = .ok (.getfield 28, 3) := dk180 (k := 9) bX11_left_0 rfl rfl
theorem dX11_left_12 : decode cX11_left 12 = .ok (.getfield 126, 3) := dk180 (k := 12) bX11_left_0 rfl rfl
theorem dX11_left_15 : decode cX11_left 15 = .ok (.iload_n 2, 1) := dk28 (k := 15) bX11_left_0 rfl
theorem dX11_left_16 : decode cX11_left 16 = .ok (.invokevirtual 130, 3) := dk182 (k := 16) bX11_left_0 rfl rfl
theorem dX11_left_19 : decode cX11_left 19 = .ok (.ifCond .ne 7, 3) := dk154 (k := 19) bX11_left_0 rfl (by decide)
theorem dX11_left_22 : decode cX11_left 22 = .ok (.sipush (-1000), 3) := dk17 (k := 22) bX11_left_0 rfl (by decide)
theorem bX11_left_25 : bL cX11_left 25 [172, 42, 180, 0, 82, 27, 182, 1, 40, 87, 42, 180, 0, 28, 180, 0, 126, 42, 180, 0, 50, 28, 182, 0, 170] := bL_of (by decide +kernel)
theorem dX11_left_25 : decode cX11_left 25 = .ok (.ireturn, 1) := dk172 (k := 0) bX11_left_25 rfl
theorem dX11_left_26 : decode cX11_left 26 = .ok (.aload_n 0, 1) := dk42 (k := 1) bX11_left_25 rfl
theorem dX11_left_27 : decode cX11_left 27 = .ok (.getfield 82, 3) := dk180 (k := 2) bX11_left_25 rfl rfl
theorem dX11_left_30 : decode cX11_left 30 = .ok (.iload_n 1, 1) := dk27 (k := 5) bX11_left_25 rfl
theorem dX11_left_31 : decode cX11_left 31 = .ok (.invokevirtual 296, 3) := dk182 (k := 6) bX11_left_25 rfl rfl
theorem dX11_left_34 : decode cX11_left 34 = .ok (.pop, 1) := dk87 (k := 9) bX11_left_25 rfl
theorem dX11_left_35 : decode cX11_left 35 = .ok (.aload_n 0, 1) := dk42 (k := 10) bX11_left_25 rfl
theorem dX11_left_36 : decode cX11_left 36 = .ok (.getfield 28, 3) := dk180 (k := 11) bX11_left_25 rfl rfl
theorem dX11_left_39 : decode cX11_left 39 = .ok (.getfield 126, 3) := dk180 (k := 14) bX11_left_25 rfl rfl
theorem dX11_left_42 : decode cX11_left 42 = .ok (.aload_n 0, 1) := dk42 (k := 17) bX11_left_25 rfl
theorem dX11_left_43 : decode cX11_left 43 = .ok (.getfield 50, 3) := dk180 (k := 18) bX11_left_25 rfl rfl
theorem dX11_left_46 : decode cX11_left 46 = .ok (.iload_n 2, 1) := dk28 (k := 21) bX11_left_25 rfl
theorem dX11_left_47 : decode cX11_left 47 = .ok (.invokevirtual 170, 3) := dk182 (k := 22) bX11_left_25 rfl rfl
theorem bX11_left_50 : bL cX11_left 50 [172] := bL_of (by decide +kernel)
theorem dX11_left_50 : decode cX11_left 50 = .ok (.ireturn, 1) := dk172 (k := 0) bX11_left_50 rfl
theorem bX11_law_0 : bL cX11_law 0 [42, 180, 0, 28, 182, 0, 157, 153, 0, 14, 27, 4, 161, 0, 9, 27, 16, 60, 164, 0, 6, 16, 254, 172] := bL_of (by decide +kernel)
theorem dX11_law_0 : decode cX11_law 0 = .ok (.aload_n 0, 1) := dk42 (k := 0) bX11_law_0 rfl
theorem dX11_law_1 : decode cX11_law 1 = .ok (.getfield 28, 3) := dk180 (k := 1) bX11_law_0 rfl rfl
theorem dX11_law_4 : decode cX11_law 4 = .ok (.invokevirtual 157, 3) := dk182 (k := 4) bX11_law_0 rfl rfl
theorem dX11_law_7 : decode cX11_law 7 = .ok (.ifCond .eq 14, 3) := dk153 (k := 7) bX11_law_0 rfl (by decide)
theorem dX11_law_10 : decode cX11_law 10 = .ok (.iload_n 1, 1) := dk27 (k := 10) bX11_law_0 rfl
theorem dX11_law_11 : decode cX11_law 11 = .ok (.iconst 1, 1) := dk4 (k := 11) bX11_law_0 rfl
theorem dX11_law_12 : decode cX11_law 12 = .ok (.if_icmp .lt 9, 3) := dk161 (k := 12) bX11_law_0 rfl (by decide)
theorem dX11_law_15 : decode cX11_law 15 = .ok (.iload_n 1, 1) := dk27 (k := 15) bX11_law_0 rfl
theorem dX11_law_16 : decode cX11_law 16 = .ok (.bipush 60, 2) := dk16 (k := 16) bX11_law_0 rfl (by decide)
theorem dX11_law_18 : decode cX11_law 18 = .ok (.if_icmp .le 6, 3) := dk164 (k := 18) bX11_law_0 rfl (by decide)
theorem dX11_law_21 : decode cX11_law 21 = .ok (.bipush (-2), 2) := dk16 (k := 21) bX11_law_0 rfl (by decide)
theorem dX11_law_23 : decode cX11_law 23 = .ok (.ireturn, 1) := dk172 (k := 23) bX11_law_0 rfl
theorem bX11_law_24 : bL cX11_law 24 [42, 180, 0, 82, 27, 182, 1, 43, 172] := bL_of (by decide +kernel)
theorem dX11_law_24 : decode cX11_law 24 = .ok (.aload_n 0, 1) := dk42 (k := 0) bX11_law_24 rfl
theorem dX11_law_25 : decode cX11_law 25 = .ok (.getfield 82, 3) := dk180 (k := 1) bX11_law_24 rfl rfl
theorem dX11_law_28 : decode cX11_law 28 = .ok (.iload_n 1, 1) := dk27 (k := 4) bX11_law_24 rfl
theorem dX11_law_29 : decode cX11_law 29 = .ok (.invokevirtual 299, 3) := dk182 (k := 5) bX11_law_24 rfl rfl
theorem dX11_law_32 : decode cX11_law 32 = .ok (.ireturn, 1) := dk172 (k := 8) bX11_law_24 rfl
theorem bX11_raisers_0 : bL cX11_raisers 0 [42, 180, 0, 28, 182, 0, 157, 153, 0, 24, 42, 180, 0, 28, 180, 0, 126, 42, 180, 0, 28, 180, 0, 139] := bL_of (by decide +kernel)
theorem dX11_raisers_0 : decode cX11_raisers 0 = .ok (.aload_n 0, 1) := dk42 (k := 0) bX11_raisers_0 rfl
theorem dX11_raisers_1 : decode cX11_raisers 1 = .ok (.getfield 28, 3) := dk180 (k := 1) bX11_raisers_0 rfl rfl
theorem dX11_raisers_4 : decode cX11_raisers 4 = .ok (.invokevirtual 157, 3) := dk182 (k := 4) bX11_raisers_0 rfl rfl
theorem dX11_raisers_7 : decode cX11_raisers 7 = .ok (.ifCond .eq 24, 3) := dk153 (k := 7) bX11_raisers_0 rfl (by decide)
theorem dX11_raisers_10 : decode cX11_raisers 10 = .ok (.aload_n 0, 1) := dk42 (k := 10) bX11_raisers_0 rfl
theorem dX11_raisers_11 : decode cX11_raisers 11 = .ok (.getfield 28, 3) := dk180 (k := 11) bX11_raisers_0 rfl rfl
theorem dX11_raisers_14 : decode cX11_raisers 14 = .ok (.getfield 126, 3) := dk180 (k := 14) bX11_raisers_0 rfl rfl
theorem dX11_raisers_17 : decode cX11_raisers 17 = .ok (.aload_n 0, 1) := dk42 (k := 17) bX11_raisers_0 rfl
theorem dX11_raisers_18 : decode cX11_raisers 18 = .ok (.getfield 28, 3) := dk180 (k := 18) bX11_raisers_0 rfl rfl
theorem dX11_raisers_21 : decode cX11_raisers 21 = .ok (.getfield 139, 3) := dk180 (k := 21) bX11_raisers_0 rfl rfl
theorem bX11_raisers_24 : bL cX11_raisers 24 [4, 182, 0, 203, 167, 0, 5, 16, 254, 172] := bL_of (by decide +kernel)
theorem dX11_raisers_24 : decode cX11_raisers 24 = .ok (.iconst 1, 1) := dk4 (k := 0) bX11_raisers_24 rfl
theorem dX11_raisers_25 : decode cX11_raisers 25 = .ok (.invokevirtual 203, 3) := dk182 (k := 1) bX11_raisers_24 rfl rfl
theorem dX11_raisers_28 : decode cX11_raisers 28 = .ok (.goto 5, 3) := dk167 (k := 4) bX11_raisers_24 rfl (by decide)
theorem dX11_raisers_31 : decode cX11_raisers 31 = .ok (.bipush (-2), 2) := dk16 (k := 7) bX11_raisers_24 rfl (by decide)
theorem dX11_raisers_33 : decode cX11_raisers 33 = .ok (.ireturn, 1) := dk172 (k := 9) bX11_raisers_24 rfl
theorem bX11_old_0 : bL cX11_old 0 [42, 180, 0, 91, 27, 182, 1, 46, 61, 28, 153, 0, 7, 28, 167, 0, 10, 42, 180, 0, 91, 180, 1, 49] := bL_of (by decide +kernel)
theorem dX11_old_0 : decode cX11_old 0 = .ok (.aload_n 0, 1) := dk42 (k := 0) bX11_old_0 rfl
theorem dX11_old_1 : decode cX11_old 1 = .ok (.getfield 91, 3) := dk180 (k := 1) bX11_old_0 rfl rfl
theorem dX11_old_4 : decode cX11_old 4 = .ok (.iload_n 1, 1) := dk27 (k := 4) bX11_old_0 rfl
theorem dX11_old_5 : decode cX11_old 5 = .ok (.invokevirtual 302, 3) := dk182 (k := 5) bX11_old_0 rfl rfl
theorem dX11_old_8 : decode cX11_old 8 = .ok (.istore_n 2, 1) := dk61 (k := 8) bX11_old_0 rfl
theorem dX11_old_9 : decode cX11_old 9 = .ok (.iload_n 2, 1) := dk28 (k := 9) bX11_old_0 rfl
theorem dX11_old_10 : decode cX11_old 10 = .ok (.ifCond .eq 7, 3) := dk153 (k := 10) bX11_old_0 rfl (by decide)
theorem dX11_old_13 : decode cX11_old 13 = .ok (.iload_n 2, 1) := dk28 (k := 13) bX11_old_0 rfl
theorem dX11_old_14 : decode cX11_old 14 = .ok (.goto 10, 3) := dk167 (k := 14) bX11_old_0 rfl (by decide)
theorem dX11_old_17 : decode cX11_old 17 = .ok (.aload_n 0, 1) := dk42 (k := 17) bX11_old_0 rfl
theorem dX11_old_18 : decode cX11_old 18 = .ok (.getfield 91, 3) := dk180 (k := 18) bX11_old_0 rfl rfl
theorem dX11_old_21 : decode cX11_old 21 = .ok (.getfield 305, 3) := dk180 (k := 21) bX11_old_0 rfl rfl
theorem bX11_old_24 : bL cX11_old 24 [172] := bL_of (by decide +kernel)
theorem dX11_old_24 : decode cX11_old 24 = .ok (.ireturn, 1) := dk172 (k := 0) bX11_old_24 rfl
theorem bX11_ask_0 : bL cX11_ask 0 [42, 180, 0, 28, 180, 0, 139, 28, 182, 0, 142, 154, 0, 6, 16, 254, 172, 42, 180, 0, 91, 27, 182, 1, 46] := bL_of (by decide +kernel)
theorem dX11_ask_0 : decode cX11_ask 0 = .ok (.aload_n 0, 1) := dk42 (k := 0) bX11_ask_0 rfl
theorem dX11_ask_1 : decode cX11_ask 1 = .ok (.getfield 28, 3) := dk180 (k := 1) bX11_ask_0 rfl rfl
theorem dX11_ask_4 : decode cX11_ask 4 = .ok (.getfield 139, 3) := dk180 (k := 4) bX11_ask_0 rfl rfl
theorem dX11_ask_7 : decode cX11_ask 7 = .ok (.iload_n 2, 1) := dk28 (k := 7) bX11_ask_0 rfl
theorem dX11_ask_8 : decode cX11_ask 8 = .ok (.invokevirtual 142, 3) := dk182 (k := 8) bX11_ask_0 rfl rfl
theorem dX11_ask_11 : decode cX11_ask 11 = .ok (.ifCond .ne 6, 3) := dk154 (k := 11) bX11_ask_0 rfl (by decide)
theorem dX11_ask_14 : decode cX11_ask 14 = .ok (.bipush (-2), 2) := dk16 (k := 14) bX11_ask_0 rfl (by decide)
theorem dX11_ask_16 : decode cX11_ask 16 = .ok (.ireturn, 1) := dk172 (k := 16) bX11_ask_0 rfl
theorem dX11_ask_17 : decode cX11_ask 17 = .ok (.aload_n 0, 1) := dk42 (k := 17) bX11_ask_0 rfl
theorem dX11_ask_18 : decode cX11_ask 18 = .ok (.getfield 91, 3) := dk180 (k := 18) bX11_ask_0 rfl rfl
theorem dX11_ask_21 : decode cX11_ask 21 = .ok (.iload_n 1, 1) := dk27 (k := 21) bX11_ask_0 rfl
theorem dX11_ask_22 : decode cX11_ask 22 = .ok (.invokevirtual 302, 3) := dk182 (k := 22) bX11_ask_0 rfl rfl
theorem bX11_ask_25 : bL cX11_ask 25 [62, 29, 153, 0, 7, 29, 167, 0, 11, 42, 180, 0, 91, 28, 182, 1, 52, 172] := bL_of (by decide +kernel)
theorem dX11_ask_25 : decode cX11_ask 25 = .ok (.istore_n 3, 1) := dk62 (k := 0) bX11_ask_25 rfl
theorem dX11_ask_26 : decode cX11_ask 26 = .ok (.iload_n 3, 1) := dk29 (k := 1) bX11_ask_25 rfl
theorem dX11_ask_27 : decode cX11_ask 27 = .ok (.ifCond .eq 7, 3) := dk153 (k := 2) bX11_ask_25 rfl (by decide)
theorem dX11_ask_30 : decode cX11_ask 30 = .ok (.iload_n 3, 1) := dk29 (k := 5) bX11_ask_25 rfl
theorem dX11_ask_31 : decode cX11_ask 31 = .ok (.goto 11, 3) := dk167 (k := 6) bX11_ask_25 rfl (by decide)
theorem dX11_ask_34 : decode cX11_ask 34 = .ok (.aload_n 0, 1) := dk42 (k := 9) bX11_ask_25 rfl
theorem dX11_ask_35 : decode cX11_ask 35 = .ok (.getfield 91, 3) := dk180 (k := 10) bX11_ask_25 rfl rfl
theorem dX11_ask_38 : decode cX11_ask 38 = .ok (.iload_n 2, 1) := dk28 (k := 13) bX11_ask_25 rfl
theorem dX11_ask_39 : decode cX11_ask 39 = .ok (.invokevirtual 308, 3) := dk182 (k := 14) bX11_ask_25 rfl rfl
theorem dX11_ask_42 : decode cX11_ask 42 = .ok (.ireturn, 1) := dk172 (k := 17) bX11_ask_25 rfl
theorem bX11_leaves_0 : bL cX11_leaves 0 [42, 180, 0, 28, 180, 0, 139, 28, 182, 0, 142, 154, 0, 6, 16, 254, 172, 42, 180, 0, 91, 27, 182, 1, 46] := bL_of (by decide +kernel)
theorem dX11_leaves_0 : decode cX11_leaves 0 = .ok (.aload_n 0, 1) := dk42 (k := 0) bX11_leaves_0 rfl
theorem dX11_leaves_1 : decode cX11_leaves 1 = .ok (.getfield 28, 3) := dk180 (k := 1) bX11_leaves_0 rfl rfl
theorem dX11_leaves_4 : decode cX11_leaves 4 = .ok (.getfield 139, 3) := dk180 (k := 4) bX11_leaves_0 rfl rfl
theorem dX11_leaves_7 : decode cX11_leaves 7 = .ok (.iload_n 2, 1) := dk28 (k := 7) bX11_leaves_0 rfl
theorem dX11_leaves_8 : decode cX11_leaves 8 = .ok (.invokevirtual 142, 3) := dk182 (k := 8) bX11_leaves_0 rfl rfl
theorem dX11_leaves_11 : decode cX11_leaves 11 = .ok (.ifCond .ne 6, 3) := dk154 (k := 11) bX11_leaves_0 rfl (by decide)
theorem dX11_leaves_14 : decode cX11_leaves 14 = .ok (.bipush (-2), 2) := dk16 (k := 14) bX11_leaves_0 rfl (by decide)
theorem dX11_leaves_16 : decode cX11_leaves 16 = .ok (.ireturn, 1) := dk172 (k := 16) bX11_leaves_0 rfl
theorem dX11_leaves_17 : decode cX11_leaves 17 = .ok (.aload_n 0, 1) := dk42 (k := 17) bX11_leaves_0 rfl
theorem dX11_leaves_18 : decode cX11_leaves 18 = .ok (.getfield 91, 3) := dk180 (k := 18) bX11_leaves_0 rfl rfl
theorem dX11_leaves_21 : decode cX11_leaves 21 = .ok (.iload_n 1, 1) := dk27 (k := 21) bX11_leaves_0 rfl
theorem dX11_leaves_22 : decode cX11_leaves 22 = .ok (.invokevirtual 302, 3) := dk182 (k := 22) bX11_leaves_0 rfl rfl
theorem bX11_leaves_25 : bL cX11_leaves 25 [62, 29, 153, 0, 5, 29, 172, 42, 180, 0, 91, 28, 182, 1, 52, 87, 42, 180, 0, 91, 180, 1, 55, 172] := bL_of (by decide +kernel)
theorem dX11_leaves_25 : decode cX11_leaves 25 = .ok (.istore_n 3, 1) := dk62 (k := 0) bX11_leaves_25 rfl
theorem dX11_leaves_26 : decode cX11_leaves 26 = .ok (.iload_n 3, 1) := dk29 (k := 1) bX11_leaves_25 rfl
theorem dX11_leaves_27 : decode cX11_leaves 27 = .ok (.ifCond .eq 5, 3) := dk153 (k := 2) bX11_leaves_25 rfl (by decide)
theorem dX11_leaves_30 : decode cX11_leaves 30 = .ok (.iload_n 3, 1) := dk29 (k := 5) bX11_leaves_25 rfl
theorem dX11_leaves_31 : decode cX11_leaves 31 = .ok (.ireturn, 1) := dk172 (k := 6) bX11_leaves_25 rfl
theorem dX11_leaves_32 : decode cX11_leaves 32 = .ok (.aload_n 0, 1) := dk42 (k := 7) bX11_leaves_25 rfl
theorem dX11_leaves_33 : decode cX11_leaves 33 = .ok (.getfield 91, 3) := dk180 (k := 8) bX11_leaves_25 rfl rfl
theorem dX11_leaves_36 : decode cX11_leaves 36 = .ok (.iload_n 2, 1) := dk28 (k := 11) bX11_leaves_25 rfl
theorem dX11_leaves_37 : decode cX11_leaves 37 = .ok (.invokevirtual 308, 3) := dk182 (k := 12) bX11_leaves_25 rfl rfl
theorem dX11_leaves_40 : decode cX11_leaves 40 = .ok (.pop, 1) := dk87 (k := 15) bX11_leaves_25 rfl
theorem dX11_leaves_41 : decode cX11_leaves 41 = .ok (.aload_n 0, 1) := dk42 (k := 16) bX11_leaves_25 rfl
theorem dX11_leaves_42 : decode cX11_leaves 42 = .ok (.getfield 91, 3) := dk180 (k := 17) bX11_leaves_25 rfl rfl
theorem dX11_leaves_45 : decode cX11_leaves 45 = .ok (.getfield 311, 3) := dk180 (k := 20) bX11_leaves_25 rfl rfl
theorem dX11_leaves_48 : decode cX11_leaves 48 = .ok (.ireturn, 1) := dk172 (k := 23) bX11_leaves_25 rfl
theorem bX11_doubts_0 : bL cX11_doubts 0 [42, 180, 0, 91, 27, 182, 1, 46, 61, 28, 153, 0, 7, 28, 167, 0, 10, 42, 180, 0, 91, 182, 1, 58] := bL_of (by decide +kernel)
theorem dX11_doubts_0 : decode cX11_doubts 0 = .ok (.aload_n 0, 1) := dk42 (k := 0) bX11_doubts_0 rfl
theorem dX11_doubts_1 : decode cX11_doubts 1 = .ok (.getfield 91, 3) := dk180 (k := 1) bX11_doubts_0 rfl rfl
theorem dX11_doubts_4 : decode cX11_doubts 4 = .ok (.iload_n 1, 1) := dk27 (k := 4) bX11_doubts_0 rfl
theorem dX11_doubts_5 : decode cX11_doubts 5 = .ok (.invokevirtual 302, 3) := dk182 (k := 5) bX11_doubts_0 rfl rfl
theorem dX11_doubts_8 : decode cX11_doubts 8 = .ok (.istore_n 2, 1) := dk61 (k := 8) bX11_doubts_0 rfl
theorem dX11_doubts_9 : decode cX11_doubts 9 = .ok (.iload_n 2, 1) := dk28 (k := 9) bX11_doubts_0 rfl
theorem dX11_doubts_10 : decode cX11_doubts 10 = .ok (.ifCond .eq 7, 3) := dk153 (k := 10) bX11_doubts_0 rfl (by decide)
theorem dX11_doubts_13 : decode cX11_doubts 13 = .ok (.iload_n 2, 1) := dk28 (k := 13) bX11_doubts_0 rfl
theorem dX11_doubts_14 : decode cX11_doubts 14 = .ok (.goto 10, 3) := dk167 (k := 14) bX11_doubts_0 rfl (by decide)
theorem dX11_doubts_17 : decode cX11_doubts 17 = .ok (.aload_n 0, 1) := dk42 (k := 17) bX11_doubts_0 rfl
theorem dX11_doubts_18 : decode cX11_doubts 18 = .ok (.getfield 91, 3) := dk180 (k := 18) bX11_doubts_0 rfl rfl
theorem dX11_doubts_21 : decode cX11_doubts 21 = .ok (.invokevirtual 314, 3) := dk182 (k := 21) bX11_doubts_0 rfl rfl
theorem bX11_doubts_24 : bL cX11_doubts 24 [172] := bL_of (by decide +kernel)
theorem dX11_doubts_24 : decode cX11_doubts 24 = .ok (.ireturn, 1) := dk172 (k := 0) bX11_doubts_24 rfl
theorem bX11_stands_0 : bL cX11_stands 0 [42, 27, 182, 1, 61, 61, 28, 153, 0, 7, 28, 167, 0, 19, 42, 180, 0, 28, 180, 0, 126, 42, 180, 0, 43] := bL_of (by decide +kernel)
theorem dX11_stands_0 : decode cX11_stands 0 = .ok (.aload_n 0, 1) := dk42 (k := 0) bX11_stands_0 rfl
theorem dX11_stands_1 : decode cX11_stands 1 = .ok (.iload_n 1, 1) := dk27 (k := 1) bX11_stands_0 rfl
theorem dX11_stands_2 : decode cX11_stands 2 = .ok (.invokevirtual 317, 3) := dk182 (k := 2) bX11_stands_0 rfl rfl
theorem dX11_stands_5 : decode cX11_stands 5 = .ok (.istore_n 2, 1) := dk61 (k := 5) bX11_stands_0 rfl
theorem dX11_stands_6 : decode cX11_stands 6 = .ok (.iload_n 2, 1) := dk28 (k := 6) bX11_stands_0 rfl
theorem dX11_stands_7 : decode cX11_stands 7 = .ok (.ifCond .eq 7, 3) := dk153 (k := 7) bX11_stands_0 rfl (by decide)
theorem dX11_stands_10 : decode cX11_stands 10 = .ok (.iload_n 2, 1) := dk28 (k := 10) bX11_stands_0 rfl
theorem dX11_stands_11 : decode cX11_stands 11 = .ok (.goto 19, 3) := dk167 (k := 11) bX11_stands_0 rfl (by decide)
theorem dX11_stands_14 : decode cX11_stands 14 = .ok (.aload_n 0, 1) := dk42 (k := 14) bX11_stands_0 rfl
theorem dX11_stands_15 : decode cX11_stands 15 = .ok (.getfield 28, 3) := dk180 (k := 15) bX11_stands_0 rfl rfl
theorem dX11_stands_18 : decode cX11_stands 18 = .ok (.getfield 126, 3) := dk180 (k := 18) bX11_stands_0 rfl rfl
theorem dX11_stands_21 : decode cX11_stands 21 = .ok (.aload_n 0, 1) := dk42 (k := 21) bX11_stands_0 rfl
theorem dX11_stands_22 : decode cX11_stands 22 = .ok (.getfield 43, 3) := dk180 (k := 22) bX11_stands_0 rfl rfl
theorem bX11_stands_25 : bL cX11_stands 25 [27, 3, 182, 1, 64, 172] := bL_of (by decide +kernel)
theorem dX11_stands_25 : decode cX11_stands 25 = .ok (.iload_n 1, 1) := dk27 (k := 0) bX11_stands_25 rfl
theorem dX11_stands_26 : decode cX11_stands 26 = .ok (.iconst 0, 1) := dk3 (k := 1) bX11_stands_25 rfl
theorem dX11_stands_27 : decode cX11_stands 27 = .ok (.invokevirtual 320, 3) := dk182 (k := 2) bX11_stands_25 rfl rfl
theorem dX11_stands_30 : decode cX11_stands 30 = .ok (.ireturn, 1) := dk172 (k := 5) bX11_stands_25 rfl
theorem bX11_struck_0 : bL cX11_struck 0 [28, 155, 0, 8, 28, 4, 164, 0, 6, 16, 254, 172, 42, 27, 182, 1, 61, 62, 29, 153, 0, 7, 29, 167, 0, 21] := bL_of (by decide +kernel)
theorem dX11_struck_0 : decode cX11_struck 0 = .ok (.iload_n 2, 1) := dk28 (k := 0) bX11_struck_0 rfl
theorem dX11_struck_1 : decode cX11_struck 1 = .ok (.ifCond .lt 8, 3) := dk155 (k := 1) bX11_struck_0 rfl (by decide)
theorem dX11_struck_4 : decode cX11_struck 4 = .ok (.iload_n 2, 1) := dk28 (k := 4) bX11_struck_0 rfl
theorem dX11_struck_5 : decode cX11_struck 5 = .ok (.iconst 1, 1) := dk4 (k := 5) bX11_struck_0 rfl
theorem dX11_struck_6 : decode cX11_struck 6 = .ok (.if_icmp .le 6, 3) := dk164 (k := 6) bX11_struck_0 rfl (by decide)
theorem dX11_struck_9 : decode cX11_struck 9 = .ok (.bipush (-2), 2) := dk16 (k := 9) bX11_struck_0 rfl (by decide)
theorem dX11_struck_11 : decode cX11_struck 11 = .ok (.ireturn, 1) := dk172 (k := 11) bX11_struck_0 rfl
theorem dX11_struck_12 : decode cX11_struck 12 = .ok (.aload_n 0, 1) := dk42 (k := 12) bX11_struck_0 rfl
theorem dX11_struck_13 : decode cX11_struck 13 = .ok (.iload_n 1, 1) := dk27 (k := 13) bX11_struck_0 rfl
theorem dX11_struck_14 : decode cX11_struck 14 = .ok (.invokevirtual 317, 3) := dk182 (k := 14) bX11_struck_0 rfl rfl
theorem dX11_struck_17 : decode cX11_struck 17 = .ok (.istore_n 3, 1) := dk62 (k := 17) bX11_struck_0 rfl
theorem dX11_struck_18 : decode cX11_struck 18 = .ok (.iload_n 3, 1) := dk29 (k := 18) bX11_struck_0 rfl
theorem dX11_struck_19 : decode cX11_struck 19 = .ok (.ifCond .eq 7, 3) := dk153 (k := 19) bX11_struck_0 rfl (by decide)
theorem dX11_struck_22 : decode cX11_struck 22 = .ok (.iload_n 3, 1) := dk29 (k := 22) bX11_struck_0 rfl
theorem dX11_struck_23 : decode cX11_struck 23 = .ok (.goto 21, 3) := dk167 (k := 23) bX11_struck_0 rfl (by decide)
theorem bX11_struck_26 : bL cX11_struck 26 [42, 180, 0, 28, 180, 0, 126, 42, 180, 0, 43, 27, 28, 4, 96, 182, 1, 64, 172] := bL_of (by decide +kernel)
theorem dX11_struck_26 : decode cX11_struck 26 = .ok (.aload_n 0, 1) := dk42 (k := 0) bX11_struck_26 rfl
theorem dX11_struck_27 : decode cX11_struck 27 = .ok (.getfield 28, 3) := dk180 (k := 1) bX11_struck_26 rfl rfl
theorem dX11_struck_30 : decode cX11_struck 30 = .ok (.getfield 126, 3) := dk180 (k := 4) bX11_struck_26 rfl rfl
theorem dX11_struck_33 : decode cX11_struck 33 = .ok (.aload_n 0, 1) := dk42 (k := 7) bX11_struck_26 rfl
theorem dX11_struck_34 : decode cX11_struck 34 = .ok (.getfield 43, 3) := dk180 (k := 8) bX11_struck_26 rfl rfl
theorem dX11_struck_37 : decode cX11_struck 37 = .ok (.iload_n 1, 1) := dk27 (k := 11) bX11_struck_26 rfl
theorem dX11_struck_38 : decode cX11_struck 38 = .ok (.iload_n 2, 1) := dk28 (k := 12) bX11_struck_26 rfl
theorem dX11_struck_39 : decode cX11_struck 39 = .ok (.iconst 1, 1) := dk4 (k := 13) bX11_struck_26 rfl
theorem dX11_struck_40 : decode cX11_struck 40 = .ok (.iadd, 1) := dk96 (k := 14) bX11_struck_26 rfl
theorem dX11_struck_41 : decode cX11_struck 41 = .ok (.invokevirtual 320, 3) := dk182 (k := 15) bX11_struck_26 rfl rfl
theorem dX11_struck_44 : decode cX11_struck 44 = .ok (.ireturn, 1) := dk172 (k := 18) bX11_struck_26 rfl
theorem bX11_drawn_0 : bL cX11_drawn 0 [42, 27, 28, 182, 1, 68, 153, 0, 12, 29, 155, 0, 8, 29, 5, 164, 0, 6, 16, 254, 172, 42, 180, 0, 82] := bL_of (by decide +kernel)
theorem dX11_drawn_0 : decode cX11_drawn 0 = .ok (.aload_n 0, 1) := dk42 (k := 0) bX11_drawn_0 rfl
theorem dX11_drawn_1 : decode cX11_drawn 1 = .ok (.iload_n 1, 1) := dk27 (k := 1) bX11_drawn_0 rfl
theorem dX11_drawn_2 : decode cX11_drawn 2 = .ok (.iload_n 2, 1) := dk28 (k := 2) bX11_drawn_0 rfl
theorem dX11_drawn_3 : decode cX11_drawn 3 = .ok (.invokevirtual 324, 3) := dk182 (k := 3) bX11_drawn_0 rfl rfl
theorem dX11_drawn_6 : decode cX11_drawn 6 = .ok (.ifCond .eq 12, 3) := dk153 (k := 6) bX11_drawn_0 rfl (by decide)
theorem dX11_drawn_9 : decode cX11_drawn 9 = .ok (.iload_n 3, 1) := dk29 (k := 9) bX11_drawn_0 rfl
theorem dX11_drawn_10 : decode cX11_drawn 10 = .ok (.ifCond .lt 8, 3) := dk155 (k := 10) bX11_drawn_0 rfl (by decide)
theorem dX11_drawn_13 : decode cX11_drawn 13 = .ok (.iload_n 3, 1) := dk29 (k := 13) bX11_drawn_0 rfl
theorem dX11_drawn_14 : decode cX11_drawn 14 = .ok (.iconst 2, 1) := dk5 (k := 14) bX11_drawn_0 rfl
theorem dX11_drawn_15 : decode cX11_drawn 15 = .ok (.if_icmp .le 6, 3) := dk164 (k := 15) bX11_drawn_0 rfl (by decide)
theorem dX11_drawn_18 : decode cX11_drawn 18 = .ok (.bipush (-2), 2) := dk16 (k := 18) bX11_drawn_0 rfl (by decide)
theorem dX11_drawn_20 : decode cX11_drawn 20 = .ok (.ireturn, 1) := dk172 (k := 20) bX11_drawn_0 rfl
theorem dX11_drawn_21 : decode cX11_drawn 21 = .ok (.aload_n 0, 1) := dk42 (k := 21) bX11_drawn_0 rfl
theorem dX11_drawn_22 : decode cX11_drawn 22 = .ok (.getfield 82, 3) := dk180 (k := 22) bX11_drawn_0 rfl rfl
theorem bX11_drawn_25 : bL cX11_drawn 25 [27, 28, 16, 40, 182, 1, 71, 54, 4, 29, 154, 0, 6, 21, 4, 172, 29, 4, 160, 0, 13, 42, 180, 0, 50] := bL_of (by decide +kernel)
theorem dX11_drawn_25 : decode cX11_drawn 25 = .ok (.iload_n 1, 1) := dk27 (k := 0) bX11_drawn_25 rfl
theorem dX11_drawn_26 : decode cX11_drawn 26 = .ok (.iload_n 2, 1) := dk28 (k := 1) bX11_drawn_25 rfl
theorem dX11_drawn_27 : decode cX11_drawn 27 = .ok (.bipush 40, 2) := dk16 (k := 2) bX11_drawn_25 rfl (by decide)
theorem dX11_drawn_29 : decode cX11_drawn 29 = .ok (.invokevirtual 327, 3) := dk182 (k := 4) bX11_drawn_25 rfl rfl
theorem dX11_drawn_32 : decode cX11_drawn 32 = .ok (.istore 4, 2) := dk54 (k := 7) bX11_drawn_25 rfl rfl
theorem dX11_drawn_34 : decode cX11_drawn 34 = .ok (.iload_n 3, 1) := dk29 (k := 9) bX11_drawn_25 rfl
theorem dX11_drawn_35 : decode cX11_drawn 35 = .ok (.ifCond .ne 6, 3) := dk154 (k := 10) bX11_drawn_25 rfl (by decide)
theorem dX11_drawn_38 : decode cX11_drawn 38 = .ok (.iload 4, 2) := dk21 (k := 13) bX11_drawn_25 rfl rfl
theorem dX11_drawn_40 : decode cX11_drawn 40 = .ok (.ireturn, 1) := dk172 (k := 15) bX11_drawn_25 rfl
theorem dX11_drawn_41 : decode cX11_drawn 41 = .ok (.iload_n 3, 1) := dk29 (k := 16) bX11_drawn_25 rfl
theorem dX11_drawn_42 : decode cX11_drawn 42 = .ok (.iconst 1, 1) := dk4 (k := 17) bX11_drawn_25 rfl
theorem dX11_drawn_43 : decode cX11_drawn 43 = .ok (.if_icmp .ne 13, 3) := dk160 (k := 18) bX11_drawn_25 rfl (by decide)
theorem dX11_drawn_46 : decode cX11_drawn 46 = .ok (.aload_n 0, 1) := dk42 (k := 21) bX11_drawn_25 rfl
theorem dX11_drawn_47 : decode cX11_drawn 47 = .ok (.getfield 50, 3) := dk180 (k := 22) bX11_drawn_25 rfl rfl
theorem bX11_drawn_50 : bL cX11_drawn 50 [182, 0, 187, 167, 0, 17, 42, 180, 0, 28, 180, 0, 126, 42, 180, 0, 50, 182, 0, 180, 172] := bL_of (by decide +kernel)
theorem dX11_drawn_50 : decode cX11_drawn 50 = .ok (.invokevirtual 187, 3) := dk182 (k := 0) bX11_drawn_50 rfl rfl
theorem dX11_drawn_53 : decode cX11_drawn 53 = .ok (.goto 17, 3) := dk167 (k := 3) bX11_drawn_50 rfl (by decide)
theorem dX11_drawn_56 : decode cX11_drawn 56 = .ok (.aload_n 0, 1) := dk42 (k := 6) bX11_drawn_50 rfl
theorem dX11_drawn_57 : decode cX11_drawn 57 = .ok (.getfield 28, 3) := dk180 (k := 7) bX11_drawn_50 rfl rfl
theorem dX11_drawn_60 : decode cX11_drawn 60 = .ok (.getfield 126, 3) := dk180 (k := 10) bX11_drawn_50 rfl rfl
theorem dX11_drawn_63 : decode cX11_drawn 63 = .ok (.aload_n 0, 1) := dk42 (k := 13) bX11_drawn_50 rfl
theorem dX11_drawn_64 : decode cX11_drawn 64 = .ok (.getfield 50, 3) := dk180 (k := 14) bX11_drawn_50 rfl rfl
theorem dX11_drawn_67 : decode cX11_drawn 67 = .ok (.invokevirtual 180, 3) := dk182 (k := 17) bX11_drawn_50 rfl rfl
theorem dX11_drawn_70 : decode cX11_drawn 70 = .ok (.ireturn, 1) := dk172 (k := 20) bX11_drawn_50 rfl
theorem bX11_luck_0 : bL cX11_luck 0 [42, 27, 29, 182, 1, 68, 153, 0, 14, 28, 4, 161, 0, 9, 28, 16, 20, 164, 0, 6, 16, 254, 172, 3] := bL_of (by decide +kernel)
theorem dX11_luck_0 : decode cX11_luck 0 = .ok (.aload_n 0, 1) := dk42 (k := 0) bX11_luck_0 rfl
theorem dX11_luck_1 : decode cX11_luck 1 = .ok (.iload_n 1, 1) := dk27 (k := 1) bX11_luck_0 rfl
theorem dX11_luck_2 : decode cX11_luck 2 = .ok (.iload_n 3, 1) := dk29 (k := 2) bX11_luck_0 rfl
theorem dX11_luck_3 : decode cX11_luck 3 = .ok (.invokevirtual 324, 3) := dk182 (k := 3) bX11_luck_0 rfl rfl
theorem dX11_luck_6 : decode cX11_luck 6 = .ok (.ifCond .eq 14, 3) := dk153 (k := 6) bX11_luck_0 rfl (by decide)
theorem dX11_luck_9 : decode cX11_luck 9 = .ok (.iload_n 2, 1) := dk28 (k := 9) bX11_luck_0 rfl
theorem dX11_luck_10 : decode cX11_luck 10 = .ok (.iconst 1, 1) := dk4 (k := 10) bX11_luck_0 rfl
theorem dX11_luck_11 : decode cX11_luck 11 = .ok (.if_icmp .lt 9, 3) := dk161 (k := 11) bX11_luck_0 rfl (by decide)
theorem dX11_luck_14 : decode cX11_luck 14 = .ok (.iload_n 2, 1) := dk28 (k := 14) bX11_luck_0 rfl
theorem dX11_luck_15 : decode cX11_luck 15 = .ok (.bipush 20, 2) := dk16 (k := 15) bX11_luck_0 rfl (by decide)
theorem dX11_luck_17 : decode cX11_luck 17 = .ok (.if_icmp .le 6, 3) := dk164 (k := 17) bX11_luck_0 rfl (by decide)
theorem dX11_luck_20 : decode cX11_luck 20 = .ok (.bipush (-2), 2) := dk16 (k := 20) bX11_luck_0 rfl (by decide)
theorem dX11_luck_22 : decode cX11_luck 22 = .ok (.ireturn, 1) := dk172 (k := 22) bX11_luck_0 rfl
theorem dX11_luck_23 : decode cX11_luck 23 = .ok (.iconst 0, 1) := dk3 (k := 23) bX11_luck_0 rfl
theorem bX11_luck_24 : bL cX11_luck 24 [54, 4, 3, 54, 5, 21, 5, 28, 162, 0, 28, 42, 180, 0, 82, 27, 21, 5, 96, 29, 4, 182, 1, 71] := bL_of (by decide +kernel)
theorem dX11_luck_24 : decode cX11_luck 24 = .ok (.istore 4, 2) := dk54 (k := 0) bX11_luck_24 rfl rfl
theorem dX11_luck_26 : decode cX11_luck 26 = .ok (.iconst 0, 1) := dk3 (k := 2) bX11_luck_24 rfl
theorem dX11_luck_27 : decode cX11_luck 27 = .ok (.istore 5, 2) := dk54 (k := 3) bX11_luck_24 rfl rfl
theorem dX11_luck_29 : decode cX11_luck 29 = .ok (.iload 5, 2) := dk21 (k := 5) bX11_luck_24 rfl rfl
theorem dX11_luck_31 : decode cX11_luck 31 = .ok (.iload_n 2, 1) := dk28 (k := 7) bX11_luck_24 rfl
theorem dX11_luck_32 : decode cX11_luck 32 = .ok (.if_icmp .ge 28, 3) := dk162 (k := 8) bX11_luck_24 rfl (by decide)
theorem dX11_luck_35 : decode cX11_luck 35 = .ok (.aload_n 0, 1) := dk42 (k := 11) bX11_luck_24 rfl
theorem dX11_luck_36 : decode cX11_luck 36 = .ok (.getfield 82, 3) := dk180 (k := 12) bX11_luck_24 rfl rfl
theorem dX11_luck_39 : decode cX11_luck 39 = .ok (.iload_n 1, 1) := dk27 (k := 15) bX11_luck_24 rfl
theorem dX11_luck_40 : decode cX11_luck 40 = .ok (.iload 5, 2) := dk21 (k := 16) bX11_luck_24 rfl rfl
theorem dX11_luck_42 : decode cX11_luck 42 = .ok (.iadd, 1) := dk96 (k := 18) bX11_luck_24 rfl
theorem dX11_luck_43 : decode cX11_luck 43 = .ok (.iload_n 3, 1) := dk29 (k := 19) bX11_luck_24 rfl
theorem dX11_luck_44 : decode cX11_luck 44 = .ok (.iconst 1, 1) := dk4 (k := 20) bX11_luck_24 rfl
theorem dX11_luck_45 : decode cX11_luck 45 = .ok (.invokevirtual 327, 3) := dk182 (k := 21) bX11_luck_24 rfl rfl
theorem bX11_luck_48 : bL cX11_luck 48 [158, 0, 6, 132, 4, 1, 132, 5, 1, 167, 255, 228, 21, 4, 172] := bL_of (by decide +kernel)
theorem dX11_luck_48 : decode cX11_luck 48 = .ok (.ifCond .le 6, 3) := dk158 (k := 0) bX11_luck_48 rfl (by decide)
theorem dX11_luck_51 : decode cX11_luck 51 = .ok (.iinc 4 1, 3) := dk132 (k := 3) bX11_luck_48 rfl rfl (by decide)
theorem dX11_luck_54 : decode cX11_luck 54 = .ok (.iinc 5 1, 3) := dk132 (k := 6) bX11_luck_48 rfl rfl (by decide)
theorem dX11_luck_57 : decode cX11_luck 57 = .ok (.goto (-28), 3) := dk167 (k := 9) bX11_luck_48 rfl (by decide)
theorem dX11_luck_60 : decode cX11_luck 60 = .ok (.iload 4, 2) := dk21 (k := 12) bX11_luck_48 rfl rfl
theorem dX11_luck_62 : decode cX11_luck 62 = .ok (.ireturn, 1) := dk172 (k := 14) bX11_luck_48 rfl
theorem bX11_tell_0 : bL cX11_tell 0 [42, 27, 182, 1, 37, 154, 0, 6, 16, 254, 172, 42, 180, 0, 28, 180, 0, 200, 158, 0, 6, 16, 251, 172] := bL_of (by decide +kernel)
theorem dX11_tell_0 : decode cX11_tell 0 = .ok (.aload_n 0, 1) := dk42 (k := 0) bX11_tell_0 rfl
theorem dX11_tell_1 : decode cX11_tell 1 = .ok (.iload_n 1, 1) := dk27 (k := 1) bX11_tell_0 rfl
theorem dX11_tell_2 : decode cX11_tell 2 = .ok (.invokevirtual 293, 3) := dk182 (k := 2) bX11_tell_0 rfl rfl
theorem dX11_tell_5 : decode cX11_tell 5 = .ok (.ifCond .ne 6, 3) := dk154 (k := 5) bX11_tell_0 rfl (by decide)
theorem dX11_tell_8 : decode cX11_tell 8 = .ok (.bipush (-2), 2) := dk16 (k := 8) bX11_tell_0 rfl (by decide)
theorem dX11_tell_10 : decode cX11_tell 10 = .ok (.ireturn, 1) := dk172 (k := 10) bX11_tell_0 rfl
theorem dX11_tell_11 : decode cX11_tell 11 = .ok (.aload_n 0, 1) := dk42 (k := 11) bX11_tell_0 rfl
theorem dX11_tell_12 : decode cX11_tell 12 = .ok (.getfield 28, 3) := dk180 (k := 12) bX11_tell_0 rfl rfl
theorem dX11_tell_15 : decode cX11_tell 15 = .ok (.getfield 200, 3) := dk180 (k := 15) bX11_tell_0 rfl rfl
theorem dX11_tell_18 : decode cX11_tell 18 = .ok (.ifCond .le 6, 3) := dk158 (k := 18) bX11_tell_0 rfl (by decide)
theorem dX11_tell_21 : decode cX11_tell 21 = .ok (.bipush (-5), 2) := dk16 (k := 21) bX11_tell_0 rfl (by decide)
theorem dX11_tell_23 : decode cX11_tell 23 = .ok (.ireturn, 1) := dk172 (k := 23) bX11_tell_0 rfl
theorem bX11_tell_24 : bL cX11_tell 24 [42, 180, 0, 28, 180, 1, 74, 61, 42, 180, 0, 28, 27, 181, 1, 74, 28, 172] := bL_of (by decide +kernel)
theorem dX11_tell_24 : decode cX11_tell 24 = .ok (.aload_n 0, 1) := dk42 (k := 0) bX11_tell_24 rfl
theorem dX11_tell_25 : decode cX11_tell 25 = .ok (.getfield 28, 3) := dk180 (k := 1) bX11_tell_24 rfl rfl
theorem dX11_tell_28 : decode cX11_tell 28 = .ok (.getfield 330, 3) := dk180 (k := 4) bX11_tell_24 rfl rfl
theorem dX11_tell_31 : decode cX11_tell 31 = .ok (.istore_n 2, 1) := dk61 (k := 7) bX11_tell_24 rfl
theorem dX11_tell_32 : decode cX11_tell 32 = .ok (.aload_n 0, 1) := dk42 (k := 8) bX11_tell_24 rfl
theorem dX11_tell_33 : decode cX11_tell 33 = .ok (.getfield 28, 3) := dk180 (k := 9) bX11_tell_24 rfl rfl
theorem dX11_tell_36 : decode cX11_tell 36 = .ok (.iload_n 1, 1) := dk27 (k := 12) bX11_tell_24 rfl
theorem dX11_tell_37 : decode cX11_tell 37 = .ok (.putfield 330, 3) := dk181 (k := 13) bX11_tell_24 rfl rfl
theorem dX11_tell_40 : decode cX11_tell 40 = .ok (.iload_n 2, 1) := dk28 (k := 16) bX11_tell_24 rfl
theorem dX11_tell_41 : decode cX11_tell 41 = .ok (.ireturn, 1) := dk172 (k := 17) bX11_tell_24 rfl
theorem bX11_likes_0 : bL cX11_likes 0 [42, 180, 0, 28, 180, 0, 126, 27, 182, 0, 130, 153, 0, 22, 28, 155, 0, 18, 28, 5, 163, 0, 13, 29] := bL_of (by decide +kernel)
theorem dX11_likes_0 : decode cX11_likes 0 = .ok (.aload_n 0, 1) := dk42 (k := 0) bX11_likes_0 rfl
theorem dX11_likes_1 : decode cX11_likes 1 = .ok (.getfield 28, 3) := dk180 (k := 1) bX11_likes_0 rfl rfl
theorem dX11_likes_4 : decode cX11_likes 4 = .ok (.getfield 126, 3) := dk180 (k := 4) bX11_likes_0 rfl rfl
theorem dX11_likes_7 : decode cX11_likes 7 = .ok (.iload_n 1, 1) := dk27 (k := 7) bX11_likes_0 rfl
theorem dX11_likes_8 : decode cX11_likes 8 = .ok (.invokevirtual 130, 3) := dk182 (k := 8) bX11_likes_0 rfl rfl
theorem dX11_likes_11 : decode cX11_likes 11 = .ok (.ifCond .eq 22, 3) := dk153 (k := 11) bX11_likes_0 rfl (by decide)
theorem dX11_likes_14 : decode cX11_likes 14 = .ok (.iload_n 2, 1) := dk28 (k := 14) bX11_likes_0 rfl
theorem dX11_likes_15 : decode cX11_likes 15 = .ok (.ifCond .lt 18, 3) := dk155 (k := 15) bX11_likes_0 rfl (by decide)
theorem dX11_likes_18 : decode cX11_likes 18 = .ok (.iload_n 2, 1) := dk28 (k := 18) bX11_likes_0 rfl
theorem dX11_likes_19 : decode cX11_likes 19 = .ok (.iconst 2, 1) := dk5 (k := 19) bX11_likes_0 rfl
theorem dX11_likes_20 : decode cX11_likes 20 = .ok (.if_icmp .gt 13, 3) := dk163 (k := 20) bX11_likes_0 rfl (by decide)
theorem dX11_likes_23 : decode cX11_likes 23 = .ok (.iload_n 3, 1) := dk29 (k := 23) bX11_likes_0 rfl
theorem bX11_likes_24 : bL cX11_likes 24 [155, 0, 9, 29, 16, 9, 164, 0, 6, 16, 254, 172, 42, 180, 0, 28, 180, 0, 200, 158, 0, 6, 16, 251] := bL_of (by decide +kernel)
theorem dX11_likes_24 : decode cX11_likes 24 = .ok (.ifCond .lt 9, 3) := dk155 (k := 0) bX11_likes_24 rfl (by decide)
theorem dX11_likes_27 : decode cX11_likes 27 = .ok (.iload_n 3, 1) := dk29 (k := 3) bX11_likes_24 rfl
theorem dX11_likes_28 : decode cX11_likes 28 = .ok (.bipush 9, 2) := dk16 (k := 4) bX11_likes_24 rfl (by decide)
theorem dX11_likes_30 : decode cX11_likes 30 = .ok (.if_icmp .le 6, 3) := dk164 (k := 6) bX11_likes_24 rfl (by decide)
theorem dX11_likes_33 : decode cX11_likes 33 = .ok (.bipush (-2), 2) := dk16 (k := 9) bX11_likes_24 rfl (by decide)
theorem dX11_likes_35 : decode cX11_likes 35 = .ok (.ireturn, 1) := dk172 (k := 11) bX11_likes_24 rfl
theorem dX11_likes_36 : decode cX11_likes 36 = .ok (.aload_n 0, 1) := dk42 (k := 12) bX11_likes_24 rfl
theorem dX11_likes_37 : decode cX11_likes 37 = .ok (.getfield 28, 3) := dk180 (k := 13) bX11_likes_24 rfl rfl
theorem dX11_likes_40 : decode cX11_likes 40 = .ok (.getfield 200, 3) := dk180 (k := 16) bX11_likes_24 rfl rfl
theorem dX11_likes_43 : decode cX11_likes 43 = .ok (.ifCond .le 6, 3) := dk158 (k := 19) bX11_likes_24 rfl (by decide)
theorem dX11_likes_46 : decode cX11_likes 46 = .ok (.bipush (-5), 2) := dk16 (k := 22) bX11_likes_24 rfl (by decide)
theorem bX11_likes_48 : bL cX11_likes 48 [172, 42, 180, 0, 28, 180, 0, 126, 27, 5, 28, 96, 182, 0, 135, 54, 4, 42, 180, 0, 28, 180, 0, 126] := bL_of (by decide +kernel)
theorem dX11_likes_48 : decode cX11_likes 48 = .ok (.ireturn, 1) := dk172 (k := 0) bX11_likes_48 rfl
theorem dX11_likes_49 : decode cX11_likes 49 = .ok (.aload_n 0, 1) := dk42 (k := 1) bX11_likes_48 rfl
theorem dX11_likes_50 : decode cX11_likes 50 = .ok (.getfield 28, 3) := dk180 (k := 2) bX11_likes_48 rfl rfl
theorem dX11_likes_53 : decode cX11_likes 53 = .ok (.getfield 126, 3) := dk180 (k := 5) bX11_likes_48 rfl rfl
theorem dX11_likes_56 : decode cX11_likes 56 = .ok (.iload_n 1, 1) := dk27 (k := 8) bX11_likes_48 rfl
theorem dX11_likes_57 : decode cX11_likes 57 = .ok (.iconst 2, 1) := dk5 (k := 9) bX11_likes_48 rfl
theorem dX11_likes_58 : decode cX11_likes 58 = .ok (.iload_n 2, 1) := dk28 (k := 10) bX11_likes_48 rfl
theorem dX11_likes_59 : decode cX11_likes 59 = .ok (.iadd, 1) := dk96 (k := 11) bX11_likes_48 rfl
theorem dX11_likes_60 : decode cX11_likes 60 = .ok (.invokevirtual 135, 3) := dk182 (k := 12) bX11_likes_48 rfl rfl
theorem dX11_likes_63 : decode cX11_likes 63 = .ok (.istore 4, 2) := dk54 (k := 15) bX11_likes_48 rfl rfl
theorem dX11_likes_65 : decode cX11_likes 65 = .ok (.aload_n 0, 1) := dk42 (k := 17) bX11_likes_48 rfl
theorem dX11_likes_66 : decode cX11_likes 66 = .ok (.getfield 28, 3) := dk180 (k := 18) bX11_likes_48 rfl rfl
theorem dX11_likes_69 : decode cX11_likes 69 = .ok (.getfield 126, 3) := dk180 (k := 21) bX11_likes_48 rfl rfl
theorem bX11_likes_72 : bL cX11_likes 72 [27, 5, 28, 96, 29, 182, 1, 77, 21, 4, 172] := bL_of (by decide +kernel)
theorem dX11_likes_72 : decode cX11_likes 72 = .ok (.iload_n 1, 1) := dk27 (k := 0) bX11_likes_72 rfl
theorem dX11_likes_73 : decode cX11_likes 73 = .ok (.iconst 2, 1) := dk5 (k := 1) bX11_likes_72 rfl
theorem dX11_likes_74 : decode cX11_likes 74 = .ok (.iload_n 2, 1) := dk28 (k := 2) bX11_likes_72 rfl
theorem dX11_likes_75 : decode cX11_likes 75 = .ok (.iadd, 1) := dk96 (k := 3) bX11_likes_72 rfl
theorem dX11_likes_76 : decode cX11_likes 76 = .ok (.iload_n 3, 1) := dk29 (k := 4) bX11_likes_72 rfl
theorem dX11_likes_77 : decode cX11_likes 77 = .ok (.invokevirtual 333, 3) := dk182 (k := 5) bX11_likes_72 rfl rfl
theorem dX11_likes_80 : decode cX11_likes 80 = .ok (.iload 4, 2) := dk21 (k := 8) bX11_likes_72 rfl rfl
theorem dX11_likes_82 : decode cX11_likes 82 = .ok (.ireturn, 1) := dk172 (k := 10) bX11_likes_72 rfl
theorem bX11_count_0 : bL cX11_count 0 [27] := bL_of (by decide +kernel)
theorem dX11_count_0 : decode cX11_count 0 = .ok (.iload_n 1, 1) := dk27 (k := 0) bX11_count_0 rfl
theorem dX11_count_1 : decode cX11_count 1 = .ok (.tableswitch 147 0 9 #[55, 66, 77, 88, 99, 107, 115, 123, 131, 139], 55) := by decide +kernel
theorem bX11_count_56 : bL cX11_count 56 [42, 180, 0, 28, 180, 0, 139, 180, 1, 81, 172, 42, 180, 0, 28, 180, 0, 126, 180, 1, 84, 172, 42, 180, 0, 28] := bL_of (by decide +kernel)
theorem dX11_count_56 : decode cX11_count 56 = .ok (.aload_n 0, 1) := dk42 (k := 0) bX11_count_56 rfl
theorem dX11_count_57 : decode cX11_count 57 = .ok (.getfield 28, 3) := dk180 (k := 1) bX11_count_56 rfl rfl
theorem dX11_count_60 : decode cX11_count 60 = .ok (.getfield 139, 3) := dk180 (k := 4) bX11_count_56 rfl rfl
theorem dX11_count_63 : decode cX11_count 63 = .ok (.getfield 337, 3) := dk180 (k := 7) bX11_count_56 rfl rfl
theorem dX11_count_66 : decode cX11_count 66 = .ok (.ireturn, 1) := dk172 (k := 10) bX11_count_56 rfl
theorem dX11_count_67 : decode cX11_count 67 = .ok (.aload_n 0, 1) := dk42 (k := 11) bX11_count_56 rfl
theorem dX11_count_68 : decode cX11_count 68 = .ok (.getfield 28, 3) := dk180 (k := 12) bX11_count_56 rfl rfl
theorem dX11_count_71 : decode cX11_count 71 = .ok (.getfield 126, 3) := dk180 (k := 15) bX11_count_56 rfl rfl
theorem dX11_count_74 : decode cX11_count 74 = .ok (.getfield 340, 3) := dk180 (k := 18) bX11_count_56 rfl rfl
theorem dX11_count_77 : decode cX11_count 77 = .ok (.ireturn, 1) := dk172 (k := 21) bX11_count_56 rfl
theorem dX11_count_78 : decode cX11_count 78 = .ok (.aload_n 0, 1) := dk42 (k := 22) bX11_count_56 rfl
theorem dX11_count_79 : decode cX11_count 79 = .ok (.getfield 28, 3) := dk180 (k := 23) bX11_count_56 rfl rfl
theorem bX11_count_82 : bL cX11_count 82 [180, 0, 139, 180, 1, 85, 172, 42, 180, 0, 28, 180, 0, 139, 180, 1, 88, 172, 42, 180, 0, 28, 180, 1, 74] := bL_of (by decide +kernel)
theorem dX11_count_82 : decode cX11_count 82 = .ok (.getfield 139, 3) := dk180 (k := 0) bX11_count_82 rfl rfl
theorem dX11_count_85 : decode cX11_count 85 = .ok (.getfield 341, 3) := dk180 (k := 3) bX11_count_82 rfl rfl
theorem dX11_count_88 : decode cX11_count 88 = .ok (.ireturn, 1) := dk172 (k := 6) bX11_count_82 rfl
theorem dX11_count_89 : decode cX11_count 89 = .ok (.aload_n 0, 1) := dk42 (k := 7) bX11_count_82 rfl
theorem dX11_count_90 : decode cX11_count 90 = .ok (.getfield 28, 3) := dk180 (k := 8) bX11_count_82 rfl rfl
theorem dX11_count_93 : decode cX11_count 93 = .ok (.getfield 139, 3) := dk180 (k := 11) bX11_count_82 rfl rfl
theorem dX11_count_96 : decode cX11_count 96 = .ok (.getfield 344, 3) := dk180 (k := 14) bX11_count_82 rfl rfl
theorem dX11_count_99 : decode cX11_count 99 = .ok (.ireturn, 1) := dk172 (k := 17) bX11_count_82 rfl
theorem dX11_count_100 : decode cX11_count 100 = .ok (.aload_n 0, 1) := dk42 (k := 18) bX11_count_82 rfl
theorem dX11_count_101 : decode cX11_count 101 = .ok (.getfield 28, 3) := dk180 (k := 19) bX11_count_82 rfl rfl
theorem dX11_count_104 : decode cX11_count 104 = .ok (.getfield 330, 3) := dk180 (k := 22) bX11_count_82 rfl rfl
theorem bX11_count_107 : bL cX11_count 107 [172, 42, 180, 0, 28, 180, 1, 91, 172, 42, 180, 0, 28, 180, 0, 117, 172, 42, 180, 0, 10, 180, 0, 103] := bL_of (by decide +kernel)
theorem dX11_count_107 : decode cX11_count 107 = .ok (.ireturn, 1) := dk172 (k := 0) bX11_count_107 rfl
theorem dX11_count_108 : decode cX11_count 108 = .ok (.aload_n 0, 1) := dk42 (k := 1) bX11_count_107 rfl
theorem dX11_count_109 : decode cX11_count 109 = .ok (.getfield 28, 3) := dk180 (k := 2) bX11_count_107 rfl rfl
theorem dX11_count_112 : decode cX11_count 112 = .ok (.getfield 347, 3) := dk180 (k := 5) bX11_count_107 rfl rfl
theorem dX11_count_115 : decode cX11_count 115 = .ok (.ireturn, 1) := dk172 (k := 8) bX11_count_107 rfl
theorem dX11_count_116 : decode cX11_count 116 = .ok (.aload_n 0, 1) := dk42 (k := 9) bX11_count_107 rfl
theorem dX11_count_117 : decode cX11_count 117 = .ok (.getfield 28, 3) := dk180 (k := 10) bX11_count_107 rfl rfl
theorem dX11_count_120 : decode cX11_count 120 = .ok (.getfield 117, 3) := dk180 (k := 13) bX11_count_107 rfl rfl
theorem dX11_count_123 : decode cX11_count 123 = .ok (.ireturn, 1) := dk172 (k := 16) bX11_count_107 rfl
theorem dX11_count_124 : decode cX11_count 124 = .ok (.aload_n 0, 1) := dk42 (k := 17) bX11_count_107 rfl
theorem dX11_count_125 : decode cX11_count 125 = .ok (.getfield 10, 3) := dk180 (k := 18) bX11_count_107 rfl rfl
theorem dX11_count_128 : decode cX11_count 128 = .ok (.getfield 103, 3) := dk180 (k := 21) bX11_count_107 rfl rfl
theorem bX11_count_131 : bL cX11_count 131 [172, 42, 180, 0, 28, 180, 0, 200, 172, 42, 180, 0, 43, 182, 1, 94, 172, 2, 172] := bL_of (by decide +kernel)
theorem dX11_count_131 : decode cX11_count 131 = .ok (.ireturn, 1) := dk172 (k := 0) bX11_count_131 rfl
theorem dX11_count_132 : decode cX11_count 132 = .ok (.aload_n 0, 1) := dk42 (k := 1) bX11_count_131 rfl
theorem dX11_count_133 : decode cX11_count 133 = .ok (.getfield 28, 3) := dk180 (k := 2) bX11_count_131 rfl rfl
theorem dX11_count_136 : decode cX11_count 136 = .ok (.getfield 200, 3) := dk180 (k := 5) bX11_count_131 rfl rfl
theorem dX11_count_139 : decode cX11_count 139 = .ok (.ireturn, 1) := dk172 (k := 8) bX11_count_131 rfl
theorem dX11_count_140 : decode cX11_count 140 = .ok (.aload_n 0, 1) := dk42 (k := 9) bX11_count_131 rfl
theorem dX11_count_141 : decode cX11_count 141 = .ok (.getfield 43, 3) := dk180 (k := 10) bX11_count_131 rfl rfl
theorem dX11_count_144 : decode cX11_count 144 = .ok (.invokevirtual 350, 3) := dk182 (k := 13) bX11_count_131 rfl rfl
theorem dX11_count_147 : decode cX11_count 147 = .ok (.ireturn, 1) := dk172 (k := 16) bX11_count_131 rfl
theorem dX11_count_148 : decode cX11_count 148 = .ok (.iconst (-1), 1) := dk2 (k := 17) bX11_count_131 rfl
theorem dX11_count_149 : decode cX11_count 149 = .ok (.ireturn, 1) := dk172 (k := 18) bX11_count_131 rfl
theorem bX11_image_0 : bL cX11_image 0 [27, 155, 0, 8, 27, 6, 161, 0, 6, 16, 254, 172, 42, 180, 0, 32, 27, 50, 42, 180, 0, 28, 182, 0, 114] := bL_of (by decide +kernel)
theorem dX11_image_0 : decode cX11_image 0 = .ok (.iload_n 1, 1) := dk27 (k := 0) bX11_image_0 rfl
theorem dX11_image_1 : decode cX11_image 1 = .ok (.ifCond .lt 8, 3) := dk155 (k := 1) bX11_image_0 rfl (by decide)
theorem dX11_image_4 : decode cX11_image 4 = .ok (.iload_n 1, 1) := dk27 (k := 4) bX11_image_0 rfl
theorem dX11_image_5 : decode cX11_image 5 = .ok (.iconst 3, 1) := dk6 (k := 5) bX11_image_0 rfl
theorem dX11_image_6 : decode cX11_image 6 = .ok (.if_icmp .lt 6, 3) := dk161 (k := 6) bX11_image_0 rfl (by decide)
theorem dX11_image_9 : decode cX11_image 9 = .ok (.bipush (-2), 2) := dk16 (k := 9) bX11_image_0 rfl (by decide)
theorem dX11_image_11 : decode cX11_image 11 = .ok (.ireturn, 1) := dk172 (k := 11) bX11_image_0 rfl
theorem dX11_image_12 : decode cX11_image 12 = .ok (.aload_n 0, 1) := dk42 (k := 12) bX11_image_0 rfl
theorem dX11_image_13 : decode cX11_image 13 = .ok (.getfield 32, 3) := dk180 (k := 13) bX11_image_0 rfl rfl
theorem dX11_image_16 : decode cX11_image 16 = .ok (.iload_n 1, 1) := dk27 (k := 16) bX11_image_0 rfl
theorem dX11_image_17 : decode cX11_image 17 = .ok (.aaload, 1) := dk50 (k := 17) bX11_image_0 rfl
theorem dX11_image_18 : decode cX11_image 18 = .ok (.aload_n 0, 1) := dk42 (k := 18) bX11_image_0 rfl
theorem dX11_image_19 : decode cX11_image 19 = .ok (.getfield 28, 3) := dk180 (k := 19) bX11_image_0 rfl rfl
theorem dX11_image_22 : decode cX11_image 22 = .ok (.invokevirtual 114, 3) := dk182 (k := 22) bX11_image_0 rfl rfl
theorem bX11_image_25 : bL cX11_image 25 [42, 180, 0, 36, 27, 4, 84, 3, 172] := bL_of (by decide +kernel)
theorem dX11_image_25 : decode cX11_image 25 = .ok (.aload_n 0, 1) := dk42 (k := 0) bX11_image_25 rfl
theorem dX11_image_26 : decode cX11_image 26 = .ok (.getfield 36, 3) := dk180 (k := 1) bX11_image_25 rfl rfl
theorem dX11_image_29 : decode cX11_image 29 = .ok (.iload_n 1, 1) := dk27 (k := 4) bX11_image_25 rfl
theorem dX11_image_30 : decode cX11_image 30 = .ok (.iconst 1, 1) := dk4 (k := 5) bX11_image_25 rfl
theorem dX11_image_31 : decode cX11_image 31 = .ok (.bastore, 1) := dk84 (k := 6) bX11_image_25 rfl
theorem dX11_image_32 : decode cX11_image 32 = .ok (.iconst 0, 1) := dk3 (k := 7) bX11_image_25 rfl
theorem dX11_image_33 : decode cX11_image 33 = .ok (.ireturn, 1) := dk172 (k := 8) bX11_image_25 rfl
theorem bX11_back_0 : bL cX11_back 0 [27, 155, 0, 8, 27, 6, 161, 0, 6, 16, 254, 172, 42, 180, 0, 36, 27, 51, 154, 0, 6, 16, 250, 172] := bL_of (by decide +kernel)
theorem dX11_back_0 : decode cX11_back 0 = .ok (.iload_n 1, 1) := dk27 (k := 0) bX11_back_0 rfl
theorem dX11_back_1 : decode cX11_back 1 = .ok (.ifCond .lt 8, 3) := dk155 (k := 1) bX11_back_0 rfl (by decide)
theorem dX11_back_4 : decode cX11_back 4 = .ok (.iload_n 1, 1) := dk27 (k := 4) bX11_back_0 rfl
theorem dX11_back_5 : decode cX11_back 5 = .ok (.iconst 3, 1) := dk6 (k := 5) bX11_back_0 rfl
theorem dX11_back_6 : decode cX11_back 6 = .ok (.if_icmp .lt 6, 3) := dk161 (k := 6) bX11_back_0 rfl (by decide)
theorem dX11_back_9 : decode cX11_back 9 = .ok (.bipush (-2), 2) := dk16 (k := 9) bX11_back_0 rfl (by decide)
theorem dX11_back_11 : decode cX11_back 11 = .ok (.ireturn, 1) := dk172 (k := 11) bX11_back_0 rfl
theorem dX11_back_12 : decode cX11_back 12 = .ok (.aload_n 0, 1) := dk42 (k := 12) bX11_back_0 rfl
theorem dX11_back_13 : decode cX11_back 13 = .ok (.getfield 36, 3) := dk180 (k := 13) bX11_back_0 rfl rfl
theorem dX11_back_16 : decode cX11_back 16 = .ok (.iload_n 1, 1) := dk27 (k := 16) bX11_back_0 rfl
theorem dX11_back_17 : decode cX11_back 17 = .ok (.baload, 1) := dk51 (k := 17) bX11_back_0 rfl
theorem dX11_back_18 : decode cX11_back 18 = .ok (.ifCond .ne 6, 3) := dk154 (k := 18) bX11_back_0 rfl (by decide)
theorem dX11_back_21 : decode cX11_back 21 = .ok (.bipush (-6), 2) := dk16 (k := 21) bX11_back_0 rfl (by decide)
theorem dX11_back_23 : decode cX11_back 23 = .ok (.ireturn, 1) := dk172 (k := 23) bX11_back_0 rfl
theorem bX11_back_24 : bL cX11_back 24 [42, 180, 0, 28, 42, 180, 0, 32, 27, 50, 182, 0, 114, 3, 172] := bL_of (by decide +kernel)
theorem dX11_back_24 : decode cX11_back 24 = .ok (.aload_n 0, 1) := dk42 (k := 0) bX11_back_24 rfl
theorem dX11_back_25 : decode cX11_back 25 = .ok (.getfield 28, 3) := dk180 (k := 1) bX11_back_24 rfl rfl
theorem dX11_back_28 : decode cX11_back 28 = .ok (.aload_n 0, 1) := dk42 (k := 4) bX11_back_24 rfl
theorem dX11_back_29 : decode cX11_back 29 = .ok (.getfield 32, 3) := dk180 (k := 5) bX11_back_24 rfl rfl
theorem dX11_back_32 : decode cX11_back 32 = .ok (.iload_n 1, 1) := dk27 (k := 8) bX11_back_24 rfl
theorem dX11_back_33 : decode cX11_back 33 = .ok (.aaload, 1) := dk50 (k := 9) bX11_back_24 rfl
theorem dX11_back_34 : decode cX11_back 34 = .ok (.invokevirtual 114, 3) := dk182 (k := 10) bX11_back_24 rfl rfl
theorem dX11_back_37 : decode cX11_back 37 = .ok (.iconst 0, 1) := dk3 (k := 13) bX11_back_24 rfl
theorem dX11_back_38 : decode cX11_back 38 = .ok (.ireturn, 1) := dk172 (k := 14) bX11_back_24 rfl
theorem bX11_row_0 : bL cX11_row 0 [42, 180, 0, 43, 27, 182, 1, 97, 153, 0, 18, 28, 155, 0, 14, 28, 7, 162, 0, 9, 29, 16, 60, 164, 0, 6] := bL_of (by decide +kernel)
theorem dX11_row_0 : decode cX11_row 0 = .ok (.aload_n 0, 1) := dk42 (k := 0) bX11_row_0 rfl
theorem dX11_row_1 : decode cX11_row 1 = .ok (.getfield 43, 3) := dk180 (k := 1) bX11_row_0 rfl rfl
theorem dX11_row_4 : decode cX11_row 4 = .ok (.iload_n 1, 1) := dk27 (k := 4) bX11_row_0 rfl
theorem dX11_row_5 : decode cX11_row 5 = .ok (.invokevirtual 353, 3) := dk182 (k := 5) bX11_row_0 rfl rfl
theorem dX11_row_8 : decode cX11_row 8 = .ok (.ifCond .eq 18, 3) := dk153 (k := 8) bX11_row_0 rfl (by decide)
theorem dX11_row_11 : decode cX11_row 11 = .ok (.iload_n 2, 1) := dk28 (k := 11) bX11_row_0 rfl
theorem dX11_row_12 : decode cX11_row 12 = .ok (.ifCond .lt 14, 3) := dk155 (k := 12) bX11_row_0 rfl (by decide)
theorem dX11_row_15 : decode cX11_row 15 = .ok (.iload_n 2, 1) := dk28 (k := 15) bX11_row_0 rfl
theorem dX11_row_16 : decode cX11_row 16 = .ok (.iconst 4, 1) := dk7 (k := 16) bX11_row_0 rfl
theorem dX11_row_17 : decode cX11_row 17 = .ok (.if_icmp .ge 9, 3) := dk162 (k := 17) bX11_row_0 rfl (by decide)
theorem dX11_row_20 : decode cX11_row 20 = .ok (.iload_n 3, 1) := dk29 (k := 20) bX11_row_0 rfl
theorem dX11_row_21 : decode cX11_row 21 = .ok (.bipush 60, 2) := dk16 (k := 21) bX11_row_0 rfl (by decide)
theorem dX11_row_23 : decode cX11_row 23 = .ok (.if_icmp .le 6, 3) := dk164 (k := 23) bX11_row_0 rfl (by decide)
theorem bX11_row_26 : bL cX11_row 26 [16, 254, 172, 29, 156, 0, 6, 16, 253, 172, 42, 180, 0, 43, 27, 28, 29, 182, 1, 98, 3, 172] := bL_of (by decide +kernel)
theorem dX11_row_26 : decode cX11_row 26 = .ok (.bipush (-2), 2) := dk16 (k := 0) bX11_row_26 rfl (by decide)
theorem dX11_row_28 : decode cX11_row 28 = .ok (.ireturn, 1) := dk172 (k := 2) bX11_row_26 rfl
theorem dX11_row_29 : decode cX11_row 29 = .ok (.iload_n 3, 1) := dk29 (k := 3) bX11_row_26 rfl
theorem dX11_row_30 : decode cX11_row 30 = .ok (.ifCond .ge 6, 3) := dk156 (k := 4) bX11_row_26 rfl (by decide)
theorem dX11_row_33 : decode cX11_row 33 = .ok (.bipush (-3), 2) := dk16 (k := 7) bX11_row_26 rfl (by decide)
theorem dX11_row_35 : decode cX11_row 35 = .ok (.ireturn, 1) := dk172 (k := 9) bX11_row_26 rfl
theorem dX11_row_36 : decode cX11_row 36 = .ok (.aload_n 0, 1) := dk42 (k := 10) bX11_row_26 rfl
theorem dX11_row_37 : decode cX11_row 37 = .ok (.getfield 43, 3) := dk180 (k := 11) bX11_row_26 rfl rfl
theorem dX11_row_40 : decode cX11_row 40 = .ok (.iload_n 1, 1) := dk27 (k := 14) bX11_row_26 rfl
theorem dX11_row_41 : decode cX11_row 41 = .ok (.iload_n 2, 1) := dk28 (k := 15) bX11_row_26 rfl
theorem dX11_row_42 : decode cX11_row 42 = .ok (.iload_n 3, 1) := dk29 (k := 16) bX11_row_26 rfl
theorem dX11_row_43 : decode cX11_row 43 = .ok (.invokevirtual 354, 3) := dk182 (k := 17) bX11_row_26 rfl rfl
theorem dX11_row_46 : decode cX11_row 46 = .ok (.iconst 0, 1) := dk3 (k := 20) bX11_row_26 rfl
theorem dX11_row_47 : decode cX11_row 47 = .ok (.ireturn, 1) := dk172 (k := 21) bX11_row_26 rfl
theorem bX11_write_0 : bL cX11_write 0 [42, 180, 0, 43, 27, 182, 1, 97, 154, 0, 6, 16, 254, 172, 42, 180, 0, 43, 27, 182, 1, 101, 154, 0, 6] := bL_of (by decide +kernel)
theorem dX11_write_0 : decode cX11_write 0 = .ok (.aload_n 0, 1) := dk42 (k := 0) bX11_write_0 rfl
theorem dX11_write_1 : decode cX11_write 1 = .ok (.getfield 43, 3) := dk180 (k := 1) bX11_write_0 rfl rfl
theorem dX11_write_4 : decode cX11_write 4 = .ok (.iload_n 1, 1) := dk27 (k := 4) bX11_write_0 rfl
theorem dX11_write_5 : decode cX11_write 5 = .ok (.invokevirtual 353, 3) := dk182 (k := 5) bX11_write_0 rfl rfl
theorem dX11_write_8 : decode cX11_write 8 = .ok (.ifCond .ne 6, 3) := dk154 (k := 8) bX11_write_0 rfl (by decide)
theorem dX11_write_11 : decode cX11_write 11 = .ok (.bipush (-2), 2) := dk16 (k := 11) bX11_write_0 rfl (by decide)
theorem dX11_write_13 : decode cX11_write 13 = .ok (.ireturn, 1) := dk172 (k := 13) bX11_write_0 rfl
theorem dX11_write_14 : decode cX11_write 14 = .ok (.aload_n 0, 1) := dk42 (k := 14) bX11_write_0 rfl
theorem dX11_write_15 : decode cX11_write 15 = .ok (.getfield 43, 3) := dk180 (k := 15) bX11_write_0 rfl rfl
theorem dX11_write_18 : decode cX11_write 18 = .ok (.iload_n 1, 1) := dk27 (k := 18) bX11_write_0 rfl
theorem dX11_write_19 : decode cX11_write 19 = .ok (.invokevirtual 357, 3) := dk182 (k := 19) bX11_write_0 rfl rfl
theorem dX11_write_22 : decode cX11_write 22 = .ok (.ifCond .ne 6, 3) := dk154 (k := 22) bX11_write_0 rfl (by decide)
theorem bX11_write_25 : bL cX11_write 25 [16, 250, 172, 28, 155, 0, 15, 28, 42, 180, 0, 43, 27, 182, 1, 104, 161, 0, 6, 16, 249, 172, 42, 180, 0, 43] := bL_of (by decide +kernel)
theorem dX11_write_25 : decode cX11_write 25 = .ok (.bipush (-6), 2) := dk16 (k := 0) bX11_write_25 rfl (by decide)
theorem dX11_write_27 : decode cX11_write 27 = .ok (.ireturn, 1) := dk172 (k := 2) bX11_write_25 rfl
theorem dX11_write_28 : decode cX11_write 28 = .ok (.iload_n 2, 1) := dk28 (k := 3) bX11_write_25 rfl
theorem dX11_write_29 : decode cX11_write 29 = .ok (.ifCond .lt 15, 3) := dk155 (k := 4) bX11_write_25 rfl (by decide)
theorem dX11_write_32 : decode cX11_write 32 = .ok (.iload_n 2, 1) := dk28 (k := 7) bX11_write_25 rfl
theorem dX11_write_33 : decode cX11_write 33 = .ok (.aload_n 0, 1) := dk42 (k := 8) bX11_write_25 rfl
theorem dX11_write_34 : decode cX11_write 34 = .ok (.getfield 43, 3) := dk180 (k := 9) bX11_write_25 rfl rfl
theorem dX11_write_37 : decode cX11_write 37 = .ok (.iload_n 1, 1) := dk27 (k := 12) bX11_write_25 rfl
theorem dX11_write_38 : decode cX11_write 38 = .ok (.invokevirtual 360, 3) := dk182 (k := 13) bX11_write_25 rfl rfl
theorem dX11_write_41 : decode cX11_write 41 = .ok (.if_icmp .lt 6, 3) := dk161 (k := 16) bX11_write_25 rfl (by decide)
theorem dX11_write_44 : decode cX11_write 44 = .ok (.bipush (-7), 2) := dk16 (k := 19) bX11_write_25 rfl (by decide)
theorem dX11_write_46 : decode cX11_write 46 = .ok (.ireturn, 1) := dk172 (k := 21) bX11_write_25 rfl
theorem dX11_write_47 : decode cX11_write 47 = .ok (.aload_n 0, 1) := dk42 (k := 22) bX11_write_25 rfl
theorem dX11_write_48 : decode cX11_write 48 = .ok (.getfield 43, 3) := dk180 (k := 23) bX11_write_25 rfl rfl
theorem bX11_write_51 : bL cX11_write 51 [27, 28, 33, 182, 1, 107, 3, 172] := bL_of (by decide +kernel)
theorem dX11_write_51 : decode cX11_write 51 = .ok (.iload_n 1, 1) := dk27 (k := 0) bX11_write_51 rfl
theorem dX11_write_52 : decode cX11_write 52 = .ok (.iload_n 2, 1) := dk28 (k := 1) bX11_write_51 rfl
theorem dX11_write_53 : decode cX11_write 53 = .ok (.lload_n 3, 1) := dk33 (k := 2) bX11_write_51 rfl
theorem dX11_write_54 : decode cX11_write 54 = .ok (.invokevirtual 363, 3) := dk182 (k := 3) bX11_write_51 rfl rfl
theorem dX11_write_57 : decode cX11_write 57 = .ok (.iconst 0, 1) := dk3 (k := 6) bX11_write_51 rfl
theorem dX11_write_58 : decode cX11_write 58 = .ok (.ireturn, 1) := dk172 (k := 7) bX11_write_51 rfl
theorem bX11_paste_0 : bL cX11_paste 0 [42, 180, 0, 43, 27, 182, 1, 97, 153, 0, 14, 42, 180, 0, 43, 29, 182, 1, 97, 154, 0, 6, 16, 254] := bL_of (by decide +kernel)
theorem dX11_paste_0 : decode cX11_paste 0 = .ok (.aload_n 0, 1) := dk42 (k := 0) bX11_paste_0 rfl
theorem dX11_paste_1 : decode cX11_paste 1 = .ok (.getfield 43, 3) := dk180 (k := 1) bX11_paste_0 rfl rfl
theorem dX11_paste_4 : decode cX11_paste 4 = .ok (.iload_n 1, 1) := dk27 (k := 4) bX11_paste_0 rfl
theorem dX11_paste_5 : decode cX11_paste 5 = .ok (.invokevirtual 353, 3) := dk182 (k := 5) bX11_paste_0 rfl rfl
theorem dX11_paste_8 : decode cX11_paste 8 = .ok (.ifCond .eq 14, 3) := dk153 (k := 8) bX11_paste_0 rfl (by decide)
theorem dX11_paste_11 : decode cX11_paste 11 = .ok (.aload_n 0, 1) := dk42 (k := 11) bX11_paste_0 rfl
theorem dX11_paste_12 : decode cX11_paste 12 = .ok (.getfield 43, 3) := dk180 (k := 12) bX11_paste_0 rfl rfl
theorem dX11_paste_15 : decode cX11_paste 15 = .ok (.iload_n 3, 1) := dk29 (k := 15) bX11_paste_0 rfl
theorem dX11_paste_16 : decode cX11_paste 16 = .ok (.invokevirtual 353, 3) := dk182 (k := 16) bX11_paste_0 rfl rfl
theorem dX11_paste_19 : decode cX11_paste 19 = .ok (.ifCond .ne 6, 3) := dk154 (k := 19) bX11_paste_0 rfl (by decide)
theorem dX11_paste_22 : decode cX11_paste 22 = .ok (.bipush (-2), 2) := dk16 (k := 22) bX11_paste_0 rfl (by decide)
theorem bX11_paste_24 : bL cX11_paste 24 [172, 42, 180, 0, 43, 27, 182, 1, 101, 153, 0, 14, 42, 180, 0, 43, 29, 182, 1, 101, 154, 0, 6, 16, 250] := bL_of (by decide +kernel)
theorem dX11_paste_24 : decode cX11_paste 24 = .ok (.ireturn, 1) := dk172 (k := 0) bX11_paste_24 rfl
theorem dX11_paste_25 : decode cX11_paste 25 = .ok (.aload_n 0, 1) := dk42 (k := 1) bX11_paste_24 rfl
theorem dX11_paste_26 : decode cX11_paste 26 = .ok (.getfield 43, 3) := dk180 (k := 2) bX11_paste_24 rfl rfl
theorem dX11_paste_29 : decode cX11_paste 29 = .ok (.iload_n 1, 1) := dk27 (k := 5) bX11_paste_24 rfl
theorem dX11_paste_30 : decode cX11_paste 30 = .ok (.invokevirtual 357, 3) := dk182 (k := 6) bX11_paste_24 rfl rfl
theorem dX11_paste_33 : decode cX11_paste 33 = .ok (.ifCond .eq 14, 3) := dk153 (k := 9) bX11_paste_24 rfl (by decide)
theorem dX11_paste_36 : decode cX11_paste 36 = .ok (.aload_n 0, 1) := dk42 (k := 12) bX11_paste_24 rfl
theorem dX11_paste_37 : decode cX11_paste 37 = .ok (.getfield 43, 3) := dk180 (k := 13) bX11_paste_24 rfl rfl
theorem dX11_paste_40 : decode cX11_paste 40 = .ok (.iload_n 3, 1) := dk29 (k := 16) bX11_paste_24 rfl
theorem dX11_paste_41 : decode cX11_paste 41 = .ok (.invokevirtual 357, 3) := dk182 (k := 17) bX11_paste_24 rfl rfl
theorem dX11_paste_44 : decode cX11_paste 44 = .ok (.ifCond .ne 6, 3) := dk154 (k := 20) bX11_paste_24 rfl (by decide)
theorem dX11_paste_47 : decode cX11_paste 47 = .ok (.bipush (-6), 2) := dk16 (k := 23) bX11_paste_24 rfl (by decide)
theorem bX11_paste_49 : bL cX11_paste 49 [172, 42, 180, 0, 43, 27, 182, 1, 111, 42, 180, 0, 43, 29, 182, 1, 111, 159, 0, 6, 16, 248, 172, 42] := bL_of (by decide +kernel)
theorem dX11_paste_49 : decode cX11_paste 49 = .ok (.ireturn, 1) := dk172 (k := 0) bX11_paste_49 rfl
theorem dX11_paste_50 : decode cX11_paste 50 = .ok (.aload_n 0, 1) := dk42 (k := 1) bX11_paste_49 rfl
theorem dX11_paste_51 : decode cX11_paste 51 = .ok (.getfield 43, 3) := dk180 (k := 2) bX11_paste_49 rfl rfl
theorem dX11_paste_54 : decode cX11_paste 54 = .ok (.iload_n 1, 1) := dk27 (k := 5) bX11_paste_49 rfl
theorem dX11_paste_55 : decode cX11_paste 55 = .ok (.invokevirtual 367, 3) := dk182 (k := 6) bX11_paste_49 rfl rfl
theorem dX11_paste_58 : decode cX11_paste 58 = .ok (.aload_n 0, 1) := dk42 (k := 9) bX11_paste_49 rfl
theorem dX11_paste_59 : decode cX11_paste 59 = .ok (.getfield 43, 3) := dk180 (k := 10) bX11_paste_49 rfl rfl
theorem dX11_paste_62 : decode cX11_paste 62 = .ok (.iload_n 3, 1) := dk29 (k := 13) bX11_paste_49 rfl
theorem dX11_paste_63 : decode cX11_paste 63 = .ok (.invokevirtual 367, 3) := dk182 (k := 14) bX11_paste_49 rfl rfl
theorem dX11_paste_66 : decode cX11_paste 66 = .ok (.if_icmp .eq 6, 3) := dk159 (k := 17) bX11_paste_49 rfl (by decide)
theorem dX11_paste_69 : decode cX11_paste 69 = .ok (.bipush (-8), 2) := dk16 (k := 20) bX11_paste_49 rfl (by decide)
theorem dX11_paste_71 : decode cX11_paste 71 = .ok (.ireturn, 1) := dk172 (k := 22) bX11_paste_49 rfl
theorem dX11_paste_72 : decode cX11_paste 72 = .ok (.aload_n 0, 1) := dk42 (k := 23) bX11_paste_49 rfl
theorem bX11_paste_73 : bL cX11_paste 73 [180, 0, 43, 27, 28, 21, 5, 182, 1, 114, 153, 0, 18, 42, 180, 0, 43, 29, 21, 4, 21, 5, 182, 1, 114] := bL_of (by decide +kernel)
theorem dX11_paste_73 : decode cX11_paste 73 = .ok (.getfield 43, 3) := dk180 (k := 0) bX11_paste_73 rfl rfl
theorem dX11_paste_76 : decode cX11_paste 76 = .ok (.iload_n 1, 1) := dk27 (k := 3) bX11_paste_73 rfl
theorem dX11_paste_77 : decode cX11_paste 77 = .ok (.iload_n 2, 1) := dk28 (k := 4) bX11_paste_73 rfl
theorem dX11_paste_78 : decode cX11_paste 78 = .ok (.iload 5, 2) := dk21 (k := 5) bX11_paste_73 rfl rfl
theorem dX11_paste_80 : decode cX11_paste 80 = .ok (.invokevirtual 370, 3) := dk182 (k := 7) bX11_paste_73 rfl rfl
theorem dX11_paste_83 : decode cX11_paste 83 = .ok (.ifCond .eq 18, 3) := dk153 (k := 10) bX11_paste_73 rfl (by decide)
theorem dX11_paste_86 : decode cX11_paste 86 = .ok (.aload_n 0, 1) := dk42 (k := 13) bX11_paste_73 rfl
theorem dX11_paste_87 : decode cX11_paste 87 = .ok (.getfield 43, 3) := dk180 (k := 14) bX11_paste_73 rfl rfl
theorem dX11_paste_90 : decode cX11_paste 90 = .ok (.iload_n 3, 1) := dk29 (k := 17) bX11_paste_73 rfl
theorem dX11_paste_91 : decode cX11_paste 91 = .ok (.iload 4, 2) := dk21 (k := 18) bX11_paste_73 rfl rfl
theorem dX11_paste_93 : decode cX11_paste 93 = .ok (.iload 5, 2) := dk21 (k := 20) bX11_paste_73 rfl rfl
theorem dX11_paste_95 : decode cX11_paste 95 = .ok (.invokevirtual 370, 3) := dk182 (k := 22) bX11_paste_73 rfl rfl
theorem bX11_paste_98 : bL cX11_paste 98 [154, 0, 6, 16, 249, 172, 42, 180, 0, 43, 27, 28, 29, 21, 4, 21, 5, 182, 1, 118, 3, 172] := bL_of (by decide +kernel)
theorem dX11_paste_98 : decode cX11_paste 98 = .ok (.ifCond .ne 6, 3) := dk154 (k := 0) bX11_paste_98 rfl (by decide)
theorem dX11_paste_101 : decode cX11_paste 101 = .ok (.bipush (-7), 2) := dk16 (k := 3) bX11_paste_98 rfl (by decide)
theorem dX11_paste_103 : decode cX11_paste 103 = .ok (.ireturn, 1) := dk172 (k := 5) bX11_paste_98 rfl
theorem dX11_paste_104 : decode cX11_paste 104 = .ok (.aload_n 0, 1) := dk42 (k := 6) bX11_paste_98 rfl
theorem dX11_paste_105 : decode cX11_paste 105 = .ok (.getfield 43, 3) := dk180 (k := 7) bX11_paste_98 rfl rfl
theorem dX11_paste_108 : decode cX11_paste 108 = .ok (.iload_n 1, 1) := dk27 (k := 10) bX11_paste_98 rfl
theorem dX11_paste_109 : decode cX11_paste 109 = .ok (.iload_n 2, 1) := dk28 (k := 11) bX11_paste_98 rfl
theorem dX11_paste_110 : decode cX11_paste 110 = .ok (.iload_n 3, 1) := dk29 (k := 12) bX11_paste_98 rfl
theorem dX11_paste_111 : decode cX11_paste 111 = .ok (.iload 4, 2) := dk21 (k := 13) bX11_paste_98 rfl rfl
theorem dX11_paste_113 : decode cX11_paste 113 = .ok (.iload 5, 2) := dk21 (k := 15) bX11_paste_98 rfl rfl
theorem dX11_paste_115 : decode cX11_paste 115 = .ok (.invokevirtual 374, 3) := dk182 (k := 17) bX11_paste_98 rfl rfl
theorem dX11_paste_118 : decode cX11_paste 118 = .ok (.iconst 0, 1) := dk3 (k := 20) bX11_paste_98 rfl
theorem dX11_paste_119 : decode cX11_paste 119 = .ok (.ireturn, 1) := dk172 (k := 21) bX11_paste_98 rfl
theorem bX11_isHour_0 : bL cX11_isHour 0 [26, 153, 0, 19, 26, 16, 247, 161, 0, 13, 26, 16, 9, 163, 0, 7, 4, 167, 0, 4, 3, 172] := bL_of (by decide +kernel)
theorem dX11_isHour_0 : decode cX11_isHour 0 = .ok (.iload_n 0, 1) := dk26 (k := 0) bX11_isHour_0 rfl
theorem dX11_isHour_1 : decode cX11_isHour 1 = .ok (.ifCond .eq 19, 3) := dk153 (k := 1) bX11_isHour_0 rfl (by decide)
theorem dX11_isHour_4 : decode cX11_isHour 4 = .ok (.iload_n 0, 1) := dk26 (k := 4) bX11_isHour_0 rfl
theorem dX11_isHour_5 : decode cX11_isHour 5 = .ok (.bipush (-9), 2) := dk16 (k := 5) bX11_isHour_0 rfl (by decide)
theorem dX11_isHour_7 : decode cX11_isHour 7 = .ok (.if_icmp .lt 13, 3) := dk161 (k := 7) bX11_isHour_0 rfl (by decide)
theorem dX11_isHour_10 : decode cX11_isHour 10 = .ok (.iload_n 0, 1) := dk26 (k := 10) bX11_isHour_0 rfl
theorem dX11_isHour_11 : decode cX11_isHour 11 = .ok (.bipush 9, 2) := dk16 (k := 11) bX11_isHour_0 rfl (by decide)
theorem dX11_isHour_13 : decode cX11_isHour 13 = .ok (.if_icmp .gt 7, 3) := dk163 (k := 13) bX11_isHour_0 rfl (by decide)
theorem dX11_isHour_16 : decode cX11_isHour 16 = .ok (.iconst 1, 1) := dk4 (k := 16) bX11_isHour_0 rfl
theorem dX11_isHour_17 : decode cX11_isHour 17 = .ok (.goto 4, 3) := dk167 (k := 17) bX11_isHour_0 rfl (by decide)
theorem dX11_isHour_20 : decode cX11_isHour 20 = .ok (.iconst 0, 1) := dk3 (k := 20) bX11_isHour_0 rfl
theorem dX11_isHour_21 : decode cX11_isHour 21 = .ok (.ireturn, 1) := dk172 (k := 21) bX11_isHour_0 rfl
theorem bX11_isPlay_0 : bL cX11_isPlay 0 [42, 180, 0, 28, 182, 0, 157, 153, 0, 25, 27, 155, 0, 21, 27, 7, 163, 0, 16, 28, 155, 0, 12, 28] := bL_of (by decide +kernel)
theorem dX11_isPlay_0 : decode cX11_isPlay 0 = .ok (.aload_n 0, 1) := dk42 (k := 0) bX11_isPlay_0 rfl
theorem dX11_isPlay_1 : decode cX11_isPlay 1 = .ok (.getfield 28, 3) := dk180 (k := 1) bX11_isPlay_0 rfl rfl
theorem dX11_isPlay_4 : decode cX11_isPlay 4 = .ok (.invokevirtual 157, 3) := dk182 (k := 4) bX11_isPlay_0 rfl rfl
theorem dX11_isPlay_7 : decode cX11_isPlay 7 = .ok (.ifCond .eq 25, 3) := dk153 (k := 7) bX11_isPlay_0 rfl (by decide)
theorem dX11_isPlay_10 : decode cX11_isPlay 10 = .ok (.iload_n 1, 1) := dk27 (k := 10) bX11_isPlay_0 rfl
theorem dX11_isPlay_11 : decode cX11_isPlay 11 = .ok (.ifCond .lt 21, 3) := dk155 (k := 11) bX11_isPlay_0 rfl (by decide)
theorem dX11_isPlay_14 : decode cX11_isPlay 14 = .ok (.iload_n 1, 1) := dk27 (k := 14) bX11_isPlay_0 rfl
theorem dX11_isPlay_15 : decode cX11_isPlay 15 = .ok (.iconst 4, 1) := dk7 (k := 15) bX11_isPlay_0 rfl
theorem dX11_isPlay_16 : decode cX11_isPlay 16 = .ok (.if_icmp .gt 16, 3) := dk163 (k := 16) bX11_isPlay_0 rfl (by decide)
theorem dX11_isPlay_19 : decode cX11_isPlay 19 = .ok (.iload_n 2, 1) := dk28 (k := 19) bX11_isPlay_0 rfl
theorem dX11_isPlay_20 : decode cX11_isPlay 20 = .ok (.ifCond .lt 12, 3) := dk155 (k := 20) bX11_isPlay_0 rfl (by decide)
theorem dX11_isPlay_23 : decode cX11_isPlay 23 = .ok (.iload_n 2, 1) := dk28 (k := 23) bX11_isPlay_0 rfl
theorem bX11_isPlay_24 : bL cX11_isPlay 24 [4, 163, 0, 7, 4, 167, 0, 4, 3, 172] := bL_of (by decide +kernel)
theorem dX11_isPlay_24 : decode cX11_isPlay 24 = .ok (.iconst 1, 1) := dk4 (k := 0) bX11_isPlay_24 rfl
theorem dX11_isPlay_25 : decode cX11_isPlay 25 = .ok (.if_icmp .gt 7, 3) := dk163 (k := 1) bX11_isPlay_24 rfl (by decide)
theorem dX11_isPlay_28 : decode cX11_isPlay 28 = .ok (.iconst 1, 1) := dk4 (k := 4) bX11_isPlay_24 rfl
theorem dX11_isPlay_29 : decode cX11_isPlay 29 = .ok (.goto 4, 3) := dk167 (k := 5) bX11_isPlay_24 rfl (by decide)
theorem dX11_isPlay_32 : decode cX11_isPlay 32 = .ok (.iconst 0, 1) := dk3 (k := 8) bX11_isPlay_24 rfl
theorem dX11_isPlay_33 : decode cX11_isPlay 33 = .ok (.ireturn, 1) := dk172 (k := 9) bX11_isPlay_24 rfl
theorem bX11_isWalk_0 : bL cX11_isWalk 0 [42, 180, 0, 28, 180, 0, 139, 27, 182, 0, 142, 153, 0, 19, 28, 4, 161, 0, 14, 28, 17, 3, 32, 163, 0, 7] := bL_of (by decide +kernel)
theorem dX11_isWalk_0 : decode cX11_isWalk 0 = .ok (.aload_n 0, 1) := dk42 (k := 0) bX11_isWalk_0 rfl
theorem dX11_isWalk_1 : decode cX11_isWalk 1 = .ok (.getfield 28, 3) := dk180 (k := 1) bX11_isWalk_0 rfl rfl
theorem dX11_isWalk_4 : decode cX11_isWalk 4 = .ok (.getfield 139, 3) := dk180 (k := 4) bX11_isWalk_0 rfl rfl
theorem dX11_isWalk_7 : decode cX11_isWalk 7 = .ok (.iload_n 1, 1) := dk27 (k := 7) bX11_isWalk_0 rfl
theorem dX11_isWalk_8 : decode cX11_isWalk 8 = .ok (.invokevirtual 142, 3) := dk182 (k := 8) bX11_isWalk_0 rfl rfl
theorem dX11_isWalk_11 : decode cX11_isWalk 11 = .ok (.ifCond .eq 19, 3) := dk153 (k := 11) bX11_isWalk_0 rfl (by decide)
theorem dX11_isWalk_14 : decode cX11_isWalk 14 = .ok (.iload_n 2, 1) := dk28 (k := 14) bX11_isWalk_0 rfl
theorem dX11_isWalk_15 : decode cX11_isWalk 15 = .ok (.iconst 1, 1) := dk4 (k := 15) bX11_isWalk_0 rfl
theorem dX11_isWalk_16 : decode cX11_isWalk 16 = .ok (.if_icmp .lt 14, 3) := dk161 (k := 16) bX11_isWalk_0 rfl (by decide)
theorem dX11_isWalk_19 : decode cX11_isWalk 19 = .ok (.iload_n 2, 1) := dk28 (k := 19) bX11_isWalk_0 rfl
theorem dX11_isWalk_20 : decode cX11_isWalk 20 = .ok (.sipush 800, 3) := dk17 (k := 20) bX11_isWalk_0 rfl (by decide)
theorem dX11_isWalk_23 : decode cX11_isWalk 23 = .ok (.if_icmp .gt 7, 3) := dk163 (k := 23) bX11_isWalk_0 rfl (by decide)
theorem bX11_isWalk_26 : bL cX11_isWalk 26 [4, 167, 0, 4, 3, 172] := bL_of (by decide +kernel)
theorem dX11_isWalk_26 : decode cX11_isWalk 26 = .ok (.iconst 1, 1) := dk4 (k := 0) bX11_isWalk_26 rfl
theorem dX11_isWalk_27 : decode cX11_isWalk 27 = .ok (.goto 4, 3) := dk167 (k := 1) bX11_isWalk_26 rfl (by decide)
theorem dX11_isWalk_30 : decode cX11_isWalk 30 = .ok (.iconst 0, 1) := dk3 (k := 4) bX11_isWalk_26 rfl
theorem dX11_isWalk_31 : decode cX11_isWalk 31 = .ok (.ireturn, 1) := dk172 (k := 5) bX11_isWalk_26 rfl
theorem bX11_isLaw_0 : bL cX11_isLaw 0 [42, 180, 0, 28, 182, 0, 157, 153, 0, 19, 27, 4, 161, 0, 14, 27, 17, 3, 231, 163, 0, 7, 4, 167, 0, 4] := bL_of (by decide +kernel)
theorem dX11_isLaw_0 : decode cX11_isLaw 0 = .ok (.aload_n 0, 1) := dk42 (k := 0) bX11_isLaw_0 rfl
theorem dX11_isLaw_1 : decode cX11_isLaw 1 = .ok (.getfield 28, 3) := dk180 (k := 1) bX11_isLaw_0 rfl rfl
theorem dX11_isLaw_4 : decode cX11_isLaw 4 = .ok (.invokevirtual 157, 3) := dk182 (k := 4) bX11_isLaw_0 rfl rfl
theorem dX11_isLaw_7 : decode cX11_isLaw 7 = .ok (.ifCond .eq 19, 3) := dk153 (k := 7) bX11_isLaw_0 rfl (by decide)
theorem dX11_isLaw_10 : decode cX11_isLaw 10 = .ok (.iload_n 1, 1) := dk27 (k := 10) bX11_isLaw_0 rfl
theorem dX11_isLaw_11 : decode cX11_isLaw 11 = .ok (.iconst 1, 1) := dk4 (k := 11) bX11_isLaw_0 rfl
theorem dX11_isLaw_12 : decode cX11_isLaw 12 = .ok (.if_icmp .lt 14, 3) := dk161 (k := 12) bX11_isLaw_0 rfl (by decide)
theorem dX11_isLaw_15 : decode cX11_isLaw 15 = .ok (.iload_n 1, 1) := dk27 (k := 15) bX11_isLaw_0 rfl
theorem dX11_isLaw_16 : decode cX11_isLaw 16 = .ok (.sipush 999, 3) := dk17 (k := 16) bX11_isLaw_0 rfl (by decide)
theorem dX11_isLaw_19 : decode cX11_isLaw 19 = .ok (.if_icmp .gt 7, 3) := dk163 (k := 19) bX11_isLaw_0 rfl (by decide)
theorem dX11_isLaw_22 : decode cX11_isLaw 22 = .ok (.iconst 1, 1) := dk4 (k := 22) bX11_isLaw_0 rfl
theorem dX11_isLaw_23 : decode cX11_isLaw 23 = .ok (.goto 4, 3) := dk167 (k := 23) bX11_isLaw_0 rfl (by decide)
theorem bX11_isLaw_26 : bL cX11_isLaw 26 [3, 172] := bL_of (by decide +kernel)
theorem dX11_isLaw_26 : decode cX11_isLaw 26 = .ok (.iconst 0, 1) := dk3 (k := 0) bX11_isLaw_26 rfl
theorem dX11_isLaw_27 : decode cX11_isLaw 27 = .ok (.ireturn, 1) := dk172 (k := 1) bX11_isLaw_26 rfl
theorem bX11_isDraw_0 : bL cX11_isDraw 0 [42, 180, 0, 28, 182, 0, 157, 153, 0, 28, 27, 155, 0, 24, 27, 19, 1, 122, 163, 0, 17, 28, 155, 0, 13] := bL_of (by decide +kernel)
theorem dX11_isDraw_0 : decode cX11_isDraw 0 = .ok (.aload_n 0, 1) := dk42 (k := 0) bX11_isDraw_0 rfl
theorem dX11_isDraw_1 : decode cX11_isDraw 1 = .ok (.getfield 28, 3) := dk180 (k := 1) bX11_isDraw_0 rfl rfl
theorem dX11_isDraw_4 : decode cX11_isDraw 4 = .ok (.invokevirtual 157, 3) := dk182 (k := 4) bX11_isDraw_0 rfl rfl
theorem dX11_isDraw_7 : decode cX11_isDraw 7 = .ok (.ifCond .eq 28, 3) := dk153 (k := 7) bX11_isDraw_0 rfl (by decide)
theorem dX11_isDraw_10 : decode cX11_isDraw 10 = .ok (.iload_n 1, 1) := dk27 (k := 10) bX11_isDraw_0 rfl
theorem dX11_isDraw_11 : decode cX11_isDraw 11 = .ok (.ifCond .lt 24, 3) := dk155 (k := 11) bX11_isDraw_0 rfl (by decide)
theorem dX11_isDraw_14 : decode cX11_isDraw 14 = .ok (.iload_n 1, 1) := dk27 (k := 14) bX11_isDraw_0 rfl
theorem dX11_isDraw_15 : decode cX11_isDraw 15 = .ok (.ldc_w 378, 3) := dk19 (k := 15) bX11_isDraw_0 rfl rfl
theorem dX11_isDraw_18 : decode cX11_isDraw 18 = .ok (.if_icmp .gt 17, 3) := dk163 (k := 18) bX11_isDraw_0 rfl (by decide)
theorem dX11_isDraw_21 : decode cX11_isDraw 21 = .ok (.iload_n 2, 1) := dk28 (k := 21) bX11_isDraw_0 rfl
theorem dX11_isDraw_22 : decode cX11_isDraw 22 = .ok (.ifCond .lt 13, 3) := dk155 (k := 22) bX11_isDraw_0 rfl (by decide)
theorem bX11_isDraw_25 : bL cX11_isDraw 25 [28, 16, 40, 163, 0, 7, 4, 167, 0, 4, 3, 172] := bL_of (by decide +kernel)
theorem dX11_isDraw_25 : decode cX11_isDraw 25 = .ok (.iload_n 2, 1) := dk28 (k := 0) bX11_isDraw_25 rfl
theorem dX11_isDraw_26 : decode cX11_isDraw 26 = .ok (.bipush 40, 2) := dk16 (k := 1) bX11_isDraw_25 rfl (by decide)
theorem dX11_isDraw_28 : decode cX11_isDraw 28 = .ok (.if_icmp .gt 7, 3) := dk163 (k := 3) bX11_isDraw_25 rfl (by decide)
theorem dX11_isDraw_31 : decode cX11_isDraw 31 = .ok (.iconst 1, 1) := dk4 (k := 6) bX11_isDraw_25 rfl
theorem dX11_isDraw_32 : decode cX11_isDraw 32 = .ok (.goto 4, 3) := dk167 (k := 7) bX11_isDraw_25 rfl (by decide)
theorem dX11_isDraw_35 : decode cX11_isDraw 35 = .ok (.iconst 0, 1) := dk3 (k := 10) bX11_isDraw_25 rfl
theorem dX11_isDraw_36 : decode cX11_isDraw 36 = .ok (.ireturn, 1) := dk172 (k := 11) bX11_isDraw_25 rfl
theorem bX11_rollRefusal_0 : bL cX11_rollRefusal 0 [42, 180, 0, 43, 27, 182, 1, 97, 153, 0, 13, 42, 180, 0, 28, 182, 0, 157, 154, 0, 6, 16, 254, 172] := bL_of (by decide +kernel)
theorem dX11_rollRefusal_0 : decode cX11_rollRefusal 0 = .ok (.aload_n 0, 1) := dk42 (k := 0) bX11_rollRefusal_0 rfl
theorem dX11_rollRefusal_1 : decode cX11_rollRefusal 1 = .ok (.getfield 43, 3) := dk180 (k := 1) bX11_rollRefusal_0 rfl rfl
theorem dX11_rollRefusal_4 : decode cX11_rollRefusal 4 = .ok (.iload_n 1, 1) := dk27 (k := 4) bX11_rollRefusal_0 rfl
theorem dX11_rollRefusal_5 : decode cX11_rollRefusal 5 = .ok (.invokevirtual 353, 3) := dk182 (k := 5) bX11_rollRefusal_0 rfl rfl
theorem dX11_rollRefusal_8 : decode cX11_rollRefusal 8 = .ok (.ifCond .eq 13, 3) := dk153 (k := 8) bX11_rollRefusal_0 rfl (by decide)
theorem dX11_rollRefusal_11 : decode cX11_rollRefusal 11 = .ok (.aload_n 0, 1) := dk42 (k := 11) bX11_rollRefusal_0 rfl
theorem dX11_rollRefusal_12 : decode cX11_rollRefusal 12 = .ok (.getfield 28, 3) := dk180 (k := 12) bX11_rollRefusal_0 rfl rfl
theorem dX11_rollRefusal_15 : decode cX11_rollRefusal 15 = .ok (.invokevirtual 157, 3) := dk182 (k := 15) bX11_rollRefusal_0 rfl rfl
theorem dX11_rollRefusal_18 : decode cX11_rollRefusal 18 = .ok (.ifCond .ne 6, 3) := dk154 (k := 18) bX11_rollRefusal_0 rfl (by decide)
theorem dX11_rollRefusal_21 : decode cX11_rollRefusal 21 = .ok (.bipush (-2), 2) := dk16 (k := 21) bX11_rollRefusal_0 rfl (by decide)
theorem dX11_rollRefusal_23 : decode cX11_rollRefusal 23 = .ok (.ireturn, 1) := dk172 (k := 23) bX11_rollRefusal_0 rfl
theorem bX11_rollRefusal_24 : bL cX11_rollRefusal 24 [42, 180, 0, 43, 27, 182, 1, 101, 154, 0, 6, 16, 250, 172, 42, 180, 0, 28, 180, 0, 126, 42, 180, 0, 43] := bL_of (by decide +kernel)
theorem dX11_rollRefusal_24 : decode cX11_rollRefusal 24 = .ok (.aload_n 0, 1) := dk42 (k := 0) bX11_rollRefusal_24 rfl
theorem dX11_rollRefusal_25 : decode cX11_rollRefusal 25 = .ok (.getfield 43, 3) := dk180 (k := 1) bX11_rollRefusal_24 rfl rfl
theorem dX11_rollRefusal_28 : decode cX11_rollRefusal 28 = .ok (.iload_n 1, 1) := dk27 (k := 4) bX11_rollRefusal_24 rfl
theorem dX11_rollRefusal_29 : decode cX11_rollRefusal 29 = .ok (.invokevirtual 357, 3) := dk182 (k := 5) bX11_rollRefusal_24 rfl rfl
theorem dX11_rollRefusal_32 : decode cX11_rollRefusal 32 = .ok (.ifCond .ne 6, 3) := dk154 (k := 8) bX11_rollRefusal_24 rfl (by decide)
theorem dX11_rollRefusal_35 : decode cX11_rollRefusal 35 = .ok (.bipush (-6), 2) := dk16 (k := 11) bX11_rollRefusal_24 rfl (by decide)
theorem dX11_rollRefusal_37 : decode cX11_rollRefusal 37 = .ok (.ireturn, 1) := dk172 (k := 13) bX11_rollRefusal_24 rfl
theorem dX11_rollRefusal_38 : decode cX11_rollRefusal 38 = .ok (.aload_n 0, 1) := dk42 (k := 14) bX11_rollRefusal_24 rfl
theorem dX11_rollRefusal_39 : decode cX11_rollRefusal 39 = .ok (.getfield 28, 3) := dk180 (k := 15) bX11_rollRefusal_24 rfl rfl
theorem dX11_rollRefusal_42 : decode cX11_rollRefusal 42 = .ok (.getfield 126, 3) := dk180 (k := 18) bX11_rollRefusal_24 rfl rfl
theorem dX11_rollRefusal_45 : decode cX11_rollRefusal 45 = .ok (.aload_n 0, 1) := dk42 (k := 21) bX11_rollRefusal_24 rfl
theorem dX11_rollRefusal_46 : decode cX11_rollRefusal 46 = .ok (.getfield 43, 3) := dk180 (k := 22) bX11_rollRefusal_24 rfl rfl
theorem bX11_rollRefusal_49 : bL cX11_rollRefusal 49 [27, 182, 1, 123, 153, 0, 7, 3, 167, 0, 5, 16, 254, 172] := bL_of (by decide +kernel)
theorem dX11_rollRefusal_49 : decode cX11_rollRefusal 49 = .ok (.iload_n 1, 1) := dk27 (k := 0) bX11_rollRefusal_49 rfl
theorem dX11_rollRefusal_50 : decode cX11_rollRefusal 50 = .ok (.invokevirtual 379, 3) := dk182 (k := 1) bX11_rollRefusal_49 rfl rfl
theorem dX11_rollRefusal_53 : decode cX11_rollRefusal 53 = .ok (.ifCond .eq 7, 3) := dk153 (k := 4) bX11_rollRefusal_49 rfl (by decide)
theorem dX11_rollRefusal_56 : decode cX11_rollRefusal 56 = .ok (.iconst 0, 1) := dk3 (k := 7) bX11_rollRefusal_49 rfl
theorem dX11_rollRefusal_57 : decode cX11_rollRefusal 57 = .ok (.goto 5, 3) := dk167 (k := 8) bX11_rollRefusal_49 rfl (by decide)
theorem dX11_rollRefusal_60 : decode cX11_rollRefusal 60 = .ok (.bipush (-2), 2) := dk16 (k := 11) bX11_rollRefusal_49 rfl (by decide)
theorem dX11_rollRefusal_62 : decode cX11_rollRefusal 62 = .ok (.ireturn, 1) := dk172 (k := 13) bX11_rollRefusal_49 rfl
theorem bX12_init_0 : bL cX12_init 0 [42, 183, 0, 3, 42, 17, 0, 135] := bL_of (by decide +kernel)
theorem dX12_init_0 : decode cX12_init 0 = .ok (.aload_n 0, 1) := dk42 (k := 0) bX12_init_0 rfl
theorem dX12_init_1 : decode cX12_init 1 = .ok (.invokespecial 3, 3) := dk183 (k := 1) bX12_init_0 rfl rfl
theorem dX12_init_4 : decode cX12_init 4 = .ok (.aload_n 0, 1) := dk42 (k := 4) bX12_init_0 rfl
theorem dX12_init_5 : decode cX12_init 5 = .ok (.sipush 135, 3) := dk17 (k := 5) bX12_init_0 rfl (by decide)
theorem dX12_init_8 : decode cX12_init 8 = .ok (.newarray .int, 2) := by decide +kernel
theorem bX12_init_10 : bL cX12_init 10 [181, 0, 9, 42, 17, 1, 149] := bL_of (by decide +kernel)
theorem dX12_init_10 : decode cX12_init 10 = .ok (.putfield 9, 3) := dk181 (k := 0) bX12_init_10 rfl rfl
theorem dX12_init_13 : decode cX12_init 13 = .ok (.aload_n 0, 1) := dk42 (k := 3) bX12_init_10 rfl
theorem dX12_init_14 : decode cX12_init 14 = .ok (.sipush 405, 3) := dk17 (k := 4) bX12_init_10 rfl (by decide)
theorem dX12_init_17 : decode cX12_init 17 = .ok (.newarray .int, 2) := by decide +kernel
theorem bX12_init_19 : bL cX12_init 19 [181, 0, 13, 42, 6] := bL_of (by decide +kernel)
theorem dX12_init_19 : decode cX12_init 19 = .ok (.putfield 13, 3) := dk181 (k := 0) bX12_init_19 rfl rfl
theorem dX12_init_22 : decode cX12_init 22 = .ok (.aload_n 0, 1) := dk42 (k := 3) bX12_init_19 rfl
theorem dX12_init_23 : decode cX12_init 23 = .ok (.iconst 3, 1) := dk6 (k := 4) bX12_init_19 rfl
theorem dX12_init_24 : decode cX12_init 24 = .ok (.newarray .boolean, 2) := by decide +kernel
theorem bX12_init_26 : bL cX12_init 26 [181, 0, 16, 42, 17, 3, 132] := bL_of (by decide +kernel)
theorem dX12_init_26 : decode cX12_init 26 = .ok (.putfield 16, 3) := dk181 (k := 0) bX12_init_26 rfl rfl
theorem dX12_init_29 : decode cX12_init 29 = .ok (.aload_n 0, 1) := dk42 (k := 3) bX12_init_26 rfl
theorem dX12_init_30 : decode cX12_init 30 = .ok (.sipush 900, 3) := dk17 (k := 4) bX12_init_26 rfl (by decide)
theorem dX12_init_33 : decode cX12_init 33 = .ok (.newarray .byte, 2) := by decide +kernel
theorem bX12_init_35 : bL cX12_init 35 [181, 0, 20, 42, 8] := bL_of (by decide +kernel)
theorem dX12_init_35 : decode cX12_init 35 = .ok (.putfield 20, 3) := dk181 (k := 0) bX12_init_35 rfl rfl
theorem dX12_init_38 : decode cX12_init 38 = .ok (.aload_n 0, 1) := dk42 (k := 3) bX12_init_35 rfl
theorem dX12_init_39 : decode cX12_init 39 = .ok (.iconst 5, 1) := dk8 (k := 4) bX12_init_35 rfl
theorem dX12_init_40 : decode cX12_init 40 = .ok (.newarray .int, 2) := by decide +kernel
theorem bX12_init_42 : bL cX12_init 42 [181, 0, 24, 42, 2, 181, 0, 27, 42, 17, 0, 135] := bL_of (by decide +kernel)
theorem dX12_init_42 : decode cX12_init 42 = .ok (.putfield 24, 3) := dk181 (k := 0) bX12_init_42 rfl rfl
theorem dX12_init_45 : decode cX12_init 45 = .ok (.aload_n 0, 1) := dk42 (k := 3) bX12_init_42 rfl
theorem dX12_init_46 : decode cX12_init 46 = .ok (.iconst (-1), 1) := dk2 (k := 4) bX12_init_42 rfl
theorem dX12_init_47 : decode cX12_init 47 = .ok (.putfield 27, 3) := dk181 (k := 5) bX12_init_42 rfl rfl
theorem dX12_init_50 : decode cX12_init 50 = .ok (.aload_n 0, 1) := dk42 (k := 8) bX12_init_42 rfl
theorem dX12_init_51 : decode cX12_init 51 = .ok (.sipush 135, 3) := dk17 (k := 9) bX12_init_42 rfl (by decide)
theorem dX12_init_54 : decode cX12_init 54 = .ok (.newarray .int, 2) := by decide +kernel
theorem bX12_init_56 : bL cX12_init 56 [181, 0, 31, 42, 16, 10] := bL_of (by decide +kernel)
theorem dX12_init_56 : decode cX12_init 56 = .ok (.putfield 31, 3) := dk181 (k := 0) bX12_init_56 rfl rfl
theorem dX12_init_59 : decode cX12_init 59 = .ok (.aload_n 0, 1) := dk42 (k := 3) bX12_init_56 rfl
theorem dX12_init_60 : decode cX12_init 60 = .ok (.bipush 10, 2) := dk16 (k := 4) bX12_init_56 rfl (by decide)
theorem dX12_init_62 : decode cX12_init 62 = .ok (.newarray .int, 2) := by decide +kernel
theorem bX12_init_64 : bL cX12_init 64 [181, 0, 34, 42, 18, 37] := bL_of (by decide +kernel)
theorem dX12_init_64 : decode cX12_init 64 = .ok (.putfield 34, 3) := dk181 (k := 0) bX12_init_64 rfl rfl
theorem dX12_init_67 : decode cX12_init 67 = .ok (.aload_n 0, 1) := dk42 (k := 3) bX12_init_64 rfl
theorem dX12_init_68 : decode cX12_init 68 = .ok (.ldc 37, 2) := dk18 (k := 4) bX12_init_64 rfl rfl
theorem dX12_init_70 : decode cX12_init 70 = .ok (.newarray .boolean, 2) := by decide +kernel
theorem bX12_init_72 : bL cX12_init 72 [181, 0, 38, 42, 6] := bL_of (by decide +kernel)
theorem dX12_init_72 : decode cX12_init 72 = .ok (.putfield 38, 3) := dk181 (k := 0) bX12_init_72 rfl rfl
theorem dX12_init_75 : decode cX12_init 75 = .ok (.aload_n 0, 1) := dk42 (k := 3) bX12_init_72 rfl
theorem dX12_init_76 : decode cX12_init 76 = .ok (.iconst 3, 1) := dk6 (k := 4) bX12_init_72 rfl
theorem dX12_init_77 : decode cX12_init 77 = .ok (.newarray .int, 2) := by decide +kernel
theorem bX12_init_79 : bL cX12_init 79 [181, 0, 41, 42, 6] := bL_of (by decide +kernel)
theorem dX12_init_79 : decode cX12_init 79 = .ok (.putfield 41, 3) := dk181 (k := 0) bX12_init_79 rfl rfl
theorem dX12_init_82 : decode cX12_init 82 = .ok (.aload_n 0, 1) := dk42 (k := 3) bX12_init_79 rfl
theorem dX12_init_83 : decode cX12_init 83 = .ok (.iconst 3, 1) := dk6 (k := 4) bX12_init_79 rfl
theorem dX12_init_84 : decode cX12_init 84 = .ok (.newarray .int, 2) := by decide +kernel
theorem bX12_init_86 : bL cX12_init 86 [181, 0, 44, 42, 7] := bL_of (by decide +kernel)
theorem dX12_init_86 : decode cX12_init 86 = .ok (.putfield 44, 3) := dk181 (k := 0) bX12_init_86 rfl rfl
theorem dX12_init_89 : decode cX12_init 89 = .ok (.aload_n 0, 1) := dk42 (k := 3) bX12_init_86 rfl
theorem dX12_init_90 : decode cX12_init 90 = .ok (.iconst 4, 1) := dk7 (k := 4) bX12_init_86 rfl
theorem dX12_init_91 : decode cX12_init 91 = .ok (.newarray .int, 2) := by decide +kernel
theorem bX12_init_93 : bL cX12_init 93 [89, 3, 2, 79, 89, 4, 2, 79, 89, 5, 2, 79, 89, 6, 2, 79, 181, 0, 47, 42, 7] := bL_of (by decide +kernel)
theorem dX12_init_93 : decode cX12_init 93 = .ok (.dup, 1) := dk89 (k := 0) bX12_init_93 rfl
theorem dX12_init_94 : decode cX12_init 94 = .ok (.iconst 0, 1) := dk3 (k := 1) bX12_init_93 rfl
theorem dX12_init_95 : decode cX12_init 95 = .ok (.iconst (-1), 1) := dk2 (k := 2) bX12_init_93 rfl
theorem dX12_init_96 : decode cX12_init 96 = .ok (.iastore, 1) := dk79 (k := 3) bX12_init_93 rfl
theorem dX12_init_97 : decode cX12_init 97 = .ok (.dup, 1) := dk89 (k := 4) bX12_init_93 rfl
theorem dX12_init_98 : decode cX12_init 98 = .ok (.iconst 1, 1) := dk4 (k := 5) bX12_init_93 rfl
theorem dX12_init_99 : decode cX12_init 99 = .ok (.iconst (-1), 1) := dk2 (k := 6) bX12_init_93 rfl
theorem dX12_init_100 : decode cX12_init 100 = .ok (.iastore, 1) := dk79 (k := 7) bX12_init_93 rfl
theorem dX12_init_101 : decode cX12_init 101 = .ok (.dup, 1) := dk89 (k := 8) bX12_init_93 rfl
theorem dX12_init_102 : decode cX12_init 102 = .ok (.iconst 2, 1) := dk5 (k := 9) bX12_init_93 rfl
theorem dX12_init_103 : decode cX12_init 103 = .ok (.iconst (-1), 1) := dk2 (k := 10) bX12_init_93 rfl
theorem dX12_init_104 : decode cX12_init 104 = .ok (.iastore, 1) := dk79 (k := 11) bX12_init_93 rfl
theorem dX12_init_105 : decode cX12_init 105 = .ok (.dup, 1) := dk89 (k := 12) bX12_init_93 rfl
theorem dX12_init_106 : decode cX12_init 106 = .ok (.iconst 3, 1) := dk6 (k := 13) bX12_init_93 rfl
theorem dX12_init_107 : decode cX12_init 107 = .ok (.iconst (-1), 1) := dk2 (k := 14) bX12_init_93 rfl
theorem dX12_init_108 : decode cX12_init 108 = .ok (.iastore, 1) := dk79 (k := 15) bX12_init_93 rfl
theorem dX12_init_109 : decode cX12_init 109 = .ok (.putfield 47, 3) := dk181 (k := 16) bX12_init_93 rfl rfl
theorem dX12_init_112 : decode cX12_init 112 = .ok (.aload_n 0, 1) := dk42 (k := 19) bX12_init_93 rfl
theorem dX12_init_113 : decode cX12_init 113 = .ok (.iconst 4, 1) := dk7 (k := 20) bX12_init_93 rfl
theorem dX12_init_114 : decode cX12_init 114 = .ok (.newarray .int, 2) := by decide +kernel
theorem bX12_init_116 : bL cX12_init 116 [181, 0, 50, 42, 17, 0, 240] := bL_of (by decide +kernel)
theorem dX12_init_116 : decode cX12_init 116 = .ok (.putfield 50, 3) := dk181 (k := 0) bX12_init_116 rfl rfl
theorem dX12_init_119 : decode cX12_init 119 = .ok (.aload_n 0, 1) := dk42 (k := 3) bX12_init_116 rfl
theorem dX12_init_120 : decode cX12_init 120 = .ok (.sipush 240, 3) := dk17 (k := 4) bX12_init_116 rfl (by decide)
theorem dX12_init_123 : decode cX12_init 123 = .ok (.newarray .long, 2) := by decide +kernel
theorem bX12_init_125 : bL cX12_init 125 [181, 0, 53, 42, 16, 60] := bL_of (by decide +kernel)
theorem dX12_init_125 : decode cX12_init 125 = .ok (.putfield 53, 3) := dk181 (k := 0) bX12_init_125 rfl rfl
theorem dX12_init_128 : decode cX12_init 128 = .ok (.aload_n 0, 1) := dk42 (k := 3) bX12_init_125 rfl
theorem dX12_init_129 : decode cX12_init 129 = .ok (.bipush 60, 2) := dk16 (k := 4) bX12_init_125 rfl (by decide)
theorem dX12_init_131 : decode cX12_init 131 = .ok (.newarray .long, 2) := by decide +kernel
theorem bX12_init_133 : bL cX12_init 133 [181, 0, 57, 177] := bL_of (by decide +kernel)
theorem dX12_init_133 : decode cX12_init 133 = .ok (.putfield 57, 3) := dk181 (k := 0) bX12_init_133 rfl rfl
theorem dX12_init_136 : decode cX12_init 136 = .ok (.return_, 1) := dk177 (k := 3) bX12_init_133 rfl
theorem bX12_in_0 : bL cX12_in 0 [30, 32, 148, 155, 0, 14, 30, 22, 4, 148, 157, 0, 7, 4, 167, 0, 4, 3, 172] := bL_of (by decide +kernel)
theorem dX12_in_0 : decode cX12_in 0 = .ok (.lload_n 0, 1) := dk30 (k := 0) bX12_in_0 rfl
theorem dX12_in_1 : decode cX12_in 1 = .ok (.lload_n 2, 1) := dk32 (k := 1) bX12_in_0 rfl
theorem dX12_in_2 : decode cX12_in 2 = .ok (.lcmp, 1) := dk148 (k := 2) bX12_in_0 rfl
theorem dX12_in_3 : decode cX12_in 3 = .ok (.ifCond .lt 14, 3) := dk155 (k := 3) bX12_in_0 rfl (by decide)
theorem dX12_in_6 : decode cX12_in 6 = .ok (.lload_n 0, 1) := dk30 (k := 6) bX12_in_0 rfl
theorem dX12_in_7 : decode cX12_in 7 = .ok (.lload 4, 2) := dk22 (k := 7) bX12_in_0 rfl rfl
theorem dX12_in_9 : decode cX12_in 9 = .ok (.lcmp, 1) := dk148 (k := 9) bX12_in_0 rfl
theorem dX12_in_10 : decode cX12_in 10 = .ok (.ifCond .gt 7, 3) := dk157 (k := 10) bX12_in_0 rfl (by decide)
theorem dX12_in_13 : decode cX12_in 13 = .ok (.iconst 1, 1) := dk4 (k := 13) bX12_in_0 rfl
theorem dX12_in_14 : decode cX12_in 14 = .ok (.goto 4, 3) := dk167 (k := 14) bX12_in_0 rfl (by decide)
theorem dX12_in_17 : decode cX12_in 17 = .ok (.iconst 0, 1) := dk3 (k := 17) bX12_in_0 rfl
theorem dX12_in_18 : decode cX12_in 18 = .ok (.ireturn, 1) := dk172 (k := 18) bX12_in_0 rfl
theorem bX12_bits_0 : bL cX12_bits 0 [3, 60, 3, 61, 28, 16, 21, 162, 0, 17, 27, 26, 28, 122, 4, 126, 96, 60, 132, 2, 1, 167, 255, 239] := bL_of (by decide +kernel)
theorem dX12_bits_0 : decode cX12_bits 0 = .ok (.iconst 0, 1) := dk3 (k := 0) bX12_bits_0 rfl
theorem dX12_bits_1 : decode cX12_bits 1 = .ok (.istore_n 1, 1) := dk60 (k := 1) bX12_bits_0 rfl
theorem dX12_bits_2 : decode cX12_bits 2 = .ok (.iconst 0, 1) := dk3 (k := 2) bX12_bits_0 rfl
theorem dX12_bits_3 : decode cX12_bits 3 = .ok (.istore_n 2, 1) := dk61 (k := 3) bX12_bits_0 rfl
theorem dX12_bits_4 : decode cX12_bits 4 = .ok (.iload_n 2, 1) := dk28 (k := 4) bX12_bits_0 rfl
theorem dX12_bits_5 : decode cX12_bits 5 = .ok (.bipush 21, 2) := dk16 (k := 5) bX12_bits_0 rfl (by decide)
theorem dX12_bits_7 : decode cX12_bits 7 = .ok (.if_icmp .ge 17, 3) := dk162 (k := 7) bX12_bits_0 rfl (by decide)
theorem dX12_bits_10 : decode cX12_bits 10 = .ok (.iload_n 1, 1) := dk27 (k := 10) bX12_bits_0 rfl
theorem dX12_bits_11 : decode cX12_bits 11 = .ok (.iload_n 0, 1) := dk26 (k := 11) bX12_bits_0 rfl
theorem dX12_bits_12 : decode cX12_bits 12 = .ok (.iload_n 2, 1) := dk28 (k := 12) bX12_bits_0 rfl
theorem dX12_bits_13 : decode cX12_bits 13 = .ok (.ishr, 1) := dk122 (k := 13) bX12_bits_0 rfl
theorem dX12_bits_14 : decode cX12_bits 14 = .ok (.iconst 1, 1) := dk4 (k := 14) bX12_bits_0 rfl
theorem dX12_bits_15 : decode cX12_bits 15 = .ok (.iand, 1) := dk126 (k := 15) bX12_bits_0 rfl
theorem dX12_bits_16 : decode cX12_bits 16 = .ok (.iadd, 1) := dk96 (k := 16) bX12_bits_0 rfl
theorem dX12_bits_17 : decode cX12_bits 17 = .ok (.istore_n 1, 1) := dk60 (k := 17) bX12_bits_0 rfl
theorem dX12_bits_18 : decode cX12_bits 18 = .ok (.iinc 2 1, 3) := dk132 (k := 18) bX12_bits_0 rfl rfl (by decide)
theorem dX12_bits_21 : decode cX12_bits 21 = .ok (.goto (-17), 3) := dk167 (k := 21) bX12_bits_0 rfl (by decide)
theorem bX12_bits_24 : bL cX12_bits 24 [27, 172] := bL_of (by decide +kernel)
theorem dX12_bits_24 : decode cX12_bits 24 = .ok (.iload_n 1, 1) := dk27 (k := 0) bX12_bits_24 rfl
theorem dX12_bits_25 : decode cX12_bits 25 = .ok (.ireturn, 1) := dk172 (k := 1) bX12_bits_24 rfl
theorem bX12_bit_0 : bL cX12_bit 0 [26, 27, 122, 4, 126, 172] := bL_of (by decide +kernel)
theorem dX12_bit_0 : decode cX12_bit 0 = .ok (.iload_n 0, 1) := dk26 (k := 0) bX12_bit_0 rfl
theorem dX12_bit_1 : decode cX12_bit 1 = .ok (.iload_n 1, 1) := dk27 (k := 1) bX12_bit_0 rfl
theorem dX12_bit_2 : decode cX12_bit 2 = .ok (.ishr, 1) := dk122 (k := 2) bX12_bit_0 rfl
theorem dX12_bit_3 : decode cX12_bit 3 = .ok (.iconst 1, 1) := dk4 (k := 3) bX12_bit_0 rfl
theorem dX12_bit_4 : decode cX12_bit 4 = .ok (.iand, 1) := dk126 (k := 4) bX12_bit_0 rfl
theorem dX12_bit_5 : decode cX12_bit 5 = .ok (.ireturn, 1) := dk172 (k := 5) bX12_bit_0 rfl
theorem bX12_image_0 : bL cX12_image 0 [27, 133, 9, 20, 0, 63, 184, 0, 65, 154, 0, 6, 16, 254, 172, 3, 61, 28, 17, 0, 135, 162, 0, 27] := bL_of (by decide +kernel)
theorem dX12_image_0 : decode cX12_image 0 = .ok (.iload_n 1, 1) := dk27 (k := 0) bX12_image_0 rfl
theorem dX12_image_1 : decode cX12_image 1 = .ok (.i2l, 1) := dk133 (k := 1) bX12_image_0 rfl
theorem dX12_image_2 : decode cX12_image 2 = .ok (.lconst 0, 1) := dk9 (k := 2) bX12_image_0 rfl
theorem dX12_image_3 : decode cX12_image 3 = .ok (.ldc2_w 63, 3) := dk20 (k := 3) bX12_image_0 rfl rfl
theorem dX12_image_6 : decode cX12_image 6 = .ok (.invokestatic 65, 3) := dk184 (k := 6) bX12_image_0 rfl rfl
theorem dX12_image_9 : decode cX12_image 9 = .ok (.ifCond .ne 6, 3) := dk154 (k := 9) bX12_image_0 rfl (by decide)
theorem dX12_image_12 : decode cX12_image 12 = .ok (.bipush (-2), 2) := dk16 (k := 12) bX12_image_0 rfl (by decide)
theorem dX12_image_14 : decode cX12_image 14 = .ok (.ireturn, 1) := dk172 (k := 14) bX12_image_0 rfl
theorem dX12_image_15 : decode cX12_image 15 = .ok (.iconst 0, 1) := dk3 (k := 15) bX12_image_0 rfl
theorem dX12_image_16 : decode cX12_image 16 = .ok (.istore_n 2, 1) := dk61 (k := 16) bX12_image_0 rfl
theorem dX12_image_17 : decode cX12_image 17 = .ok (.iload_n 2, 1) := dk28 (k := 17) bX12_image_0 rfl
theorem dX12_image_18 : decode cX12_image 18 = .ok (.sipush 135, 3) := dk17 (k := 18) bX12_image_0 rfl (by decide)
theorem dX12_image_21 : decode cX12_image 21 = .ok (.if_icmp .ge 27, 3) := dk162 (k := 21) bX12_image_0 rfl (by decide)
theorem bX12_image_24 : bL cX12_image 24 [42, 180, 0, 13, 17, 0, 135, 27, 104, 28, 96, 42, 180, 0, 9, 28, 46, 79, 132, 2, 1, 167, 255, 228] := bL_of (by decide +kernel)
theorem dX12_image_24 : decode cX12_image 24 = .ok (.aload_n 0, 1) := dk42 (k := 0) bX12_image_24 rfl
theorem dX12_image_25 : decode cX12_image 25 = .ok (.getfield 13, 3) := dk180 (k := 1) bX12_image_24 rfl rfl
theorem dX12_image_28 : decode cX12_image 28 = .ok (.sipush 135, 3) := dk17 (k := 4) bX12_image_24 rfl (by decide)
theorem dX12_image_31 : decode cX12_image 31 = .ok (.iload_n 1, 1) := dk27 (k := 7) bX12_image_24 rfl
theorem dX12_image_32 : decode cX12_image 32 = .ok (.imul, 1) := dk104 (k := 8) bX12_image_24 rfl
theorem dX12_image_33 : decode cX12_image 33 = .ok (.iload_n 2, 1) := dk28 (k := 9) bX12_image_24 rfl
theorem dX12_image_34 : decode cX12_image 34 = .ok (.iadd, 1) := dk96 (k := 10) bX12_image_24 rfl
theorem dX12_image_35 : decode cX12_image 35 = .ok (.aload_n 0, 1) := dk42 (k := 11) bX12_image_24 rfl
theorem dX12_image_36 : decode cX12_image 36 = .ok (.getfield 9, 3) := dk180 (k := 12) bX12_image_24 rfl rfl
theorem dX12_image_39 : decode cX12_image 39 = .ok (.iload_n 2, 1) := dk28 (k := 15) bX12_image_24 rfl
theorem dX12_image_40 : decode cX12_image 40 = .ok (.iaload, 1) := dk46 (k := 16) bX12_image_24 rfl
theorem dX12_image_41 : decode cX12_image 41 = .ok (.iastore, 1) := dk79 (k := 17) bX12_image_24 rfl
theorem dX12_image_42 : decode cX12_image 42 = .ok (.iinc 2 1, 3) := dk132 (k := 18) bX12_image_24 rfl rfl (by decide)
theorem dX12_image_45 : decode cX12_image 45 = .ok (.goto (-28), 3) := dk167 (k := 21) bX12_image_24 rfl (by decide)
theorem bX12_image_48 : bL cX12_image 48 [42, 180, 0, 16, 27, 4, 84, 3, 172] := bL_of (by decide +kernel)
theorem dX12_image_48 : decode cX12_image 48 = .ok (.aload_n 0, 1) := dk42 (k := 0) bX12_image_48 rfl
theorem dX12_image_49 : decode cX12_image 49 = .ok (.getfield 16, 3) := dk180 (k := 1) bX12_image_48 rfl rfl
theorem dX12_image_52 : decode cX12_image 52 = .ok (.iload_n 1, 1) := dk27 (k := 4) bX12_image_48 rfl
theorem dX12_image_53 : decode cX12_image 53 = .ok (.iconst 1, 1) := dk4 (k := 5) bX12_image_48 rfl
theorem dX12_image_54 : decode cX12_image 54 = .ok (.bastore, 1) := dk84 (k := 6) bX12_image_48 rfl
theorem dX12_image_55 : decode cX12_image 55 = .ok (.iconst 0, 1) := dk3 (k := 7) bX12_image_48 rfl
theorem dX12_image_56 : decode cX12_image 56 = .ok (.ireturn, 1) := dk172 (k := 8) bX12_image_48 rfl
theorem bX12_back_0 : bL cX12_back 0 [27, 133, 9, 20, 0, 63, 184, 0, 65, 154, 0, 6, 16, 254, 172, 42, 180, 0, 16, 27, 51, 154, 0, 6] := bL_of (by decide +kernel)
theorem dX12_back_0 : decode cX12_back 0 = .ok (.iload_n 1, 1) := dk27 (k := 0) bX12_back_0 rfl
theorem dX12_back_1 : decode cX12_back 1 = .ok (.i2l, 1) := dk133 (k := 1) bX12_back_0 rfl
theorem dX12_back_2 : decode cX12_back 2 = .ok (.lconst 0, 1) := dk9 (k := 2) bX12_back_0 rfl
theorem dX12_back_3 : decode cX12_back 3 = .ok (.ldc2_w 63, 3) := dk20 (k := 3) bX12_back_0 rfl rfl
theorem dX12_back_6 : decode cX12_back 6 = .ok (.invokestatic 65, 3) := dk184 (k := 6) bX12_back_0 rfl rfl
theorem dX12_back_9 : decode cX12_back 9 = .ok (.ifCond .ne 6, 3) := dk154 (k := 9) bX12_back_0 rfl (by decide)
theorem dX12_back_12 : decode cX12_back 12 = .ok (.bipush (-2), 2) := dk16 (k := 12) bX12_back_0 rfl (by decide)
theorem dX12_back_14 : decode cX12_back 14 = .ok (.ireturn, 1) := dk172 (k := 14) bX12_back_0 rfl
theorem dX12_back_15 : decode cX12_back 15 = .ok (.aload_n 0, 1) := dk42 (k := 15) bX12_back_0 rfl
theorem dX12_back_16 : decode cX12_back 16 = .ok (.getfield 16, 3) := dk180 (k := 16) bX12_back_0 rfl rfl
theorem dX12_back_19 : decode cX12_back 19 = .ok (.iload_n 1, 1) := dk27 (k := 19) bX12_back_0 rfl
theorem dX12_back_20 : decode cX12_back 20 = .ok (.baload, 1) := dk51 (k := 20) bX12_back_0 rfl
theorem dX12_back_21 : decode cX12_back 21 = .ok (.ifCond .ne 6, 3) := dk154 (k := 21) bX12_back_0 rfl (by decide)
theorem bX12_back_24 : bL cX12_back 24 [16, 250, 172, 3, 61, 28, 17, 0, 135, 162, 0, 27, 42, 180, 0, 9, 28, 42, 180, 0, 13, 17, 0, 135] := bL_of (by decide +kernel)
theorem dX12_back_24 : decode cX12_back 24 = .ok (.bipush (-6), 2) := dk16 (k := 0) bX12_back_24 rfl (by decide)
theorem dX12_back_26 : decode cX12_back 26 = .ok (.ireturn, 1) := dk172 (k := 2) bX12_back_24 rfl
theorem dX12_back_27 : decode cX12_back 27 = .ok (.iconst 0, 1) := dk3 (k := 3) bX12_back_24 rfl
theorem dX12_back_28 : decode cX12_back 28 = .ok (.istore_n 2, 1) := dk61 (k := 4) bX12_back_24 rfl
theorem dX12_back_29 : decode cX12_back 29 = .ok (.iload_n 2, 1) := dk28 (k := 5) bX12_back_24 rfl
theorem dX12_back_30 : decode cX12_back 30 = .ok (.sipush 135, 3) := dk17 (k := 6) bX12_back_24 rfl (by decide)
theorem dX12_back_33 : decode cX12_back 33 = .ok (.if_icmp .ge 27, 3) := dk162 (k := 9) bX12_back_24 rfl (by decide)
theorem dX12_back_36 : decode cX12_back 36 = .ok (.aload_n 0, 1) := dk42 (k := 12) bX12_back_24 rfl
theorem dX12_back_37 : decode cX12_back 37 = .ok (.getfield 9, 3) := dk180 (k := 13) bX12_back_24 rfl rfl
theorem dX12_back_40 : decode cX12_back 40 = .ok (.iload_n 2, 1) := dk28 (k := 16) bX12_back_24 rfl
theorem dX12_back_41 : decode cX12_back 41 = .ok (.aload_n 0, 1) := dk42 (k := 17) bX12_back_24 rfl
theorem dX12_back_42 : decode cX12_back 42 = .ok (.getfield 13, 3) := dk180 (k := 18) bX12_back_24 rfl rfl
theorem dX12_back_45 : decode cX12_back 45 = .ok (.sipush 135, 3) := dk17 (k := 21) bX12_back_24 rfl (by decide)
theorem bX12_back_48 : bL cX12_back 48 [27, 104, 28, 96, 46, 79, 132, 2, 1, 167, 255, 228, 3, 172] := bL_of (by decide +kernel)
theorem dX12_back_48 : decode cX12_back 48 = .ok (.iload_n 1, 1) := dk27 (k := 0) bX12_back_48 rfl
theorem dX12_back_49 : decode cX12_back 49 = .ok (.imul, 1) := dk104 (k := 1) bX12_back_48 rfl
theorem dX12_back_50 : decode cX12_back 50 = .ok (.iload_n 2, 1) := dk28 (k := 2) bX12_back_48 rfl
theorem dX12_back_51 : decode cX12_back 51 = .ok (.iadd, 1) := dk96 (k := 3) bX12_back_48 rfl
theorem dX12_back_52 : decode cX12_back 52 = .ok (.iaload, 1) := dk46 (k := 4) bX12_back_48 rfl
theorem dX12_back_53 : decode cX12_back 53 = .ok (.iastore, 1) := dk79 (k := 5) bX12_back_48 rfl
theorem dX12_back_54 : decode cX12_back 54 = .ok (.iinc 2 1, 3) := dk132 (k := 6) bX12_back_48 rfl rfl (by decide)
theorem dX12_back_57 : decode cX12_back 57 = .ok (.goto (-28), 3) := dk167 (k := 9) bX12_back_48 rfl (by decide)
theorem dX12_back_60 : decode cX12_back 60 = .ok (.iconst 0, 1) := dk3 (k := 12) bX12_back_48 rfl
theorem dX12_back_61 : decode cX12_back 61 = .ok (.ireturn, 1) := dk172 (k := 13) bX12_back_48 rfl
theorem bX12_isMount_0 : bL cX12_isMount 0 [42, 180, 0, 9, 16, 7, 46, 158, 0, 7, 4, 167, 0, 4, 3, 172] := bL_of (by decide +kernel)
theorem dX12_isMount_0 : decode cX12_isMount 0 = .ok (.aload_n 0, 1) := dk42 (k := 0) bX12_isMount_0 rfl
theorem dX12_isMount_1 : decode cX12_isMount 1 = .ok (.getfield 9, 3) := dk180 (k := 1) bX12_isMount_0 rfl rfl
theorem dX12_isMount_4 : decode cX12_isMount 4 = .ok (.bipush 7, 2) := dk16 (k := 4) bX12_isMount_0 rfl (by decide)
theorem dX12_isMount_6 : decode cX12_isMount 6 = .ok (.iaload, 1) := dk46 (k := 6) bX12_isMount_0 rfl
theorem dX12_isMount_7 : decode cX12_isMount 7 = .ok (.ifCond .le 7, 3) := dk158 (k := 7) bX12_isMount_0 rfl (by decide)
theorem dX12_isMount_10 : decode cX12_isMount 10 = .ok (.iconst 1, 1) := dk4 (k := 10) bX12_isMount_0 rfl
theorem dX12_isMount_11 : decode cX12_isMount 11 = .ok (.goto 4, 3) := dk167 (k := 11) bX12_isMount_0 rfl (by decide)
theorem dX12_isMount_14 : decode cX12_isMount 14 = .ok (.iconst 0, 1) := dk3 (k := 14) bX12_isMount_0 rfl
theorem dX12_isMount_15 : decode cX12_isMount 15 = .ok (.ireturn, 1) := dk172 (k := 15) bX12_isMount_0 rfl
theorem bX12_isCell_0 : bL cX12_isCell 0 [31, 9, 42, 180, 0, 9, 3, 46, 4, 100, 133, 184, 0, 65, 172] := bL_of (by decide +kernel)
theorem dX12_isCell_0 : decode cX12_isCell 0 = .ok (.lload_n 1, 1) := dk31 (k := 0) bX12_isCell_0 rfl
theorem dX12_isCell_1 : decode cX12_isCell 1 = .ok (.lconst 0, 1) := dk9 (k := 1) bX12_isCell_0 rfl
theorem dX12_isCell_2 : decode cX12_isCell 2 = .ok (.aload_n 0, 1) := dk42 (k := 2) bX12_isCell_0 rfl
theorem dX12_isCell_3 : decode cX12_isCell 3 = .ok (.getfield 9, 3) := dk180 (k := 3) bX12_isCell_0 rfl rfl
theorem dX12_isCell_6 : decode cX12_isCell 6 = .ok (.iconst 0, 1) := dk3 (k := 6) bX12_isCell_0 rfl
theorem dX12_isCell_7 : decode cX12_isCell 7 = .ok (.iaload, 1) := dk46 (k := 7) bX12_isCell_0 rfl
theorem dX12_isCell_8 : decode cX12_isCell 8 = .ok (.iconst 1, 1) := dk4 (k := 8) bX12_isCell_0 rfl
theorem dX12_isCell_9 : decode cX12_isCell 9 = .ok (.isub, 1) := dk100 (k := 9) bX12_isCell_0 rfl
theorem dX12_isCell_10 : decode cX12_isCell 10 = .ok (.i2l, 1) := dk133 (k := 10) bX12_isCell_0 rfl
theorem dX12_isCell_11 : decode cX12_isCell 11 = .ok (.invokestatic 65, 3) := dk184 (k := 11) bX12_isCell_0 rfl rfl
theorem dX12_isCell_14 : decode cX12_isCell 14 = .ok (.ireturn, 1) := dk172 (k := 14) bX12_isCell_0 rfl
theorem bX12_isFolk_0 : bL cX12_isFolk 0 [31, 9, 42, 180, 0, 9, 16, 6, 46, 4, 100, 133, 184, 0, 65, 172] := bL_of (by decide +kernel)
theorem dX12_isFolk_0 : decode cX12_isFolk 0 = .ok (.lload_n 1, 1) := dk31 (k := 0) bX12_isFolk_0 rfl
theorem dX12_isFolk_1 : decode cX12_isFolk 1 = .ok (.lconst 0, 1) := dk9 (k := 1) bX12_isFolk_0 rfl
theorem dX12_isFolk_2 : decode cX12_isFolk 2 = .ok (.aload_n 0, 1) := dk42 (k := 2) bX12_isFolk_0 rfl
theorem dX12_isFolk_3 : decode cX12_isFolk 3 = .ok (.getfield 9, 3) := dk180 (k := 3) bX12_isFolk_0 rfl rfl
theorem dX12_isFolk_6 : decode cX12_isFolk 6 = .ok (.bipush 6, 2) := dk16 (k := 6) bX12_isFolk_0 rfl (by decide)
theorem dX12_isFolk_8 : decode cX12_isFolk 8 = .ok (.iaload, 1) := dk46 (k := 8) bX12_isFolk_0 rfl
theorem dX12_isFolk_9 : decode cX12_isFolk 9 = .ok (.iconst 1, 1) := dk4 (k := 9) bX12_isFolk_0 rfl
theorem dX12_isFolk_10 : decode cX12_isFolk 10 = .ok (.isub, 1) := dk100 (k := 10) bX12_isFolk_0 rfl
theorem dX12_isFolk_11 : decode cX12_isFolk 11 = .ok (.i2l, 1) := dk133 (k := 11) bX12_isFolk_0 rfl
theorem dX12_isFolk_12 : decode cX12_isFolk 12 = .ok (.invokestatic 65, 3) := dk184 (k := 12) bX12_isFolk_0 rfl rfl
theorem dX12_isFolk_15 : decode cX12_isFolk 15 = .ok (.ireturn, 1) := dk172 (k := 15) bX12_isFolk_0 rfl
theorem bX12_isHour_0 : bL cX12_isHour 0 [30, 20, 0, 69, 20, 0, 71, 184, 0, 65, 153, 0, 13, 30, 9, 148, 153, 0, 7, 4, 167, 0, 4, 3] := bL_of (by decide +kernel)
theorem dX12_isHour_0 : decode cX12_isHour 0 = .ok (.lload_n 0, 1) := dk30 (k := 0) bX12_isHour_0 rfl
theorem dX12_isHour_1 : decode cX12_isHour 1 = .ok (.ldc2_w 69, 3) := dk20 (k := 1) bX12_isHour_0 rfl rfl
theorem dX12_isHour_4 : decode cX12_isHour 4 = .ok (.ldc2_w 71, 3) := dk20 (k := 4) bX12_isHour_0 rfl rfl
theorem dX12_isHour_7 : decode cX12_isHour 7 = .ok (.invokestatic 65, 3) := dk184 (k := 7) bX12_isHour_0 rfl rfl
theorem dX12_isHour_10 : decode cX12_isHour 10 = .ok (.ifCond .eq 13, 3) := dk153 (k := 10) bX12_isHour_0 rfl (by decide)
theorem dX12_isHour_13 : decode cX12_isHour 13 = .ok (.lload_n 0, 1) := dk30 (k := 13) bX12_isHour_0 rfl
theorem dX12_isHour_14 : decode cX12_isHour 14 = .ok (.lconst 0, 1) := dk9 (k := 14) bX12_isHour_0 rfl
theorem dX12_isHour_15 : decode cX12_isHour 15 = .ok (.lcmp, 1) := dk148 (k := 15) bX12_isHour_0 rfl
theorem dX12_isHour_16 : decode cX12_isHour 16 = .ok (.ifCond .eq 7, 3) := dk153 (k := 16) bX12_isHour_0 rfl (by decide)
theorem dX12_isHour_19 : decode cX12_isHour 19 = .ok (.iconst 1, 1) := dk4 (k := 19) bX12_isHour_0 rfl
theorem dX12_isHour_20 : decode cX12_isHour 20 = .ok (.goto 4, 3) := dk167 (k := 20) bX12_isHour_0 rfl (by decide)
theorem dX12_isHour_23 : decode cX12_isHour 23 = .ok (.iconst 0, 1) := dk3 (k := 23) bX12_isHour_0 rfl
theorem bX12_isHour_24 : bL cX12_isHour 24 [172] := bL_of (by decide +kernel)
theorem dX12_isHour_24 : decode cX12_isHour 24 = .ok (.ireturn, 1) := dk172 (k := 0) bX12_isHour_24 rfl
theorem bX12_all_0 : bL cX12_all 0 [4, 42, 180, 0, 9, 16, 6, 46, 120, 4, 100, 172] := bL_of (by decide +kernel)
theorem dX12_all_0 : decode cX12_all 0 = .ok (.iconst 1, 1) := dk4 (k := 0) bX12_all_0 rfl
theorem dX12_all_1 : decode cX12_all 1 = .ok (.aload_n 0, 1) := dk42 (k := 1) bX12_all_0 rfl
theorem dX12_all_2 : decode cX12_all 2 = .ok (.getfield 9, 3) := dk180 (k := 2) bX12_all_0 rfl rfl
theorem dX12_all_5 : decode cX12_all 5 = .ok (.bipush 6, 2) := dk16 (k := 5) bX12_all_0 rfl (by decide)
theorem dX12_all_7 : decode cX12_all 7 = .ok (.iaload, 1) := dk46 (k := 7) bX12_all_0 rfl
theorem dX12_all_8 : decode cX12_all 8 = .ok (.ishl, 1) := dk120 (k := 8) bX12_all_0 rfl
theorem dX12_all_9 : decode cX12_all 9 = .ok (.iconst 1, 1) := dk4 (k := 9) bX12_all_0 rfl
theorem dX12_all_10 : decode cX12_all 10 = .ok (.isub, 1) := dk100 (k := 10) bX12_all_0 rfl
theorem dX12_all_11 : decode cX12_all 11 = .ok (.ireturn, 1) := dk172 (k := 11) bX12_all_0 rfl
theorem bX12_isSet_0 : bL cX12_isSet 0 [42, 182, 0, 73, 153, 0, 21, 27, 133, 9, 42, 182, 0, 77, 133, 184, 0, 65, 153, 0, 7, 4, 167, 0, 4] := bL_of (by decide +kernel)
theorem dX12_isSet_0 : decode cX12_isSet 0 = .ok (.aload_n 0, 1) := dk42 (k := 0) bX12_isSet_0 rfl
theorem dX12_isSet_1 : decode cX12_isSet 1 = .ok (.invokevirtual 73, 3) := dk182 (k := 1) bX12_isSet_0 rfl rfl
theorem dX12_isSet_4 : decode cX12_isSet 4 = .ok (.ifCond .eq 21, 3) := dk153 (k := 4) bX12_isSet_0 rfl (by decide)
theorem dX12_isSet_7 : decode cX12_isSet 7 = .ok (.iload_n 1, 1) := dk27 (k := 7) bX12_isSet_0 rfl
theorem dX12_isSet_8 : decode cX12_isSet 8 = .ok (.i2l, 1) := dk133 (k := 8) bX12_isSet_0 rfl
theorem dX12_isSet_9 : decode cX12_isSet 9 = .ok (.lconst 0, 1) := dk9 (k := 9) bX12_isSet_0 rfl
theorem dX12_isSet_10 : decode cX12_isSet 10 = .ok (.aload_n 0, 1) := dk42 (k := 10) bX12_isSet_0 rfl
theorem dX12_isSet_11 : decode cX12_isSet 11 = .ok (.invokevirtual 77, 3) := dk182 (k := 11) bX12_isSet_0 rfl rfl
theorem dX12_isSet_14 : decode cX12_isSet 14 = .ok (.i2l, 1) := dk133 (k := 14) bX12_isSet_0 rfl
theorem dX12_isSet_15 : decode cX12_isSet 15 = .ok (.invokestatic 65, 3) := dk184 (k := 15) bX12_isSet_0 rfl rfl
theorem dX12_isSet_18 : decode cX12_isSet 18 = .ok (.ifCond .eq 7, 3) := dk153 (k := 18) bX12_isSet_0 rfl (by decide)
theorem dX12_isSet_21 : decode cX12_isSet 21 = .ok (.iconst 1, 1) := dk4 (k := 21) bX12_isSet_0 rfl
theorem dX12_isSet_22 : decode cX12_isSet 22 = .ok (.goto 4, 3) := dk167 (k := 22) bX12_isSet_0 rfl (by decide)
theorem bX12_isSet_25 : bL cX12_isSet 25 [3, 172] := bL_of (by decide +kernel)
theorem dX12_isSet_25 : decode cX12_isSet 25 = .ok (.iconst 0, 1) := dk3 (k := 0) bX12_isSet_25 rfl
theorem dX12_isSet_26 : decode cX12_isSet 26 = .ok (.ireturn, 1) := dk172 (k := 1) bX12_isSet_25 rfl
theorem bX12_of_0 : bL cX12_of 0 [42, 180, 0, 9, 16, 19, 16, 7, 27, 104, 96, 28, 96, 46, 172] := bL_of (by decide +kernel)
theorem dX12_of_0 : decode cX12_of 0 = .ok (.aload_n 0, 1) := dk42 (k := 0) bX12_of_0 rfl
theorem dX12_of_1 : decode cX12_of 1 = .ok (.getfield 9, 3) := dk180 (k := 1) bX12_of_0 rfl rfl
theorem dX12_of_4 : decode cX12_of 4 = .ok (.bipush 19, 2) := dk16 (k := 4) bX12_of_0 rfl (by decide)
theorem dX12_of_6 : decode cX12_of 6 = .ok (.bipush 7, 2) := dk16 (k := 6) bX12_of_0 rfl (by decide)
theorem dX12_of_8 : decode cX12_of 8 = .ok (.iload_n 1, 1) := dk27 (k := 8) bX12_of_0 rfl
theorem dX12_of_9 : decode cX12_of 9 = .ok (.imul, 1) := dk104 (k := 9) bX12_of_0 rfl
theorem dX12_of_10 : decode cX12_of 10 = .ok (.iadd, 1) := dk96 (k := 10) bX12_of_0 rfl
theorem dX12_of_11 : decode cX12_of 11 = .ok (.iload_n 2, 1) := dk28 (k := 11) bX12_of_0 rfl
theorem dX12_of_12 : decode cX12_of 12 = .ok (.iadd, 1) := dk96 (k := 12) bX12_of_0 rfl
theorem dX12_of_13 : decode cX12_of 13 = .ok (.iaload, 1) := dk46 (k := 13) bX12_of_0 rfl
theorem dX12_of_14 : decode cX12_of 14 = .ok (.ireturn, 1) := dk172 (k := 14) bX12_of_0 rfl
theorem bX12_feed_0 : bL cX12_feed 0 [42, 180, 0, 81, 16, 20, 96, 17, 3, 132, 164, 0, 5, 2, 172, 42, 180, 0, 24, 3, 27, 79, 42, 180, 0, 24] := bL_of (by decide +kernel)
theorem dX12_feed_0 : decode cX12_feed 0 = .ok (.aload_n 0, 1) := dk42 (k := 0) bX12_feed_0 rfl
theorem dX12_feed_1 : decode cX12_feed 1 = .ok (.getfield 81, 3) := dk180 (k := 1) bX12_feed_0 rfl rfl
theorem dX12_feed_4 : decode cX12_feed 4 = .ok (.bipush 20, 2) := dk16 (k := 4) bX12_feed_0 rfl (by decide)
theorem dX12_feed_6 : decode cX12_feed 6 = .ok (.iadd, 1) := dk96 (k := 6) bX12_feed_0 rfl
theorem dX12_feed_7 : decode cX12_feed 7 = .ok (.sipush 900, 3) := dk17 (k := 7) bX12_feed_0 rfl (by decide)
theorem dX12_feed_10 : decode cX12_feed 10 = .ok (.if_icmp .le 5, 3) := dk164 (k := 10) bX12_feed_0 rfl (by decide)
theorem dX12_feed_13 : decode cX12_feed 13 = .ok (.iconst (-1), 1) := dk2 (k := 13) bX12_feed_0 rfl
theorem dX12_feed_14 : decode cX12_feed 14 = .ok (.ireturn, 1) := dk172 (k := 14) bX12_feed_0 rfl
theorem dX12_feed_15 : decode cX12_feed 15 = .ok (.aload_n 0, 1) := dk42 (k := 15) bX12_feed_0 rfl
theorem dX12_feed_16 : decode cX12_feed 16 = .ok (.getfield 24, 3) := dk180 (k := 16) bX12_feed_0 rfl rfl
theorem dX12_feed_19 : decode cX12_feed 19 = .ok (.iconst 0, 1) := dk3 (k := 19) bX12_feed_0 rfl
theorem dX12_feed_20 : decode cX12_feed 20 = .ok (.iload_n 1, 1) := dk27 (k := 20) bX12_feed_0 rfl
theorem dX12_feed_21 : decode cX12_feed 21 = .ok (.iastore, 1) := dk79 (k := 21) bX12_feed_0 rfl
theorem dX12_feed_22 : decode cX12_feed 22 = .ok (.aload_n 0, 1) := dk42 (k := 22) bX12_feed_0 rfl
theorem dX12_feed_23 : decode cX12_feed 23 = .ok (.getfield 24, 3) := dk180 (k := 23) bX12_feed_0 rfl rfl
theorem bX12_feed_26 : bL cX12_feed 26 [4, 28, 79, 42, 180, 0, 24, 5, 29, 79, 42, 180, 0, 24, 6, 21, 4, 79, 42, 180, 0, 24, 7, 21, 5] := bL_of (by decide +kernel)
theorem dX12_feed_26 : decode cX12_feed 26 = .ok (.iconst 1, 1) := dk4 (k := 0) bX12_feed_26 rfl
theorem dX12_feed_27 : decode cX12_feed 27 = .ok (.iload_n 2, 1) := dk28 (k := 1) bX12_feed_26 rfl
theorem dX12_feed_28 : decode cX12_feed 28 = .ok (.iastore, 1) := dk79 (k := 2) bX12_feed_26 rfl
theorem dX12_feed_29 : decode cX12_feed 29 = .ok (.aload_n 0, 1) := dk42 (k := 3) bX12_feed_26 rfl
theorem dX12_feed_30 : decode cX12_feed 30 = .ok (.getfield 24, 3) := dk180 (k := 4) bX12_feed_26 rfl rfl
theorem dX12_feed_33 : decode cX12_feed 33 = .ok (.iconst 2, 1) := dk5 (k := 7) bX12_feed_26 rfl
theorem dX12_feed_34 : decode cX12_feed 34 = .ok (.iload_n 3, 1) := dk29 (k := 8) bX12_feed_26 rfl
theorem dX12_feed_35 : decode cX12_feed 35 = .ok (.iastore, 1) := dk79 (k := 9) bX12_feed_26 rfl
theorem dX12_feed_36 : decode cX12_feed 36 = .ok (.aload_n 0, 1) := dk42 (k := 10) bX12_feed_26 rfl
theorem dX12_feed_37 : decode cX12_feed 37 = .ok (.getfield 24, 3) := dk180 (k := 11) bX12_feed_26 rfl rfl
theorem dX12_feed_40 : decode cX12_feed 40 = .ok (.iconst 3, 1) := dk6 (k := 14) bX12_feed_26 rfl
theorem dX12_feed_41 : decode cX12_feed 41 = .ok (.iload 4, 2) := dk21 (k := 15) bX12_feed_26 rfl rfl
theorem dX12_feed_43 : decode cX12_feed 43 = .ok (.iastore, 1) := dk79 (k := 17) bX12_feed_26 rfl
theorem dX12_feed_44 : decode cX12_feed 44 = .ok (.aload_n 0, 1) := dk42 (k := 18) bX12_feed_26 rfl
theorem dX12_feed_45 : decode cX12_feed 45 = .ok (.getfield 24, 3) := dk180 (k := 19) bX12_feed_26 rfl rfl
theorem dX12_feed_48 : decode cX12_feed 48 = .ok (.iconst 4, 1) := dk7 (k := 22) bX12_feed_26 rfl
theorem dX12_feed_49 : decode cX12_feed 49 = .ok (.iload 5, 2) := dk21 (k := 23) bX12_feed_26 rfl rfl
theorem bX12_feed_51 : bL cX12_feed 51 [79, 3, 54, 6, 21, 6, 16, 20, 162, 0, 42, 42, 180, 0, 20, 42, 180, 0, 81, 21, 6, 96, 42, 180, 0, 24] := bL_of (by decide +kernel)
theorem dX12_feed_51 : decode cX12_feed 51 = .ok (.iastore, 1) := dk79 (k := 0) bX12_feed_51 rfl
theorem dX12_feed_52 : decode cX12_feed 52 = .ok (.iconst 0, 1) := dk3 (k := 1) bX12_feed_51 rfl
theorem dX12_feed_53 : decode cX12_feed 53 = .ok (.istore 6, 2) := dk54 (k := 2) bX12_feed_51 rfl rfl
theorem dX12_feed_55 : decode cX12_feed 55 = .ok (.iload 6, 2) := dk21 (k := 4) bX12_feed_51 rfl rfl
theorem dX12_feed_57 : decode cX12_feed 57 = .ok (.bipush 20, 2) := dk16 (k := 6) bX12_feed_51 rfl (by decide)
theorem dX12_feed_59 : decode cX12_feed 59 = .ok (.if_icmp .ge 42, 3) := dk162 (k := 8) bX12_feed_51 rfl (by decide)
theorem dX12_feed_62 : decode cX12_feed 62 = .ok (.aload_n 0, 1) := dk42 (k := 11) bX12_feed_51 rfl
theorem dX12_feed_63 : decode cX12_feed 63 = .ok (.getfield 20, 3) := dk180 (k := 12) bX12_feed_51 rfl rfl
theorem dX12_feed_66 : decode cX12_feed 66 = .ok (.aload_n 0, 1) := dk42 (k := 15) bX12_feed_51 rfl
theorem dX12_feed_67 : decode cX12_feed 67 = .ok (.getfield 81, 3) := dk180 (k := 16) bX12_feed_51 rfl rfl
theorem dX12_feed_70 : decode cX12_feed 70 = .ok (.iload 6, 2) := dk21 (k := 19) bX12_feed_51 rfl rfl
theorem dX12_feed_72 : decode cX12_feed 72 = .ok (.iadd, 1) := dk96 (k := 21) bX12_feed_51 rfl
theorem dX12_feed_73 : decode cX12_feed 73 = .ok (.aload_n 0, 1) := dk42 (k := 22) bX12_feed_51 rfl
theorem dX12_feed_74 : decode cX12_feed 74 = .ok (.getfield 24, 3) := dk180 (k := 23) bX12_feed_51 rfl rfl
theorem bX12_feed_77 : bL cX12_feed 77 [21, 6, 7, 108, 46, 16, 24, 16, 8, 21, 6, 7, 112, 104, 100, 122, 145, 84, 132, 6, 1, 167, 255, 213] := bL_of (by decide +kernel)
theorem dX12_feed_77 : decode cX12_feed 77 = .ok (.iload 6, 2) := dk21 (k := 0) bX12_feed_77 rfl rfl
theorem dX12_feed_79 : decode cX12_feed 79 = .ok (.iconst 4, 1) := dk7 (k := 2) bX12_feed_77 rfl
theorem dX12_feed_80 : decode cX12_feed 80 = .ok (.idiv, 1) := dk108 (k := 3) bX12_feed_77 rfl
theorem dX12_feed_81 : decode cX12_feed 81 = .ok (.iaload, 1) := dk46 (k := 4) bX12_feed_77 rfl
theorem dX12_feed_82 : decode cX12_feed 82 = .ok (.bipush 24, 2) := dk16 (k := 5) bX12_feed_77 rfl (by decide)
theorem dX12_feed_84 : decode cX12_feed 84 = .ok (.bipush 8, 2) := dk16 (k := 7) bX12_feed_77 rfl (by decide)
theorem dX12_feed_86 : decode cX12_feed 86 = .ok (.iload 6, 2) := dk21 (k := 9) bX12_feed_77 rfl rfl
theorem dX12_feed_88 : decode cX12_feed 88 = .ok (.iconst 4, 1) := dk7 (k := 11) bX12_feed_77 rfl
theorem dX12_feed_89 : decode cX12_feed 89 = .ok (.irem, 1) := dk112 (k := 12) bX12_feed_77 rfl
theorem dX12_feed_90 : decode cX12_feed 90 = .ok (.imul, 1) := dk104 (k := 13) bX12_feed_77 rfl
theorem dX12_feed_91 : decode cX12_feed 91 = .ok (.isub, 1) := dk100 (k := 14) bX12_feed_77 rfl
theorem dX12_feed_92 : decode cX12_feed 92 = .ok (.ishr, 1) := dk122 (k := 15) bX12_feed_77 rfl
theorem dX12_feed_93 : decode cX12_feed 93 = .ok (.i2b, 1) := dk145 (k := 16) bX12_feed_77 rfl
theorem dX12_feed_94 : decode cX12_feed 94 = .ok (.bastore, 1) := dk84 (k := 17) bX12_feed_77 rfl
theorem dX12_feed_95 : decode cX12_feed 95 = .ok (.iinc 6 1, 3) := dk132 (k := 18) bX12_feed_77 rfl rfl (by decide)
theorem dX12_feed_98 : decode cX12_feed 98 = .ok (.goto (-43), 3) := dk167 (k := 21) bX12_feed_77 rfl (by decide)
theorem bX12_feed_101 : bL cX12_feed 101 [42, 89] := bL_of (by decide +kernel)
theorem dX12_feed_101 : decode cX12_feed 101 = .ok (.aload_n 0, 1) := dk42 (k := 0) bX12_feed_101 rfl
theorem dX12_feed_102 : decode cX12_feed 102 = .ok (.dup, 1) := dk89 (k := 1) bX12_feed_101 rfl
end
