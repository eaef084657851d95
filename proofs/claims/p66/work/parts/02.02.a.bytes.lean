/-! bytes of a method, and what an instruction is by them -/
def bA (c : ByteArray) (i v : Nat) : Prop := ∃ h : i < c.size, (c[i]'h).toNat = v
def bL (c : ByteArray) (i : Nat) (l : List Nat) : Prop := ∀ k v, l[k]? = some v → bA c (i + k) v
theorem bL_at {c : ByteArray} {i k : Nat} {l : List Nat} (j : Nat) {v : Nat} (h : bL c i l) (e : (l.drop k)[j]? = some v) : bA c (i + k + j) v := by
  rw [Nat.add_assoc]
  exact h (k + j) v (by rw [← e, List.getElem?_drop])
def bPre : List Nat → List UInt8 → Bool
  | [], _ => true
  | _ :: _, [] => false
  | v :: vs, b :: bs => Nat.beq b.toNat v && bPre vs bs
theorem bPre_at : ∀ (l : List Nat) (L : List UInt8), bPre l L = true → ∀ k v : Nat, l[k]? = some v → ∃ b : UInt8, L[k]? = some b ∧ b.toNat = v := by
  intro l
  induction l with
  | nil => intro L _ k v h; simp at h
  | cons x xs ih =>
    intro L h k v hk
    cases L with
    | nil => cases h
    | cons b bs =>
      have h' : (Nat.beq b.toNat x && bPre xs bs) = true := h
      rw [Bool.and_eq_true] at h'
      cases k with
      | zero =>
        have : x = v := by simpa using hk
        exact ⟨b, by simp, by rw [← this]; exact Nat.eq_of_beq_eq_true h'.1⟩
      | succ k => exact (ih bs h'.2 k v (by simpa using hk)).imp fun y hy => ⟨by simpa using hy.1, hy.2⟩
theorem bL_of {c : ByteArray} {i : Nat} {l : List Nat} (h : bPre l (c.data.toList.drop i) = true) : bL c i l := by
  intro k v hk
  obtain ⟨b, h1, h2⟩ := bPre_at l _ h k v hk
  rw [List.getElem?_drop, Array.getElem?_toList] at h1
  obtain ⟨h3, h4⟩ := Array.getElem?_eq_some_iff.mp h1
  exact ⟨h3, by rw [← h2, ← h4]; rfl⟩
theorem r_bind {α β : Type} {r : Jvm.ClassFile.Decoder α} {f : α → Jvm.ClassFile.Decoder β} {c : ByteArray} {p q : Nat} {x : α} (h : r c p = .ok (x, q)) : Jvm.ClassFile.Reader.runAt (r >>= f) c p = Jvm.ClassFile.Reader.runAt (f x) c q := by
  show Except.bind (r c p) _ = _
  rw [h]
  rfl
theorem u1_at {c : ByteArray} {p v : Nat} (h : bA c p v) : (Jvm.ClassFile.Reader.u1 : Jvm.ClassFile.Decoder Nat) c p = .ok (v, p + 1) := by
  obtain ⟨h, rfl⟩ := h
  show (if h : p < c.size then _ else _ : Jvm.ClassFile.Decoder Nat) c p = _
  rw [dif_pos h]
  rfl
theorem u2_at {c : ByteArray} {p a b : Nat} (h1 : bA c p a) (h2 : bA c (p + 1) b) : (Jvm.ClassFile.Reader.u2 : Jvm.ClassFile.Decoder Nat) c p = .ok (a * 256 + b, p + 2) := by
  show Except.bind ((Jvm.ClassFile.Reader.u1 : Jvm.ClassFile.Decoder Nat) c p) _ = _
  rw [u1_at h1]
  show Except.bind ((Jvm.ClassFile.Reader.u1 : Jvm.ClassFile.Decoder Nat) c (p + 1)) _ = _
  rw [u1_at h2]
  rfl
theorem s1_at {c : ByteArray} {p a : Nat} (h1 : bA c p a) : (Jvm.ClassFile.Reader.s1 : Jvm.ClassFile.Decoder Int) c p = .ok (Jvm.ClassFile.Reader.signed 8 a, p + 1) := by
  show Except.bind ((Jvm.ClassFile.Reader.u1 : Jvm.ClassFile.Decoder Nat) c p) _ = _
  rw [u1_at h1]
  rfl
theorem s2_at {c : ByteArray} {p a b : Nat} (h1 : bA c p a) (h2 : bA c (p + 1) b) : (Jvm.ClassFile.Reader.s2 : Jvm.ClassFile.Decoder Int) c p = .ok (Jvm.ClassFile.Reader.signed 16 (a * 256 + b), p + 2) := by
  show Except.bind ((Jvm.ClassFile.Reader.u2 : Jvm.ClassFile.Decoder Nat) c p) _ = _
  rw [u2_at h1 h2]
  rfl
theorem dec_of {c : ByteArray} {pc n : Nat} {x : Instr} (h : Jvm.ClassFile.Reader.runAt (Jvm.ClassFile.Decoder.instr pc) c pc = .ok (x, pc + n)) : decode c pc = .ok (x, n) := by
  unfold decode
  rw [h]
  show Except.ok (x, pc + n - pc) = _
  rw [Nat.add_sub_cancel_left]
theorem dk2 {c : ByteArray} {i k : Nat} {l r : List Nat} (h : bL c i l) (e : l.drop k = 2 :: r) : decode c (i + k) = .ok (.iconst (-1), 1) := by
  refine dec_of ((r_bind (u1_at (bL_at 0 h (by rw [e]; rfl)))).trans ?_)
  rfl
theorem dk3 {c : ByteArray} {i k : Nat} {l r : List Nat} (h : bL c i l) (e : l.drop k = 3 :: r) : decode c (i + k) = .ok (.iconst 0, 1) := by
  refine dec_of ((r_bind (u1_at (bL_at 0 h (by rw [e]; rfl)))).trans ?_)
  rfl
theorem dk4 {c : ByteArray} {i k : Nat} {l r : List Nat} (h : bL c i l) (e : l.drop k = 4 :: r) : decode c (i + k) = .ok (.iconst 1, 1) := by
  refine dec_of ((r_bind (u1_at (bL_at 0 h (by rw [e]; rfl)))).trans ?_)
  rfl
theorem dk5 {c : ByteArray} {i k : Nat} {l r : List Nat} (h : bL c i l) (e : l.drop k = 5 :: r) : decode c (i + k) = .ok (.iconst 2, 1) := by
  refine dec_of ((r_bind (u1_at (bL_at 0 h (by rw [e]; rfl)))).trans ?_)
  rfl
theorem dk6 {c : ByteArray} {i k : Nat} {l r : List Nat} (h : bL c i l) (e : l.drop k = 6 :: r) : decode c (i + k) = .ok (.iconst 3, 1) := by
  refine dec_of ((r_bind (u1_at (bL_at 0 h (by rw [e]; rfl)))).trans ?_)
  rfl
theorem dk7 {c : ByteArray} {i k : Nat} {l r : List Nat} (h : bL c i l) (e : l.drop k = 7 :: r) : decode c (i + k) = .ok (.iconst 4, 1) := by
  refine dec_of ((r_bind (u1_at (bL_at 0 h (by rw [e]; rfl)))).trans ?_)
  rfl
theorem dk8 {c : ByteArray} {i k : Nat} {l r : List Nat} (h : bL c i l) (e : l.drop k = 8 :: r) : decode c (i + k) = .ok (.iconst 5, 1) := by
  refine dec_of ((r_bind (u1_at (bL_at 0 h (by rw [e]; rfl)))).trans ?_)
  rfl
theorem dk9 {c : ByteArray} {i k : Nat} {l r : List Nat} (h : bL c i l) (e : l.drop k = 9 :: r) : decode c (i + k) = .ok (.lconst 0, 1) := by
  refine dec_of ((r_bind (u1_at (bL_at 0 h (by rw [e]; rfl)))).trans ?_)
  rfl
theorem dk10 {c : ByteArray} {i k : Nat} {l r : List Nat} (h : bL c i l) (e : l.drop k = 10 :: r) : decode c (i + k) = .ok (.lconst 1, 1) := by
  refine dec_of ((r_bind (u1_at (bL_at 0 h (by rw [e]; rfl)))).trans ?_)
  rfl
theorem dk16 {c : ByteArray} {i k a : Nat} {x : Int} {l r : List Nat} (h : bL c i l) (e : l.drop k = 16 :: a :: r) (hx : Jvm.ClassFile.Reader.signed 8 a = x) : decode c (i + k) = .ok (.bipush x, 2) := by
  subst hx
  refine dec_of ((r_bind (u1_at (bL_at 0 h (by rw [e]; rfl)))).trans ?_)
  exact (r_bind (s1_at (bL_at 1 h (by rw [e]; rfl)))).trans rfl
theorem dk17 {c : ByteArray} {i k a b : Nat} {x : Int} {l r : List Nat} (h : bL c i l) (e : l.drop k = 17 :: a :: b :: r) (hx : Jvm.ClassFile.Reader.signed 16 (a * 256 + b) = x) : decode c (i + k) = .ok (.sipush x, 3) := by
  subst hx
  refine dec_of ((r_bind (u1_at (bL_at 0 h (by rw [e]; rfl)))).trans ?_)
  exact (r_bind (s2_at (bL_at 1 h (by rw [e]; rfl)) (bL_at 2 h (by rw [e]; rfl)))).trans rfl
theorem dk18 {c : ByteArray} {i k a x : Nat} {l r : List Nat} (h : bL c i l) (e : l.drop k = 18 :: a :: r) (hx : a = x) : decode c (i + k) = .ok (.ldc x, 2) := by
  subst hx
  refine dec_of ((r_bind (u1_at (bL_at 0 h (by rw [e]; rfl)))).trans ?_)
  exact (r_bind (u1_at (bL_at 1 h (by rw [e]; rfl)))).trans rfl
theorem dk19 {c : ByteArray} {i k a b x : Nat} {l r : List Nat} (h : bL c i l) (e : l.drop k = 19 :: a :: b :: r) (hx : a * 256 + b = x) : decode c (i + k) = .ok (.ldc_w x, 3) := by
  subst hx
  refine dec_of ((r_bind (u1_at (bL_at 0 h (by rw [e]; rfl)))).trans ?_)
  exact (r_bind (u2_at (bL_at 1 h (by rw [e]; rfl)) (bL_at 2 h (by rw [e]; rfl)))).trans rfl
theorem dk20 {c : ByteArray} {i k a b x : Nat} {l r : List Nat} (h : bL c i l) (e : l.drop k = 20 :: a :: b :: r) (hx : a * 256 + b = x) : decode c (i + k) = .ok (.ldc2_w x, 3) := by
  subst hx
  refine dec_of ((r_bind (u1_at (bL_at 0 h (by rw [e]; rfl)))).trans ?_)
  exact (r_bind (u2_at (bL_at 1 h (by rw [e]; rfl)) (bL_at 2 h (by rw [e]; rfl)))).trans rfl
theorem dk21 {c : ByteArray} {i k a x : Nat} {l r : List Nat} (h : bL c i l) (e : l.drop k = 21 :: a :: r) (hx : a = x) : decode c (i + k) = .ok (.iload x, 2) := by
  subst hx
  refine dec_of ((r_bind (u1_at (bL_at 0 h (by rw [e]; rfl)))).trans ?_)
  exact (r_bind (u1_at (bL_at 1 h (by rw [e]; rfl)))).trans rfl
theorem dk22 {c : ByteArray} {i k a x : Nat} {l r : List Nat} (h : bL c i l) (e : l.drop k = 22 :: a :: r) (hx : a = x) : decode c (i + k) = .ok (.lload x, 2) := by
  subst hx
  refine dec_of ((r_bind (u1_at (bL_at 0 h (by rw [e]; rfl)))).trans ?_)
  exact (r_bind (u1_at (bL_at 1 h (by rw [e]; rfl)))).trans rfl
theorem dk26 {c : ByteArray} {i k : Nat} {l r : List Nat} (h : bL c i l) (e : l.drop k = 26 :: r) : decode c (i + k) = .ok (.iload_n 0, 1) := by
  refine dec_of ((r_bind (u1_at (bL_at 0 h (by rw [e]; rfl)))).trans ?_)
  rfl
theorem dk27 {c : ByteArray} {i k : Nat} {l r : List Nat} (h : bL c i l) (e : l.drop k = 27 :: r) : decode c (i + k) = .ok (.iload_n 1, 1) := by
  refine dec_of ((r_bind (u1_at (bL_at 0 h (by rw [e]; rfl)))).trans ?_)
  rfl
theorem dk28 {c : ByteArray} {i k : Nat} {l r : List Nat} (h : bL c i l) (e : l.drop k = 28 :: r) : decode c (i + k) = .ok (.iload_n 2, 1) := by
  refine dec_of ((r_bind (u1_at (bL_at 0 h (by rw [e]; rfl)))).trans ?_)
  rfl
theorem dk29 {c : ByteArray} {i k : Nat} {l r : List Nat} (h : bL c i l) (e : l.drop k = 29 :: r) : decode c (i + k) = .ok (.iload_n 3, 1) := by
  refine dec_of ((r_bind (u1_at (bL_at 0 h (by rw [e]; rfl)))).trans ?_)
  rfl
theorem dk30 {c : ByteArray} {i k : Nat} {l r : List Nat} (h : bL c i l) (e : l.drop k = 30 :: r) : decode c (i + k) = .ok (.lload_n 0, 1) := by
  refine dec_of ((r_bind (u1_at (bL_at 0 h (by rw [e]; rfl)))).trans ?_)
  rfl
theorem dk31 {c : ByteArray} {i k : Nat} {l r : List Nat} (h : bL c i l) (e : l.drop k = 31 :: r) : decode c (i + k) = .ok (.lload_n 1, 1) := by
  refine dec_of ((r_bind (u1_at (bL_at 0 h (by rw [e]; rfl)))).trans ?_)
  rfl
theorem dk32 {c : ByteArray} {i k : Nat} {l r : List Nat} (h : bL c i l) (e : l.drop k = 32 :: r) : decode c (i + k) = .ok (.lload_n 2, 1) := by
  refine dec_of ((r_bind (u1_at (bL_at 0 h (by rw [e]; rfl)))).trans ?_)
  rfl
theorem dk33 {c : ByteArray} {i k : Nat} {l r : List Nat} (h : bL c i l) (e : l.drop k = 33 :: r) : decode c (i + k) = .ok (.lload_n 3, 1) := by
  refine dec_of ((r_bind (u1_at (bL_at 0 h (by rw [e]; rfl)))).trans ?_)
  rfl
theorem dk42 {c : ByteArray} {i k : Nat} {l r : List Nat} (h : bL c i l) (e : l.drop k = 42 :: r) : decode c (i + k) = .ok (.aload_n 0, 1) := by
  refine dec_of ((r_bind (u1_at (bL_at 0 h (by rw [e]; rfl)))).trans ?_)
  rfl
theorem dk43 {c : ByteArray} {i k : Nat} {l r : List Nat} (h : bL c i l) (e : l.drop k = 43 :: r) : decode c (i + k) = .ok (.aload_n 1, 1) := by
  refine dec_of ((r_bind (u1_at (bL_at 0 h (by rw [e]; rfl)))).trans ?_)
  rfl
theorem dk44 {c : ByteArray} {i k : Nat} {l r : List Nat} (h : bL c i l) (e : l.drop k = 44 :: r) : decode c (i + k) = .ok (.aload_n 2, 1) := by
  refine dec_of ((r_bind (u1_at (bL_at 0 h (by rw [e]; rfl)))).trans ?_)
  rfl
theorem dk45 {c : ByteArray} {i k : Nat} {l r : List Nat} (h : bL c i l) (e : l.drop k = 45 :: r) : decode c (i + k) = .ok (.aload_n 3, 1) := by
  refine dec_of ((r_bind (u1_at (bL_at 0 h (by rw [e]; rfl)))).trans ?_)
  rfl
theorem dk46 {c : ByteArray} {i k : Nat} {l r : List Nat} (h : bL c i l) (e : l.drop k = 46 :: r) : decode c (i + k) = .ok (.iaload, 1) := by
  refine dec_of ((r_bind (u1_at (bL_at 0 h (by rw [e]; rfl)))).trans ?_)
  rfl
theorem dk47 {c : ByteArray} {i k : Nat} {l r : List Nat} (h : bL c i l) (e : l.drop k = 47 :: r) : decode c (i + k) = .ok (.laload, 1) := by
  refine dec_of ((r_bind (u1_at (bL_at 0 h (by rw [e]; rfl)))).trans ?_)
  rfl
theorem dk50 {c : ByteArray} {i k : Nat} {l r : List Nat} (h : bL c i l) (e : l.drop k = 50 :: r) : decode c (i + k) = .ok (.aaload, 1) := by
  refine dec_of ((r_bind (u1_at (bL_at 0 h (by rw [e]; rfl)))).trans ?_)
  rfl
theorem dk51 {c : ByteArray} {i k : Nat} {l r : List Nat} (h : bL c i l) (e : l.drop k = 51 :: r) : decode c (i + k) = .ok (.baload, 1) := by
  refine dec_of ((r_bind (u1_at (bL_at 0 h (by rw [e]; rfl)))).trans ?_)
  rfl
theorem dk54 {c : ByteArray} {i k a x : Nat} {l r : List Nat} (h : bL c i l) (e : l.drop k = 54 :: a :: r) (hx : a = x) : decode c (i + k) = .ok (.istore x, 2) := by
  subst hx
  refine dec_of ((r_bind (u1_at (bL_at 0 h (by rw [e]; rfl)))).trans ?_)
  exact (r_bind (u1_at (bL_at 1 h (by rw [e]; rfl)))).trans rfl
theorem dk55 {c : ByteArray} {i k a x : Nat} {l r : List Nat} (h : bL c i l) (e : l.drop k = 55 :: a :: r) (hx : a = x) : decode c (i + k) = .ok (.lstore x, 2) := by
  subst hx
  refine dec_of ((r_bind (u1_at (bL_at 0 h (by rw [e]; rfl)))).trans ?_)
  exact (r_bind (u1_at (bL_at 1 h (by rw [e]; rfl)))).trans rfl
theorem dk59 {c : ByteArray} {i k : Nat} {l r : List Nat} (h : bL c i l) (e : l.drop k = 59 :: r) : decode c (i + k) = .ok (.istore_n 0, 1) := by
  refine dec_of ((r_bind (u1_at (bL_at 0 h (by rw [e]; rfl)))).trans ?_)
  rfl
theorem dk60 {c : ByteArray} {i k : Nat} {l r : List Nat} (h : bL c i l) (e : l.drop k = 60 :: r) : decode c (i + k) = .ok (.istore_n 1, 1) := by
  refine dec_of ((r_bind (u1_at (bL_at 0 h (by rw [e]; rfl)))).trans ?_)
  rfl
theorem dk61 {c : ByteArray} {i k : Nat} {l r : List Nat} (h : bL c i l) (e : l.drop k = 61 :: r) : decode c (i + k) = .ok (.istore_n 2, 1) := by
  refine dec_of ((r_bind (u1_at (bL_at 0 h (by rw [e]; rfl)))).trans ?_)
  rfl
theorem dk62 {c : ByteArray} {i k : Nat} {l r : List Nat} (h : bL c i l) (e : l.drop k = 62 :: r) : decode c (i + k) = .ok (.istore_n 3, 1) := by
  refine dec_of ((r_bind (u1_at (bL_at 0 h (by rw [e]; rfl)))).trans ?_)
  rfl
theorem dk76 {c : ByteArray} {i k : Nat} {l r : List Nat} (h : bL c i l) (e : l.drop k = 76 :: r) : decode c (i + k) = .ok (.astore_n 1, 1) := by
  refine dec_of ((r_bind (u1_at (bL_at 0 h (by rw [e]; rfl)))).trans ?_)
  rfl
theorem dk77 {c : ByteArray} {i k : Nat} {l r : List Nat} (h : bL c i l) (e : l.drop k = 77 :: r) : decode c (i + k) = .ok (.astore_n 2, 1) := by
  refine dec_of ((r_bind (u1_at (bL_at 0 h (by rw [e]; rfl)))).trans ?_)
  rfl
theorem dk79 {c : ByteArray} {i k : Nat} {l r : List Nat} (h : bL c i l) (e : l.drop k = 79 :: r) : decode c (i + k) = .ok (.iastore, 1) := by
  refine dec_of ((r_bind (u1_at (bL_at 0 h (by rw [e]; rfl)))).trans ?_)
  rfl
theorem dk80 {c : ByteArray} {i k : Nat} {l r : List Nat} (h : bL c i l) (e : l.drop k = 80 :: r) : decode c (i + k) = .ok (.lastore, 1) := by
  refine dec_of ((r_bind (u1_at (bL_at 0 h (by rw [e]; rfl)))).trans ?_)
  rfl
theorem dk83 {c : ByteArray} {i k : Nat} {l r : List Nat} (h : bL c i l) (e : l.drop k = 83 :: r) : decode c (i + k) = .ok (.aastore, 1) := by
  refine dec_of ((r_bind (u1_at (bL_at 0 h (by rw [e]; rfl)))).trans ?_)
  rfl
theorem dk84 {c : ByteArray} {i k : Nat} {l r : List Nat} (h : bL c i l) (e : l.drop k = 84 :: r) : decode c (i + k) = .ok (.bastore, 1) := by
  refine dec_of ((r_bind (u1_at (bL_at 0 h (by rw [e]; rfl)))).trans ?_)
  rfl
theorem dk87 {c : ByteArray} {i k : Nat} {l r : List Nat} (h : bL c i l) (e : l.drop k = 87 :: r) : decode c (i + k) = .ok (.pop, 1) := by
  refine dec_of ((r_bind (u1_at (bL_at 0 h (by rw [e]; rfl)))).trans ?_)
  rfl
theorem dk89 {c : ByteArray} {i k : Nat} {l r : List Nat} (h : bL c i l) (e : l.drop k = 89 :: r) : decode c (i + k) = .ok (.dup, 1) := by
  refine dec_of ((r_bind (u1_at (bL_at 0 h (by rw [e]; rfl)))).trans ?_)
  rfl
theorem dk92 {c : ByteArray} {i k : Nat} {l r : List Nat} (h : bL c i l) (e : l.drop k = 92 :: r) : decode c (i + k) = .ok (.dup2, 1) := by
  refine dec_of ((r_bind (u1_at (bL_at 0 h (by rw [e]; rfl)))).trans ?_)
  rfl
theorem dk96 {c : ByteArray} {i k : Nat} {l r : List Nat} (h : bL c i l) (e : l.drop k = 96 :: r) : decode c (i + k) = .ok (.iadd, 1) := by
  refine dec_of ((r_bind (u1_at (bL_at 0 h (by rw [e]; rfl)))).trans ?_)
  rfl
theorem dk97 {c : ByteArray} {i k : Nat} {l r : List Nat} (h : bL c i l) (e : l.drop k = 97 :: r) : decode c (i + k) = .ok (.ladd, 1) := by
  refine dec_of ((r_bind (u1_at (bL_at 0 h (by rw [e]; rfl)))).trans ?_)
  rfl
theorem dk100 {c : ByteArray} {i k : Nat} {l r : List Nat} (h : bL c i l) (e : l.drop k = 100 :: r) : decode c (i + k) = .ok (.isub, 1) := by
  refine dec_of ((r_bind (u1_at (bL_at 0 h (by rw [e]; rfl)))).trans ?_)
  rfl
theorem dk104 {c : ByteArray} {i k : Nat} {l r : List Nat} (h : bL c i l) (e : l.drop k = 104 :: r) : decode c (i + k) = .ok (.imul, 1) := by
  refine dec_of ((r_bind (u1_at (bL_at 0 h (by rw [e]; rfl)))).trans ?_)
  rfl
theorem dk105 {c : ByteArray} {i k : Nat} {l r : List Nat} (h : bL c i l) (e : l.drop k = 105 :: r) : decode c (i + k) = .ok (.lmul, 1) := by
  refine dec_of ((r_bind (u1_at (bL_at 0 h (by rw [e]; rfl)))).trans ?_)
  rfl
theorem dk108 {c : ByteArray} {i k : Nat} {l r : List Nat} (h : bL c i l) (e : l.drop k = 108 :: r) : decode c (i + k) = .ok (.idiv, 1) := by
  refine dec_of ((r_bind (u1_at (bL_at 0 h (by rw [e]; rfl)))).trans ?_)
  rfl
theorem dk109 {c : ByteArray} {i k : Nat} {l r : List Nat} (h : bL c i l) (e : l.drop k = 109 :: r) : decode c (i + k) = .ok (.ldiv, 1) := by
  refine dec_of ((r_bind (u1_at (bL_at 0 h (by rw [e]; rfl)))).trans ?_)
  rfl
theorem dk112 {c : ByteArray} {i k : Nat} {l r : List Nat} (h : bL c i l) (e : l.drop k = 112 :: r) : decode c (i + k) = .ok (.irem, 1) := by
  refine dec_of ((r_bind (u1_at (bL_at 0 h (by rw [e]; rfl)))).trans ?_)
  rfl
theorem dk113 {c : ByteArray} {i k : Nat} {l r : List Nat} (h : bL c i l) (e : l.drop k = 113 :: r) : decode c (i + k) = .ok (.lrem, 1) := by
  refine dec_of ((r_bind (u1_at (bL_at 0 h (by rw [e]; rfl)))).trans ?_)
  rfl
theorem dk116 {c : ByteArray} {i k : Nat} {l r : List Nat} (h : bL c i l) (e : l.drop k = 116 :: r) : decode c (i + k) = .ok (.ineg, 1) := by
  refine dec_of ((r_bind (u1_at (bL_at 0 h (by rw [e]; rfl)))).trans ?_)
  rfl
theorem dk120 {c : ByteArray} {i k : Nat} {l r : List Nat} (h : bL c i l) (e : l.drop k = 120 :: r) : decode c (i + k) = .ok (.ishl, 1) := by
  refine dec_of ((r_bind (u1_at (bL_at 0 h (by rw [e]; rfl)))).trans ?_)
  rfl
theorem dk121 {c : ByteArray} {i k : Nat} {l r : List Nat} (h : bL c i l) (e : l.drop k = 121 :: r) : decode c (i + k) = .ok (.lshl, 1) := by
  refine dec_of ((r_bind (u1_at (bL_at 0 h (by rw [e]; rfl)))).trans ?_)
  rfl
theorem dk122 {c : ByteArray} {i k : Nat} {l r : List Nat} (h : bL c i l) (e : l.drop k = 122 :: r) : decode c (i + k) = .ok (.ishr, 1) := by
  refine dec_of ((r_bind (u1_at (bL_at 0 h (by rw [e]; rfl)))).trans ?_)
  rfl
theorem dk123 {c : ByteArray} {i k : Nat} {l r : List Nat} (h : bL c i l) (e : l.drop k = 123 :: r) : decode c (i + k) = .ok (.lshr, 1) := by
  refine dec_of ((r_bind (u1_at (bL_at 0 h (by rw [e]; rfl)))).trans ?_)
  rfl
theorem dk124 {c : ByteArray} {i k : Nat} {l r : List Nat} (h : bL c i l) (e : l.drop k = 124 :: r) : decode c (i + k) = .ok (.iushr, 1) := by
  refine dec_of ((r_bind (u1_at (bL_at 0 h (by rw [e]; rfl)))).trans ?_)
  rfl
theorem dk126 {c : ByteArray} {i k : Nat} {l r : List Nat} (h : bL c i l) (e : l.drop k = 126 :: r) : decode c (i + k) = .ok (.iand, 1) := by
  refine dec_of ((r_bind (u1_at (bL_at 0 h (by rw [e]; rfl)))).trans ?_)
  rfl
theorem dk127 {c : ByteArray} {i k : Nat} {l r : List Nat} (h : bL c i l) (e : l.drop k = 127 :: r) : decode c (i + k) = .ok (.land, 1) := by
  refine dec_of ((r_bind (u1_at (bL_at 0 h (by rw [e]; rfl)))).trans ?_)
  rfl
theorem dk128 {c : ByteArray} {i k : Nat} {l r : List Nat} (h : bL c i l) (e : l.drop k = 128 :: r) : decode c (i + k) = .ok (.ior, 1) := by
  refine dec_of ((r_bind (u1_at (bL_at 0 h (by rw [e]; rfl)))).trans ?_)
  rfl
theorem dk129 {c : ByteArray} {i k : Nat} {l r : List Nat} (h : bL c i l) (e : l.drop k = 129 :: r) : decode c (i + k) = .ok (.lor, 1) := by
  refine dec_of ((r_bind (u1_at (bL_at 0 h (by rw [e]; rfl)))).trans ?_)
  rfl
theorem dk130 {c : ByteArray} {i k : Nat} {l r : List Nat} (h : bL c i l) (e : l.drop k = 130 :: r) : decode c (i + k) = .ok (.ixor, 1) := by
  refine dec_of ((r_bind (u1_at (bL_at 0 h (by rw [e]; rfl)))).trans ?_)
  rfl
theorem dk132 {c : ByteArray} {i k a b y : Nat} {x : Int} {l r : List Nat} (h : bL c i l) (e : l.drop k = 132 :: a :: b :: r) (hy : a = y) (hx : Jvm.ClassFile.Reader.signed 8 b = x) : decode c (i + k) = .ok (.iinc y x, 3) := by
  subst hx
  subst hy
  refine dec_of ((r_bind (u1_at (bL_at 0 h (by rw [e]; rfl)))).trans ?_)
  refine (r_bind (u1_at (bL_at 1 h (by rw [e]; rfl)))).trans ?_
  exact (r_bind (s1_at (bL_at 2 h (by rw [e]; rfl)))).trans rfl
theorem dk133 {c : ByteArray} {i k : Nat} {l r : List Nat} (h : bL c i l) (e : l.drop k = 133 :: r) : decode c (i + k) = .ok (.i2l, 1) := by
  refine dec_of ((r_bind (u1_at (bL_at 0 h (by rw [e]; rfl)))).trans ?_)
  rfl
theorem dk136 {c : ByteArray} {i k : Nat} {l r : List Nat} (h : bL c i l) (e : l.drop k = 136 :: r) : decode c (i + k) = .ok (.l2i, 1) := by
  refine dec_of ((r_bind (u1_at (bL_at 0 h (by rw [e]; rfl)))).trans ?_)
  rfl
theorem dk145 {c : ByteArray} {i k : Nat} {l r : List Nat} (h : bL c i l) (e : l.drop k = 145 :: r) : decode c (i + k) = .ok (.i2b, 1) := by
  refine dec_of ((r_bind (u1_at (bL_at 0 h (by rw [e]; rfl)))).trans ?_)
  rfl
theorem dk146 {c : ByteArray} {i k : Nat} {l r : List Nat} (h : bL c i l) (e : l.drop k = 146 :: r) : decode c (i + k) = .ok (.i2c, 1) := by
  refine dec_of ((r_bind (u1_at (bL_at 0 h (by rw [e]; rfl)))).trans ?_)
  rfl
theorem dk147 {c : ByteArray} {i k : Nat} {l r : List Nat} (h : bL c i l) (e : l.drop k = 147 :: r) : decode c (i + k) = .ok (.i2s, 1) := by
  refine dec_of ((r_bind (u1_at (bL_at 0 h (by rw [e]; rfl)))).trans ?_)
  rfl
theorem dk148 {c : ByteArray} {i k : Nat} {l r : List Nat} (h : bL c i l) (e : l.drop k = 148 :: r) : decode c (i + k) = .ok (.lcmp, 1) := by
  refine dec_of ((r_bind (u1_at (bL_at 0 h (by rw [e]; rfl)))).trans ?_)
  rfl
theorem dk153 {c : ByteArray} {i k a b : Nat} {x : Int} {l r : List Nat} (h : bL c i l) (e : l.drop k = 153 :: a :: b :: r) (hx : Jvm.ClassFile.Reader.signed 16 (a * 256 + b) = x) : decode c (i + k) = .ok (.ifCond .eq x, 3) := by
  subst hx
  refine dec_of ((r_bind (u1_at (bL_at 0 h (by rw [e]; rfl)))).trans ?_)
  exact (r_bind (s2_at (bL_at 1 h (by rw [e]; rfl)) (bL_at 2 h (by rw [e]; rfl)))).trans rfl
theorem dk154 {c : ByteArray} {i k a b : Nat} {x : Int} {l r : List Nat} (h : bL c i l) (e : l.drop k = 154 :: a :: b :: r) (hx : Jvm.ClassFile.Reader.signed 16 (a * 256 + b) = x) : decode c (i + k) = .ok (.ifCond .ne x, 3) := by
  subst hx
  refine dec_of ((r_bind (u1_at (bL_at 0 h (by rw [e]; rfl)))).trans ?_)
  exact (r_bind (s2_at (bL_at 1 h (by rw [e]; rfl)) (bL_at 2 h (by rw [e]; rfl)))).trans rfl
theorem dk155 {c : ByteArray} {i k a b : Nat} {x : Int} {l r : List Nat} (h : bL c i l) (e : l.drop k = 155 :: a :: b :: r) (hx : Jvm.ClassFile.Reader.signed 16 (a * 256 + b) = x) : decode c (i + k) = .ok (.ifCond .lt x, 3) := by
  subst hx
  refine dec_of ((r_bind (u1_at (bL_at 0 h (by rw [e]; rfl)))).trans ?_)
  exact (r_bind (s2_at (bL_at 1 h (by rw [e]; rfl)) (bL_at 2 h (by rw [e]; rfl)))).trans rfl
theorem dk156 {c : ByteArray} {i k a b : Nat} {x : Int} {l r : List Nat} (h : bL c i l) (e : l.drop k = 156 :: a :: b :: r) (hx : Jvm.ClassFile.Reader.signed 16 (a * 256 + b) = x) : decode c (i + k) = .ok (.ifCond .ge x, 3) := by
  subst hx
  refine dec_of ((r_bind (u1_at (bL_at 0 h (by rw [e]; rfl)))).trans ?_)
  exact (r_bind (s2_at (bL_at 1 h (by rw [e]; rfl)) (bL_at 2 h (by rw [e]; rfl)))).trans rfl
theorem dk157 {c : ByteArray} {i k a b : Nat} {x : Int} {l r : List Nat} (h : bL c i l) (e : l.drop k = 157 :: a :: b :: r) (hx : Jvm.ClassFile.Reader.signed 16 (a * 256 + b) = x) : decode c (i + k) = .ok (.ifCond .gt x, 3) := by
  subst hx
  refine dec_of ((r_bind (u1_at (bL_at 0 h (by rw [e]; rfl)))).trans ?_)
  exact (r_bind (s2_at (bL_at 1 h (by rw [e]; rfl)) (bL_at 2 h (by rw [e]; rfl)))).trans rfl
theorem dk158 {c : ByteArray} {i k a b : Nat} {x : Int} {l r : List Nat} (h : bL c i l) (e : l.drop k = 158 :: a :: b :: r) (hx : Jvm.ClassFile.Reader.signed 16 (a * 256 + b) = x) : decode c (i + k) = .ok (.ifCond .le x, 3) := by
  subst hx
  refine dec_of ((r_bind (u1_at (bL_at 0 h (by rw [e]; rfl)))).trans ?_)
  exact (r_bind (s2_at (bL_at 1 h (by rw [e]; rfl)) (bL_at 2 h (by rw [e]; rfl)))).trans rfl
theorem dk159 {c : ByteArray} {i k a b : Nat} {x : Int} {l r : List Nat} (h : bL c i l) (e : l.drop k = 159 :: a :: b :: r) (hx : Jvm.ClassFile.Reader.signed 16 (a * 256 + b) = x) : decode c (i + k) = .ok (.if_icmp .eq x, 3) := by
  subst hx
  refine dec_of ((r_bind (u1_at (bL_at 0 h (by rw [e]; rfl)))).trans ?_)
  exact (r_bind (s2_at (bL_at 1 h (by rw [e]; rfl)) (bL_at 2 h (by rw [e]; rfl)))).trans rfl
theorem dk160 {c : ByteArray} {i k a b : Nat} {x : Int} {l r : List Nat} (h : bL c i l) (e : l.drop k = 160 :: a :: b :: r) (hx : Jvm.ClassFile.Reader.signed 16 (a * 256 + b) = x) : decode c (i + k) = .ok (.if_icmp .ne x, 3) := by
  subst hx
  refine dec_of ((r_bind (u1_at (bL_at 0 h (by rw [e]; rfl)))).trans ?_)
  exact (r_bind (s2_at (bL_at 1 h (by rw [e]; rfl)) (bL_at 2 h (by rw [e]; rfl)))).trans rfl
theorem dk161 {c : ByteArray} {i k a b : Nat} {x : Int} {l r : List Nat} (h : bL c i l) (e : l.drop k = 161 :: a :: b :: r) (hx : Jvm.ClassFile.Reader.signed 16 (a * 256 + b) = x) : decode c (i + k) = .ok (.if_icmp .lt x, 3) := by
  subst hx
  refine dec_of ((r_bind (u1_at (bL_at 0 h (by rw [e]; rfl)))).trans ?_)
  exact (r_bind (s2_at (bL_at 1 h (by rw [e]; rfl)) (bL_at 2 h (by rw [e]; rfl)))).trans rfl
theorem dk162 {c : ByteArray} {i k a b : Nat} {x : Int} {l r : List Nat} (h : bL c i l) (e : l.drop k = 162 :: a :: b :: r) (hx : Jvm.ClassFile.Reader.signed 16 (a * 256 + b) = x) : decode c (i + k) = .ok (.if_icmp .ge x, 3) := by
  subst hx
  refine dec_of ((r_bind (u1_at (bL_at 0 h (by rw [e]; rfl)))).trans ?_)
  exact (r_bind (s2_at (bL_at 1 h (by rw [e]; rfl)) (bL_at 2 h (by rw [e]; rfl)))).trans rfl
theorem dk163 {c : ByteArray} {i k a b : Nat} {x : Int} {l r : List Nat} (h : bL c i l) (e : l.drop k = 163 :: a :: b :: r) (hx : Jvm.ClassFile.Reader.signed 16 (a * 256 + b) = x) : decode c (i + k) = .ok (.if_icmp .gt x, 3) := by
  subst hx
  refine dec_of ((r_bind (u1_at (bL_at 0 h (by rw [e]; rfl)))).trans ?_)
  exact (r_bind (s2_at (bL_at 1 h (by rw [e]; rfl)) (bL_at 2 h (by rw [e]; rfl)))).trans rfl
theorem dk164 {c : ByteArray} {i k a b : Nat} {x : Int} {l r : List Nat} (h : bL c i l) (e : l.drop k = 164 :: a :: b :: r) (hx : Jvm.ClassFile.Reader.signed 16 (a * 256 + b) = x) : decode c (i + k) = .ok (.if_icmp .le x, 3) := by
  subst hx
  refine dec_of ((r_bind (u1_at (bL_at 0 h (by rw [e]; rfl)))).trans ?_)
  exact (r_bind (s2_at (bL_at 1 h (by rw [e]; rfl)) (bL_at 2 h (by rw [e]; rfl)))).trans rfl
theorem dk167 {c : ByteArray} {i k a b : Nat} {x : Int} {l r : List Nat} (h : bL c i l) (e : l.drop k = 167 :: a :: b :: r) (hx : Jvm.ClassFile.Reader.signed 16 (a * 256 + b) = x) : decode c (i + k) = .ok (.goto x, 3) := by
  subst hx
  refine dec_of ((r_bind (u1_at (bL_at 0 h (by rw [e]; rfl)))).trans ?_)
  exact (r_bind (s2_at (bL_at 1 h (by rw [e]; rfl)) (bL_at 2 h (by rw [e]; rfl)))).trans rfl
theorem dk172 {c : ByteArray} {i k : Nat} {l r : List Nat} (h : bL c i l) (e : l.drop k = 172 :: r) : decode c (i + k) = .ok (.ireturn, 1) := by
  refine dec_of ((r_bind (u1_at (bL_at 0 h (by rw [e]; rfl)))).trans ?_)
  rfl
theorem dk173 {c : ByteArray} {i k : Nat} {l r : List Nat} (h : bL c i l) (e : l.drop k = 173 :: r) : decode c (i + k) = .ok (.lreturn, 1) := by
  refine dec_of ((r_bind (u1_at (bL_at 0 h (by rw [e]; rfl)))).trans ?_)
  rfl
theorem dk176 {c : ByteArray} {i k : Nat} {l r : List Nat} (h : bL c i l) (e : l.drop k = 176 :: r) : decode c (i + k) = .ok (.areturn, 1) := by
  refine dec_of ((r_bind (u1_at (bL_at 0 h (by rw [e]; rfl)))).trans ?_)
  rfl
theorem dk177 {c : ByteArray} {i k : Nat} {l r : List Nat} (h : bL c i l) (e : l.drop k = 177 :: r) : decode c (i + k) = .ok (.return_, 1) := by
  refine dec_of ((r_bind (u1_at (bL_at 0 h (by rw [e]; rfl)))).trans ?_)
  rfl
theorem dk178 {c : ByteArray} {i k a b x : Nat} {l r : List Nat} (h : bL c i l) (e : l.drop k = 178 :: a :: b :: r) (hx : a * 256 + b = x) : decode c (i + k) = .ok (.getstatic x, 3) := by
  subst hx
  refine dec_of ((r_bind (u1_at (bL_at 0 h (by rw [e]; rfl)))).trans ?_)
  exact (r_bind (u2_at (bL_at 1 h (by rw [e]; rfl)) (bL_at 2 h (by rw [e]; rfl)))).trans rfl
theorem dk180 {c : ByteArray} {i k a b x : Nat} {l r : List Nat} (h : bL c i l) (e : l.drop k = 180 :: a :: b :: r) (hx : a * 256 + b = x) : decode c (i + k) = .ok (.getfield x, 3) := by
  subst hx
  refine dec_of ((r_bind (u1_at (bL_at 0 h (by rw [e]; rfl)))).trans ?_)
  exact (r_bind (u2_at (bL_at 1 h (by rw [e]; rfl)) (bL_at 2 h (by rw [e]; rfl)))).trans rfl
theorem dk181 {c : ByteArray} {i k a b x : Nat} {l r : List Nat} (h : bL c i l) (e : l.drop k = 181 :: a :: b :: r) (hx : a * 256 + b = x) : decode c (i + k) = .ok (.putfield x, 3) := by
  subst hx
  refine dec_of ((r_bind (u1_at (bL_at 0 h (by rw [e]; rfl)))).trans ?_)
  exact (r_bind (u2_at (bL_at 1 h (by rw [e]; rfl)) (bL_at 2 h (by rw [e]; rfl)))).trans rfl
theorem dk182 {c : ByteArray} {i k a b x : Nat} {l r : List Nat} (h : bL c i l) (e : l.drop k = 182 :: a :: b :: r) (hx : a * 256 + b = x) : decode c (i + k) = .ok (.invokevirtual x, 3) := by
  subst hx
  refine dec_of ((r_bind (u1_at (bL_at 0 h (by rw [e]; rfl)))).trans ?_)
  exact (r_bind (u2_at (bL_at 1 h (by rw [e]; rfl)) (bL_at 2 h (by rw [e]; rfl)))).trans rfl
theorem dk183 {c : ByteArray} {i k a b x : Nat} {l r : List Nat} (h : bL c i l) (e : l.drop k = 183 :: a :: b :: r) (hx : a * 256 + b = x) : decode c (i + k) = .ok (.invokespecial x, 3) := by
  subst hx
  refine dec_of ((r_bind (u1_at (bL_at 0 h (by rw [e]; rfl)))).trans ?_)
  exact (r_bind (u2_at (bL_at 1 h (by rw [e]; rfl)) (bL_at 2 h (by rw [e]; rfl)))).trans rfl
theorem dk184 {c : ByteArray} {i k a b x : Nat} {l r : List Nat} (h : bL c i l) (e : l.drop k = 184 :: a :: b :: r) (hx : a * 256 + b = x) : decode c (i + k) = .ok (.invokestatic x, 3) := by
  subst hx
  refine dec_of ((r_bind (u1_at (bL_at 0 h (by rw [e]; rfl)))).trans ?_)
  exact (r_bind (u2_at (bL_at 1 h (by rw [e]; rfl)) (bL_at 2 h (by rw [e]; rfl)))).trans rfl
theorem dk187 {c : ByteArray} {i k a b x : Nat} {l r : List Nat} (h : bL c i l) (e : l.drop k = 187 :: a :: b :: r) (hx : a * 256 + b = x) : decode c (i + k) = .ok (.new x, 3) := by
  subst hx
  refine dec_of ((r_bind (u1_at (bL_at 0 h (by rw [e]; rfl)))).trans ?_)
  exact (r_bind (u2_at (bL_at 1 h (by rw [e]; rfl)) (bL_at 2 h (by rw [e]; rfl)))).trans rfl
theorem dk189 {c : ByteArray} {i k a b x : Nat} {l r : List Nat} (h : bL c i l) (e : l.drop k = 189 :: a :: b :: r) (hx : a * 256 + b = x) : decode c (i + k) = .ok (.anewarray x, 3) := by
  subst hx
  refine dec_of ((r_bind (u1_at (bL_at 0 h (by rw [e]; rfl)))).trans ?_)
  exact (r_bind (u2_at (bL_at 1 h (by rw [e]; rfl)) (bL_at 2 h (by rw [e]; rfl)))).trans rfl
theorem dk190 {c : ByteArray} {i k : Nat} {l r : List Nat} (h : bL c i l) (e : l.drop k = 190 :: r) : decode c (i + k) = .ok (.arraylength, 1) := by
  refine dec_of ((r_bind (u1_at (bL_at 0 h (by rw [e]; rfl)))).trans ?_)
  rfl
theorem dk191 {c : ByteArray} {i k : Nat} {l r : List Nat} (h : bL c i l) (e : l.drop k = 191 :: r) : decode c (i + k) = .ok (.athrow, 1) := by
  refine dec_of ((r_bind (u1_at (bL_at 0 h (by rw [e]; rfl)))).trans ?_)
  rfl
