/-! what a text says: a pure reading of the TOKENS (kinds K, numbers V); the picture W has the law's other class's places: 0 CELLS, 1 snow, 2 rest, 3 law, 4 last, 5 heap, 6 FOLK, 7 lines, 9.. heights, 19.. facts -/
abbrev fwPq := (Int × Nat) ⊕ (Nat × (Nat → Int))
def qThen (a : fwPq) (f : Nat → (Nat → Int) → fwPq) : fwPq := match a with
  | .inl e => .inl e
  | .inr s => f s.1 s.2
def qWord (K : Nat → Int) (x : Int) (i : Nat) (W : Nat → Int) : fwPq := if K i = x then .inr (i + 1, W) else .inl (1, i)
def qNum (K V : Nat → Int) (lo hi : Int) (f : Int → Nat → (Nat → Int)) (i : Nat) : fwPq := if K i = 3 then (if lo ≤ V i ∧ V i ≤ hi then .inr (i + 1, f (V i) i) else .inl (2, i)) else .inl (1, i)
def qFact (K V : Nat → Int) (x lo hi : Int) (s i : Nat) (W : Nat → Int) : fwPq := qThen (qWord K x i W) (fun i W => qNum K V lo hi (fun v _ => fwFu W s v) i)
def qHts (K V : Nat → Int) : Nat → Nat → (Nat → Int) → fwPq
  | 0, i, _ => .inl (3, i)
  | n + 1, i, W => if K i = 3 then (if 0 ≤ V i ∧ V i ≤ 40 then (if n = 0 then .inl (3, i) else qHts K V n (i + 1) (fwFu (fwFu W (9 + (10 - n)) (V i)) 0 (((10 - n : Nat) : Int) + 1))) else .inl (2, i)) else (if 3 ≤ W 0 then .inr (i, W) else .inl (1, i))
def qSide (K : Nat → Int) (i : Nat) (W : Nat → Int) : fwPq := if K i = 16 then .inr (i + 1, fwFu W 4 1) else if K i = 15 then .inr (i + 1, fwFu W 4 0) else .inl (1, i)
def qFirst (K V : Nat → Int) (i : Nat) (W : Nat → Int) : fwPq :=
  qThen (qWord K 4 i W) (fun i W => qThen (qHts K V 11 i W) (fun i W => qThen (qFact K V 5 0 40 1 i W) (fun i W => qThen (qFact K V 6 1 40 2 i W) (fun i W => qThen (qFact K V 7 1 999 3 i W) (fun i W => qSide K i W)))))
def qBef (W : Nat → Int) (f g : Nat) : Nat → Int := fwFu (fwFu W (19 + (7 * f + 6)) (fwOr (W (19 + (7 * f + 6))) (fwShl 1 (g : Int)))) (19 + (7 * g + 6)) (fwOr ((fwFu W (19 + (7 * f + 6)) (fwOr (W (19 + (7 * f + 6))) (fwShl 1 (g : Int)))) (19 + (7 * g + 6))) (fwShl 1 (f : Int)))
def qTl (K V : Nat → Int) (f : Nat) : Nat → Nat → (Nat → Int) → fwPq
  | 0, i, W => .inr (i, W)
  | n + 1, i, W => if K i = 3 then (if 0 ≤ V i ∧ V i ≤ (f : Int) - 1 then qTl K V f n (i + 1) (qBef W f (V i).toNat) else .inl (2, i)) else .inr (i, W)
def qTalk (K V : Nat → Int) (f i : Nat) (W : Nat → Int) : fwPq :=
  qThen (qFact K V 12 1 7 (19 + (7 * f + 5)) i W) (fun i W => qThen (qWord K 13 i W) (fun i W => qThen (qNum K V 0 ((f : Int) - 1) (fun v _ => qBef W f v.toNat) i) (fun i W => qTl K V f 900 i W)))
def qFolk (K V : Nat → Int) (f i : Nat) (W : Nat → Int) : fwPq :=
  if 8 ≤ f then .inl (3, i) else
  qThen (qWord K 8 i (fwFu W 6 ((f : Int) + 1))) (fun i W => qThen (qFact K V 9 0 (W 0 - 1) (19 + (7 * f + 0)) i W) (fun i W => qThen (qFact K V 7 1 99 (19 + (7 * f + 1)) i W) (fun i W => qThen (qFact K V 10 0 9 (19 + (7 * f + 2)) i W) (fun i W => qThen (qFact K V 5 0 9 (19 + (7 * f + 3)) i W) (fun i W => qThen (qFact K V 11 0 9 (19 + (7 * f + 4)) i W) (fun i W => if K i = 12 then qTalk K V f i W else .inr (i, W)))))))
def qHeap (K V : Nat → Int) (i : Nat) (W : Nat → Int) : fwPq := qFact K V 14 0 (W 0 - 1) 5 i W
def qBody (K V : Nat → Int) (i : Nat) (W : Nat → Int) : fwPq := if W 7 = 0 then qFirst K V i W else if K i = 8 then qFolk K V (W 6).toNat i W else qHeap K V i W
def qLine (K V : Nat → Int) (i : Nat) (W : Nat → Int) : fwPq := qThen (qBody K V i W) (fun i W => qWord K 2 i W)
def qRun (K V : Nat → Int) : Nat → fwPq
  | 0 => .inr (0, fun _ => 0)
  | n + 1 => qThen (qRun K V n) (fun i W => if K i = 0 then .inr (i, W) else qThen (qLine K V i W) (fun i W => .inr (i, fwFu W 7 (W 7 + 1))))
/-! the Reader's own cells -/
def rR (h : fwH) (i : Nat) (fk fp : Int) : Nat → Int := fun s => if s = 2 then (i : Int) + 1 else if s = 3 then h 14 0 i else if s = 4 then h 15 0 i else if s = 5 then h 16 0 i else if s = 6 then fk else if s = 7 then fp else 0
def r3 (W : Nat → Int) : Nat → Int := fun s => if s = 3 then 0 else if s = 4 then W 3 else if s = 5 then W 5 else if s = 6 then W 7 else 0
def r4 (W : Nat → Int) : Nat → Int := fun s => if s = 1 then W 0 else if s = 2 then W 1 else if s = 3 then W 2 else if s = 4 then W 4 else 0
def r5 (W : Nat → Int) : Nat → Int := fun s => if s = 3 then W 6 else 0
def rH (h : fwH) (i : Nat) (fk fp : Int) (W H : Nat → Int) : fwH := fwUc (fwUc (fwUc (fwUc (fwUc (fwUc h 2 0 (rR h i fk fp)) 3 1 (r3 W)) 4 1 (r4 W)) 5 1 (r5 W)) 17 1 H) 18 1 (fun j => W (19 + j))
def rHg (H : Nat → Int) : Prop := ∀ c : Nat, c < 10 → 0 ≤ H c ∧ H c ≤ 40
def rHr (W H : Nat → Int) : Prop := rHg H ∧ ∀ c : Nat, (c : Int) < W 0 → c < 10 → H c = W (9 + c)
def tk (h : fwH) (T : Nat) : Prop := h 1 0 5 = (T : Int) + 1 ∧ T ≤ 900 ∧ h 14 0 T = 0 ∧ ∀ i : Nat, i ≤ T → (0 ≤ h 14 0 i ∧ h 14 0 i ≤ 16) ∧ 0 ≤ h 16 0 i ∧ h 16 0 i ≤ 1000000
def rK (h : fwH) (T : Nat) (Q : Option fwV → fwH → Prop) (q : fwPq) : Prop := (∀ (fk : Int) (j i : Nat) (W H : Nat → Int), q = .inl (fk, j) → j ≤ T → rHg H → Q (some (aI 0)) (rH h i fk (h 15 0 j) W H)) ∧ (∀ (i : Nat) (W H : Nat → Int), q = .inr (i, W) → i ≤ T → rHr W H → Q (some (aI 1)) (rH h i 0 (-1) W H))
theorem tk_lt {h : fwH} {T i : Nat} {x : Int} (hT : tk h T) (hi : i ≤ T) (e : h 14 0 i = x) (hx : x ≠ 0) : i < T := by
  rcases Nat.lt_or_ge i T with q | q
  · exact q
  · rw [show i = T by omega, hT.2.2.1] at e
    omega
theorem up_ext {h g : fwH} {k i j : Nat} {x : Int} (e1 : ∀ a b, ¬ (a = k ∧ b = i) → h a b = g a b) (e2 : fwFu (h k i) j x = g k i) : fwUp h k i j x = g := by
  funext a b
  by_cases e : a = k ∧ b = i
  · obtain ⟨rfl, rfl⟩ := e
    rw [← e2]
    funext s
    unfold fwUp fwFu
    simp
  · rw [← e1 a b e]
    funext s
    unfold fwUp
    rw [if_neg (fun q => e ⟨q.1, q.2.1⟩)]
theorem r3_fu {W : Nat → Int} {n : Nat} {x : Int} (h : n ≠ 3 ∧ n ≠ 5 ∧ n ≠ 7) : r3 (fwFu W n x) = r3 W := by
  funext s
  simp only [r3, fwFu, if_neg (Ne.symm h.1), if_neg (Ne.symm h.2.1), if_neg (Ne.symm h.2.2)]
theorem r4_fu {W : Nat → Int} {n : Nat} {x : Int} (h : n ≠ 0 ∧ n ≠ 1 ∧ n ≠ 2 ∧ n ≠ 4) : r4 (fwFu W n x) = r4 W := by
  funext s
  simp only [r4, fwFu, if_neg (Ne.symm h.1), if_neg (Ne.symm h.2.1), if_neg (Ne.symm h.2.2.1), if_neg (Ne.symm h.2.2.2)]
theorem r5_fu {W : Nat → Int} {n : Nat} {x : Int} (h : n ≠ 6) : r5 (fwFu W n x) = r5 W := by
  funext s
  simp only [r5, fwFu, if_neg (Ne.symm h)]
theorem rf_fu {W : Nat → Int} {n : Nat} {x : Int} (h : n < 19) : (fun j => fwFu W n x (19 + j)) = fun j => W (19 + j) := by
  funext s
  unfold fwFu
  rw [if_neg (by omega)]
theorem rH_fk (h : fwH) (i : Nat) (fk fp : Int) (W H : Nat → Int) (x : Int) : fwUp (rH h i fk fp W H) 2 0 6 x = rH h i x fp W H := by
  refine up_ext (fun a b hn => ?_) ?_
  · unfold rH
    simp only [fwUc, if_neg hn]
  · show fwFu (rR h i fk fp) 6 x = rR h i x fp
    funext s
    by_cases e : s = 6
    · subst e; simp [rR, fwFu]
    · simp [rR, fwFu, e]
theorem rH_fp (h : fwH) (i : Nat) (fk fp : Int) (W H : Nat → Int) (x : Int) : fwUp (rH h i fk fp W H) 2 0 7 x = rH h i fk x W H := by
  refine up_ext (fun a b hn => ?_) ?_
  · unfold rH
    simp only [fwUc, if_neg hn]
  · show fwFu (rR h i fk fp) 7 x = rR h i fk x
    funext s
    by_cases e : s = 7
    · subst e; simp [rR, fwFu]
    · simp [rR, fwFu, e]
theorem rH_law (h : fwH) (i : Nat) (fk fp : Int) (W H : Nat → Int) (x : Int) : fwUp (rH h i fk fp W H) 3 1 4 x = rH h i fk fp (fwFu W 3 x) H := by
  refine up_ext (fun a b hn => ?_) ?_
  · unfold rH
    rw [r4_fu (W := W) (n := 3) (x := x) (by decide)]
    rw [r5_fu (W := W) (n := 3) (x := x) (by decide)]
    rw [rf_fu (W := W) (n := 3) (x := x) (by decide)]
    simp only [fwUc, if_neg hn]
  · show fwFu (r3 W) 4 x = r3 (fwFu W 3 x)
    funext s
    by_cases e : s = 4
    · subst e; simp [r3, fwFu]
    · simp [r3, fwFu, e]
theorem rH_heap (h : fwH) (i : Nat) (fk fp : Int) (W H : Nat → Int) (x : Int) : fwUp (rH h i fk fp W H) 3 1 5 x = rH h i fk fp (fwFu W 5 x) H := by
  refine up_ext (fun a b hn => ?_) ?_
  · unfold rH
    rw [r4_fu (W := W) (n := 5) (x := x) (by decide)]
    rw [r5_fu (W := W) (n := 5) (x := x) (by decide)]
    rw [rf_fu (W := W) (n := 5) (x := x) (by decide)]
    simp only [fwUc, if_neg hn]
  · show fwFu (r3 W) 5 x = r3 (fwFu W 5 x)
    funext s
    by_cases e : s = 5
    · subst e; simp [r3, fwFu]
    · simp [r3, fwFu, e]
theorem rH_lines (h : fwH) (i : Nat) (fk fp : Int) (W H : Nat → Int) (x : Int) : fwUp (rH h i fk fp W H) 3 1 6 x = rH h i fk fp (fwFu W 7 x) H := by
  refine up_ext (fun a b hn => ?_) ?_
  · unfold rH
    rw [r4_fu (W := W) (n := 7) (x := x) (by decide)]
    rw [r5_fu (W := W) (n := 7) (x := x) (by decide)]
    rw [rf_fu (W := W) (n := 7) (x := x) (by decide)]
    simp only [fwUc, if_neg hn]
  · show fwFu (r3 W) 6 x = r3 (fwFu W 7 x)
    funext s
    by_cases e : s = 6
    · subst e; simp [r3, fwFu]
    · simp [r3, fwFu, e]
theorem rH_snow (h : fwH) (i : Nat) (fk fp : Int) (W H : Nat → Int) (x : Int) : fwUp (rH h i fk fp W H) 4 1 2 x = rH h i fk fp (fwFu W 1 x) H := by
  refine up_ext (fun a b hn => ?_) ?_
  · unfold rH
    rw [r3_fu (W := W) (n := 1) (x := x) (by decide)]
    rw [r5_fu (W := W) (n := 1) (x := x) (by decide)]
    rw [rf_fu (W := W) (n := 1) (x := x) (by decide)]
    simp only [fwUc, if_neg hn]
  · show fwFu (r4 W) 2 x = r4 (fwFu W 1 x)
    funext s
    by_cases e : s = 2
    · subst e; simp [r4, fwFu]
    · simp [r4, fwFu, e]
theorem rH_rest (h : fwH) (i : Nat) (fk fp : Int) (W H : Nat → Int) (x : Int) : fwUp (rH h i fk fp W H) 4 1 3 x = rH h i fk fp (fwFu W 2 x) H := by
  refine up_ext (fun a b hn => ?_) ?_
  · unfold rH
    rw [r3_fu (W := W) (n := 2) (x := x) (by decide)]
    rw [r5_fu (W := W) (n := 2) (x := x) (by decide)]
    rw [rf_fu (W := W) (n := 2) (x := x) (by decide)]
    simp only [fwUc, if_neg hn]
  · show fwFu (r4 W) 3 x = r4 (fwFu W 2 x)
    funext s
    by_cases e : s = 3
    · subst e; simp [r4, fwFu]
    · simp [r4, fwFu, e]
theorem rH_last (h : fwH) (i : Nat) (fk fp : Int) (W H : Nat → Int) (x : Int) : fwUp (rH h i fk fp W H) 4 1 4 x = rH h i fk fp (fwFu W 4 x) H := by
  refine up_ext (fun a b hn => ?_) ?_
  · unfold rH
    rw [r3_fu (W := W) (n := 4) (x := x) (by decide)]
    rw [r5_fu (W := W) (n := 4) (x := x) (by decide)]
    rw [rf_fu (W := W) (n := 4) (x := x) (by decide)]
    simp only [fwUc, if_neg hn]
  · show fwFu (r4 W) 4 x = r4 (fwFu W 4 x)
    funext s
    by_cases e : s = 4
    · subst e; simp [r4, fwFu]
    · simp [r4, fwFu, e]
theorem rH_size (h : fwH) (i : Nat) (fk fp : Int) (W H : Nat → Int) (x : Int) : fwUp (rH h i fk fp W H) 5 1 3 x = rH h i fk fp (fwFu W 6 x) H := by
  refine up_ext (fun a b hn => ?_) ?_
  · unfold rH
    rw [r3_fu (W := W) (n := 6) (x := x) (by decide)]
    rw [r4_fu (W := W) (n := 6) (x := x) (by decide)]
    rw [rf_fu (W := W) (n := 6) (x := x) (by decide)]
    simp only [fwUc, if_neg hn]
  · show fwFu (r5 W) 3 x = r5 (fwFu W 6 x)
    funext s
    by_cases e : s = 3
    · subst e; simp [r5, fwFu]
    · simp [r5, fwFu, e]
theorem rH_fact (h : fwH) (i : Nat) (fk fp : Int) (W H : Nat → Int) (j : Nat) (x : Int) : fwUp (rH h i fk fp W H) 18 1 j x = rH h i fk fp (fwFu W (19 + j) x) H := by
  refine up_ext (fun a b hn => ?_) ?_
  · unfold rH
    rw [r3_fu (W := W) (n := 19 + j) (x := x) (by omega), r4_fu (W := W) (n := 19 + j) (x := x) (by omega), r5_fu (W := W) (n := 19 + j) (x := x) (by omega)]
    simp only [fwUc, if_neg hn]
  · show fwFu (fun s => W (19 + s)) j x = fun s => fwFu W (19 + j) x (19 + s)
    funext s
    unfold fwFu
    by_cases e : s = j
    · rw [if_pos e, if_pos (by omega)]
    · rw [if_neg e, if_neg (by omega)]
theorem rH_cell (h : fwH) (i : Nat) (fk fp : Int) (W H : Nat → Int) (c : Nat) (hc : c < 10) (x y : Int) : fwUp (fwUp (rH h i fk fp W H) 17 1 c x) 4 1 1 y = rH h i fk fp (fwFu (fwFu W (9 + c) x) 0 y) (fwFu H c x) := by
  refine up_ext (fun a b hn => ?_) ?_
  · by_cases e : a = 17 ∧ b = 1
    · obtain ⟨rfl, rfl⟩ := e
      show fwUp (rH h i fk fp W H) 17 1 c x 17 1 = fwFu H c x
      funext s
      show (if 17 = 17 ∧ 1 = 1 ∧ s = c then x else H s) = fwFu H c x s
      unfold fwFu
      simp
    · unfold rH
      rw [r3_fu (n := 0) (x := y) (by omega), r3_fu (n := 9 + c) (x := x) (by omega), r5_fu (n := 0) (x := y) (by omega), r5_fu (n := 9 + c) (x := x) (by omega), rf_fu (n := 0) (x := y) (by omega), rf_fu (n := 9 + c) (x := x) (by omega)]
      funext s
      unfold fwUp
      rw [if_neg (fun q => e ⟨q.1, q.2.1⟩)]
      simp only [fwUc, if_neg hn, if_neg e]
  · show fwFu (r4 W) 1 y = r4 (fwFu (fwFu W (9 + c) x) 0 y)
    funext s
    have h1 : ¬ 1 = 9 + c := by omega
    have h2 : ¬ 2 = 9 + c := by omega
    have h4 : ¬ 4 = 9 + c := by omega
    by_cases e : s = 1
    · subst e; simp [r4, fwFu]
    · simp [r4, fwFu, e, h1, h2, h4]
def advH (h : fwH) (u : Nat) : fwH := fwUp (fwUp (fwUp (fwUp h 2 0 3 (h 14 0 u)) 2 0 4 (h 15 0 u)) 2 0 5 (h 16 0 u)) 2 0 2 ((u : Int) + 1)
theorem rH_adv (h : fwH) (i : Nat) (fk fp : Int) (W H : Nat → Int) : advH (rH h i fk fp W H) (i + 1) = rH h (i + 1) fk fp W H := by
  show fwUp (fwUp (fwUp (fwUp (rH h i fk fp W H) 2 0 3 (h 14 0 (i + 1))) 2 0 4 (h 15 0 (i + 1))) 2 0 5 (h 16 0 (i + 1))) 2 0 2 (((i + 1 : Nat) : Int) + 1) = _
  funext a b s
  by_cases e : a = 2 ∧ b = 0
  · obtain ⟨rfl, rfl⟩ := e
    show (if 2 = 2 ∧ 0 = 0 ∧ s = 2 then ((i + 1 : Nat) : Int) + 1 else if 2 = 2 ∧ 0 = 0 ∧ s = 5 then h 16 0 (i + 1) else if 2 = 2 ∧ 0 = 0 ∧ s = 4 then h 15 0 (i + 1) else if 2 = 2 ∧ 0 = 0 ∧ s = 3 then h 14 0 (i + 1) else rR h i fk fp s) = rR h (i + 1) fk fp s
    by_cases e2 : s = 2
    · subst e2; simp [rR]
    · by_cases e3 : s = 3
      · subst e3; simp [rR]
      · by_cases e4 : s = 4
        · subst e4; simp [rR]
        · by_cases e5 : s = 5
          · subst e5; simp [rR]
          · simp [rR, e2, e3, e4, e5]
  · unfold fwUp
    rw [if_neg (fun q => e ⟨q.1, q.2.1⟩), if_neg (fun q => e ⟨q.1, q.2.1⟩), if_neg (fun q => e ⟨q.1, q.2.1⟩), if_neg (fun q => e ⟨q.1, q.2.1⟩)]
    simp only [rH, fwUc, if_neg e]
theorem rHr_fu {W H : Nat → Int} (hH : rHr W H) {s : Nat} {x : Int} (h0 : s ≠ 0) (h1 : s < 9 ∨ 19 ≤ s) : rHr (fwFu W s x) H := by
  refine ⟨hH.1, fun c hc h10 => ?_⟩
  unfold fwFu at hc ⊢
  rw [if_neg (fun q => h0 q.symm)] at hc
  rw [if_neg (by omega)]
  exact hH.2 c hc h10
theorem rHr_bef {W H : Nat → Int} (hH : rHr W H) (f g : Nat) : rHr (qBef W f g) H := rHr_fu (rHr_fu hH (by omega) (by omega)) (by omega) (by omega)
set_option maxRecDepth 100000 in
set_option maxHeartbeats 4000000 in
theorem c_X5_advance {d : Nat} {h : fwH} {Q : Option fwV → fwH → Prop} (u : Nat) (hu : h 2 0 2 = (u : Int)) (hn : (u : Int) < h 1 0 5) (hm : h 1 0 5 ≤ 901) (k : Q none (advH h u)) : fwCt mX5_advance (d + 0) [aR 2 0] h Q := by
  refine fwCt_of [some (aR 2 0)] rfl rfl rfl ?_
  refine w_aload_n dX5_advance_0 rfl ?_
  refine w_getiE (v := (u : Int)) dX5_advance_1 fl_X5_37 rfl (by decide) hu ?_
  refine w_if_lt 94 dX5_advance_4 (by decide) (by omega) (fun c4 => ?_) (fun c4 => ?_)
  · (exfalso; omega)
  · refine w_aload_n dX5_advance_7 rfl ?_
    refine w_getiE (v := (u : Int)) dX5_advance_8 fl_X5_37 rfl (by decide) hu ?_
    refine w_aload_n dX5_advance_11 rfl ?_
    refine w_getr 1 0 dX5_advance_12 fl_X5_22 rfl (by decide) ?_
    refine w_getiE (v := h 1 0 5) dX5_advance_15 fl_X5_53 rfl (by decide) rfl ?_
    refine w_icmp_ge 94 dX5_advance_18 (by decide) (by omega) (by omega) (fun c18 => ?_) (fun c18 => ?_)
    · (exfalso; omega)
    · refine w_aload_n dX5_advance_21 rfl ?_
      refine w_getiE (v := (u : Int)) dX5_advance_22 fl_X5_37 rfl (by decide) hu ?_
      refine w_aload_n dX5_advance_25 rfl ?_
      refine w_getr 1 0 dX5_advance_26 fl_X5_22 rfl (by decide) ?_
      refine w_getr 14 0 dX5_advance_29 fl_X5_56 rfl (by decide) ?_
      refine w_alen dX5_advance_32 rfl (by decide) (by decide) ?_
      refine w_icmp_ge 94 dX5_advance_33 (by decide) (by omega) (by omega) (fun c33 => ?_) (fun c33 => ?_)
      · (exfalso; omega)
      · refine w_aload_n dX5_advance_36 rfl ?_
        refine w_aload_n dX5_advance_37 rfl ?_
        refine w_getr 1 0 dX5_advance_38 fl_X5_22 rfl (by decide) ?_
        refine w_getr 14 0 dX5_advance_41 fl_X5_56 rfl (by decide) ?_
        refine w_aload_n dX5_advance_44 rfl ?_
        refine w_getiE (v := (u : Int)) dX5_advance_45 fl_X5_37 rfl (by decide) hu ?_
        refine w_ialdE (v := h 14 0 u) dX5_advance_48 rfl (by decide) (by omega) (by omega) rfl ?_
        refine w_puti dX5_advance_49 fl_X5_43 fp_2_3 rfl (by decide) ?_
        refine w_aload_n dX5_advance_52 rfl ?_
        refine w_aload_n dX5_advance_53 rfl ?_
        refine w_getr 1 0 dX5_advance_54 fl_X5_22 rfl (by decide) ?_
        refine w_getr 15 0 dX5_advance_57 fl_X5_60 rfl (by decide) ?_
        refine w_aload_n dX5_advance_60 rfl ?_
        refine w_getiE (v := (u : Int)) dX5_advance_61 fl_X5_37 rfl (by decide) (by first | exact hu | (show h 2 0 2 = _; exact hu)) ?_
        refine w_ialdE (v := h 15 0 u) dX5_advance_64 rfl (by decide) (by omega) (by omega) rfl ?_
        refine w_puti dX5_advance_65 fl_X5_63 fp_2_4 rfl (by decide) ?_
        refine w_aload_n dX5_advance_68 rfl ?_
        refine w_aload_n dX5_advance_69 rfl ?_
        refine w_getr 1 0 dX5_advance_70 fl_X5_22 rfl (by decide) ?_
        refine w_getr 16 0 dX5_advance_73 fl_X5_66 rfl (by decide) ?_
        refine w_aload_n dX5_advance_76 rfl ?_
        refine w_getiE (v := (u : Int)) dX5_advance_77 fl_X5_37 rfl (by decide) (by first | exact hu | (show h 2 0 2 = _; exact hu)) ?_
        refine w_ialdE (v := h 16 0 u) dX5_advance_80 rfl (by decide) (by omega) (by omega) rfl ?_
        refine w_puti dX5_advance_81 fl_X5_69 fp_2_5 rfl (by decide) ?_
        refine w_aload_n dX5_advance_84 rfl ?_
        refine w_dup dX5_advance_85 rfl ?_
        refine w_getiE (v := (u : Int)) dX5_advance_86 fl_X5_37 rfl (by decide) (by first | exact hu | (show h 2 0 2 = _; exact hu)) ?_
        refine w_iconst dX5_advance_89 ?_
        refine w_iadd dX5_advance_90 ?_
        refine w_puti dX5_advance_91 fl_X5_37 fp_2_2 rfl (by decide) ?_
        exact w_vret dX5_advance_94 rfl k
theorem c_adv {d : Nat} {h : fwH} {Q : Option fwV → fwH → Prop} (i T : Nat) (fk fp : Int) (W H : Nat → Int) (hT : tk h T) (hi : i < T) (k : Q none (rH h (i + 1) fk fp W H)) : fwCt mX5_advance d [aR 2 0] (rH h i fk fp W H) Q := by
  have h1 : h 1 0 5 = (T : Int) + 1 := hT.1
  have h2 : T ≤ 900 := hT.2.1
  refine c_X5_advance (h := rH h i fk fp W H) (i + 1) rfl (by show _ < h 1 0 5; omega) (by show h 1 0 5 ≤ 901; omega) ?_
  rw [rH_adv]
  exact k
set_option maxRecDepth 100000 in
set_option maxHeartbeats 4000000 in
theorem c_X5_refuse {d : Nat} {h : fwH} {Q : Option fwV → fwH → Prop} (i : Nat) (fk fp x : Int) (W H : Nat → Int)  (k : Q (some (aI 0)) (rH h i x (h 15 0 i) W H)) : fwCt mX5_refuse (d + 0) [aR 2 0, aI x] (rH h i fk fp W H) Q := by
  refine fwCt_of [some (aR 2 0), some (aI x)] rfl rfl rfl ?_
  refine w_aload_n dX5_refuse_0 rfl ?_
  refine w_iload_n dX5_refuse_1 rfl ?_
  refine w_puti dX5_refuse_2 fl_X5_34 fp_2_6 rfl (by decide) ?_
  rw [show (fwUp (rH h i fk fp W H) 2 0 6 x) = (rH h i x fp W H) from rH_fk _ _ _ _ _ _ _]
  refine w_aload_n dX5_refuse_5 rfl ?_
  refine w_aload_n dX5_refuse_6 rfl ?_
  refine w_getiE (v := h 15 0 i) dX5_refuse_7 fl_X5_63 rfl (by decide) rfl ?_
  refine w_puti dX5_refuse_10 fl_X5_18 fp_2_7 rfl (by decide) ?_
  rw [show (fwUp (rH h i x fp W H) 2 0 7 (h 15 0 i)) = (rH h i x (h 15 0 i) W H) from rH_fp _ _ _ _ _ _ _]
  refine w_iconst dX5_refuse_13 ?_
  exact w_zret dX5_refuse_14 rfl (Or.inl rfl) k
def wK (h : fwH) (i : Nat) (x : Int) (W H : Nat → Int) (Q : Option fwV → fwH → Prop) : Prop := (¬ h 14 0 i = x → Q (some (aI 0)) (rH h i 1 (h 15 0 i) W H)) ∧ (h 14 0 i = x → Q (some (aI 1)) (rH h (i + 1) 0 (-1) W H))
set_option maxRecDepth 100000 in
set_option maxHeartbeats 4000000 in
theorem c_X5_pass {d : Nat} {h : fwH} {Q : Option fwV → fwH → Prop} (i T : Nat) (x : Int) (W H : Nat → Int) (hT : tk h T) (hi : i ≤ T) (hx : 1 ≤ x ∧ x ≤ 16) (k : wK h i x W H Q) : fwCt mX5_pass (d + 1) [aR 2 0, aI x] (rH h i 0 (-1) W H) Q := by
  refine fwCt_of [some (aR 2 0), some (aI x)] rfl rfl rfl ?_
  obtain ⟨t1, t2, t3, t4⟩ := id hT
  have hkr := (t4 i hi).1
  refine w_aload_n dX5_pass_0 rfl ?_
  refine w_getiE (v := h 14 0 i) dX5_pass_1 fl_X5_43 rfl (by decide) rfl ?_
  refine w_iload_n dX5_pass_4 rfl ?_
  refine w_icmp_eq 14 dX5_pass_5 (by decide) (by omega) (by omega) (fun ce => ?_) (fun ce => ?_)
  · have hlt := tk_lt hT hi ce (by omega)
    refine w_aload_n dX5_pass_14 rfl ?_
    refine w_callV (d := d + 0) (S := []) [] dX5_pass_15 ml_X5_40 ok_X5_advance vi_X5_advance rfl rfl (by decide) rfl (Nat.le_of_ble_eq_true rfl) ?_
    refine c_adv (d := d) i T 0 (-1) W H hT (by first | assumption | omega) ?_
    show fwWP mX5_pass (d + 1) 18 [some (aR 2 0), some (aI x)] [] (rH h (i + 1) 0 (-1) W H) Q
    refine w_iconst dX5_pass_18 ?_
    exact w_zret dX5_pass_19 rfl (Or.inr rfl) (k.2 ce)
  · refine w_aload_n dX5_pass_8 rfl ?_
    refine w_iconst dX5_pass_9 ?_
    refine w_callV (d := d + 0) (S := []) [aI 1] dX5_pass_10 ml_X5_72 ok_X5_refuse vi_X5_refuse rfl rfl (by decide) rfl (Nat.le_of_ble_eq_true rfl) ?_
    refine c_X5_refuse (d := d) i 0 (-1) 1 W H ?_
    show fwWP mX5_pass (d + 1) 13 [some (aR 2 0), some (aI x)] [aI 0] (rH h i 1 (h 15 0 i) W H) Q
    exact w_zret dX5_pass_13 rfl (Or.inl rfl) (k.1 ce)
def nK (h : fwH) (i : Nat) (lo hi : Int) (W H : Nat → Int) (Q : Option fwV → fwH → Prop) : Prop := (¬ h 14 0 i = 3 → Q (some (aI 0)) (rH h i 1 (h 15 0 i) W H)) ∧ (h 14 0 i = 3 → ¬ (lo ≤ h 16 0 i ∧ h 16 0 i ≤ hi) → Q (some (aI 0)) (rH h i 2 (h 15 0 i) W H)) ∧ (h 14 0 i = 3 → (lo ≤ h 16 0 i ∧ h 16 0 i ≤ hi) → Q (some (aI 1)) (rH h i 0 (-1) W H))
set_option maxRecDepth 100000 in
set_option maxHeartbeats 4000000 in
theorem c_X5_isNumber {d : Nat} {h : fwH} {Q : Option fwV → fwH → Prop} (i T : Nat) (lo up : Int) (W H : Nat → Int) (hT : tk h T) (hi : i ≤ T) (hlo : -1000000 ≤ lo ∧ lo ≤ 1000000) (hup : -1000000 ≤ up ∧ up ≤ 1000000) (k : nK h i lo up W H Q) : fwCt mX5_isNumber (d + 1) [aR 2 0, aI lo, aI up] (rH h i 0 (-1) W H) Q := by
  refine fwCt_of [some (aR 2 0), some (aI lo), some (aI up)] rfl rfl rfl ?_
  obtain ⟨t1, t2, t3, t4⟩ := id hT
  have hkr := t4 i hi
  refine w_aload_n dX5_isNumber_0 rfl ?_
  refine w_getiE (v := h 14 0 i) dX5_isNumber_1 fl_X5_43 rfl (by decide) rfl ?_
  refine w_iconst dX5_isNumber_4 ?_
  refine w_icmp_eq 14 dX5_isNumber_5 (by decide) (by omega) (by omega) (fun ce => ?_) (fun ce => ?_)
  · refine w_aload_n dX5_isNumber_14 rfl ?_
    refine w_getiE (v := h 16 0 i) dX5_isNumber_15 fl_X5_69 rfl (by decide) rfl ?_
    refine w_iload_n dX5_isNumber_18 rfl ?_
    refine w_icmp_lt 30 dX5_isNumber_19 (by decide) (by omega) (by omega) (fun c19 => ?_) (fun c19 => ?_)
    · refine w_aload_n dX5_isNumber_30 rfl ?_
      refine w_iconst dX5_isNumber_31 ?_
      refine w_callV (d := d + 0) (S := []) [aI 2] dX5_isNumber_32 ml_X5_72 ok_X5_refuse vi_X5_refuse rfl rfl (by decide) rfl (Nat.le_of_ble_eq_true rfl) ?_
      refine c_X5_refuse (d := d) i 0 (-1) 2 W H ?_
      show fwWP mX5_isNumber (d + 1) 35 [some (aR 2 0), some (aI lo), some (aI up)] [aI 0] (rH h i 2 (h 15 0 i) W H) Q
      refine w_if_eq 42 dX5_isNumber_35 (by decide) (by omega) (fun c35 => ?_) (fun c35 => ?_)
      · refine w_iconst dX5_isNumber_42 ?_
        exact w_zret dX5_isNumber_43 rfl (Or.inl rfl) (k.2.1 ce (by omega))
      · (exfalso; omega)
    · refine w_aload_n dX5_isNumber_22 rfl ?_
      refine w_getiE (v := h 16 0 i) dX5_isNumber_23 fl_X5_69 rfl (by decide) rfl ?_
      refine w_iload_n dX5_isNumber_26 rfl ?_
      refine w_icmp_le 38 dX5_isNumber_27 (by decide) (by omega) (by omega) (fun c27 => ?_) (fun c27 => ?_)
      · refine w_iconst dX5_isNumber_38 ?_
        refine w_goto 43 dX5_isNumber_39 (by decide) ?_
        exact w_zret dX5_isNumber_43 rfl (Or.inr rfl) (k.2.2 ce (by omega))
      · refine w_aload_n dX5_isNumber_30 rfl ?_
        refine w_iconst dX5_isNumber_31 ?_
        refine w_callV (d := d + 0) (S := []) [aI 2] dX5_isNumber_32 ml_X5_72 ok_X5_refuse vi_X5_refuse rfl rfl (by decide) rfl (Nat.le_of_ble_eq_true rfl) ?_
        refine c_X5_refuse (d := d) i 0 (-1) 2 W H ?_
        show fwWP mX5_isNumber (d + 1) 35 [some (aR 2 0), some (aI lo), some (aI up)] [aI 0] (rH h i 2 (h 15 0 i) W H) Q
        refine w_if_eq 42 dX5_isNumber_35 (by decide) (by omega) (fun c35 => ?_) (fun c35 => ?_)
        · refine w_iconst dX5_isNumber_42 ?_
          exact w_zret dX5_isNumber_43 rfl (Or.inl rfl) (k.2.1 ce (by omega))
        · (exfalso; omega)
  · refine w_aload_n dX5_isNumber_8 rfl ?_
    refine w_iconst dX5_isNumber_9 ?_
    refine w_callV (d := d + 0) (S := []) [aI 1] dX5_isNumber_10 ml_X5_72 ok_X5_refuse vi_X5_refuse rfl rfl (by decide) rfl (Nat.le_of_ble_eq_true rfl) ?_
    refine c_X5_refuse (d := d) i 0 (-1) 1 W H ?_
    show fwWP mX5_isNumber (d + 1) 13 [some (aR 2 0), some (aI lo), some (aI up)] [aI 0] (rH h i 1 (h 15 0 i) W H) Q
    exact w_zret dX5_isNumber_13 rfl (Or.inl rfl) (k.1 ce)
set_option maxRecDepth 100000 in
set_option maxHeartbeats 4000000 in
theorem c_X5_passNumber {d : Nat} {h : fwH} {Q : Option fwV → fwH → Prop} (i T : Nat) (W H : Nat → Int) (hT : tk h T) (hi : i < T) (k : Q (some (aI (h 16 0 i))) (rH h (i + 1) 0 (-1) W H)) : fwCt mX5_passNumber (d + 1) [aR 2 0] (rH h i 0 (-1) W H) Q := by
  refine fwCt_of [some (aR 2 0), none] rfl rfl rfl ?_
  refine w_aload_n dX5_passNumber_0 rfl ?_
  refine w_getiE (v := h 16 0 i) dX5_passNumber_1 fl_X5_69 rfl (by decide) rfl ?_
  refine w_istore_n [some (aR 2 0), some (aI (h 16 0 i))] dX5_passNumber_4 rfl (by decide) ?_
  refine w_aload_n dX5_passNumber_5 rfl ?_
  refine w_callV (d := d + 0) (S := []) [] dX5_passNumber_6 ml_X5_40 ok_X5_advance vi_X5_advance rfl rfl (by decide) rfl (Nat.le_of_ble_eq_true rfl) ?_
  refine c_adv (d := d) i T 0 (-1) W H hT (by first | assumption | omega) ?_
  show fwWP mX5_passNumber (d + 1) 9 [some (aR 2 0), some (aI (h 16 0 i))] [] (rH h (i + 1) 0 (-1) W H) Q
  refine w_iload_n dX5_passNumber_9 rfl ?_
  exact w_iret dX5_passNumber_10 rfl k
set_option maxRecDepth 100000 in
set_option maxHeartbeats 4000000 in
theorem c_X5_readFact {d : Nat} {h : fwH} {Q : Option fwV → fwH → Prop} (i T f w : Nat) (x lo up : Int) (W H : Nat → Int) (hT : tk h T) (hi : i ≤ T) (hf : f < 8) (hw : w < 7) (hx : 1 ≤ x ∧ x ≤ 16) (hlo : -1000000 ≤ lo ∧ lo ≤ 1000000) (hup : -1000000 ≤ up ∧ up ≤ 1000000) (hH : rHr W H) (k : rK h T Q (qFact (h 14 0) (h 16 0) x lo up (19 + (7 * f + w)) i W)) : fwCt mX5_readFact (d + 2) [aR 2 0, aI (f : Int), aI x, aI (w : Int), aI lo, aI up] (rH h i 0 (-1) W H) Q := by
  refine fwCt_of [some (aR 2 0), some (aI (f : Int)), some (aI x), some (aI (w : Int)), some (aI lo), some (aI up)] rfl rfl rfl ?_
  obtain ⟨t1, t2, t3, t4⟩ := id hT
  refine w_aload_n dX5_readFact_0 rfl ?_
  refine w_iload_n dX5_readFact_1 rfl ?_
  refine w_callV (d := d + 1) (S := []) [aI x] dX5_readFact_2 ml_X5_85 ok_X5_pass vi_X5_pass rfl rfl (by decide) rfl (Nat.le_of_ble_eq_true rfl) ?_
  refine c_X5_pass (d := d) i T x W H hT hi (by omega) ⟨fun n1 => ?_, fun n1 => ?_⟩
  · show fwWP mX5_readFact (d + 2) 5 [some (aR 2 0), some (aI (f : Int)), some (aI x), some (aI (w : Int)), some (aI lo), some (aI up)] [aI 0] (rH h i 1 (h 15 0 i) W H) Q
    refine w_if_eq 19 dX5_readFact_5 (by decide) (by omega) (fun c5 => ?_) (fun c5 => ?_)
    · refine w_iconst dX5_readFact_19 ?_
      exact w_zret dX5_readFact_20 rfl (Or.inl rfl) (k.1 _ _ _ _ _ (by simp only [qFact, qNum, qWord, qThen, if_neg n1]) (by first | assumption | omega) hH.1)
    · (exfalso; omega)
  · have hl1 : i < T := tk_lt hT (by first | assumption | omega) n1 (by omega)
    show fwWP mX5_readFact (d + 2) 5 [some (aR 2 0), some (aI (f : Int)), some (aI x), some (aI (w : Int)), some (aI lo), some (aI up)] [aI 1] (rH h (i + 1) 0 (-1) W H) Q
    refine w_if_eq 19 dX5_readFact_5 (by decide) (by omega) (fun c5 => ?_) (fun c5 => ?_)
    · (exfalso; omega)
    · refine w_aload_n dX5_readFact_8 rfl ?_
      refine w_iload dX5_readFact_9 rfl ?_
      refine w_iload dX5_readFact_11 rfl ?_
      refine w_callV (d := d + 1) (S := []) [aI lo, aI up] dX5_readFact_13 ml_X5_96 ok_X5_isNumber vi_X5_isNumber rfl rfl (by decide) rfl (Nat.le_of_ble_eq_true rfl) ?_
      refine c_X5_isNumber (d := d) (i + 1) T lo up W H hT (by omega) (by omega) (by omega) ⟨fun n2 => ?_, fun n2 r2 => ?_, fun n2 r2 => ?_⟩
      · show fwWP mX5_readFact (d + 2) 16 [some (aR 2 0), some (aI (f : Int)), some (aI x), some (aI (w : Int)), some (aI lo), some (aI up)] [aI 0] (rH h (i + 1) 1 (h 15 0 (i + 1)) W H) Q
        refine w_if_ne 21 dX5_readFact_16 (by decide) (by omega) (fun c16 => ?_) (fun c16 => ?_)
        · (exfalso; omega)
        · refine w_iconst dX5_readFact_19 ?_
          exact w_zret dX5_readFact_20 rfl (Or.inl rfl) (k.1 _ _ _ _ _ (by simp only [qFact, qNum, qWord, qThen, if_pos n1, if_neg n2]) (by first | assumption | omega) hH.1)
      · show fwWP mX5_readFact (d + 2) 16 [some (aR 2 0), some (aI (f : Int)), some (aI x), some (aI (w : Int)), some (aI lo), some (aI up)] [aI 0] (rH h (i + 1) 2 (h 15 0 (i + 1)) W H) Q
        refine w_if_ne 21 dX5_readFact_16 (by decide) (by omega) (fun c16 => ?_) (fun c16 => ?_)
        · (exfalso; omega)
        · refine w_iconst dX5_readFact_19 ?_
          exact w_zret dX5_readFact_20 rfl (Or.inl rfl) (k.1 _ _ _ _ _ (by simp only [qFact, qNum, qWord, qThen, if_pos n1, if_pos n2, if_neg r2]) (by first | assumption | omega) hH.1)
      · show fwWP mX5_readFact (d + 2) 16 [some (aR 2 0), some (aI (f : Int)), some (aI x), some (aI (w : Int)), some (aI lo), some (aI up)] [aI 1] (rH h (i + 1) 0 (-1) W H) Q
        refine w_if_ne 21 dX5_readFact_16 (by decide) (by omega) (fun c16 => ?_) (fun c16 => ?_)
        · refine w_aload_n dX5_readFact_21 rfl ?_
          refine w_getr 3 1 dX5_readFact_22 fl_X5_12 rfl (by decide) ?_
          refine w_getr 5 1 dX5_readFact_25 fl_X5_126 rfl (by decide) ?_
          refine w_iload_n dX5_readFact_28 rfl ?_
          refine w_iload_n dX5_readFact_29 rfl ?_
          refine w_aload_n dX5_readFact_30 rfl ?_
          refine w_callV (d := d + 1) (S := [aI (w : Int), aI (f : Int), aR 5 1]) [] dX5_readFact_31 ml_X5_100 ok_X5_passNumber vi_X5_passNumber rfl rfl (by decide) rfl (Nat.le_of_ble_eq_true rfl) ?_
          have hln2 : (i + 1) < T := tk_lt hT (by first | assumption | omega) n2 (by omega)
          refine c_X5_passNumber (d := d) (i + 1) T W H hT hln2 ?_
          show fwWP mX5_readFact (d + 2) 34 [some (aR 2 0), some (aI (f : Int)), some (aI x), some (aI (w : Int)), some (aI lo), some (aI up)] [aI (h 16 0 (i + 1)), aI (w : Int), aI (f : Int), aR 5 1] (rH h ((i + 1) + 1) 0 (-1) W H) Q
          refine w_callV (d := d + 1) (S := []) [aI (f : Int), aI (w : Int), aI (h 16 0 (i + 1))] dX5_readFact_34 ml_X5_142 ok_X3_setFact vi_X3_setFact rfl rfl (by decide) rfl (Nat.le_of_ble_eq_true rfl) ?_
          refine c_X3_setFact (d := (d + 1)) 1 f w (h 16 0 (i + 1)) (by decide) (by omega) (by omega) ?_
          show fwWP mX5_readFact (d + 2) 37 [some (aR 2 0), some (aI (f : Int)), some (aI x), some (aI (w : Int)), some (aI lo), some (aI up)] [] (fwUp (rH h ((i + 1) + 1) 0 (-1) W H) 18 1 (7 * f + w) (h 16 0 (i + 1))) Q
          rw [rH_fact]
          refine w_iconst dX5_readFact_37 ?_
          exact w_zret dX5_readFact_38 rfl (Or.inr rfl) (k.2 _ _ _ (by simp only [qFact, qNum, qWord, qThen, if_pos n1, if_pos n2, if_pos r2]) (by first | assumption | omega) (rHr_fu hH (by omega) (by omega)))
        · (exfalso; omega)
theorem rHr_cell {W H : Nat → Int} {c : Nat} {x : Int} (hH : rHr W H) (h0 : W 0 = (c : Int)) (hc : c < 10) (hx : 0 ≤ x ∧ x ≤ 40) : rHr (fwFu (fwFu W (9 + c) x) 0 ((c : Int) + 1)) (fwFu H c x) := by
  refine ⟨fun a h10 => ?_, fun a ha h10 => ?_⟩
  · unfold fwFu
    split
    · exact hx
    · exact hH.1 a h10
  have h1 : (a : Int) < (c : Int) + 1 := ha
  unfold fwFu
  rw [if_neg (show ¬ 9 + a = 0 by omega)]
  by_cases e : a = c
  · subst e
    rw [if_pos rfl, if_pos rfl]
  · rw [if_neg e, if_neg (by omega)]
    exact hH.2 a (by omega) h10
set_option maxRecDepth 100000 in
set_option maxHeartbeats 4000000 in
theorem c_X5_readHeights {d : Nat} {h : fwH} {Q : Option fwV → fwH → Prop} (i T : Nat) (W H : Nat → Int) (hT : tk h T) (hi : i ≤ T) (h0 : W 0 = 0) (hH : rHr W H) (k : rK h T Q (qHts (h 14 0) (h 16 0) 11 i W)) : fwCt mX5_readHeights (d + 2) [aR 2 0, aR 4 1] (rH h i 0 (-1) W H) Q := by
  refine fwCt_of [some (aR 2 0), some (aR 4 1), none] rfl rfl rfl ?_
  obtain ⟨t1, t2, t3, t4⟩ := id hT
  refine w_iconst dX5_readHeights_0 ?_
  refine w_istore_n [some (aR 2 0), some (aR 4 1), some (aI 0)] dX5_readHeights_1 rfl (by decide) ?_
  have lp2 : ∀ c : Nat, c ≤ 10 → ∀ (y : Int) (i9002 : Nat) (W9002 H9002 : Nat → Int), y = (c : Int) → i9002 ≤ T → rHr W9002 H9002 → (W9002 0 = (c : Int) ∧ qHts (h 14 0) (h 16 0) 11 i W = qHts (h 14 0) (h 16 0) (11 - c) i9002 W9002) → fwWP mX5_readHeights (d + 2) 2 [some (aR 2 0), some (aR 4 1), some (aI y)] [] (rH h i9002 0 (-1) W9002 H9002) Q := by
    refine fw_up (fun c hc2 ih2 => ?_)
    intro y i9002 W9002 H9002 ey hi9002 hH9002 iv2
    subst ey
    obtain ⟨iv0, ivq⟩ := iv2
    have iv2 := And.intro iv0 ivq
    have hkr := t4 i9002 hi9002
    show fwWP mX5_readHeights (d + 2) 2 [some (aR 2 0), some (aR 4 1), some (aI (c : Int))] [] (rH h i9002 0 (-1) W9002 H9002) Q
    refine w_iload_n dX5_readHeights_2 rfl ?_
    refine w_bipush dX5_readHeights_3 rfl ?_
    refine w_icmp_gt 54 dX5_readHeights_5 (by decide) (by omega) (by omega) (fun c5 => ?_) (fun c5 => ?_)
    · (exfalso; omega)
    · refine w_aload_n dX5_readHeights_8 rfl ?_
      refine w_getiE (v := h 14 0 i9002) dX5_readHeights_9 fl_X5_43 rfl (by decide) rfl ?_
      refine w_iconst dX5_readHeights_12 ?_
      refine w_icmp_ne 54 dX5_readHeights_13 (by decide) (by omega) (by omega) (fun c13 => ?_) (fun c13 => ?_)
      · refine w_aload_n dX5_readHeights_54 rfl ?_
        refine w_getiE (v := W9002 0) dX5_readHeights_55 fl_X5_123 rfl (by decide) rfl ?_
        refine w_iconst dX5_readHeights_58 ?_
        refine w_icmp_ge 70 dX5_readHeights_59 (by decide) (by omega) (by omega) (fun c59 => ?_) (fun c59 => ?_)
        · refine w_iconst dX5_readHeights_70 ?_
          refine w_goto 75 dX5_readHeights_71 (by decide) ?_
          exact w_zret dX5_readHeights_75 rfl (Or.inr rfl) (k.2 _ _ _ (by rw [ivq, show 11 - c = (10 - c) + 1 by omega, qHts, if_neg c13, if_pos (by omega)]) (by omega) hH9002)
        · refine w_aload_n dX5_readHeights_62 rfl ?_
          refine w_iconst dX5_readHeights_63 ?_
          refine w_callV (d := d + 1) (S := []) [aI 1] dX5_readHeights_64 ml_X5_72 ok_X5_refuse vi_X5_refuse rfl rfl (by decide) rfl (Nat.le_of_ble_eq_true rfl) ?_
          refine c_X5_refuse (d := (d + 1)) i9002 0 (-1) 1 W9002 H9002 ?_
          show fwWP mX5_readHeights (d + 2) 67 [some (aR 2 0), some (aR 4 1), some (aI (c : Int))] [aI 0] (rH h i9002 1 (h 15 0 i9002) W9002 H9002) Q
          refine w_if_eq 74 dX5_readHeights_67 (by decide) (by omega) (fun c67 => ?_) (fun c67 => ?_)
          · refine w_iconst dX5_readHeights_74 ?_
            exact w_zret dX5_readHeights_75 rfl (Or.inl rfl) (k.1 _ _ _ _ _ (by rw [ivq, show 11 - c = (10 - c) + 1 by omega, qHts, if_neg c13, if_neg (by omega)]) (by omega) hH9002.1)
          · (exfalso; omega)
      · refine w_aload_n dX5_readHeights_16 rfl ?_
        refine w_iconst dX5_readHeights_17 ?_
        refine w_bipush dX5_readHeights_18 rfl ?_
        refine w_callV (d := d + 1) (S := []) [aI 0, aI 40] dX5_readHeights_20 ml_X5_96 ok_X5_isNumber vi_X5_isNumber rfl rfl (by decide) rfl (Nat.le_of_ble_eq_true rfl) ?_
        refine c_X5_isNumber (d := d) i9002 T 0 40 W9002 H9002 hT hi9002 (by omega) (by omega) ⟨fun n3 => ?_, fun n3 r3 => ?_, fun n3 r3 => ?_⟩
        · exact absurd c13 n3
        · show fwWP mX5_readHeights (d + 2) 23 [some (aR 2 0), some (aR 4 1), some (aI (c : Int))] [aI 0] (rH h i9002 2 (h 15 0 i9002) W9002 H9002) Q
          refine w_if_ne 28 dX5_readHeights_23 (by decide) (by omega) (fun c23 => ?_) (fun c23 => ?_)
          · (exfalso; omega)
          · refine w_iconst dX5_readHeights_26 ?_
            exact w_zret dX5_readHeights_27 rfl (Or.inl rfl) (k.1 _ _ _ _ _ (by rw [ivq, show 11 - c = (10 - c) + 1 by omega, qHts, if_pos n3, if_neg r3]) (by omega) hH9002.1)
        · show fwWP mX5_readHeights (d + 2) 23 [some (aR 2 0), some (aR 4 1), some (aI (c : Int))] [aI 1] (rH h i9002 0 (-1) W9002 H9002) Q
          refine w_if_ne 28 dX5_readHeights_23 (by decide) (by omega) (fun c23 => ?_) (fun c23 => ?_)
          · refine w_iload_n dX5_readHeights_28 rfl ?_
            refine w_bipush dX5_readHeights_29 rfl ?_
            refine w_icmp_ne 40 dX5_readHeights_31 (by decide) (by omega) (by omega) (fun c31 => ?_) (fun c31 => ?_)
            · refine w_aload_n dX5_readHeights_40 rfl ?_
              refine w_aload_n dX5_readHeights_41 rfl ?_
              refine w_callV (d := d + 1) (S := [aR 4 1]) [] dX5_readHeights_42 ml_X5_100 ok_X5_passNumber vi_X5_passNumber rfl rfl (by decide) rfl (Nat.le_of_ble_eq_true rfl) ?_
              have hln3 : i9002 < T := tk_lt hT (by first | assumption | omega) n3 (by omega)
              refine c_X5_passNumber (d := d) i9002 T W9002 H9002 hT hln3 ?_
              show fwWP mX5_readHeights (d + 2) 45 [some (aR 2 0), some (aR 4 1), some (aI (c : Int))] [aI (h 16 0 i9002), aR 4 1] (rH h (i9002 + 1) 0 (-1) W9002 H9002) Q
              refine w_callV (d := d + 1) (S := []) [aI (h 16 0 i9002)] dX5_readHeights_45 ml_X5_119 ok_X1_addCell vi_X1_addCell rfl rfl (by decide) rfl (Nat.le_of_ble_eq_true rfl) ?_
              refine c_X1_addCell (d := (d + 1)) 1 (h 16 0 i9002) (by decide) (by show 0 ≤ W9002 0; omega) (by show W9002 0 < 10; omega) ?_
              show fwWP mX5_readHeights (d + 2) 48 [some (aR 2 0), some (aR 4 1), some (aI (c : Int))] [] (fwUp (fwUp (rH h (i9002 + 1) 0 (-1) W9002 H9002) 17 1 (W9002 0).toNat (h 16 0 i9002)) 4 1 1 (W9002 0 + 1)) Q
              rw [iv0, Int.toNat_natCast, rH_cell _ _ _ _ _ _ _ (by omega)]
              have hHc := rHr_cell (x := (h 16 0 i9002)) hH9002 iv0 (by omega) (by omega)
              refine w_iinc [some (aR 2 0), some (aR 4 1), some (aI ((c : Int) + 1))] dX5_readHeights_48 rfl rfl (by decide) ?_
              refine w_goto 2 dX5_readHeights_51 (by decide) ?_
              exact ih2 (by omega) _ _ _ _ (by omega) (by first | assumption | omega) hHc ⟨rfl, by rw [iv2.2, show 11 - c = (10 - c) + 1 by omega, qHts, if_pos n3, if_pos r3, if_neg (by omega), show 10 - (10 - c) = c by omega, show 11 - (c + 1) = 10 - c by omega]⟩
            · refine w_aload_n dX5_readHeights_34 rfl ?_
              refine w_iconst dX5_readHeights_35 ?_
              refine w_callV (d := d + 1) (S := []) [aI 3] dX5_readHeights_36 ml_X5_72 ok_X5_refuse vi_X5_refuse rfl rfl (by decide) rfl (Nat.le_of_ble_eq_true rfl) ?_
              refine c_X5_refuse (d := (d + 1)) i9002 0 (-1) 3 W9002 H9002 ?_
              show fwWP mX5_readHeights (d + 2) 39 [some (aR 2 0), some (aR 4 1), some (aI (c : Int))] [aI 0] (rH h i9002 3 (h 15 0 i9002) W9002 H9002) Q
              exact w_zret dX5_readHeights_39 rfl (Or.inl rfl) (k.1 _ _ _ _ _ (by rw [ivq, show 11 - c = (10 - c) + 1 by omega, qHts, if_pos n3, if_pos r3, if_pos (by omega)]) (by omega) hH9002.1)
          · (exfalso; omega)
  exact lp2 0 (Nat.zero_le _) _ _ _ _ rfl (by first | assumption | omega) hH ⟨h0, rfl⟩
theorem c_bef {d : Nat} {h : fwH} {Q : Option fwV → fwH → Prop} (i f : Nat) (fk fp x : Int) (W H : Nat → Int) (hf : f < 8) (hx : 0 ≤ x ∧ x ≤ (f : Int) - 1) (k : Q none (rH h i fk fp (qBef W f x.toNat) H)) : fwCt mX3_befriend (d + 1) [aR 5 1, aI (f : Int), aI x] (rH h i fk fp W H) Q := by
  obtain ⟨g, rfl⟩ : ∃ g : Nat, x = g := ⟨x.toNat, by omega⟩
  refine c_X3_befriend 1 f g (by decide) hf (by omega) ?_
  rw [rH_fact, rH_fact]
  exact k
set_option maxRecDepth 100000 in
set_option maxHeartbeats 4000000 in
theorem c_X5_readTalk {d : Nat} {h : fwH} {Q : Option fwV → fwH → Prop} (i T f : Nat) (W H : Nat → Int) (hT : tk h T) (hi : i ≤ T) (hf : f < 8) (hH : rHr W H) (k : rK h T Q (qTalk (h 14 0) (h 16 0) f i W)) : fwCt mX5_readTalk (d + 3) [aR 2 0, aI (f : Int)] (rH h i 0 (-1) W H) Q := by
  refine fwCt_of [some (aR 2 0), some (aI (f : Int)), none] rfl rfl rfl ?_
  obtain ⟨t1, t2, t3, t4⟩ := id hT
  refine w_aload_n dX5_readTalk_0 rfl ?_
  refine w_iload_n dX5_readTalk_1 rfl ?_
  refine w_bipush dX5_readTalk_2 rfl ?_
  refine w_iconst dX5_readTalk_4 ?_
  refine w_iconst dX5_readTalk_5 ?_
  refine w_bipush dX5_readTalk_6 rfl ?_
  refine w_callV (d := d + 2) (S := []) [aI (f : Int), aI 12, aI 5, aI 1, aI 7] dX5_readTalk_8 ml_X5_135 ok_X5_readFact vi_X5_readFact rfl rfl (by decide) rfl (Nat.le_of_ble_eq_true rfl) ?_
  refine c_X5_readFact (d := d) i T f 5 12 1 7 W H hT hi (by omega) (by omega) (by omega) (by omega) (by first | omega | (show -1000000 ≤ W 0 - 1 ∧ W 0 - 1 ≤ 1000000; omega)) hH ⟨fun fk4 j4 i4 W4 H4 e4 hj4 hg4 => ?_, fun i4 W4 H4 e4 hi4 hH4 => ?_⟩
  · show fwWP mX5_readTalk (d + 3) 11 [some (aR 2 0), some (aI (f : Int)), none] [aI 0] (rH h i4 fk4 (h 15 0 j4) W4 H4) Q
    refine w_if_eq 34 dX5_readTalk_11 (by decide) (by omega) (fun c11 => ?_) (fun c11 => ?_)
    · refine w_iconst dX5_readTalk_34 ?_
      exact w_zret dX5_readTalk_35 rfl (Or.inl rfl) (k.1 _ _ _ _ _ (by simp only [qTalk, qNum, qWord, qThen, e4]) hj4 hg4)
    · (exfalso; omega)
  · show fwWP mX5_readTalk (d + 3) 11 [some (aR 2 0), some (aI (f : Int)), none] [aI 1] (rH h i4 0 (-1) W4 H4) Q
    refine w_if_eq 34 dX5_readTalk_11 (by decide) (by omega) (fun c11 => ?_) (fun c11 => ?_)
    · (exfalso; omega)
    · refine w_aload_n dX5_readTalk_14 rfl ?_
      refine w_bipush dX5_readTalk_15 rfl ?_
      refine w_callV (d := d + 2) (S := []) [aI 13] dX5_readTalk_17 ml_X5_85 ok_X5_pass vi_X5_pass rfl rfl (by decide) rfl (Nat.le_of_ble_eq_true rfl) ?_
      refine c_X5_pass (d := (d + 1)) i4 T 13 W4 H4 hT hi4 (by omega) ⟨fun n5 => ?_, fun n5 => ?_⟩
      · show fwWP mX5_readTalk (d + 3) 20 [some (aR 2 0), some (aI (f : Int)), none] [aI 0] (rH h i4 1 (h 15 0 i4) W4 H4) Q
        refine w_if_eq 34 dX5_readTalk_20 (by decide) (by omega) (fun c20 => ?_) (fun c20 => ?_)
        · refine w_iconst dX5_readTalk_34 ?_
          exact w_zret dX5_readTalk_35 rfl (Or.inl rfl) (k.1 _ _ _ _ _ (by simp only [qTalk, qNum, qWord, qThen, e4, if_neg n5]) (by first | assumption | omega) hH4.1)
        · (exfalso; omega)
      · have hl5 : i4 < T := tk_lt hT (by first | assumption | omega) n5 (by omega)
        show fwWP mX5_readTalk (d + 3) 20 [some (aR 2 0), some (aI (f : Int)), none] [aI 1] (rH h (i4 + 1) 0 (-1) W4 H4) Q
        refine w_if_eq 34 dX5_readTalk_20 (by decide) (by omega) (fun c20 => ?_) (fun c20 => ?_)
        · (exfalso; omega)
        · refine w_aload_n dX5_readTalk_23 rfl ?_
          refine w_iconst dX5_readTalk_24 ?_
          refine w_iload_n dX5_readTalk_25 rfl ?_
          refine w_iconst dX5_readTalk_26 ?_
          refine w_isub dX5_readTalk_27 ?_
          refine w_callV (d := d + 2) (S := []) [aI 0, aI ((f : Int) - 1)] dX5_readTalk_28 ml_X5_96 ok_X5_isNumber vi_X5_isNumber rfl rfl (by decide) rfl (Nat.le_of_ble_eq_true rfl) ?_
          refine c_X5_isNumber (d := (d + 1)) (i4 + 1) T 0 ((f : Int) - 1) W4 H4 hT (by omega) (by omega) (by omega) ⟨fun n6 => ?_, fun n6 r6 => ?_, fun n6 r6 => ?_⟩
          · show fwWP mX5_readTalk (d + 3) 31 [some (aR 2 0), some (aI (f : Int)), none] [aI 0] (rH h (i4 + 1) 1 (h 15 0 (i4 + 1)) W4 H4) Q
            refine w_if_ne 36 dX5_readTalk_31 (by decide) (by omega) (fun c31 => ?_) (fun c31 => ?_)
            · (exfalso; omega)
            · refine w_iconst dX5_readTalk_34 ?_
              exact w_zret dX5_readTalk_35 rfl (Or.inl rfl) (k.1 _ _ _ _ _ (by simp only [qTalk, qNum, qWord, qThen, e4, if_pos n5, if_neg n6]) (by first | assumption | omega) hH4.1)
          · show fwWP mX5_readTalk (d + 3) 31 [some (aR 2 0), some (aI (f : Int)), none] [aI 0] (rH h (i4 + 1) 2 (h 15 0 (i4 + 1)) W4 H4) Q
            refine w_if_ne 36 dX5_readTalk_31 (by decide) (by omega) (fun c31 => ?_) (fun c31 => ?_)
            · (exfalso; omega)
            · refine w_iconst dX5_readTalk_34 ?_
              exact w_zret dX5_readTalk_35 rfl (Or.inl rfl) (k.1 _ _ _ _ _ (by simp only [qTalk, qNum, qWord, qThen, e4, if_pos n5, if_pos n6, if_neg r6]) (by first | assumption | omega) hH4.1)
          · show fwWP mX5_readTalk (d + 3) 31 [some (aR 2 0), some (aI (f : Int)), none] [aI 1] (rH h (i4 + 1) 0 (-1) W4 H4) Q
            refine w_if_ne 36 dX5_readTalk_31 (by decide) (by omega) (fun c31 => ?_) (fun c31 => ?_)
            · refine w_aload_n dX5_readTalk_36 rfl ?_
              refine w_getr 3 1 dX5_readTalk_37 fl_X5_12 rfl (by decide) ?_
              refine w_getr 5 1 dX5_readTalk_40 fl_X5_126 rfl (by decide) ?_
              refine w_iload_n dX5_readTalk_43 rfl ?_
              refine w_aload_n dX5_readTalk_44 rfl ?_
              refine w_callV (d := d + 2) (S := [aI (f : Int), aR 5 1]) [] dX5_readTalk_45 ml_X5_100 ok_X5_passNumber vi_X5_passNumber rfl rfl (by decide) rfl (Nat.le_of_ble_eq_true rfl) ?_
              have hln6 : (i4 + 1) < T := tk_lt hT (by first | assumption | omega) n6 (by omega)
              refine c_X5_passNumber (d := (d + 1)) (i4 + 1) T W4 H4 hT hln6 ?_
              show fwWP mX5_readTalk (d + 3) 48 [some (aR 2 0), some (aI (f : Int)), none] [aI (h 16 0 (i4 + 1)), aI (f : Int), aR 5 1] (rH h ((i4 + 1) + 1) 0 (-1) W4 H4) Q
              refine w_callV (d := d + 2) (S := []) [aI (f : Int), aI (h 16 0 (i4 + 1))] dX5_readTalk_48 ml_X5_146 ok_X3_befriend vi_X3_befriend rfl rfl (by decide) rfl (Nat.le_of_ble_eq_true rfl) ?_
              refine c_bef (d := (d + 1)) ((i4 + 1) + 1) f 0 (-1) (h 16 0 (i4 + 1)) W4 H4 (by omega) (by omega) ?_
              show fwWP mX5_readTalk (d + 3) 51 [some (aR 2 0), some (aI (f : Int)), none] [] (rH h ((i4 + 1) + 1) 0 (-1) (qBef W4 f (h 16 0 (i4 + 1)).toNat) H4) Q
              refine w_iconst dX5_readTalk_51 ?_
              refine w_istore_n [some (aR 2 0), some (aI (f : Int)), some (aI 0)] dX5_readTalk_52 rfl (by decide) ?_
              have lp53 : ∀ c : Nat, c ≤ 900 → ∀ (y : Int) (i9053 : Nat) (W9053 H9053 : Nat → Int), y = (c : Int) → i9053 ≤ T → rHr W9053 H9053 → (qTalk (h 14 0) (h 16 0) f i W = qTl (h 14 0) (h 16 0) f (900 - c) i9053 W9053) → fwWP mX5_readTalk (d + 3) 53 [some (aR 2 0), some (aI (f : Int)), some (aI y)] [] (rH h i9053 0 (-1) W9053 H9053) Q := by
                refine fw_up (fun c hc53 ih53 => ?_)
                intro y i9053 W9053 H9053 ey hi9053 hH9053 iv53
                subst ey
                have hkr := t4 i9053 hi9053
                show fwWP mX5_readTalk (d + 3) 53 [some (aR 2 0), some (aI (f : Int)), some (aI (c : Int))] [] (rH h i9053 0 (-1) W9053 H9053) Q
                refine w_iload_n dX5_readTalk_53 rfl ?_
                refine w_sipush dX5_readTalk_54 rfl ?_
                refine w_icmp_ge 102 dX5_readTalk_57 (by decide) (by omega) (by omega) (fun c57 => ?_) (fun c57 => ?_)
                · refine w_iconst dX5_readTalk_102 ?_
                  by_cases e9 : c = 900
                  · subst e9
                    exact w_zret dX5_readTalk_103 rfl (Or.inr rfl) (k.2 _ _ _ (by rw [iv53]; rfl) (by omega) hH9053)
                  · exact w_zret dX5_readTalk_103 rfl (Or.inr rfl) (k.2 _ _ _ (by rw [iv53, show 900 - c = (899 - c) + 1 by omega, qTl, if_neg (by first | exact c65 | omega)]) (by omega) hH9053)
                · refine w_aload_n dX5_readTalk_60 rfl ?_
                  refine w_getiE (v := h 14 0 i9053) dX5_readTalk_61 fl_X5_43 rfl (by decide) rfl ?_
                  refine w_iconst dX5_readTalk_64 ?_
                  refine w_icmp_ne 102 dX5_readTalk_65 (by decide) (by omega) (by omega) (fun c65 => ?_) (fun c65 => ?_)
                  · refine w_iconst dX5_readTalk_102 ?_
                    by_cases e9 : c = 900
                    · subst e9
                      exact w_zret dX5_readTalk_103 rfl (Or.inr rfl) (k.2 _ _ _ (by rw [iv53]; rfl) (by omega) hH9053)
                    · exact w_zret dX5_readTalk_103 rfl (Or.inr rfl) (k.2 _ _ _ (by rw [iv53, show 900 - c = (899 - c) + 1 by omega, qTl, if_neg (by first | exact c65 | omega)]) (by omega) hH9053)
                  · refine w_aload_n dX5_readTalk_68 rfl ?_
                    refine w_iconst dX5_readTalk_69 ?_
                    refine w_iload_n dX5_readTalk_70 rfl ?_
                    refine w_iconst dX5_readTalk_71 ?_
                    refine w_isub dX5_readTalk_72 ?_
                    refine w_callV (d := d + 2) (S := []) [aI 0, aI ((f : Int) - 1)] dX5_readTalk_73 ml_X5_96 ok_X5_isNumber vi_X5_isNumber rfl rfl (by decide) rfl (Nat.le_of_ble_eq_true rfl) ?_
                    refine c_X5_isNumber (d := (d + 1)) i9053 T 0 ((f : Int) - 1) W9053 H9053 hT hi9053 (by omega) (by omega) ⟨fun n7 => ?_, fun n7 r7 => ?_, fun n7 r7 => ?_⟩
                    · exact absurd c65 n7
                    · show fwWP mX5_readTalk (d + 3) 76 [some (aR 2 0), some (aI (f : Int)), some (aI (c : Int))] [aI 0] (rH h i9053 2 (h 15 0 i9053) W9053 H9053) Q
                      refine w_if_ne 81 dX5_readTalk_76 (by decide) (by omega) (fun c76 => ?_) (fun c76 => ?_)
                      · (exfalso; omega)
                      · refine w_iconst dX5_readTalk_79 ?_
                        exact w_zret dX5_readTalk_80 rfl (Or.inl rfl) (k.1 _ _ _ _ _ (by rw [iv53, show 900 - c = (899 - c) + 1 by omega, qTl, if_pos n7, if_neg r7]) (by omega) hH9053.1)
                    · show fwWP mX5_readTalk (d + 3) 76 [some (aR 2 0), some (aI (f : Int)), some (aI (c : Int))] [aI 1] (rH h i9053 0 (-1) W9053 H9053) Q
                      refine w_if_ne 81 dX5_readTalk_76 (by decide) (by omega) (fun c76 => ?_) (fun c76 => ?_)
                      · refine w_aload_n dX5_readTalk_81 rfl ?_
                        refine w_getr 3 1 dX5_readTalk_82 fl_X5_12 rfl (by decide) ?_
                        refine w_getr 5 1 dX5_readTalk_85 fl_X5_126 rfl (by decide) ?_
                        refine w_iload_n dX5_readTalk_88 rfl ?_
                        refine w_aload_n dX5_readTalk_89 rfl ?_
                        refine w_callV (d := d + 2) (S := [aI (f : Int), aR 5 1]) [] dX5_readTalk_90 ml_X5_100 ok_X5_passNumber vi_X5_passNumber rfl rfl (by decide) rfl (Nat.le_of_ble_eq_true rfl) ?_
                        have hln7 : i9053 < T := tk_lt hT (by first | assumption | omega) n7 (by omega)
                        refine c_X5_passNumber (d := (d + 1)) i9053 T W9053 H9053 hT hln7 ?_
                        show fwWP mX5_readTalk (d + 3) 93 [some (aR 2 0), some (aI (f : Int)), some (aI (c : Int))] [aI (h 16 0 i9053), aI (f : Int), aR 5 1] (rH h (i9053 + 1) 0 (-1) W9053 H9053) Q
                        refine w_callV (d := d + 2) (S := []) [aI (f : Int), aI (h 16 0 i9053)] dX5_readTalk_93 ml_X5_146 ok_X3_befriend vi_X3_befriend rfl rfl (by decide) rfl (Nat.le_of_ble_eq_true rfl) ?_
                        refine c_bef (d := (d + 1)) (i9053 + 1) f 0 (-1) (h 16 0 i9053) W9053 H9053 (by omega) (by omega) ?_
                        show fwWP mX5_readTalk (d + 3) 96 [some (aR 2 0), some (aI (f : Int)), some (aI (c : Int))] [] (rH h (i9053 + 1) 0 (-1) (qBef W9053 f (h 16 0 i9053).toNat) H9053) Q
                        refine w_iinc [some (aR 2 0), some (aI (f : Int)), some (aI ((c : Int) + 1))] dX5_readTalk_96 rfl rfl (by decide) ?_
                        refine w_goto 53 dX5_readTalk_99 (by decide) ?_
                        exact ih53 (by omega) _ _ _ _ (by omega) (by first | assumption | omega) (rHr_bef hH9053 _ _) (by rw [iv53, show 900 - c = (899 - c) + 1 by omega, qTl, if_pos n7, if_pos r7, show 900 - (c + 1) = 899 - c by omega])
                      · (exfalso; omega)
              exact lp53 0 (Nat.zero_le _) _ _ _ _ rfl (by first | assumption | omega) (rHr_bef hH4 _ _) (by simp only [qTalk, qNum, qWord, qThen, e4, if_pos n5, if_pos n6, if_pos r6])
            · (exfalso; omega)
set_option maxRecDepth 100000 in
set_option maxHeartbeats 4000000 in
theorem c_X5_readHeap {d : Nat} {h : fwH} {Q : Option fwV → fwH → Prop} (i T : Nat) (W H : Nat → Int) (hT : tk h T) (hi : i ≤ T) (h0 : 0 ≤ W 0 ∧ W 0 ≤ 10) (hH : rHr W H) (k : rK h T Q (qHeap (h 14 0) (h 16 0) i W)) : fwCt mX5_readHeap (d + 2) [aR 2 0] (rH h i 0 (-1) W H) Q := by
  refine fwCt_of [some (aR 2 0)] rfl rfl rfl ?_
  obtain ⟨t1, t2, t3, t4⟩ := id hT
  refine w_aload_n dX5_readHeap_0 rfl ?_
  refine w_bipush dX5_readHeap_1 rfl ?_
  refine w_callV (d := d + 1) (S := []) [aI 14] dX5_readHeap_3 ml_X5_85 ok_X5_pass vi_X5_pass rfl rfl (by decide) rfl (Nat.le_of_ble_eq_true rfl) ?_
  refine c_X5_pass (d := d) i T 14 W H hT hi (by omega) ⟨fun n8 => ?_, fun n8 => ?_⟩
  · show fwWP mX5_readHeap (d + 2) 6 [some (aR 2 0)] [aI 0] (rH h i 1 (h 15 0 i) W H) Q
    refine w_if_eq 29 dX5_readHeap_6 (by decide) (by omega) (fun c6 => ?_) (fun c6 => ?_)
    · refine w_iconst dX5_readHeap_29 ?_
      exact w_zret dX5_readHeap_30 rfl (Or.inl rfl) (k.1 _ _ _ _ _ (by simp only [qHeap, qFact, qNum, qWord, qThen, if_neg n8]) (by first | assumption | omega) hH.1)
    · (exfalso; omega)
  · have hl8 : i < T := tk_lt hT (by first | assumption | omega) n8 (by omega)
    show fwWP mX5_readHeap (d + 2) 6 [some (aR 2 0)] [aI 1] (rH h (i + 1) 0 (-1) W H) Q
    refine w_if_eq 29 dX5_readHeap_6 (by decide) (by omega) (fun c6 => ?_) (fun c6 => ?_)
    · (exfalso; omega)
    · refine w_aload_n dX5_readHeap_9 rfl ?_
      refine w_iconst dX5_readHeap_10 ?_
      refine w_aload_n dX5_readHeap_11 rfl ?_
      refine w_getr 3 1 dX5_readHeap_12 fl_X5_12 rfl (by decide) ?_
      refine w_getr 4 1 dX5_readHeap_15 fl_X5_88 rfl (by decide) ?_
      refine w_getiE (v := W 0) dX5_readHeap_18 fl_X5_123 rfl (by decide) rfl ?_
      refine w_iconst dX5_readHeap_21 ?_
      refine w_isub dX5_readHeap_22 ?_
      refine w_callV (d := d + 1) (S := []) [aI 0, aI ((W 0) - 1)] dX5_readHeap_23 ml_X5_96 ok_X5_isNumber vi_X5_isNumber rfl rfl (by decide) rfl (Nat.le_of_ble_eq_true rfl) ?_
      refine c_X5_isNumber (d := d) (i + 1) T 0 ((W 0) - 1) W H hT (by omega) (by omega) (by omega) ⟨fun n9 => ?_, fun n9 r9 => ?_, fun n9 r9 => ?_⟩
      · show fwWP mX5_readHeap (d + 2) 26 [some (aR 2 0)] [aI 0] (rH h (i + 1) 1 (h 15 0 (i + 1)) W H) Q
        refine w_if_ne 31 dX5_readHeap_26 (by decide) (by omega) (fun c26 => ?_) (fun c26 => ?_)
        · (exfalso; omega)
        · refine w_iconst dX5_readHeap_29 ?_
          exact w_zret dX5_readHeap_30 rfl (Or.inl rfl) (k.1 _ _ _ _ _ (by simp only [qHeap, qFact, qNum, qWord, qThen, if_pos n8, if_neg n9]) (by first | assumption | omega) hH.1)
      · show fwWP mX5_readHeap (d + 2) 26 [some (aR 2 0)] [aI 0] (rH h (i + 1) 2 (h 15 0 (i + 1)) W H) Q
        refine w_if_ne 31 dX5_readHeap_26 (by decide) (by omega) (fun c26 => ?_) (fun c26 => ?_)
        · (exfalso; omega)
        · refine w_iconst dX5_readHeap_29 ?_
          exact w_zret dX5_readHeap_30 rfl (Or.inl rfl) (k.1 _ _ _ _ _ (by simp only [qHeap, qFact, qNum, qWord, qThen, if_pos n8, if_pos n9, if_neg r9]) (by first | assumption | omega) hH.1)
      · show fwWP mX5_readHeap (d + 2) 26 [some (aR 2 0)] [aI 1] (rH h (i + 1) 0 (-1) W H) Q
        refine w_if_ne 31 dX5_readHeap_26 (by decide) (by omega) (fun c26 => ?_) (fun c26 => ?_)
        · refine w_aload_n dX5_readHeap_31 rfl ?_
          refine w_getr 3 1 dX5_readHeap_32 fl_X5_12 rfl (by decide) ?_
          refine w_aload_n dX5_readHeap_35 rfl ?_
          refine w_callV (d := d + 1) (S := [aR 3 1]) [] dX5_readHeap_36 ml_X5_100 ok_X5_passNumber vi_X5_passNumber rfl rfl (by decide) rfl (Nat.le_of_ble_eq_true rfl) ?_
          have hln9 : (i + 1) < T := tk_lt hT (by first | assumption | omega) n9 (by omega)
          refine c_X5_passNumber (d := d) (i + 1) T W H hT hln9 ?_
          show fwWP mX5_readHeap (d + 2) 39 [some (aR 2 0)] [aI (h 16 0 (i + 1)), aR 3 1] (rH h ((i + 1) + 1) 0 (-1) W H) Q
          refine w_puti dX5_readHeap_39 fl_X5_150 fp_3_5 rfl (by decide) ?_
          rw [show (fwUp (rH h ((i + 1) + 1) 0 (-1) W H) 3 1 5 (h 16 0 (i + 1))) = (rH h ((i + 1) + 1) 0 (-1) (fwFu W 5 (h 16 0 (i + 1))) H) from rH_heap _ _ _ _ _ _ _]
          refine w_iconst dX5_readHeap_42 ?_
          exact w_zret dX5_readHeap_43 rfl (Or.inr rfl) (k.2 _ _ _ (by simp only [qHeap, qFact, qNum, qWord, qThen, if_pos n8, if_pos n9, if_pos r9]) (by first | assumption | omega) (rHr_fu hH (by omega) (by omega)))
        · (exfalso; omega)
set_option maxRecDepth 100000 in
set_option maxHeartbeats 4000000 in
theorem c_X5_readFolk {d : Nat} {h : fwH} {Q : Option fwV → fwH → Prop} (i T f : Nat) (W H : Nat → Int) (hT : tk h T) (hi : i ≤ T) (h6 : W 6 = (f : Int)) (hf : f ≤ 8) (h0 : 0 ≤ W 0 ∧ W 0 ≤ 10) (hH : rHr W H) (k : rK h T Q (qFolk (h 14 0) (h 16 0) f i W)) : fwCt mX5_readFolk (d + 4) [aR 2 0] (rH h i 0 (-1) W H) Q := by
  refine fwCt_of [some (aR 2 0), none] rfl rfl rfl ?_
  obtain ⟨t1, t2, t3, t4⟩ := id hT
  refine w_aload_n dX5_readFolk_0 rfl ?_
  refine w_getr 3 1 dX5_readFolk_1 fl_X5_12 rfl (by decide) ?_
  refine w_getr 5 1 dX5_readFolk_4 fl_X5_126 rfl (by decide) ?_
  refine w_getiE (v := (f : Int)) dX5_readFolk_7 fl_X5_130 rfl (by decide) h6 ?_
  refine w_istore_n [some (aR 2 0), some (aI (f : Int))] dX5_readFolk_10 rfl (by decide) ?_
  refine w_iload_n dX5_readFolk_11 rfl ?_
  refine w_bipush dX5_readFolk_12 rfl ?_
  refine w_icmp_lt 23 dX5_readFolk_14 (by decide) (by omega) (by omega) (fun c14 => ?_) (fun c14 => ?_)
  · refine w_aload_n dX5_readFolk_23 rfl ?_
    refine w_getr 3 1 dX5_readFolk_24 fl_X5_12 rfl (by decide) ?_
    refine w_getr 5 1 dX5_readFolk_27 fl_X5_126 rfl (by decide) ?_
    refine w_dup dX5_readFolk_30 rfl ?_
    refine w_getiE (v := (f : Int)) dX5_readFolk_31 fl_X5_130 rfl (by decide) h6 ?_
    refine w_iconst dX5_readFolk_34 ?_
    refine w_iadd dX5_readFolk_35 ?_
    refine w_puti dX5_readFolk_36 fl_X5_130 fp_5_3 rfl (by decide) ?_
    rw [show (fwUp (rH h i 0 (-1) W H) 5 1 3 ((f : Int) + 1)) = (rH h i 0 (-1) (fwFu W 6 ((f : Int) + 1)) H) from rH_size _ _ _ _ _ _ _]
    refine w_aload_n dX5_readFolk_39 rfl ?_
    refine w_bipush dX5_readFolk_40 rfl ?_
    refine w_callV (d := d + 3) (S := []) [aI 8] dX5_readFolk_42 ml_X5_85 ok_X5_pass vi_X5_pass rfl rfl (by decide) rfl (Nat.le_of_ble_eq_true rfl) ?_
    refine c_X5_pass (d := (d + 2)) i T 8 (fwFu W 6 ((f : Int) + 1)) H hT hi (by omega) ⟨fun n10 => ?_, fun n10 => ?_⟩
    · show fwWP mX5_readFolk (d + 4) 45 [some (aR 2 0), some (aI (f : Int))] [aI 0] (rH h i 1 (h 15 0 i) (fwFu W 6 ((f : Int) + 1)) H) Q
      refine w_if_eq 148 dX5_readFolk_45 (by decide) (by omega) (fun c45 => ?_) (fun c45 => ?_)
      · refine w_iconst dX5_readFolk_148 ?_
        exact w_zret dX5_readFolk_149 rfl (Or.inl rfl) (k.1 _ _ _ _ _ (by simp only [qFolk, qWord, qThen, if_neg (show ¬ 8 ≤ f by omega), if_neg n10]) (by first | assumption | omega) hH.1)
      · (exfalso; omega)
    · have hl10 : i < T := tk_lt hT (by first | assumption | omega) n10 (by omega)
      show fwWP mX5_readFolk (d + 4) 45 [some (aR 2 0), some (aI (f : Int))] [aI 1] (rH h (i + 1) 0 (-1) (fwFu W 6 ((f : Int) + 1)) H) Q
      refine w_if_eq 148 dX5_readFolk_45 (by decide) (by omega) (fun c45 => ?_) (fun c45 => ?_)
      · (exfalso; omega)
      · refine w_aload_n dX5_readFolk_48 rfl ?_
        refine w_iload_n dX5_readFolk_49 rfl ?_
        refine w_bipush dX5_readFolk_50 rfl ?_
        refine w_iconst dX5_readFolk_52 ?_
        refine w_iconst dX5_readFolk_53 ?_
        refine w_aload_n dX5_readFolk_54 rfl ?_
        refine w_getr 3 1 dX5_readFolk_55 fl_X5_12 rfl (by decide) ?_
        refine w_getr 4 1 dX5_readFolk_58 fl_X5_88 rfl (by decide) ?_
        refine w_getiE (v := (fwFu W 6 ((f : Int) + 1)) 0) dX5_readFolk_61 fl_X5_123 rfl (by decide) rfl ?_
        refine w_iconst dX5_readFolk_64 ?_
        refine w_isub dX5_readFolk_65 ?_
        refine w_callV (d := d + 3) (S := []) [aI (f : Int), aI 9, aI 0, aI 0, aI (((fwFu W 6 ((f : Int) + 1)) 0) - 1)] dX5_readFolk_66 ml_X5_135 ok_X5_readFact vi_X5_readFact rfl rfl (by decide) rfl (Nat.le_of_ble_eq_true rfl) ?_
        refine c_X5_readFact (d := (d + 1)) (i + 1) T f 0 9 0 (((fwFu W 6 ((f : Int) + 1)) 0) - 1) (fwFu W 6 ((f : Int) + 1)) H hT (by omega) (by omega) (by omega) (by omega) (by omega) (by first | omega | (show -1000000 ≤ W 0 - 1 ∧ W 0 - 1 ≤ 1000000; omega)) (rHr_fu hH (by omega) (by omega)) ⟨fun fk11 j11 i11 W11 H11 e11 hj11 hg11 => ?_, fun i11 W11 H11 e11 hi11 hH11 => ?_⟩
        · show fwWP mX5_readFolk (d + 4) 69 [some (aR 2 0), some (aI (f : Int))] [aI 0] (rH h i11 fk11 (h 15 0 j11) W11 H11) Q
          refine w_if_eq 148 dX5_readFolk_69 (by decide) (by omega) (fun c69 => ?_) (fun c69 => ?_)
          · refine w_iconst dX5_readFolk_148 ?_
            exact w_zret dX5_readFolk_149 rfl (Or.inl rfl) (k.1 _ _ _ _ _ (by simp only [qFolk, qWord, qThen, if_neg (show ¬ 8 ≤ f by omega), if_pos n10, e11]) hj11 hg11)
          · (exfalso; omega)
        · show fwWP mX5_readFolk (d + 4) 69 [some (aR 2 0), some (aI (f : Int))] [aI 1] (rH h i11 0 (-1) W11 H11) Q
          refine w_if_eq 148 dX5_readFolk_69 (by decide) (by omega) (fun c69 => ?_) (fun c69 => ?_)
          · (exfalso; omega)
          · refine w_aload_n dX5_readFolk_72 rfl ?_
            refine w_iload_n dX5_readFolk_73 rfl ?_
            refine w_bipush dX5_readFolk_74 rfl ?_
            refine w_iconst dX5_readFolk_76 ?_
            refine w_iconst dX5_readFolk_77 ?_
            refine w_bipush dX5_readFolk_78 rfl ?_
            refine w_callV (d := d + 3) (S := []) [aI (f : Int), aI 7, aI 1, aI 1, aI 99] dX5_readFolk_80 ml_X5_135 ok_X5_readFact vi_X5_readFact rfl rfl (by decide) rfl (Nat.le_of_ble_eq_true rfl) ?_
            refine c_X5_readFact (d := (d + 1)) i11 T f 1 7 1 99 W11 H11 hT hi11 (by omega) (by omega) (by omega) (by omega) (by first | omega | (show -1000000 ≤ W 0 - 1 ∧ W 0 - 1 ≤ 1000000; omega)) hH11 ⟨fun fk12 j12 i12 W12 H12 e12 hj12 hg12 => ?_, fun i12 W12 H12 e12 hi12 hH12 => ?_⟩
            · show fwWP mX5_readFolk (d + 4) 83 [some (aR 2 0), some (aI (f : Int))] [aI 0] (rH h i12 fk12 (h 15 0 j12) W12 H12) Q
              refine w_if_eq 148 dX5_readFolk_83 (by decide) (by omega) (fun c83 => ?_) (fun c83 => ?_)
              · refine w_iconst dX5_readFolk_148 ?_
                exact w_zret dX5_readFolk_149 rfl (Or.inl rfl) (k.1 _ _ _ _ _ (by simp only [qFolk, qWord, qThen, if_neg (show ¬ 8 ≤ f by omega), if_pos n10, e11, e12]) hj12 hg12)
              · (exfalso; omega)
            · show fwWP mX5_readFolk (d + 4) 83 [some (aR 2 0), some (aI (f : Int))] [aI 1] (rH h i12 0 (-1) W12 H12) Q
              refine w_if_eq 148 dX5_readFolk_83 (by decide) (by omega) (fun c83 => ?_) (fun c83 => ?_)
              · (exfalso; omega)
              · refine w_aload_n dX5_readFolk_86 rfl ?_
                refine w_iload_n dX5_readFolk_87 rfl ?_
                refine w_bipush dX5_readFolk_88 rfl ?_
                refine w_iconst dX5_readFolk_90 ?_
                refine w_iconst dX5_readFolk_91 ?_
                refine w_bipush dX5_readFolk_92 rfl ?_
                refine w_callV (d := d + 3) (S := []) [aI (f : Int), aI 10, aI 2, aI 0, aI 9] dX5_readFolk_94 ml_X5_135 ok_X5_readFact vi_X5_readFact rfl rfl (by decide) rfl (Nat.le_of_ble_eq_true rfl) ?_
                refine c_X5_readFact (d := (d + 1)) i12 T f 2 10 0 9 W12 H12 hT hi12 (by omega) (by omega) (by omega) (by omega) (by first | omega | (show -1000000 ≤ W 0 - 1 ∧ W 0 - 1 ≤ 1000000; omega)) hH12 ⟨fun fk13 j13 i13 W13 H13 e13 hj13 hg13 => ?_, fun i13 W13 H13 e13 hi13 hH13 => ?_⟩
                · show fwWP mX5_readFolk (d + 4) 97 [some (aR 2 0), some (aI (f : Int))] [aI 0] (rH h i13 fk13 (h 15 0 j13) W13 H13) Q
                  refine w_if_eq 148 dX5_readFolk_97 (by decide) (by omega) (fun c97 => ?_) (fun c97 => ?_)
                  · refine w_iconst dX5_readFolk_148 ?_
                    exact w_zret dX5_readFolk_149 rfl (Or.inl rfl) (k.1 _ _ _ _ _ (by simp only [qFolk, qWord, qThen, if_neg (show ¬ 8 ≤ f by omega), if_pos n10, e11, e12, e13]) hj13 hg13)
                  · (exfalso; omega)
                · show fwWP mX5_readFolk (d + 4) 97 [some (aR 2 0), some (aI (f : Int))] [aI 1] (rH h i13 0 (-1) W13 H13) Q
                  refine w_if_eq 148 dX5_readFolk_97 (by decide) (by omega) (fun c97 => ?_) (fun c97 => ?_)
                  · (exfalso; omega)
                  · refine w_aload_n dX5_readFolk_100 rfl ?_
                    refine w_iload_n dX5_readFolk_101 rfl ?_
                    refine w_iconst dX5_readFolk_102 ?_
                    refine w_iconst dX5_readFolk_103 ?_
                    refine w_iconst dX5_readFolk_104 ?_
                    refine w_bipush dX5_readFolk_105 rfl ?_
                    refine w_callV (d := d + 3) (S := []) [aI (f : Int), aI 5, aI 3, aI 0, aI 9] dX5_readFolk_107 ml_X5_135 ok_X5_readFact vi_X5_readFact rfl rfl (by decide) rfl (Nat.le_of_ble_eq_true rfl) ?_
                    refine c_X5_readFact (d := (d + 1)) i13 T f 3 5 0 9 W13 H13 hT hi13 (by omega) (by omega) (by omega) (by omega) (by first | omega | (show -1000000 ≤ W 0 - 1 ∧ W 0 - 1 ≤ 1000000; omega)) hH13 ⟨fun fk14 j14 i14 W14 H14 e14 hj14 hg14 => ?_, fun i14 W14 H14 e14 hi14 hH14 => ?_⟩
                    · show fwWP mX5_readFolk (d + 4) 110 [some (aR 2 0), some (aI (f : Int))] [aI 0] (rH h i14 fk14 (h 15 0 j14) W14 H14) Q
                      refine w_if_eq 148 dX5_readFolk_110 (by decide) (by omega) (fun c110 => ?_) (fun c110 => ?_)
                      · refine w_iconst dX5_readFolk_148 ?_
                        exact w_zret dX5_readFolk_149 rfl (Or.inl rfl) (k.1 _ _ _ _ _ (by simp only [qFolk, qWord, qThen, if_neg (show ¬ 8 ≤ f by omega), if_pos n10, e11, e12, e13, e14]) hj14 hg14)
                      · (exfalso; omega)
                    · show fwWP mX5_readFolk (d + 4) 110 [some (aR 2 0), some (aI (f : Int))] [aI 1] (rH h i14 0 (-1) W14 H14) Q
                      refine w_if_eq 148 dX5_readFolk_110 (by decide) (by omega) (fun c110 => ?_) (fun c110 => ?_)
                      · (exfalso; omega)
                      · refine w_aload_n dX5_readFolk_113 rfl ?_
                        refine w_iload_n dX5_readFolk_114 rfl ?_
                        refine w_bipush dX5_readFolk_115 rfl ?_
                        refine w_iconst dX5_readFolk_117 ?_
                        refine w_iconst dX5_readFolk_118 ?_
                        refine w_bipush dX5_readFolk_119 rfl ?_
                        refine w_callV (d := d + 3) (S := []) [aI (f : Int), aI 11, aI 4, aI 0, aI 9] dX5_readFolk_121 ml_X5_135 ok_X5_readFact vi_X5_readFact rfl rfl (by decide) rfl (Nat.le_of_ble_eq_true rfl) ?_
                        refine c_X5_readFact (d := (d + 1)) i14 T f 4 11 0 9 W14 H14 hT hi14 (by omega) (by omega) (by omega) (by omega) (by first | omega | (show -1000000 ≤ W 0 - 1 ∧ W 0 - 1 ≤ 1000000; omega)) hH14 ⟨fun fk15 j15 i15 W15 H15 e15 hj15 hg15 => ?_, fun i15 W15 H15 e15 hi15 hH15 => ?_⟩
                        · show fwWP mX5_readFolk (d + 4) 124 [some (aR 2 0), some (aI (f : Int))] [aI 0] (rH h i15 fk15 (h 15 0 j15) W15 H15) Q
                          refine w_if_eq 148 dX5_readFolk_124 (by decide) (by omega) (fun c124 => ?_) (fun c124 => ?_)
                          · refine w_iconst dX5_readFolk_148 ?_
                            exact w_zret dX5_readFolk_149 rfl (Or.inl rfl) (k.1 _ _ _ _ _ (by simp only [qFolk, qWord, qThen, if_neg (show ¬ 8 ≤ f by omega), if_pos n10, e11, e12, e13, e14, e15]) hj15 hg15)
                          · (exfalso; omega)
                        · show fwWP mX5_readFolk (d + 4) 124 [some (aR 2 0), some (aI (f : Int))] [aI 1] (rH h i15 0 (-1) W15 H15) Q
                          refine w_if_eq 148 dX5_readFolk_124 (by decide) (by omega) (fun c124 => ?_) (fun c124 => ?_)
                          · (exfalso; omega)
                          · have hki15 := (t4 i15 hi15).1
                            refine w_aload_n dX5_readFolk_127 rfl ?_
                            refine w_getiE (v := h 14 0 i15) dX5_readFolk_128 fl_X5_43 rfl (by decide) rfl ?_
                            refine w_bipush dX5_readFolk_131 rfl ?_
                            refine w_icmp_ne 144 dX5_readFolk_133 (by decide) (by omega) (by omega) (fun c133 => ?_) (fun c133 => ?_)
                            · refine w_iconst dX5_readFolk_144 ?_
                              refine w_goto 149 dX5_readFolk_145 (by decide) ?_
                              exact w_zret dX5_readFolk_149 rfl (Or.inr rfl) (k.2 _ _ _ (by simp only [qFolk, qWord, qThen, if_neg (show ¬ 8 ≤ f by omega), if_pos n10, e11, e12, e13, e14, e15, if_neg c133]) (by first | assumption | omega) hH15)
                            · refine w_aload_n dX5_readFolk_136 rfl ?_
                              refine w_iload_n dX5_readFolk_137 rfl ?_
                              refine w_callV (d := d + 3) (S := []) [aI (f : Int)] dX5_readFolk_138 ml_X5_139 ok_X5_readTalk vi_X5_readTalk rfl rfl (by decide) rfl (Nat.le_of_ble_eq_true rfl) ?_
                              refine c_X5_readTalk (d := d) i15 T f W15 H15 hT hi15 (by omega) hH15 ⟨fun fk16 j16 i16 W16 H16 e16 hj16 hg16 => ?_, fun i16 W16 H16 e16 hi16 hH16 => ?_⟩
                              · show fwWP mX5_readFolk (d + 4) 141 [some (aR 2 0), some (aI (f : Int))] [aI 0] (rH h i16 fk16 (h 15 0 j16) W16 H16) Q
                                refine w_if_eq 148 dX5_readFolk_141 (by decide) (by omega) (fun c141 => ?_) (fun c141 => ?_)
                                · refine w_iconst dX5_readFolk_148 ?_
                                  exact w_zret dX5_readFolk_149 rfl (Or.inl rfl) (k.1 _ _ _ _ _ (by simp only [qFolk, qWord, qThen, if_neg (show ¬ 8 ≤ f by omega), if_pos n10, e11, e12, e13, e14, e15, if_pos c133, e16]) hj16 hg16)
                                · (exfalso; omega)
                              · show fwWP mX5_readFolk (d + 4) 141 [some (aR 2 0), some (aI (f : Int))] [aI 1] (rH h i16 0 (-1) W16 H16) Q
                                refine w_if_eq 148 dX5_readFolk_141 (by decide) (by omega) (fun c141 => ?_) (fun c141 => ?_)
                                · (exfalso; omega)
                                · refine w_iconst dX5_readFolk_144 ?_
                                  refine w_goto 149 dX5_readFolk_145 (by decide) ?_
                                  exact w_zret dX5_readFolk_149 rfl (Or.inr rfl) (k.2 _ _ _ (by simp only [qFolk, qWord, qThen, if_neg (show ¬ 8 ≤ f by omega), if_pos n10, e11, e12, e13, e14, e15, if_pos c133, e16]) (by first | assumption | omega) hH16)
  · refine w_aload_n dX5_readFolk_17 rfl ?_
    refine w_iconst dX5_readFolk_18 ?_
    refine w_callV (d := d + 3) (S := []) [aI 3] dX5_readFolk_19 ml_X5_72 ok_X5_refuse vi_X5_refuse rfl rfl (by decide) rfl (Nat.le_of_ble_eq_true rfl) ?_
    refine c_X5_refuse (d := (d + 3)) i 0 (-1) 3 W H ?_
    show fwWP mX5_readFolk (d + 4) 22 [some (aR 2 0), some (aI (f : Int))] [aI 0] (rH h i 3 (h 15 0 i) W H) Q
    exact w_zret dX5_readFolk_22 rfl (Or.inl rfl) (k.1 _ _ _ _ _ (by rw [qFolk, if_pos (by omega)]) hi hH.1)
set_option maxRecDepth 100000 in
set_option maxHeartbeats 4000000 in
theorem c_X5_readMountain {d : Nat} {h : fwH} {Q : Option fwV → fwH → Prop} (i T : Nat) (W H : Nat → Int) (hT : tk h T) (hi : i ≤ T) (h0 : W 0 = 0) (hH : rHr W H) (k : rK h T Q (qFirst (h 14 0) (h 16 0) i W)) : fwCt mX5_readMountain (d + 3) [aR 2 0] (rH h i 0 (-1) W H) Q := by
  refine fwCt_of [some (aR 2 0), none] rfl rfl rfl ?_
  obtain ⟨t1, t2, t3, t4⟩ := id hT
  refine w_aload_n dX5_readMountain_0 rfl ?_
  refine w_getr 3 1 dX5_readMountain_1 fl_X5_12 rfl (by decide) ?_
  refine w_getr 4 1 dX5_readMountain_4 fl_X5_88 rfl (by decide) ?_
  refine w_astore_n [some (aR 2 0), some (aR 4 1)] dX5_readMountain_7 rfl (by decide) ?_
  refine w_aload_n dX5_readMountain_8 rfl ?_
  refine w_iconst dX5_readMountain_9 ?_
  refine w_callV (d := d + 2) (S := []) [aI 4] dX5_readMountain_10 ml_X5_85 ok_X5_pass vi_X5_pass rfl rfl (by decide) rfl (Nat.le_of_ble_eq_true rfl) ?_
  refine c_X5_pass (d := (d + 1)) i T 4 W H hT hi (by omega) ⟨fun n17 => ?_, fun n17 => ?_⟩
  · show fwWP mX5_readMountain (d + 3) 13 [some (aR 2 0), some (aR 4 1)] [aI 0] (rH h i 1 (h 15 0 i) W H) Q
    refine w_if_eq 42 dX5_readMountain_13 (by decide) (by omega) (fun c13 => ?_) (fun c13 => ?_)
    · refine w_iconst dX5_readMountain_42 ?_
      exact w_zret dX5_readMountain_43 rfl (Or.inl rfl) (k.1 _ _ _ _ _ (by simp only [qFirst, qFact, qNum, qWord, qSide, qThen, if_neg n17]) (by first | assumption | omega) hH.1)
    · (exfalso; omega)
  · have hl17 : i < T := tk_lt hT (by first | assumption | omega) n17 (by omega)
    show fwWP mX5_readMountain (d + 3) 13 [some (aR 2 0), some (aR 4 1)] [aI 1] (rH h (i + 1) 0 (-1) W H) Q
    refine w_if_eq 42 dX5_readMountain_13 (by decide) (by omega) (fun c13 => ?_) (fun c13 => ?_)
    · (exfalso; omega)
    · refine w_aload_n dX5_readMountain_16 rfl ?_
      refine w_aload_n dX5_readMountain_17 rfl ?_
      refine w_callV (d := d + 2) (S := []) [aR 4 1] dX5_readMountain_18 ml_X5_92 ok_X5_readHeights vi_X5_readHeights rfl rfl (by decide) rfl (Nat.le_of_ble_eq_true rfl) ?_
      refine c_X5_readHeights (d := d) (i + 1) T W H hT (by omega) (by first | assumption | omega | decide) hH ⟨fun fk18 j18 i18 W18 H18 e18 hj18 hg18 => ?_, fun i18 W18 H18 e18 hi18 hH18 => ?_⟩
      · show fwWP mX5_readMountain (d + 3) 21 [some (aR 2 0), some (aR 4 1)] [aI 0] (rH h i18 fk18 (h 15 0 j18) W18 H18) Q
        refine w_if_eq 42 dX5_readMountain_21 (by decide) (by omega) (fun c21 => ?_) (fun c21 => ?_)
        · refine w_iconst dX5_readMountain_42 ?_
          exact w_zret dX5_readMountain_43 rfl (Or.inl rfl) (k.1 _ _ _ _ _ (by simp only [qFirst, qFact, qNum, qWord, qSide, qThen, if_pos n17, e18]) hj18 hg18)
        · (exfalso; omega)
      · show fwWP mX5_readMountain (d + 3) 21 [some (aR 2 0), some (aR 4 1)] [aI 1] (rH h i18 0 (-1) W18 H18) Q
        refine w_if_eq 42 dX5_readMountain_21 (by decide) (by omega) (fun c21 => ?_) (fun c21 => ?_)
        · (exfalso; omega)
        · refine w_aload_n dX5_readMountain_24 rfl ?_
          refine w_iconst dX5_readMountain_25 ?_
          refine w_callV (d := d + 2) (S := []) [aI 5] dX5_readMountain_26 ml_X5_85 ok_X5_pass vi_X5_pass rfl rfl (by decide) rfl (Nat.le_of_ble_eq_true rfl) ?_
          refine c_X5_pass (d := (d + 1)) i18 T 5 W18 H18 hT hi18 (by omega) ⟨fun n19 => ?_, fun n19 => ?_⟩
          · show fwWP mX5_readMountain (d + 3) 29 [some (aR 2 0), some (aR 4 1)] [aI 0] (rH h i18 1 (h 15 0 i18) W18 H18) Q
            refine w_if_eq 42 dX5_readMountain_29 (by decide) (by omega) (fun c29 => ?_) (fun c29 => ?_)
            · refine w_iconst dX5_readMountain_42 ?_
              exact w_zret dX5_readMountain_43 rfl (Or.inl rfl) (k.1 _ _ _ _ _ (by simp only [qFirst, qFact, qNum, qWord, qSide, qThen, if_pos n17, e18, if_neg n19]) (by first | assumption | omega) hH18.1)
            · (exfalso; omega)
          · have hl19 : i18 < T := tk_lt hT (by first | assumption | omega) n19 (by omega)
            show fwWP mX5_readMountain (d + 3) 29 [some (aR 2 0), some (aR 4 1)] [aI 1] (rH h (i18 + 1) 0 (-1) W18 H18) Q
            refine w_if_eq 42 dX5_readMountain_29 (by decide) (by omega) (fun c29 => ?_) (fun c29 => ?_)
            · (exfalso; omega)
            · refine w_aload_n dX5_readMountain_32 rfl ?_
              refine w_iconst dX5_readMountain_33 ?_
              refine w_bipush dX5_readMountain_34 rfl ?_
              refine w_callV (d := d + 2) (S := []) [aI 0, aI 40] dX5_readMountain_36 ml_X5_96 ok_X5_isNumber vi_X5_isNumber rfl rfl (by decide) rfl (Nat.le_of_ble_eq_true rfl) ?_
              refine c_X5_isNumber (d := (d + 1)) (i18 + 1) T 0 40 W18 H18 hT (by omega) (by omega) (by omega) ⟨fun n20 => ?_, fun n20 r20 => ?_, fun n20 r20 => ?_⟩
              · show fwWP mX5_readMountain (d + 3) 39 [some (aR 2 0), some (aR 4 1)] [aI 0] (rH h (i18 + 1) 1 (h 15 0 (i18 + 1)) W18 H18) Q
                refine w_if_ne 44 dX5_readMountain_39 (by decide) (by omega) (fun c39 => ?_) (fun c39 => ?_)
                · (exfalso; omega)
                · refine w_iconst dX5_readMountain_42 ?_
                  exact w_zret dX5_readMountain_43 rfl (Or.inl rfl) (k.1 _ _ _ _ _ (by simp only [qFirst, qFact, qNum, qWord, qSide, qThen, if_pos n17, e18, if_pos n19, if_neg n20]) (by first | assumption | omega) hH18.1)
              · show fwWP mX5_readMountain (d + 3) 39 [some (aR 2 0), some (aR 4 1)] [aI 0] (rH h (i18 + 1) 2 (h 15 0 (i18 + 1)) W18 H18) Q
                refine w_if_ne 44 dX5_readMountain_39 (by decide) (by omega) (fun c39 => ?_) (fun c39 => ?_)
                · (exfalso; omega)
                · refine w_iconst dX5_readMountain_42 ?_
                  exact w_zret dX5_readMountain_43 rfl (Or.inl rfl) (k.1 _ _ _ _ _ (by simp only [qFirst, qFact, qNum, qWord, qSide, qThen, if_pos n17, e18, if_pos n19, if_pos n20, if_neg r20]) (by first | assumption | omega) hH18.1)
              · show fwWP mX5_readMountain (d + 3) 39 [some (aR 2 0), some (aR 4 1)] [aI 1] (rH h (i18 + 1) 0 (-1) W18 H18) Q
                refine w_if_ne 44 dX5_readMountain_39 (by decide) (by omega) (fun c39 => ?_) (fun c39 => ?_)
                · refine w_aload_n dX5_readMountain_44 rfl ?_
                  refine w_aload_n dX5_readMountain_45 rfl ?_
                  refine w_callV (d := d + 2) (S := [aR 4 1]) [] dX5_readMountain_46 ml_X5_100 ok_X5_passNumber vi_X5_passNumber rfl rfl (by decide) rfl (Nat.le_of_ble_eq_true rfl) ?_
                  have hln20 : (i18 + 1) < T := tk_lt hT (by first | assumption | omega) n20 (by omega)
                  refine c_X5_passNumber (d := (d + 1)) (i18 + 1) T W18 H18 hT hln20 ?_
                  show fwWP mX5_readMountain (d + 3) 49 [some (aR 2 0), some (aR 4 1)] [aI (h 16 0 (i18 + 1)), aR 4 1] (rH h ((i18 + 1) + 1) 0 (-1) W18 H18) Q
                  refine w_puti dX5_readMountain_49 fl_X5_104 fp_4_2 rfl (by decide) ?_
                  rw [show (fwUp (rH h ((i18 + 1) + 1) 0 (-1) W18 H18) 4 1 2 (h 16 0 (i18 + 1))) = (rH h ((i18 + 1) + 1) 0 (-1) (fwFu W18 1 (h 16 0 (i18 + 1))) H18) from rH_snow _ _ _ _ _ _ _]
                  refine w_aload_n dX5_readMountain_52 rfl ?_
                  refine w_bipush dX5_readMountain_53 rfl ?_
                  refine w_callV (d := d + 2) (S := []) [aI 6] dX5_readMountain_55 ml_X5_85 ok_X5_pass vi_X5_pass rfl rfl (by decide) rfl (Nat.le_of_ble_eq_true rfl) ?_
                  refine c_X5_pass (d := (d + 1)) ((i18 + 1) + 1) T 6 (fwFu W18 1 (h 16 0 (i18 + 1))) H18 hT (by omega) (by omega) ⟨fun n21 => ?_, fun n21 => ?_⟩
                  · show fwWP mX5_readMountain (d + 3) 58 [some (aR 2 0), some (aR 4 1)] [aI 0] (rH h ((i18 + 1) + 1) 1 (h 15 0 ((i18 + 1) + 1)) (fwFu W18 1 (h 16 0 (i18 + 1))) H18) Q
                    refine w_if_eq 71 dX5_readMountain_58 (by decide) (by omega) (fun c58 => ?_) (fun c58 => ?_)
                    · refine w_iconst dX5_readMountain_71 ?_
                      exact w_zret dX5_readMountain_72 rfl (Or.inl rfl) (k.1 _ _ _ _ _ (by simp only [qFirst, qFact, qNum, qWord, qSide, qThen, if_pos n17, e18, if_pos n19, if_pos n20, if_pos r20, if_neg n21]) (by first | assumption | omega) hH18.1)
                    · (exfalso; omega)
                  · have hl21 : ((i18 + 1) + 1) < T := tk_lt hT (by first | assumption | omega) n21 (by omega)
                    show fwWP mX5_readMountain (d + 3) 58 [some (aR 2 0), some (aR 4 1)] [aI 1] (rH h (((i18 + 1) + 1) + 1) 0 (-1) (fwFu W18 1 (h 16 0 (i18 + 1))) H18) Q
                    refine w_if_eq 71 dX5_readMountain_58 (by decide) (by omega) (fun c58 => ?_) (fun c58 => ?_)
                    · (exfalso; omega)
                    · refine w_aload_n dX5_readMountain_61 rfl ?_
                      refine w_iconst dX5_readMountain_62 ?_
                      refine w_bipush dX5_readMountain_63 rfl ?_
                      refine w_callV (d := d + 2) (S := []) [aI 1, aI 40] dX5_readMountain_65 ml_X5_96 ok_X5_isNumber vi_X5_isNumber rfl rfl (by decide) rfl (Nat.le_of_ble_eq_true rfl) ?_
                      refine c_X5_isNumber (d := (d + 1)) (((i18 + 1) + 1) + 1) T 1 40 (fwFu W18 1 (h 16 0 (i18 + 1))) H18 hT (by omega) (by omega) (by omega) ⟨fun n22 => ?_, fun n22 r22 => ?_, fun n22 r22 => ?_⟩
                      · show fwWP mX5_readMountain (d + 3) 68 [some (aR 2 0), some (aR 4 1)] [aI 0] (rH h (((i18 + 1) + 1) + 1) 1 (h 15 0 (((i18 + 1) + 1) + 1)) (fwFu W18 1 (h 16 0 (i18 + 1))) H18) Q
                        refine w_if_ne 73 dX5_readMountain_68 (by decide) (by omega) (fun c68 => ?_) (fun c68 => ?_)
                        · (exfalso; omega)
                        · refine w_iconst dX5_readMountain_71 ?_
                          exact w_zret dX5_readMountain_72 rfl (Or.inl rfl) (k.1 _ _ _ _ _ (by simp only [qFirst, qFact, qNum, qWord, qSide, qThen, if_pos n17, e18, if_pos n19, if_pos n20, if_pos r20, if_pos n21, if_neg n22]) (by first | assumption | omega) hH18.1)
                      · show fwWP mX5_readMountain (d + 3) 68 [some (aR 2 0), some (aR 4 1)] [aI 0] (rH h (((i18 + 1) + 1) + 1) 2 (h 15 0 (((i18 + 1) + 1) + 1)) (fwFu W18 1 (h 16 0 (i18 + 1))) H18) Q
                        refine w_if_ne 73 dX5_readMountain_68 (by decide) (by omega) (fun c68 => ?_) (fun c68 => ?_)
                        · (exfalso; omega)
                        · refine w_iconst dX5_readMountain_71 ?_
                          exact w_zret dX5_readMountain_72 rfl (Or.inl rfl) (k.1 _ _ _ _ _ (by simp only [qFirst, qFact, qNum, qWord, qSide, qThen, if_pos n17, e18, if_pos n19, if_pos n20, if_pos r20, if_pos n21, if_pos n22, if_neg r22]) (by first | assumption | omega) hH18.1)
                      · show fwWP mX5_readMountain (d + 3) 68 [some (aR 2 0), some (aR 4 1)] [aI 1] (rH h (((i18 + 1) + 1) + 1) 0 (-1) (fwFu W18 1 (h 16 0 (i18 + 1))) H18) Q
                        refine w_if_ne 73 dX5_readMountain_68 (by decide) (by omega) (fun c68 => ?_) (fun c68 => ?_)
                        · refine w_aload_n dX5_readMountain_73 rfl ?_
                          refine w_aload_n dX5_readMountain_74 rfl ?_
                          refine w_callV (d := d + 2) (S := [aR 4 1]) [] dX5_readMountain_75 ml_X5_100 ok_X5_passNumber vi_X5_passNumber rfl rfl (by decide) rfl (Nat.le_of_ble_eq_true rfl) ?_
                          have hln22 : (((i18 + 1) + 1) + 1) < T := tk_lt hT (by first | assumption | omega) n22 (by omega)
                          refine c_X5_passNumber (d := (d + 1)) (((i18 + 1) + 1) + 1) T (fwFu W18 1 (h 16 0 (i18 + 1))) H18 hT hln22 ?_
                          show fwWP mX5_readMountain (d + 3) 78 [some (aR 2 0), some (aR 4 1)] [aI (h 16 0 (((i18 + 1) + 1) + 1)), aR 4 1] (rH h ((((i18 + 1) + 1) + 1) + 1) 0 (-1) (fwFu W18 1 (h 16 0 (i18 + 1))) H18) Q
                          refine w_puti dX5_readMountain_78 fl_X5_109 fp_4_3 rfl (by decide) ?_
                          rw [show (fwUp (rH h ((((i18 + 1) + 1) + 1) + 1) 0 (-1) (fwFu W18 1 (h 16 0 (i18 + 1))) H18) 4 1 3 (h 16 0 (((i18 + 1) + 1) + 1))) = (rH h ((((i18 + 1) + 1) + 1) + 1) 0 (-1) (fwFu (fwFu W18 1 (h 16 0 (i18 + 1))) 2 (h 16 0 (((i18 + 1) + 1) + 1))) H18) from rH_rest _ _ _ _ _ _ _]
                          refine w_aload_n dX5_readMountain_81 rfl ?_
                          refine w_bipush dX5_readMountain_82 rfl ?_
                          refine w_callV (d := d + 2) (S := []) [aI 7] dX5_readMountain_84 ml_X5_85 ok_X5_pass vi_X5_pass rfl rfl (by decide) rfl (Nat.le_of_ble_eq_true rfl) ?_
                          refine c_X5_pass (d := (d + 1)) ((((i18 + 1) + 1) + 1) + 1) T 7 (fwFu (fwFu W18 1 (h 16 0 (i18 + 1))) 2 (h 16 0 (((i18 + 1) + 1) + 1))) H18 hT (by omega) (by omega) ⟨fun n23 => ?_, fun n23 => ?_⟩
                          · show fwWP mX5_readMountain (d + 3) 87 [some (aR 2 0), some (aR 4 1)] [aI 0] (rH h ((((i18 + 1) + 1) + 1) + 1) 1 (h 15 0 ((((i18 + 1) + 1) + 1) + 1)) (fwFu (fwFu W18 1 (h 16 0 (i18 + 1))) 2 (h 16 0 (((i18 + 1) + 1) + 1))) H18) Q
                            refine w_if_eq 101 dX5_readMountain_87 (by decide) (by omega) (fun c87 => ?_) (fun c87 => ?_)
                            · refine w_iconst dX5_readMountain_101 ?_
                              exact w_zret dX5_readMountain_102 rfl (Or.inl rfl) (k.1 _ _ _ _ _ (by simp only [qFirst, qFact, qNum, qWord, qSide, qThen, if_pos n17, e18, if_pos n19, if_pos n20, if_pos r20, if_pos n21, if_pos n22, if_pos r22, if_neg n23]) (by first | assumption | omega) hH18.1)
                            · (exfalso; omega)
                          · have hl23 : ((((i18 + 1) + 1) + 1) + 1) < T := tk_lt hT (by first | assumption | omega) n23 (by omega)
                            show fwWP mX5_readMountain (d + 3) 87 [some (aR 2 0), some (aR 4 1)] [aI 1] (rH h (((((i18 + 1) + 1) + 1) + 1) + 1) 0 (-1) (fwFu (fwFu W18 1 (h 16 0 (i18 + 1))) 2 (h 16 0 (((i18 + 1) + 1) + 1))) H18) Q
                            refine w_if_eq 101 dX5_readMountain_87 (by decide) (by omega) (fun c87 => ?_) (fun c87 => ?_)
                            · (exfalso; omega)
                            · refine w_aload_n dX5_readMountain_90 rfl ?_
                              refine w_iconst dX5_readMountain_91 ?_
                              refine w_sipush dX5_readMountain_92 rfl ?_
                              refine w_callV (d := d + 2) (S := []) [aI 1, aI 999] dX5_readMountain_95 ml_X5_96 ok_X5_isNumber vi_X5_isNumber rfl rfl (by decide) rfl (Nat.le_of_ble_eq_true rfl) ?_
                              refine c_X5_isNumber (d := (d + 1)) (((((i18 + 1) + 1) + 1) + 1) + 1) T 1 999 (fwFu (fwFu W18 1 (h 16 0 (i18 + 1))) 2 (h 16 0 (((i18 + 1) + 1) + 1))) H18 hT (by omega) (by omega) (by omega) ⟨fun n24 => ?_, fun n24 r24 => ?_, fun n24 r24 => ?_⟩
                              · show fwWP mX5_readMountain (d + 3) 98 [some (aR 2 0), some (aR 4 1)] [aI 0] (rH h (((((i18 + 1) + 1) + 1) + 1) + 1) 1 (h 15 0 (((((i18 + 1) + 1) + 1) + 1) + 1)) (fwFu (fwFu W18 1 (h 16 0 (i18 + 1))) 2 (h 16 0 (((i18 + 1) + 1) + 1))) H18) Q
                                refine w_if_ne 103 dX5_readMountain_98 (by decide) (by omega) (fun c98 => ?_) (fun c98 => ?_)
                                · (exfalso; omega)
                                · refine w_iconst dX5_readMountain_101 ?_
                                  exact w_zret dX5_readMountain_102 rfl (Or.inl rfl) (k.1 _ _ _ _ _ (by simp only [qFirst, qFact, qNum, qWord, qSide, qThen, if_pos n17, e18, if_pos n19, if_pos n20, if_pos r20, if_pos n21, if_pos n22, if_pos r22, if_pos n23, if_neg n24]) (by first | assumption | omega) hH18.1)
                              · show fwWP mX5_readMountain (d + 3) 98 [some (aR 2 0), some (aR 4 1)] [aI 0] (rH h (((((i18 + 1) + 1) + 1) + 1) + 1) 2 (h 15 0 (((((i18 + 1) + 1) + 1) + 1) + 1)) (fwFu (fwFu W18 1 (h 16 0 (i18 + 1))) 2 (h 16 0 (((i18 + 1) + 1) + 1))) H18) Q
                                refine w_if_ne 103 dX5_readMountain_98 (by decide) (by omega) (fun c98 => ?_) (fun c98 => ?_)
                                · (exfalso; omega)
                                · refine w_iconst dX5_readMountain_101 ?_
                                  exact w_zret dX5_readMountain_102 rfl (Or.inl rfl) (k.1 _ _ _ _ _ (by simp only [qFirst, qFact, qNum, qWord, qSide, qThen, if_pos n17, e18, if_pos n19, if_pos n20, if_pos r20, if_pos n21, if_pos n22, if_pos r22, if_pos n23, if_pos n24, if_neg r24]) (by first | assumption | omega) hH18.1)
                              · show fwWP mX5_readMountain (d + 3) 98 [some (aR 2 0), some (aR 4 1)] [aI 1] (rH h (((((i18 + 1) + 1) + 1) + 1) + 1) 0 (-1) (fwFu (fwFu W18 1 (h 16 0 (i18 + 1))) 2 (h 16 0 (((i18 + 1) + 1) + 1))) H18) Q
                                refine w_if_ne 103 dX5_readMountain_98 (by decide) (by omega) (fun c98 => ?_) (fun c98 => ?_)
                                · refine w_aload_n dX5_readMountain_103 rfl ?_
                                  refine w_getr 3 1 dX5_readMountain_104 fl_X5_12 rfl (by decide) ?_
                                  refine w_aload_n dX5_readMountain_107 rfl ?_
                                  refine w_callV (d := d + 2) (S := [aR 3 1]) [] dX5_readMountain_108 ml_X5_100 ok_X5_passNumber vi_X5_passNumber rfl rfl (by decide) rfl (Nat.le_of_ble_eq_true rfl) ?_
                                  have hln24 : (((((i18 + 1) + 1) + 1) + 1) + 1) < T := tk_lt hT (by first | assumption | omega) n24 (by omega)
                                  refine c_X5_passNumber (d := (d + 1)) (((((i18 + 1) + 1) + 1) + 1) + 1) T (fwFu (fwFu W18 1 (h 16 0 (i18 + 1))) 2 (h 16 0 (((i18 + 1) + 1) + 1))) H18 hT hln24 ?_
                                  show fwWP mX5_readMountain (d + 3) 111 [some (aR 2 0), some (aR 4 1)] [aI (h 16 0 (((((i18 + 1) + 1) + 1) + 1) + 1)), aR 3 1] (rH h ((((((i18 + 1) + 1) + 1) + 1) + 1) + 1) 0 (-1) (fwFu (fwFu W18 1 (h 16 0 (i18 + 1))) 2 (h 16 0 (((i18 + 1) + 1) + 1))) H18) Q
                                  refine w_puti dX5_readMountain_111 fl_X5_112 fp_3_4 rfl (by decide) ?_
                                  rw [show (fwUp (rH h ((((((i18 + 1) + 1) + 1) + 1) + 1) + 1) 0 (-1) (fwFu (fwFu W18 1 (h 16 0 (i18 + 1))) 2 (h 16 0 (((i18 + 1) + 1) + 1))) H18) 3 1 4 (h 16 0 (((((i18 + 1) + 1) + 1) + 1) + 1))) = (rH h ((((((i18 + 1) + 1) + 1) + 1) + 1) + 1) 0 (-1) (fwFu (fwFu (fwFu W18 1 (h 16 0 (i18 + 1))) 2 (h 16 0 (((i18 + 1) + 1) + 1))) 3 (h 16 0 (((((i18 + 1) + 1) + 1) + 1) + 1))) H18) from rH_law _ _ _ _ _ _ _]
                                  have hk9 := (t4 ((((((i18 + 1) + 1) + 1) + 1) + 1) + 1) (by omega)).1
                                  refine w_aload_n dX5_readMountain_114 rfl ?_
                                  refine w_aload_n dX5_readMountain_115 rfl ?_
                                  refine w_getiE (v := h 14 0 ((((((i18 + 1) + 1) + 1) + 1) + 1) + 1)) dX5_readMountain_116 fl_X5_43 rfl (by decide) rfl ?_
                                  refine w_bipush dX5_readMountain_119 rfl ?_
                                  refine w_icmp_ne 128 dX5_readMountain_121 (by decide) (by omega) (by omega) (fun c121 => ?_) (fun c121 => ?_)
                                  · refine w_iconst dX5_readMountain_128 ?_
                                    refine w_putz dX5_readMountain_129 fl_X5_115 fp_4_4 rfl (by first | omega | exact fwB_01 _) (by decide) ?_
                                    rw [show (fwUp (rH h ((((((i18 + 1) + 1) + 1) + 1) + 1) + 1) 0 (-1) (fwFu (fwFu (fwFu W18 1 (h 16 0 (i18 + 1))) 2 (h 16 0 (((i18 + 1) + 1) + 1))) 3 (h 16 0 (((((i18 + 1) + 1) + 1) + 1) + 1))) H18) 4 1 4 0) = (rH h ((((((i18 + 1) + 1) + 1) + 1) + 1) + 1) 0 (-1) (fwFu (fwFu (fwFu (fwFu W18 1 (h 16 0 (i18 + 1))) 2 (h 16 0 (((i18 + 1) + 1) + 1))) 3 (h 16 0 (((((i18 + 1) + 1) + 1) + 1) + 1))) 4 0) H18) from rH_last _ _ _ _ _ _ _]
                                    refine w_aload_n dX5_readMountain_132 rfl ?_
                                    refine w_aload_n dX5_readMountain_133 rfl ?_
                                    refine w_getiE (v := 0) dX5_readMountain_134 fl_X5_115 rfl (by decide) rfl ?_
                                    refine w_if_eq 145 dX5_readMountain_137 (by decide) (by omega) (fun c137 => ?_) (fun c137 => ?_)
                                    · refine w_bipush dX5_readMountain_145 rfl ?_
                                      refine w_callV (d := d + 2) (S := []) [aI 15] dX5_readMountain_147 ml_X5_85 ok_X5_pass vi_X5_pass rfl rfl (by decide) rfl (Nat.le_of_ble_eq_true rfl) ?_
                                      refine c_X5_pass (d := (d + 1)) ((((((i18 + 1) + 1) + 1) + 1) + 1) + 1) T 15 (fwFu (fwFu (fwFu (fwFu W18 1 (h 16 0 (i18 + 1))) 2 (h 16 0 (((i18 + 1) + 1) + 1))) 3 (h 16 0 (((((i18 + 1) + 1) + 1) + 1) + 1))) 4 0) H18 hT (by omega) (by omega) ⟨fun n25 => ?_, fun n25 => ?_⟩
                                      · show fwWP mX5_readMountain (d + 3) 150 [some (aR 2 0), some (aR 4 1)] [aI 0] (rH h ((((((i18 + 1) + 1) + 1) + 1) + 1) + 1) 1 (h 15 0 ((((((i18 + 1) + 1) + 1) + 1) + 1) + 1)) (fwFu (fwFu (fwFu (fwFu W18 1 (h 16 0 (i18 + 1))) 2 (h 16 0 (((i18 + 1) + 1) + 1))) 3 (h 16 0 (((((i18 + 1) + 1) + 1) + 1) + 1))) 4 0) H18) Q
                                        exact w_zret dX5_readMountain_150 rfl (Or.inl rfl) (k.1 _ _ _ _ _ (by simp only [qFirst, qFact, qNum, qWord, qSide, qThen, if_pos n17, e18, if_pos n19, if_pos n20, if_pos r20, if_pos n21, if_pos n22, if_pos r22, if_pos n23, if_pos n24, if_pos r24, if_neg c121, if_neg n25]) (by first | assumption | omega) hH18.1)
                                      · have hl25 : ((((((i18 + 1) + 1) + 1) + 1) + 1) + 1) < T := tk_lt hT (by first | assumption | omega) n25 (by omega)
                                        show fwWP mX5_readMountain (d + 3) 150 [some (aR 2 0), some (aR 4 1)] [aI 1] (rH h (((((((i18 + 1) + 1) + 1) + 1) + 1) + 1) + 1) 0 (-1) (fwFu (fwFu (fwFu (fwFu W18 1 (h 16 0 (i18 + 1))) 2 (h 16 0 (((i18 + 1) + 1) + 1))) 3 (h 16 0 (((((i18 + 1) + 1) + 1) + 1) + 1))) 4 0) H18) Q
                                        exact w_zret dX5_readMountain_150 rfl (Or.inr rfl) (k.2 _ _ _ (by simp only [qFirst, qFact, qNum, qWord, qSide, qThen, if_pos n17, e18, if_pos n19, if_pos n20, if_pos r20, if_pos n21, if_pos n22, if_pos r22, if_pos n23, if_pos n24, if_pos r24, if_neg c121, if_pos n25]) (by first | assumption | omega) (rHr_fu (rHr_fu (rHr_fu (rHr_fu hH18 (by omega) (by omega)) (by omega) (by omega)) (by omega) (by omega)) (by omega) (by omega)))
                                    · (exfalso; omega)
                                  · refine w_iconst dX5_readMountain_124 ?_
                                    refine w_goto 129 dX5_readMountain_125 (by decide) ?_
                                    refine w_putz dX5_readMountain_129 fl_X5_115 fp_4_4 rfl (by first | omega | exact fwB_01 _) (by decide) ?_
                                    rw [show (fwUp (rH h ((((((i18 + 1) + 1) + 1) + 1) + 1) + 1) 0 (-1) (fwFu (fwFu (fwFu W18 1 (h 16 0 (i18 + 1))) 2 (h 16 0 (((i18 + 1) + 1) + 1))) 3 (h 16 0 (((((i18 + 1) + 1) + 1) + 1) + 1))) H18) 4 1 4 1) = (rH h ((((((i18 + 1) + 1) + 1) + 1) + 1) + 1) 0 (-1) (fwFu (fwFu (fwFu (fwFu W18 1 (h 16 0 (i18 + 1))) 2 (h 16 0 (((i18 + 1) + 1) + 1))) 3 (h 16 0 (((((i18 + 1) + 1) + 1) + 1) + 1))) 4 1) H18) from rH_last _ _ _ _ _ _ _]
                                    refine w_aload_n dX5_readMountain_132 rfl ?_
                                    refine w_aload_n dX5_readMountain_133 rfl ?_
                                    refine w_getiE (v := 1) dX5_readMountain_134 fl_X5_115 rfl (by decide) rfl ?_
                                    refine w_if_eq 145 dX5_readMountain_137 (by decide) (by omega) (fun c137 => ?_) (fun c137 => ?_)
                                    · (exfalso; omega)
                                    · refine w_bipush dX5_readMountain_140 rfl ?_
                                      refine w_goto 147 dX5_readMountain_142 (by decide) ?_
                                      refine w_callV (d := d + 2) (S := []) [aI 16] dX5_readMountain_147 ml_X5_85 ok_X5_pass vi_X5_pass rfl rfl (by decide) rfl (Nat.le_of_ble_eq_true rfl) ?_
                                      refine c_X5_pass (d := (d + 1)) ((((((i18 + 1) + 1) + 1) + 1) + 1) + 1) T 16 (fwFu (fwFu (fwFu (fwFu W18 1 (h 16 0 (i18 + 1))) 2 (h 16 0 (((i18 + 1) + 1) + 1))) 3 (h 16 0 (((((i18 + 1) + 1) + 1) + 1) + 1))) 4 1) H18 hT (by omega) (by omega) ⟨fun n26 => ?_, fun n26 => ?_⟩
                                      · exact absurd c121 n26
                                      · have hl26 : ((((((i18 + 1) + 1) + 1) + 1) + 1) + 1) < T := tk_lt hT (by first | assumption | omega) n26 (by omega)
                                        show fwWP mX5_readMountain (d + 3) 150 [some (aR 2 0), some (aR 4 1)] [aI 1] (rH h (((((((i18 + 1) + 1) + 1) + 1) + 1) + 1) + 1) 0 (-1) (fwFu (fwFu (fwFu (fwFu W18 1 (h 16 0 (i18 + 1))) 2 (h 16 0 (((i18 + 1) + 1) + 1))) 3 (h 16 0 (((((i18 + 1) + 1) + 1) + 1) + 1))) 4 1) H18) Q
                                        exact w_zret dX5_readMountain_150 rfl (Or.inr rfl) (k.2 _ _ _ (by simp only [qFirst, qFact, qNum, qWord, qSide, qThen, if_pos n17, e18, if_pos n19, if_pos n20, if_pos r20, if_pos n21, if_pos n22, if_pos r22, if_pos n23, if_pos n24, if_pos r24, if_pos c121, if_pos n26]) (by first | assumption | omega) (rHr_fu (rHr_fu (rHr_fu (rHr_fu hH18 (by omega) (by omega)) (by omega) (by omega)) (by omega) (by omega)) (by omega) (by omega)))
                                · (exfalso; omega)
                        · (exfalso; omega)
                · (exfalso; omega)
set_option maxRecDepth 100000 in
set_option maxHeartbeats 4000000 in
theorem c_X5_readLine {d : Nat} {h : fwH} {Q : Option fwV → fwH → Prop} (i T : Nat) (W H : Nat → Int) (hT : tk h T) (hi : i ≤ T) (h6 : 0 ≤ W 6 ∧ W 6 ≤ 8) (h0 : 0 ≤ W 0 ∧ W 0 ≤ 10) (h7 : 0 ≤ W 7 ∧ W 7 ≤ 1000) (h70 : W 7 = 0 → W 0 = 0) (hH : rHr W H) (k : rK h T Q (qLine (h 14 0) (h 16 0) i W)) : fwCt mX5_readLine (d + 5) [aR 2 0] (rH h i 0 (-1) W H) Q := by
  refine fwCt_of [some (aR 2 0), none] rfl rfl rfl ?_
  obtain ⟨t1, t2, t3, t4⟩ := id hT
  refine w_aload_n dX5_readLine_0 rfl ?_
  refine w_getr 3 1 dX5_readLine_1 fl_X5_12 rfl (by decide) ?_
  refine w_getiE (v := W 7) dX5_readLine_4 fl_X5_50 rfl (by decide) rfl ?_
  refine w_if_ne 18 dX5_readLine_7 (by decide) (by omega) (fun c7 => ?_) (fun c7 => ?_)
  · have hkr := (t4 i hi).1
    refine w_aload_n dX5_readLine_18 rfl ?_
    refine w_getiE (v := h 14 0 i) dX5_readLine_19 fl_X5_43 rfl (by decide) rfl ?_
    refine w_bipush dX5_readLine_22 rfl ?_
    refine w_icmp_ne 34 dX5_readLine_24 (by decide) (by omega) (by omega) (fun c24 => ?_) (fun c24 => ?_)
    · refine w_aload_n dX5_readLine_34 rfl ?_
      refine w_callV (d := d + 4) (S := []) [] dX5_readLine_35 ml_X5_82 ok_X5_readHeap vi_X5_readHeap rfl rfl (by decide) rfl (Nat.le_of_ble_eq_true rfl) ?_
      refine c_X5_readHeap (d := (d + 2)) i T W H hT hi (by omega) hH ⟨fun fk27 j27 i27 W27 H27 e27 hj27 hg27 => ?_, fun i27 W27 H27 e27 hi27 hH27 => ?_⟩
      · show fwWP mX5_readLine (d + 5) 38 [some (aR 2 0), none] [aI 0] (rH h i27 fk27 (h 15 0 j27) W27 H27) Q
        refine w_istore_n [some (aR 2 0), some (aI 0)] dX5_readLine_38 rfl (by decide) ?_
        refine w_iload_n dX5_readLine_39 rfl ?_
        refine w_if_eq 55 dX5_readLine_40 (by decide) (by omega) (fun c40 => ?_) (fun c40 => ?_)
        · refine w_iconst dX5_readLine_55 ?_
          exact w_zret dX5_readLine_56 rfl (Or.inl rfl) (k.1 _ _ _ _ _ (by simp only [qLine, qBody, qWord, qThen, if_neg c7, if_neg c24, e27]) hj27 hg27)
        · (exfalso; omega)
      · show fwWP mX5_readLine (d + 5) 38 [some (aR 2 0), none] [aI 1] (rH h i27 0 (-1) W27 H27) Q
        refine w_istore_n [some (aR 2 0), some (aI 1)] dX5_readLine_38 rfl (by decide) ?_
        refine w_iload_n dX5_readLine_39 rfl ?_
        refine w_if_eq 55 dX5_readLine_40 (by decide) (by omega) (fun c40 => ?_) (fun c40 => ?_)
        · (exfalso; omega)
        · refine w_aload_n dX5_readLine_43 rfl ?_
          refine w_iconst dX5_readLine_44 ?_
          refine w_callV (d := d + 4) (S := []) [aI 2] dX5_readLine_45 ml_X5_85 ok_X5_pass vi_X5_pass rfl rfl (by decide) rfl (Nat.le_of_ble_eq_true rfl) ?_
          refine c_X5_pass (d := (d + 3)) i27 T 2 W27 H27 hT hi27 (by omega) ⟨fun n28 => ?_, fun n28 => ?_⟩
          · show fwWP mX5_readLine (d + 5) 48 [some (aR 2 0), some (aI 1)] [aI 0] (rH h i27 1 (h 15 0 i27) W27 H27) Q
            refine w_if_eq 55 dX5_readLine_48 (by decide) (by omega) (fun c48 => ?_) (fun c48 => ?_)
            · refine w_iconst dX5_readLine_55 ?_
              exact w_zret dX5_readLine_56 rfl (Or.inl rfl) (k.1 _ _ _ _ _ (by simp only [qLine, qBody, qWord, qThen, if_neg c7, if_neg c24, e27, if_neg n28]) (by first | assumption | omega) hH27.1)
            · (exfalso; omega)
          · have hl28 : i27 < T := tk_lt hT (by first | assumption | omega) n28 (by omega)
            show fwWP mX5_readLine (d + 5) 48 [some (aR 2 0), some (aI 1)] [aI 1] (rH h (i27 + 1) 0 (-1) W27 H27) Q
            refine w_if_eq 55 dX5_readLine_48 (by decide) (by omega) (fun c48 => ?_) (fun c48 => ?_)
            · (exfalso; omega)
            · refine w_iconst dX5_readLine_51 ?_
              refine w_goto 56 dX5_readLine_52 (by decide) ?_
              exact w_zret dX5_readLine_56 rfl (Or.inr rfl) (k.2 _ _ _ (by simp only [qLine, qBody, qWord, qThen, if_neg c7, if_neg c24, e27, if_pos n28]) (by first | assumption | omega) hH27)
    · refine w_aload_n dX5_readLine_27 rfl ?_
      refine w_callV (d := d + 4) (S := []) [] dX5_readLine_28 ml_X5_79 ok_X5_readFolk vi_X5_readFolk rfl rfl (by decide) rfl (Nat.le_of_ble_eq_true rfl) ?_
      refine c_X5_readFolk (d := d) i T (W 6).toNat W H hT hi (by omega) (by omega) (by omega) hH ⟨fun fk29 j29 i29 W29 H29 e29 hj29 hg29 => ?_, fun i29 W29 H29 e29 hi29 hH29 => ?_⟩
      · show fwWP mX5_readLine (d + 5) 31 [some (aR 2 0), none] [aI 0] (rH h i29 fk29 (h 15 0 j29) W29 H29) Q
        refine w_goto 38 dX5_readLine_31 (by decide) ?_
        refine w_istore_n [some (aR 2 0), some (aI 0)] dX5_readLine_38 rfl (by decide) ?_
        refine w_iload_n dX5_readLine_39 rfl ?_
        refine w_if_eq 55 dX5_readLine_40 (by decide) (by omega) (fun c40 => ?_) (fun c40 => ?_)
        · refine w_iconst dX5_readLine_55 ?_
          exact w_zret dX5_readLine_56 rfl (Or.inl rfl) (k.1 _ _ _ _ _ (by simp only [qLine, qBody, qWord, qThen, if_neg c7, if_pos c24, e29]) hj29 hg29)
        · (exfalso; omega)
      · show fwWP mX5_readLine (d + 5) 31 [some (aR 2 0), none] [aI 1] (rH h i29 0 (-1) W29 H29) Q
        refine w_goto 38 dX5_readLine_31 (by decide) ?_
        refine w_istore_n [some (aR 2 0), some (aI 1)] dX5_readLine_38 rfl (by decide) ?_
        refine w_iload_n dX5_readLine_39 rfl ?_
        refine w_if_eq 55 dX5_readLine_40 (by decide) (by omega) (fun c40 => ?_) (fun c40 => ?_)
        · (exfalso; omega)
        · refine w_aload_n dX5_readLine_43 rfl ?_
          refine w_iconst dX5_readLine_44 ?_
          refine w_callV (d := d + 4) (S := []) [aI 2] dX5_readLine_45 ml_X5_85 ok_X5_pass vi_X5_pass rfl rfl (by decide) rfl (Nat.le_of_ble_eq_true rfl) ?_
          refine c_X5_pass (d := (d + 3)) i29 T 2 W29 H29 hT hi29 (by omega) ⟨fun n30 => ?_, fun n30 => ?_⟩
          · show fwWP mX5_readLine (d + 5) 48 [some (aR 2 0), some (aI 1)] [aI 0] (rH h i29 1 (h 15 0 i29) W29 H29) Q
            refine w_if_eq 55 dX5_readLine_48 (by decide) (by omega) (fun c48 => ?_) (fun c48 => ?_)
            · refine w_iconst dX5_readLine_55 ?_
              exact w_zret dX5_readLine_56 rfl (Or.inl rfl) (k.1 _ _ _ _ _ (by simp only [qLine, qBody, qWord, qThen, if_neg c7, if_pos c24, e29, if_neg n30]) (by first | assumption | omega) hH29.1)
            · (exfalso; omega)
          · have hl30 : i29 < T := tk_lt hT (by first | assumption | omega) n30 (by omega)
            show fwWP mX5_readLine (d + 5) 48 [some (aR 2 0), some (aI 1)] [aI 1] (rH h (i29 + 1) 0 (-1) W29 H29) Q
            refine w_if_eq 55 dX5_readLine_48 (by decide) (by omega) (fun c48 => ?_) (fun c48 => ?_)
            · (exfalso; omega)
            · refine w_iconst dX5_readLine_51 ?_
              refine w_goto 56 dX5_readLine_52 (by decide) ?_
              exact w_zret dX5_readLine_56 rfl (Or.inr rfl) (k.2 _ _ _ (by simp only [qLine, qBody, qWord, qThen, if_neg c7, if_pos c24, e29, if_pos n30]) (by first | assumption | omega) hH29)
  · refine w_aload_n dX5_readLine_10 rfl ?_
    refine w_callV (d := d + 4) (S := []) [] dX5_readLine_11 ml_X5_76 ok_X5_readMountain vi_X5_readMountain rfl rfl (by decide) rfl (Nat.le_of_ble_eq_true rfl) ?_
    refine c_X5_readMountain (d := (d + 1)) i T W H hT hi (by omega) hH ⟨fun fk31 j31 i31 W31 H31 e31 hj31 hg31 => ?_, fun i31 W31 H31 e31 hi31 hH31 => ?_⟩
    · show fwWP mX5_readLine (d + 5) 14 [some (aR 2 0), none] [aI 0] (rH h i31 fk31 (h 15 0 j31) W31 H31) Q
      refine w_istore_n [some (aR 2 0), some (aI 0)] dX5_readLine_14 rfl (by decide) ?_
      refine w_goto 39 dX5_readLine_15 (by decide) ?_
      refine w_iload_n dX5_readLine_39 rfl ?_
      refine w_if_eq 55 dX5_readLine_40 (by decide) (by omega) (fun c40 => ?_) (fun c40 => ?_)
      · refine w_iconst dX5_readLine_55 ?_
        exact w_zret dX5_readLine_56 rfl (Or.inl rfl) (k.1 _ _ _ _ _ (by simp only [qLine, qBody, qWord, qThen, if_pos c7, e31]) hj31 hg31)
      · (exfalso; omega)
    · show fwWP mX5_readLine (d + 5) 14 [some (aR 2 0), none] [aI 1] (rH h i31 0 (-1) W31 H31) Q
      refine w_istore_n [some (aR 2 0), some (aI 1)] dX5_readLine_14 rfl (by decide) ?_
      refine w_goto 39 dX5_readLine_15 (by decide) ?_
      refine w_iload_n dX5_readLine_39 rfl ?_
      refine w_if_eq 55 dX5_readLine_40 (by decide) (by omega) (fun c40 => ?_) (fun c40 => ?_)
      · (exfalso; omega)
      · refine w_aload_n dX5_readLine_43 rfl ?_
        refine w_iconst dX5_readLine_44 ?_
        refine w_callV (d := d + 4) (S := []) [aI 2] dX5_readLine_45 ml_X5_85 ok_X5_pass vi_X5_pass rfl rfl (by decide) rfl (Nat.le_of_ble_eq_true rfl) ?_
        refine c_X5_pass (d := (d + 3)) i31 T 2 W31 H31 hT hi31 (by omega) ⟨fun n32 => ?_, fun n32 => ?_⟩
        · show fwWP mX5_readLine (d + 5) 48 [some (aR 2 0), some (aI 1)] [aI 0] (rH h i31 1 (h 15 0 i31) W31 H31) Q
          refine w_if_eq 55 dX5_readLine_48 (by decide) (by omega) (fun c48 => ?_) (fun c48 => ?_)
          · refine w_iconst dX5_readLine_55 ?_
            exact w_zret dX5_readLine_56 rfl (Or.inl rfl) (k.1 _ _ _ _ _ (by simp only [qLine, qBody, qWord, qThen, if_pos c7, e31, if_neg n32]) (by first | assumption | omega) hH31.1)
          · (exfalso; omega)
        · have hl32 : i31 < T := tk_lt hT (by first | assumption | omega) n32 (by omega)
          show fwWP mX5_readLine (d + 5) 48 [some (aR 2 0), some (aI 1)] [aI 1] (rH h (i31 + 1) 0 (-1) W31 H31) Q
          refine w_if_eq 55 dX5_readLine_48 (by decide) (by omega) (fun c48 => ?_) (fun c48 => ?_)
          · (exfalso; omega)
          · refine w_iconst dX5_readLine_51 ?_
            refine w_goto 56 dX5_readLine_52 (by decide) ?_
            exact w_zret dX5_readLine_56 rfl (Or.inr rfl) (k.2 _ _ _ (by simp only [qLine, qBody, qWord, qThen, if_pos c7, e31, if_pos n32]) (by first | assumption | omega) hH31)
