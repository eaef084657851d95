section
theorem mSeL_un (R : Nat → (Nat → Int) → fwSt → fwSt) (d fr : Nat) (H : Nat → Int) (s : fwSt) : ∀ j : Nat, mSeL R d fr H s (j + 1) = mSeL R d (fr + 1) H (mSeL R d fr H s 1) j := by
  intro j
  induction j with
  | zero => rfl
  | succ j ih =>
    have e : fr + (j + 1) = fr + 1 + j := by omega
    show (if 0 < H (fr + (j + 1)) then R (fr + (j + 1)) (fwFu H (fr + (j + 1)) (H (fr + (j + 1)) + -1)) (fwFu (mSeL R d fr H s (j + 1)).1 d ((fr + (j + 1) : Nat) : Int), (mSeL R d fr H s (j + 1)).2) else mSeL R d fr H s (j + 1)) = _
    rw [ih, e]
    rfl
theorem mSe_un {G : (Nat → Int) → Int} {nc k d fr : Nat} {H : Nat → Int} {s : fwSt} (h : fr < nc) : mSe G nc (k + 1) d fr H s = mSe G nc (k + 1) d (fr + 1) H (if 0 < H fr then mSe G nc k (d + 1) fr (fwFu H fr (H fr + -1)) (fwFu s.1 d (fr : Int), s.2) else s) := by
  show mSeL (mSe G nc k (d + 1)) d fr H s (nc - fr) = mSeL (mSe G nc k (d + 1)) d (fr + 1) H _ (nc - (fr + 1))
  rw [show nc - fr = (nc - (fr + 1)) + 1 by omega, mSeL_un]
  rfl
theorem mSe_end {G : (Nat → Int) → Int} {nc k d fr : Nat} {H : Nat → Int} {s : fwSt} (h : nc ≤ fr) : mSe G nc (k + 1) d fr H s = s := by
  show mSeL (mSe G nc k (d + 1)) d fr H s (nc - fr) = s
  rw [Nat.sub_eq_zero_of_le h]
  rfl
/-- what the search makes of the rows from a given one on: S, k places from the depth d on -/
def tS (G : (Nat → Int) → Int) (nc : Nat) (S : Nat → Nat) : Nat → Nat → (Nat → Int) → fwSt → fwSt
  | 0, _, H, s => mKeep (G H) s
  | k + 1, d, H, s => mSe G nc (k + 1) d (S d + 1) H (if 0 < H (S d) then tS G nc S k (d + 1) (fwFu H (S d) (H (S d) + -1)) (fwFu s.1 d (S d : Int), s.2) else s)
/-- what it makes of that row alone -/
def sP (G : (Nat → Int) → Int) (S : Nat → Nat) : Nat → Nat → (Nat → Int) → fwSt → fwSt
  | 0, _, H, s => mKeep (G H) s
  | k + 1, d, H, s => if 0 < H (S d) then sP G S k (d + 1) (fwFu H (S d) (H (S d) + -1)) (fwFu s.1 d (S d : Int), s.2) else s
theorem mKeep_w (g : Int) (s : fwSt) : (mKeep g s).1 = s.1 := by
  unfold mKeep
  split <;> rfl
theorem sP_w {G : (Nat → Int) → Int} {S : Nat → Nat} : ∀ (k d : Nat) (H : Nat → Int) (s : fwSt) (i : Nat), i < d → (sP G S k d H s).1 i = s.1 i := by
  intro k
  induction k with
  | zero => intro d H s i hi; exact congrFun (mKeep_w _ _) i
  | succ k ih =>
    intro d H s i hi
    rw [sP]
    split
    · rw [ih _ _ _ i (by omega)]
      exact if_neg (by omega)
    · rfl
theorem fwFu_id9 {f : Nat → Int} {i : Nat} {x : Int} (h : f i = x) : fwFu f i x = f := by
  funext z
  unfold fwFu
  split
  · rename_i e; rw [e, h]
  · rfl
theorem tS_last {G : (Nat → Int) → Int} {nc : Nat} {S : Nat → Nat} : ∀ (k d : Nat) (H : Nat → Int) (s : fwSt), (∀ z, d ≤ z → z < d + k → S z + 1 = nc) → tS G nc S k d H s = sP G S k d H s := by
  intro k
  induction k with
  | zero => intro d H s _; rfl
  | succ k ih =>
    intro d H s h
    rw [tS, sP, mSe_end (by have := h d (Nat.le_refl _) (by omega); omega)]
    split
    · exact ih _ _ _ (fun z h1 h2 => h z (by omega) (by omega))
    · rfl
theorem tS_rep {G : (Nat → Int) → Int} {nc : Nat} {S : Nat → Nat} {f : Nat} (hf : f < nc) : ∀ (k d : Nat) (H : Nat → Int) (s : fwSt), (∀ z, d ≤ z → z < d + k → S z = f) → tS G nc S k d H s = mSe G nc k d f H s := by
  intro k
  induction k with
  | zero => intro d H s _; rfl
  | succ k ih =>
    intro d H s h
    rw [tS, h d (Nat.le_refl _) (by omega), mSe_un hf, ih _ _ _ (fun z h1 h2 => h z (by omega) (by omega))]
theorem tS_next {G : (Nat → Int) → Int} {nc : Nat} {S T : Nat → Nat} {i : Nat} : ∀ (k d : Nat) (H : Nat → Int) (s : fwSt), d ≤ i → i < d + k → S i + 1 < nc → (∀ z, i < z → z < d + k → S z + 1 = nc) → (∀ z, z < i → T z = S z) → (∀ z, i ≤ z → z < d + k → T z = S i + 1) → tS G nc S k d H s = tS G nc T k d H (sP G S k d H s) := by
  intro k
  induction k with
  | zero => intro d H s h1 h2; omega
  | succ k ih =>
    intro d H s h1 h2 h3 h4 h5 h6
    rcases Nat.eq_or_lt_of_le h1 with e | e
    · subst e
      rw [tS_rep h3 _ _ _ _ (fun z a b => h6 z a b), tS, sP]
      refine congrArg (mSe G nc (k + 1) d (S d + 1) H) ?_
      split
      · exact tS_last _ _ _ _ (fun z a b => h4 z (by omega) (by omega))
      · rfl
    · rw [tS, tS, sP, h5 d e]
      refine congrArg (mSe G nc (k + 1) d (S d + 1) H) ?_
      by_cases c : 0 < H (S d)
      · rw [if_pos c, if_pos c, if_pos c, ih _ _ _ (by omega) (by omega) h3 (fun z a b => h4 z a (by omega)) h5 (fun z a b => h6 z a (by omega))]
        have w : (sP G S k (d + 1) (fwFu H (S d) (H (S d) + -1)) (fwFu s.1 d (S d : Int), s.2)).1 d = (S d : Int) := by
          rw [sP_w _ _ _ _ d (by omega)]
          exact if_pos rfl
        rw [fwFu_id9 w]
      · rw [if_neg c, if_neg c, if_neg c]
theorem sbt_0 (H S : Nat → Int) : sbt H S 0 = H := by
  funext z
  unfold sbt
  rw [cnt]
  omega
theorem sbt_p (H S : Nat → Int) (i : Nat) : fwFu (sbt H S i) (S i).toNat (sbt H S i (S i).toNat + -1) = sbt H S (i + 1) := by
  rw [← Int.sub_eq_add_neg]
  exact sbt_s H S i
theorem sP_y {G : (Nat → Int) → Int} {H S : Nat → Int} : ∀ (k d : Nat) (s : fwSt), (∀ i, d ≤ i → i < d + k → 0 < sbt H S i (S i).toNat) → ∃ W : Nat → Int, (∀ i, d ≤ i → i < d + k → W i = ((S i).toNat : Int)) ∧ (∀ i, i < d → W i = s.1 i) ∧ sP G (fun z => (S z).toNat) k d (sbt H S d) s = mKeep (G (sbt H S (d + k))) (W, s.2) := by
  intro k
  induction k with
  | zero => intro d s _; exact ⟨s.1, fun i a b => by omega, fun _ _ => rfl, rfl⟩
  | succ k ih =>
    intro d s h
    rw [sP, if_pos (h d (Nat.le_refl _) (by omega)), sbt_p]
    obtain ⟨W, a, b, c⟩ := ih (d + 1) (fwFu s.1 d ((S d).toNat : Int), s.2) (fun i p q => h i (by omega) (by omega))
    refine ⟨W, fun i p q => ?_, fun i p => ?_, by rw [show d + (k + 1) = d + 1 + k by omega]; exact c⟩
    · rcases Nat.eq_or_lt_of_le p with e | e
      · subst e
        rw [b d (by omega)]
        exact if_pos rfl
      · exact a i (by omega) (by omega)
    · rw [b i (by omega)]
      exact if_neg (by omega)
theorem sP_n {G : (Nat → Int) → Int} {H S : Nat → Int} {t : Nat} : ∀ (k d : Nat) (s : fwSt), d ≤ t → t < d + k → (∀ i, d ≤ i → i < t → 0 < sbt H S i (S i).toNat) → ¬ 0 < sbt H S t (S t).toNat → ∃ W : Nat → Int, sP G (fun z => (S z).toNat) k d (sbt H S d) s = (W, s.2) := by
  intro k
  induction k with
  | zero => intro d s h1 h2; omega
  | succ k ih =>
    intro d s h1 h2 h3 h4
    rw [sP]
    rcases Nat.eq_or_lt_of_le h1 with e | e
    · subst e
      rw [if_neg h4]
      exact ⟨s.1, rfl⟩
    · rw [if_pos (h3 d (Nat.le_refl _) e), sbt_p]
      exact ih (d + 1) _ (by omega) (by omega) (fun i p q => h3 i (by omega) q) h4
/-- the model's most and best row, by what the search keeps -/
def shR (s : Int × Int × (Nat → Int)) (mo : Int) (B : Nat → Int) (n : Nat) : Prop := (s.1 = 0 ∧ mo = -1000000000) ∨ (s.1 ≠ 0 ∧ mo = s.2.1 ∧ ∀ i, i < n → B i = s.2.2 i)
theorem shR_n {g mo : Int} {W B : Nat → Int} {s : Int × Int × (Nat → Int)} {n : Nat} (h : shR s mo B n) (hg : 0 ≤ g) (c : g ≤ mo) : shR (mKeep g (W, s)).2 mo B n := by
  unfold mKeep
  rcases h with z | z
  · omega
  · rw [if_pos ⟨z.1, by dsimp only; omega⟩]
    exact Or.inr z
theorem shR_y {g mo : Int} {W B B2 : Nat → Int} {s : Int × Int × (Nat → Int)} {n : Nat} (h : shR s mo B n) (c : mo < g) (e : ∀ i, i < n → B2 i = W i) : shR (mKeep g (W, s)).2 g B2 n := by
  unfold mKeep
  rw [if_neg (fun q => by rcases h with z | z; exact q.1 z.1; have := q.2; dsimp only at this; omega)]
  exact Or.inr ⟨Int.one_ne_zero, rfl, e⟩
theorem mSum_fu {H : Nat → Int} {i : Nat} {x : Int} : ∀ n, mSum (fwFu H i x) n = if i < n then mSum H n - H i + x else mSum H n := by
  intro n
  induction n with
  | zero => rfl
  | succ n ih =>
    rw [mSum, mSum, ih]
    unfold fwFu
    by_cases e : n = i
    · subst e
      rw [if_neg (Nat.lt_irrefl _), if_pos rfl, if_pos (Nat.lt_succ_self _)]
      omega
    · rw [if_neg e]
      by_cases c : i < n
      · rw [if_pos c, if_pos (by omega)]
        omega
      · rw [if_neg c, if_neg (by omega)]
theorem mSum_mono {H : Nat → Int} {nc : Nat} (hH : ∀ c, c < nc → 0 ≤ H c) {a : Nat} : ∀ b, a + b ≤ nc → mSum H a ≤ mSum H (a + b) := by
  intro b
  induction b with
  | zero => intro _; exact Int.le_refl _
  | succ b ih =>
    intro h
    have := ih (by omega)
    have := hH (a + b) (by omega)
    rw [show a + (b + 1) = (a + b) + 1 from rfl, mSum]
    omega
theorem mSe_fd {G : (Nat → Int) → Int} {nc : Nat} : ∀ (k d fr : Nat) (H : Nat → Int) (s : fwSt), s.2.1 ≠ 0 → (mSe G nc k d fr H s).2.1 ≠ 0 := by
  intro k
  induction k with
  | zero =>
    intro d fr H s h
    show (mKeep (G H) s).2.1 ≠ 0
    unfold mKeep
    split
    · exact h
    · exact Int.one_ne_zero
  | succ k ih =>
    intro d fr H s h
    show (mSeL (mSe G nc k (d + 1)) d fr H s (nc - fr)).2.1 ≠ 0
    generalize nc - fr = j
    induction j with
    | zero => exact h
    | succ j ihj =>
      rw [mSeL]
      split
      · exact ih _ _ _ _ ihj
      · exact ihj
theorem mSe_no {G : (Nat → Int) → Int} {nc : Nat} : ∀ (k d m fr : Nat) (H : Nat → Int) (s : fwSt), fr + m = nc → (∀ c, c < nc → 0 ≤ H c) → mSum H nc - mSum H fr < (k : Int) → (mSe G nc k d fr H s).2.1 = s.2.1 := by
  intro k
  induction k with
  | zero =>
    intro d m fr H s e hH h
    have := mSum_mono hH (a := fr) m (by omega)
    rw [e] at this
    omega
  | succ k ih =>
    intro d m
    induction m with
    | zero => intro fr H s e hH h; rw [mSe_end (by omega)]
    | succ m ihm =>
      intro fr H s e hH h
      have h0 := hH fr (by omega)
      rw [mSe_un (by omega), ihm (fr + 1) H _ (by omega) hH (by rw [mSum]; omega)]
      split
      · rename_i c
        refine (ih (d + 1) (m + 1) fr _ _ e (fun z hz => ?_) ?_).trans rfl
        · unfold fwFu
          split
          · omega
          · exact hH z hz
        · rw [mSum_fu, mSum_fu, if_pos (by omega), if_neg (by omega)]
          omega
      · rfl
theorem mSe_yes {G : (Nat → Int) → Int} {nc : Nat} : ∀ (k d m fr : Nat) (H : Nat → Int) (s : fwSt), fr + m = nc → (∀ c, c < nc → 0 ≤ H c) → (k : Int) ≤ mSum H nc - mSum H fr → (mSe G nc k d fr H s).2.1 ≠ 0 := by
  intro k
  induction k with
  | zero =>
    intro d m fr H s e hH h
    show (mKeep (G H) s).2.1 ≠ 0
    unfold mKeep
    split
    · rename_i c; exact c.1
    · exact Int.one_ne_zero
  | succ k ih =>
    intro d m
    induction m with
    | zero =>
      intro fr H s e hH h
      rw [show fr = nc by omega] at h
      omega
    | succ m ihm =>
      intro fr H s e hH h
      have h0 := hH fr (by omega)
      rw [mSe_un (by omega)]
      by_cases c : 0 < H fr
      · rw [if_pos c]
        refine mSe_fd _ _ _ _ _ (ih (d + 1) (m + 1) fr _ _ e (fun z hz => ?_) ?_)
        · unfold fwFu
          split
          · omega
          · exact hH z hz
        · rw [mSum_fu, mSum_fu, if_pos (by omega), if_neg (by omega)]
          omega
      · exact ihm (fr + 1) H _ (by omega) hH (by rw [mSum]; omega)
theorem mShp_fd {h : fwH} {n : Nat} (hH : ∀ c : Nat, (c : Int) < h 4 0 1 → 0 ≤ h 17 0 c) (hn : 0 ≤ h 4 0 1) : (mShp h n).2.1 ≠ 0 ↔ (n : Int) ≤ mSum (h 17 0) (h 4 0 1).toNat := by
  have e0 : mSum (h 17 0) 0 = 0 := rfl
  constructor
  · intro q
    apply Classical.byContradiction
    intro c
    exact q (mSe_no n 0 (h 4 0 1).toNat 0 (h 17 0) _ (by omega) (fun c hc => hH c (by omega)) (by omega))
  · intro q
    exact mSe_yes n 0 (h 4 0 1).toNat 0 (h 17 0) _ (by omega) (fun c hc => hH c (by omega)) (by omega)
set_option maxRecDepth 100000 in
set_option maxHeartbeats 4000000 in
theorem c_s_takeRow {d : Nat} {h gg : fwH} {Q : Option fwV → fwH → Prop} (n : Nat) (J : cOk gg) (R : jF gg h) (hn : n ≤ 3) (hH : hiR (gg 4 0 1) (h 42 0) (gg 17 0)) (hS : sB (gg 4 0 1) (h 44 0)) (k : ∀ (t : Nat) A, t ≤ n → hiR (gg 4 0 1) A (sbt (gg 17 0) (h 44 0) t) → (∀ z : Nat, z < 10 → 0 ≤ sbt (gg 17 0) (h 44 0) t z) → (∀ i : Nat, i < t → 0 < sbt (gg 17 0) (h 44 0) i (h 44 0 i).toNat) → (t < n → ¬ 0 < sbt (gg 17 0) (h 44 0) t (h 44 0 t).toNat) → Q (some (aI (t : Int))) (fwUc h 42 0 A)) : fwCt mX12_takeRow (d + 1) [aR 12 0, aI (n : Int)] h Q := by
  refine fwCt_of [some (aR 12 0), some (aI (n : Int)), none] rfl rfl rfl ?_
  obtain ⟨hl, hP, hG, -, -, -, hlw, -, ha, hs, -, hsc⟩ := id J
  obtain ⟨⟨g1, g2⟩, ⟨g3, g4⟩, ⟨g5, g6⟩, g7, -⟩ := id hG
  have hpz := hP.1
  have hM9 := J.2.2.2.1
  have hH0 : hiR (gg 4 0 1) (h 42 0) (sbt (gg 17 0) (h 44 0) 0) := fun c hc => by rw [hH c hc]; unfold sbt; rw [cnt]; omega
  have hnn0 : ∀ z : Nat, z < 10 → 0 ≤ sbt (gg 17 0) (h 44 0) 0 z := fun z hz => by have := hM9 z hz; unfold sbt; rw [cnt]; omega
  refine w_iconst dX12_takeRow_0 ?_
  refine w_istore_n [some (aR 12 0), some (aI (n : Int)), some (aI 0)] dX12_takeRow_1 rfl (by decide) ?_
  have lp2 : ∀ c : Nat, c ≤ n → ∀ A : Nat → Int, hiR (gg 4 0 1) A (sbt (gg 17 0) (h 44 0) c) → (∀ z : Nat, z < 10 → 0 ≤ sbt (gg 17 0) (h 44 0) c z) → (∀ i : Nat, i < c → 0 < sbt (gg 17 0) (h 44 0) i (h 44 0 i).toNat) → fwWP mX12_takeRow (d + 1) 2 [some (aR 12 0), some (aI (n : Int)), some (aI (c : Int))] [] (fwUc h 42 0 A) Q := by
    refine fw_up (fun c hc ih2 => ?_)
    intro A hA hnn hfe
    refine w_iload_n dX12_takeRow_2 rfl ?_
    refine w_iload_n dX12_takeRow_3 rfl ?_
    refine w_icmp_ge 44 dX12_takeRow_4 (by decide) (by omega) (by omega) (fun c4 => ?_) (fun c4 => ?_)
    · refine w_iload_n dX12_takeRow_44 rfl ?_
      have ec : c = n := by omega
      subst ec
      exact w_iret dX12_takeRow_45 rfl (k c _ (by omega) hA hnn hfe (fun q => absurd q (Nat.lt_irrefl _)))
    · have hsc9 := hS c (by omega)
      have hx0 := hnn (h 44 0 c).toNat (by omega)
      have hx1 := sbt_le (gg 17 0) (h 44 0) c (h 44 0 c).toNat
      have hx2 := hM9 (h 44 0 c).toNat (by omega)
      refine w_aload_n dX12_takeRow_7 rfl ?_
      refine w_getr 42 0 dX12_takeRow_8 fl_X12_34 rfl (by decide) ?_
      refine w_aload_n dX12_takeRow_11 rfl ?_
      refine w_getr 44 0 dX12_takeRow_12 fl_X12_41 rfl (by decide) ?_
      refine w_iload_n dX12_takeRow_15 rfl ?_
      refine w_ialdE (v := h 44 0 c) dX12_takeRow_16 rfl (by decide) (by omega) (by omega) (by rw [show (c : Int).toNat = c by omega]; rfl) ?_
      refine w_ialdE (v := sbt (gg 17 0) (h 44 0) c (h 44 0 c).toNat) dX12_takeRow_17 rfl (by decide) (by omega) (by omega) (hA _ (by omega)) ?_
      refine w_if_ne 23 dX12_takeRow_18 (by decide) (by omega) (fun c18 => ?_) (fun c18 => ?_)
      · refine w_aload_n dX12_takeRow_23 rfl ?_
        refine w_getr 42 0 dX12_takeRow_24 fl_X12_34 rfl (by decide) ?_
        refine w_aload_n dX12_takeRow_27 rfl ?_
        refine w_getr 44 0 dX12_takeRow_28 fl_X12_41 rfl (by decide) ?_
        refine w_iload_n dX12_takeRow_31 rfl ?_
        refine w_ialdE (v := h 44 0 c) dX12_takeRow_32 rfl (by decide) (by omega) (by omega) (by rw [show (c : Int).toNat = c by omega]; rfl) ?_
        refine w_dup2 dX12_takeRow_33 rfl rfl ?_
        refine w_ialdE (v := sbt (gg 17 0) (h 44 0) c (h 44 0 c).toNat) dX12_takeRow_34 rfl (by decide) (by omega) (by omega) (hA _ (by omega)) ?_
        refine w_iconst dX12_takeRow_35 ?_
        refine w_isub dX12_takeRow_36 ?_
        refine w_iast dX12_takeRow_37 rfl (by decide) (by omega) (by omega) ?_
        refine w_iinc [some (aR 12 0), some (aI (n : Int)), some (aI ((c : Int) + 1))] dX12_takeRow_38 rfl rfl (by decide) ?_
        refine w_goto 2 dX12_takeRow_41 (by decide) ?_
        rw [fwUp_uc]
        exact ih2 (by omega) _ (by have := hiR_fu hA (h 44 0 c).toNat (sbt (gg 17 0) (h 44 0) c (h 44 0 c).toNat - 1); rw [sbt_s] at this; exact this) (sbt_nn hnn (by omega)) (fun i hi => (Nat.lt_succ_iff_lt_or_eq.mp hi).elim (fun q => hfe i q) (fun q => by rw [q]; omega))
      · refine w_iload_n dX12_takeRow_21 rfl ?_
        exact w_iret dX12_takeRow_22 rfl (k c _ (by omega) hA hnn hfe (fun _ => by omega))
  have e0 : fwUc h 42 0 (h 42 0) = h := fwUc_self h 42 0
  rw [← e0]
  exact lp2 0 (by omega) _ hH0 hnn0 (fun i hi => absurd hi (Nat.not_lt_zero _))
set_option maxRecDepth 100000 in
set_option maxHeartbeats 4000000 in
theorem c_s_nextRow {d : Nat} {h gg : fwH} {Q : Option fwV → fwH → Prop} (n : Nat) (J : cOk gg) (R : jF gg h) (hn : n ≤ 3) (hN : 1 ≤ gg 4 0 1) (hS : sB (gg 4 0 1) (h 44 0)) (k : (∀ S (i : Nat), sB (gg 4 0 1) S → m3 (h 44 0) < m3 S → i < n → h 44 0 i ≠ gg 4 0 1 - 1 → (∀ z : Nat, i < z → z < n → h 44 0 z = gg 4 0 1 - 1) → (∀ z : Nat, z < n → S z = if z < i then h 44 0 z else h 44 0 i + 1) → Q (some (aI 1)) (fwUc h 44 0 S)) ∧ ((∀ z : Nat, z < n → h 44 0 z = gg 4 0 1 - 1) → Q (some (aI 0)) h)) : fwCt mX12_nextRow (d + 1) [aR 12 0, aI (n : Int)] h Q := by
  refine fwCt_of [some (aR 12 0), some (aI (n : Int)), none, none] rfl rfl rfl ?_
  obtain ⟨hl, hP, hG, -, -, -, hlw, -, ha, hs, -, hsc⟩ := id J
  obtain ⟨⟨g1, g2⟩, ⟨g3, g4⟩, ⟨g5, g6⟩, g7, -⟩ := id hG
  have hpz := hP.1
  refine w_iload_n dX12_nextRow_0 rfl ?_
  refine w_iconst dX12_nextRow_1 ?_
  refine w_isub dX12_nextRow_2 ?_
  refine w_istore_n [some (aR 12 0), some (aI (n : Int)), some (aI ((n : Int) - 1)), none] dX12_nextRow_3 rfl (by decide) ?_
  have lp4 : ∀ c : Nat, c ≤ n → ∀ y4 : Int, y4 = (n : Int) - 1 - (c : Int) → (∀ z : Nat, n - c ≤ z → z < n → h 44 0 z = gg 4 0 1 - 1) → fwWP mX12_nextRow (d + 1) 4 [some (aR 12 0), some (aI (n : Int)), some (aI y4), none] [] h Q := by
    refine fw_up (fun c hc ih4 => ?_)
    intro y4 ey4 hmx
    subst ey4
    show fwWP mX12_nextRow (d + 1) 4 [some (aR 12 0), some (aI (n : Int)), some (aI ((n : Int) - 1 - (c : Int))), none] [] h Q
    refine w_iload_n dX12_nextRow_4 rfl ?_
    refine w_if_lt 73 dX12_nextRow_5 (by decide) (by omega) (fun c5 => ?_) (fun c5 => ?_)
    · refine w_iconst dX12_nextRow_73 ?_
      exact w_zret dX12_nextRow_74 rfl (Or.inl rfl) (k.2 (fun z hz => hmx z (by omega) hz))
    · obtain ⟨i, hi⟩ : ∃ i : Nat, i + 1 + c = n := ⟨n - 1 - c, by omega⟩
      have hsi := hS i (by omega)
      refine w_aload_n dX12_nextRow_8 rfl ?_
      refine w_getr 44 0 dX12_nextRow_9 fl_X12_41 rfl (by decide) ?_
      refine w_iload_n dX12_nextRow_12 rfl ?_
      refine w_ialdE (v := h 44 0 i) dX12_nextRow_13 rfl (by decide) (by omega) (by omega) (by rw [show ((n : Int) - 1 - (c : Int) : Int).toNat = i by omega]) ?_
      refine w_aload_n dX12_nextRow_14 rfl ?_
      refine w_getr 36 0 dX12_nextRow_15 fl_X12_9 rfl (by decide) ?_
      refine w_iconst dX12_nextRow_18 ?_
      refine w_ialdE (v := gg 4 0 1) dX12_nextRow_19 rfl (by decide) (by omega) (by omega) R.1 ?_
      refine w_iconst dX12_nextRow_20 ?_
      refine w_isub dX12_nextRow_21 ?_
      refine w_icmp_ne 28 dX12_nextRow_22 (by decide) (by omega) (by omega) (fun c22 => ?_) (fun c22 => ?_)
      · refine w_aload_n dX12_nextRow_28 rfl ?_
        refine w_getr 44 0 dX12_nextRow_29 fl_X12_41 rfl (by decide) ?_
        refine w_iload_n dX12_nextRow_32 rfl ?_
        refine w_dup2 dX12_nextRow_33 rfl rfl ?_
        refine w_ialdE (v := h 44 0 i) dX12_nextRow_34 rfl (by decide) (by omega) (by omega) (by rw [show ((n : Int) - 1 - (c : Int) : Int).toNat = i by omega]) ?_
        refine w_iconst dX12_nextRow_35 ?_
        refine w_iadd dX12_nextRow_36 ?_
        refine w_iast dX12_nextRow_37 rfl (by decide) (by omega) (by omega) ?_
        refine w_iload_n dX12_nextRow_38 rfl ?_
        refine w_iconst dX12_nextRow_39 ?_
        refine w_iadd dX12_nextRow_40 ?_
        refine w_istore_n [some (aR 12 0), some (aI (n : Int)), some (aI ((n : Int) - 1 - (c : Int))), some (aI (((n : Int) - 1 - (c : Int)) + 1))] dX12_nextRow_41 rfl (by decide) ?_
        have lp42 : ∀ c2 : Nat, c2 ≤ n - (i + 1) → ∀ (y42 : Int) (r : Nat → Int), y42 = ((n : Int) - 1 - (c : Int)) + 1 + (c2 : Int) → (∀ z : Nat, z < i + 1 + c2 → r z = if z < i then h 44 0 z else h 44 0 i + 1) → (∀ z : Nat, i + 1 + c2 ≤ z → r z = h 44 0 z) → fwWP mX12_nextRow (d + 1) 42 [some (aR 12 0), some (aI (n : Int)), some (aI ((n : Int) - 1 - (c : Int))), some (aI y42)] [] (fwUc h 44 0 r) Q := by
          refine fw_up (fun c2 hc2 ih42 => ?_)
          intro y42 r ey42 hr1 hr2
          subst ey42
          show fwWP mX12_nextRow (d + 1) 42 [some (aR 12 0), some (aI (n : Int)), some (aI ((n : Int) - 1 - (c : Int))), some (aI (((n : Int) - 1 - (c : Int)) + 1 + (c2 : Int)))] [] (fwUc h 44 0 r) Q
          refine w_iload_n dX12_nextRow_42 rfl ?_
          refine w_iload_n dX12_nextRow_43 rfl ?_
          refine w_icmp_ge 65 dX12_nextRow_44 (by decide) (by omega) (by omega) (fun c44 => ?_) (fun c44 => ?_)
          · refine w_iconst dX12_nextRow_65 ?_
            have hm := m3_lt (S := h 44 0) (r := r) (n := n) (i := i) (N := gg 4 0 1) hn (by omega) (by omega) hS c22 (fun z h1 h2 => hmx z (by omega) h2) (fun z hz => hr1 z (by omega)) (fun z hz => hr2 z (by omega))
            exact w_zret dX12_nextRow_66 rfl (Or.inr rfl) (k.1 r i hm.2 hm.1 (by omega) c22 (fun z h1 h2 => hmx z (by omega) h2) (fun z hz => hr1 z (by omega)))
          · refine w_aload_n dX12_nextRow_47 rfl ?_
            refine w_getr 44 0 dX12_nextRow_48 fl_X12_41 rfl (by decide) ?_
            refine w_iload_n dX12_nextRow_51 rfl ?_
            refine w_aload_n dX12_nextRow_52 rfl ?_
            refine w_getr 44 0 dX12_nextRow_53 fl_X12_41 rfl (by decide) ?_
            refine w_iload_n dX12_nextRow_56 rfl ?_
            refine w_ialdE (v := h 44 0 i + 1) dX12_nextRow_57 rfl (by decide) (by omega) (by omega) (by rw [show ((n : Int) - 1 - (c : Int) : Int).toNat = i by omega]; exact (hr1 i (by omega)).trans (if_neg (by omega))) ?_
            refine w_iast dX12_nextRow_58 rfl (by decide) (by omega) (by omega) ?_
            refine w_iinc [some (aR 12 0), some (aI (n : Int)), some (aI ((n : Int) - 1 - (c : Int))), some (aI ((((n : Int) - 1 - (c : Int)) + 1 + (c2 : Int)) + 1))] dX12_nextRow_59 rfl rfl (by decide) ?_
            refine w_goto 42 dX12_nextRow_62 (by decide) ?_
            rw [fwUp_uc, show ((((n : Int) - 1 - (c : Int)) + 1 + (c2 : Int)).toNat) = i + 1 + c2 by omega]
            exact ih42 (by omega) _ _ (by omega) (fun z hz => by unfold fwFu; exact (Decidable.em (z = i + 1 + c2)).elim (fun e => by rw [if_pos e, if_neg (by omega)]) (fun e => by rw [if_neg e]; exact hr1 z (by omega))) (fun z hz => by unfold fwFu; rw [if_neg (by omega)]; exact hr2 z (by omega))
        rw [show (((n : Int) - 1 - (c : Int)).toNat) = i by omega, fwUp_fu]
        exact lp42 0 (by omega) _ _ (by omega) (fun z hz => by unfold fwFu; exact (Decidable.em (z = i)).elim (fun e => by rw [if_pos e, if_neg (by omega)]) (fun e => by rw [if_neg e, if_pos (by omega)])) (fun z hz => by unfold fwFu; rw [if_neg (by omega)])
      · refine w_goto 67 dX12_nextRow_25 (by decide) ?_
        refine w_iinc [some (aR 12 0), some (aI (n : Int)), some (aI (((n : Int) - 1 - (c : Int)) + (-1))), none] dX12_nextRow_67 rfl rfl (by decide) ?_
        refine w_goto 4 dX12_nextRow_70 (by decide) ?_
        exact ih4 (by omega) _ (by omega) (fun z h1 h2 => (Nat.lt_or_ge i z).elim (fun q => hmx z (by omega) h2) (fun q => by rw [show z = i by omega]; omega))
  exact lp4 0 (by omega) _ (by omega) (fun z h1 h2 => absurd h2 (by omega))
set_option maxRecDepth 100000 in
set_option maxHeartbeats 4000000 in
theorem c_s_shapeOf {d : Nat} {h gg : fwH} {Q : Option fwV → fwH → Prop} (n : Nat) (J : cOk gg) (R : jF gg h) (K : jA gg h) (hsh : sc h) (hn : n ≤ 3) (hmt : 0 < gg 3 0 6) (k : ∀ v g, shR (mShp gg n).2 v (g 45 0) n → (-1000000000 ≤ v ∧ v ≤ 1000000000) → scr h g → Q (some (aI v)) g) : fwCt mX12_shapeOf (d + 6) [aR 12 0, aI (n : Int)] h Q := by
  refine fwCt_of [some (aR 12 0), some (aI (n : Int)), none, none, none, none] rfl rfl rfl ?_
  obtain ⟨hl, hP, hG, hM0, htd, hut, hlw, hhc, ha, hs, hT, hsc⟩ := id J
  have hb17 : hB (gg 17 0) := fun c hc => by have := hM0 c hc; omega
  obtain ⟨⟨g1, g2⟩, ⟨g3, g4⟩, ⟨g5, g6⟩, g7, -⟩ := id hG
  have h17_99 : ∀ c : Nat, (c : Int) < gg 4 0 1 → gg 17 0 c ≤ 99 := fun c hc => (hM0 c (by omega)).2
  have hpz := hP.1
  have hrs1 := R.2.2.2.2.2.2.2.2.2.2.2
  refine w_aload_n dX12_shapeOf_0 rfl ?_
  refine w_callV (d := d + 5) (S := []) [] dX12_shapeOf_1 ml_X12_240 ok_X12_asItIs vi_X12_asItIs rfl rfl (by decide) rfl (Nat.le_of_ble_eq_true rfl) ?_
  refine c_X12_asItIs (d := d) J R K (show 1 ≤ gg 4 0 1 by omega) (show 1 ≤ gg 4 0 3 by omega) ?_
  intro A1_1 hA1_1
  show fwWP mX12_shapeOf (d + 6) 4 [some (aR 12 0), some (aI (n : Int)), none, none, none, none] [] (fwUc h 42 0 A1_1) Q
  refine w_iconst dX12_shapeOf_4 ?_
  refine w_istore_n [some (aR 12 0), some (aI (n : Int)), some (aI 0), none, none, none] dX12_shapeOf_5 rfl (by decide) ?_
  have lp6 : ∀ c : Nat, c ≤ 3 → ∀ (y6 : Int) (r : Nat → Int), y6 = (c : Int) → (∀ z : Nat, z < c → r z = 0) → fwWP mX12_shapeOf (d + 6) 6 [some (aR 12 0), some (aI (n : Int)), some (aI y6), none, none, none] [] (fwUc (fwUc h 42 0 A1_1) 44 0 r) Q := by
    refine fw_up (fun c hc ih6 => ?_)
    intro y6 r ey6 hz0
    subst ey6
    show fwWP mX12_shapeOf (d + 6) 6 [some (aR 12 0), some (aI (n : Int)), some (aI (c : Int)), none, none, none] [] (fwUc (fwUc h 42 0 A1_1) 44 0 r) Q
    refine w_iload_n dX12_shapeOf_6 rfl ?_
    refine w_iconst dX12_shapeOf_7 ?_
    refine w_icmp_ge 24 dX12_shapeOf_8 (by decide) (by omega) (by omega) (fun c8 => ?_) (fun c8 => ?_)
    · refine w_ldcw (n := -1000000000) dX12_shapeOf_24 cs_X12_335 ?_
      refine w_istore_n [some (aR 12 0), some (aI (n : Int)), some (aI (-1000000000)), none, none, none] dX12_shapeOf_27 rfl (by decide) ?_
      have lp28 : ∀ c : Nat, c ≤ 1000 → ∀ (mo : Int) (A S B : Nat → Int) (s : fwSt), (-1000000000 ≤ mo ∧ mo ≤ 1000000000) → hiR (gg 4 0 1) A (gg 17 0) → sB (gg 4 0 1) S → (c : Int) ≤ m3 S → shR s.2 mo B n → tS (mGt gg) (gg 4 0 1).toNat (fun z => (S z).toNat) n 0 (gg 17 0) s = mShp gg n → fwWP mX12_shapeOf (d + 6) 28 [some (aR 12 0), some (aI (n : Int)), some (aI mo), none, none, none] [] (HH h A S B) Q := by
        refine fw_up (fun c hc ih28 => ?_)
        intro mo A S B s hmo hA hS hm hsr hts
        have hm9 : m3 S ≤ 999 := by have q0 := hS 0 (by omega); have q1 := hS 1 (by omega); have q2 := hS 2 (by omega); unfold m3; omega
        refine w_aload_n dX12_shapeOf_28 rfl ?_
        refine w_iload_n dX12_shapeOf_29 rfl ?_
        refine w_callV (d := d + 5) (S := []) [aI (n : Int)] dX12_shapeOf_30 ml_X12_336 ok_X12_takeRow vi_X12_takeRow rfl rfl (by decide) rfl (Nat.le_of_ble_eq_true rfl) ?_
        refine c_s_takeRow (d := (d + 4)) n J R hn hA hS ?_
        intro t A1 ht hA1 hnn hfe hin; rw [HH_42]
        show fwWP mX12_shapeOf (d + 6) 33 [some (aR 12 0), some (aI (n : Int)), some (aI mo), none, none, none] [aI (t : Int)] (HH h A1 S B) Q
        have hfe : ∀ i : Nat, i < t → 0 < sbt (gg 17 0) S i (S i).toNat := hfe
        have hin : t < n → ¬ 0 < sbt (gg 17 0) S t (S t).toNat := hin
        have hbt : hB (sbt (gg 17 0) S t) := fun z hz => ⟨hnn z hz, by have := sbt_le (gg 17 0) S t z; have := hM0 z hz; omega⟩
        refine w_istore_n [some (aR 12 0), some (aI (n : Int)), some (aI mo), some (aI (t : Int)), none, none] dX12_shapeOf_33 rfl (by decide) ?_
        refine w_iload_n dX12_shapeOf_34 rfl ?_
        refine w_iload_n dX12_shapeOf_35 rfl ?_
        refine w_icmp_ne 46 dX12_shapeOf_36 (by decide) (by omega) (by omega) (fun c36 => ?_) (fun c36 => ?_)
        · refine w_ldcw (n := -1000000000) dX12_shapeOf_46 cs_X12_335 ?_
          refine w_istore [some (aR 12 0), some (aI (n : Int)), some (aI mo), some (aI (t : Int)), some (aI (-1000000000)), none] dX12_shapeOf_49 rfl (by decide) ?_
          refine w_iconst dX12_shapeOf_51 ?_
          refine w_istore [some (aR 12 0), some (aI (n : Int)), some (aI mo), some (aI (t : Int)), some (aI (-1000000000)), some (aI 0)] dX12_shapeOf_52 rfl (by decide) ?_
          have lp54 : ∀ c5 : Nat, c5 ≤ t → ∀ A5 : Nat → Int, hiR (gg 4 0 1) A5 (rgv (gg 17 0) S t c5) → fwWP mX12_shapeOf (d + 6) 54 [some (aR 12 0), some (aI (n : Int)), some (aI mo), some (aI (t : Int)), some (aI (-1000000000)), some (aI (c5 : Int))] [] (HH h A5 S B) Q := by
            refine fw_up (fun c5 hc5 ih54 => ?_)
            intro A5 hA5
            refine w_iload dX12_shapeOf_54 rfl ?_
            refine w_iload_n dX12_shapeOf_56 rfl ?_
            refine w_icmp_ge 82 dX12_shapeOf_57 (by decide) (by omega) (by omega) (fun c57 => ?_) (fun c57 => ?_)
            · have ec5 : c5 = t := by omega
              rw [ec5, rgv_t] at hA5
              obtain ⟨W, hW2⟩ := sP_n (G := mGt gg) (H := gg 17 0) (S := S) (t := t) n 0 s (Nat.zero_le _) (by omega) (fun i a b => hfe i b) (hin (by omega))
              rw [sbt_0] at hW2
              refine w_iload dX12_shapeOf_82 rfl ?_
              refine w_iload_n dX12_shapeOf_84 rfl ?_
              refine w_icmp_gt 91 dX12_shapeOf_85 (by decide) (by omega) (by omega) (fun c85 => ?_) (fun c85 => ?_)
              · (exfalso; omega)
              · refine w_goto 123 dX12_shapeOf_88 (by decide) ?_
                refine w_aload_n dX12_shapeOf_123 rfl ?_
                refine w_iload_n dX12_shapeOf_124 rfl ?_
                refine w_callV (d := d + 5) (S := []) [aI (n : Int)] dX12_shapeOf_125 ml_X12_339 ok_X12_nextRow vi_X12_nextRow rfl rfl (by decide) rfl (Nat.le_of_ble_eq_true rfl) ?_
                have hsR : shR (sP (mGt gg) (fun z => (S z).toNat) n 0 (gg 17 0) s).2 mo B n := (by rw [hW2]; exact hsr)
                refine c_s_nextRow (d := (d + 4)) n J R hn (by omega) hS ⟨?_, ?_⟩
                · intro S2 i2 hS2 hlt hi2 hne hmz hn1
                  have hlt2 : m3 S < m3 S2 := hlt
                  have hne : S i2 ≠ gg 4 0 1 - 1 := hne
                  have hmz : ∀ z : Nat, i2 < z → z < n → S z = gg 4 0 1 - 1 := hmz
                  have hn1 : ∀ z : Nat, z < n → S2 z = if z < i2 then S z else S i2 + 1 := hn1
                  rw [HH_44]
                  show fwWP mX12_shapeOf (d + 6) 128 [some (aR 12 0), some (aI (n : Int)), some (aI mo), some (aI (t : Int)), some (aI (-1000000000)), some (aI (c5 : Int))] [aI 1] (HH h A5 S2 B) Q
                  refine w_if_ne 28 dX12_shapeOf_128 (by decide) (by omega) (fun c128 => ?_) (fun c128 => ?_)
                  · refine w_drop [3, 4, 5] [some (aR 12 0), some (aI (n : Int)), some (aI mo), none, none, none] rfl ?_
                    exact ih28 (by omega) _ _ _ _ (sP (mGt gg) (fun z => (S z).toNat) n 0 (gg 17 0) s) (by omega) hA5 hS2 (by omega) hsR (by rw [← hts]; exact (tS_next (G := mGt gg) (nc := (gg 4 0 1).toNat) (S := fun z => (S z).toNat) (T := fun z => (S2 z).toNat) (i := i2) n 0 (gg 17 0) s (Nat.zero_le _) (by omega) (by show (S i2).toNat + 1 < (gg 4 0 1).toNat; have := hS i2 (by omega); omega) (fun z a b => by show (S z).toNat + 1 = (gg 4 0 1).toNat; have := hmz z a (by omega); have := hS z (by omega); omega) (fun z a => by show (S2 z).toNat = (S z).toNat; rw [hn1 z (by omega), if_pos a]) (fun z a b => by show (S2 z).toNat = (S i2).toNat + 1; rw [hn1 z (by omega), if_neg (by omega)]; have := hS i2 (by omega); omega)).symm)
                  · (exfalso; omega)
                · intro hall
                  have hall : ∀ z : Nat, z < n → S z = gg 4 0 1 - 1 := hall
                  have hend : sP (mGt gg) (fun z => (S z).toNat) n 0 (gg 17 0) s = mShp gg n := by rw [← hts]; exact (tS_last _ _ _ _ (fun z a b => by show (S z).toNat + 1 = (gg 4 0 1).toNat; rw [hall z (by omega)]; omega)).symm
                  show fwWP mX12_shapeOf (d + 6) 128 [some (aR 12 0), some (aI (n : Int)), some (aI mo), some (aI (t : Int)), some (aI (-1000000000)), some (aI (c5 : Int))] [aI 0] (HH h A5 S B) Q
                  refine w_if_ne 28 dX12_shapeOf_128 (by decide) (by omega) (fun c128 => ?_) (fun c128 => ?_)
                  · (exfalso; omega)
                  · refine w_iload_n dX12_shapeOf_131 rfl ?_
                    exact w_iret dX12_shapeOf_132 rfl (k _ _ (by rw [← hend]; exact hsR) (by omega) (scr_uc (scr_uc (scr_uc (scr_rf hsh) rfl (by decide) (by decide) (by decide)) rfl (by decide) (by decide) (by decide)) rfl (by decide) (by decide) (by decide)))
            · have hs5 := hS c5 (by omega)
              refine w_aload_n dX12_shapeOf_60 rfl ?_
              refine w_getr 42 0 dX12_shapeOf_61 fl_X12_34 rfl (by decide) ?_
              refine w_aload_n dX12_shapeOf_64 rfl ?_
              refine w_getr 44 0 dX12_shapeOf_65 fl_X12_41 rfl (by decide) ?_
              refine w_iload dX12_shapeOf_68 rfl ?_
              refine w_ialdE (v := S c5) dX12_shapeOf_70 rfl (by decide) (by omega) (by omega) (by rw [show ((c5 : Int) : Int).toNat = c5 by omega]; rfl) ?_
              refine w_dup2 dX12_shapeOf_71 rfl rfl ?_
              refine w_ialdE (v := A5 (S c5).toNat) dX12_shapeOf_72 rfl (by decide) (by omega) (by omega) rfl ?_
              refine w_iconst dX12_shapeOf_73 ?_
              refine w_iadd dX12_shapeOf_74 ?_
              refine w_iast dX12_shapeOf_75 rfl (by decide) (by omega) (by omega) ?_
              refine w_iinc [some (aR 12 0), some (aI (n : Int)), some (aI mo), some (aI (t : Int)), some (aI (-1000000000)), some (aI ((c5 : Int) + 1))] dX12_shapeOf_76 rfl rfl (by decide) ?_
              refine w_goto 54 dX12_shapeOf_79 (by decide) ?_
              rw [HH_p42]
              exact ih54 (by omega) _ (by have := hiR_fu hA5 (S c5).toNat (A5 (S c5).toNat + 1); rw [hA5 (S c5).toNat (by omega)] at this ⊢; rw [rgv_s] at this; exact this)
          exact lp54 0 (by omega) _ (by rw [rgv_0]; exact hA1)
        · refine w_aload_n dX12_shapeOf_39 rfl ?_
          refine w_callV (d := d + 5) (S := []) [] dX12_shapeOf_40 ml_X12_251 ok_X12_gainOfAll vi_X12_gainOfAll rfl rfl (by decide) rfl (Nat.le_of_ble_eq_true rfl) ?_
          refine c_X12_gainOfAll (d := d) (sbt (gg 17 0) S t) J R hA1 hbt (by omega) ?_
          show fwWP mX12_shapeOf (d + 6) 43 [some (aR 12 0), some (aI (n : Int)), some (aI mo), some (aI (t : Int)), none, none] [aI (mSum (mGain (gg 4 0 1) (sbt (gg 17 0) S t) (gg 4 0 2) (gg 18 0)) (gg 5 0 3).toNat)] (HH h A1 S B) Q
          have hga := mSum_r2 J hbt (gg 5 0 3).toNat (by omega)
          refine w_goto 49 dX12_shapeOf_43 (by decide) ?_
          refine w_istore [some (aR 12 0), some (aI (n : Int)), some (aI mo), some (aI (t : Int)), some (aI (mSum (mGain (gg 4 0 1) (sbt (gg 17 0) S t) (gg 4 0 2) (gg 18 0)) (gg 5 0 3).toNat)), none] dX12_shapeOf_49 rfl (by decide) ?_
          refine w_iconst dX12_shapeOf_51 ?_
          refine w_istore [some (aR 12 0), some (aI (n : Int)), some (aI mo), some (aI (t : Int)), some (aI (mSum (mGain (gg 4 0 1) (sbt (gg 17 0) S t) (gg 4 0 2) (gg 18 0)) (gg 5 0 3).toNat)), some (aI 0)] dX12_shapeOf_52 rfl (by decide) ?_
          have lp54 : ∀ c5 : Nat, c5 ≤ t → ∀ A5 : Nat → Int, hiR (gg 4 0 1) A5 (rgv (gg 17 0) S t c5) → fwWP mX12_shapeOf (d + 6) 54 [some (aR 12 0), some (aI (n : Int)), some (aI mo), some (aI (t : Int)), some (aI (mSum (mGain (gg 4 0 1) (sbt (gg 17 0) S t) (gg 4 0 2) (gg 18 0)) (gg 5 0 3).toNat)), some (aI (c5 : Int))] [] (HH h A5 S B) Q := by
            refine fw_up (fun c5 hc5 ih54 => ?_)
            intro A5 hA5
            refine w_iload dX12_shapeOf_54 rfl ?_
            refine w_iload_n dX12_shapeOf_56 rfl ?_
            refine w_icmp_ge 82 dX12_shapeOf_57 (by decide) (by omega) (by omega) (fun c57 => ?_) (fun c57 => ?_)
            · have ec5 : c5 = t := by omega
              rw [ec5, rgv_t] at hA5
              have etn : t = n := by omega
              obtain ⟨W, hW1, -, hW2⟩ := sP_y (G := mGt gg) (H := gg 17 0) (S := S) n 0 s (fun i a b => hfe i (by omega))
              have hW2 : sP (mGt gg) (fun z => (S z).toNat) n 0 (gg 17 0) s = mKeep (mGt gg (sbt (gg 17 0) S t)) (W, s.2) := by rw [sbt_0, Nat.zero_add] at hW2; rw [hW2, etn]
              refine w_iload dX12_shapeOf_82 rfl ?_
              refine w_iload_n dX12_shapeOf_84 rfl ?_
              refine w_icmp_gt 91 dX12_shapeOf_85 (by decide) (by omega) (by omega) (fun c85 => ?_) (fun c85 => ?_)
              · refine w_iload dX12_shapeOf_91 rfl ?_
                refine w_istore_n [some (aR 12 0), some (aI (n : Int)), some (aI (mSum (mGain (gg 4 0 1) (sbt (gg 17 0) S t) (gg 4 0 2) (gg 18 0)) (gg 5 0 3).toNat)), some (aI (t : Int)), some (aI (mSum (mGain (gg 4 0 1) (sbt (gg 17 0) S t) (gg 4 0 2) (gg 18 0)) (gg 5 0 3).toNat)), some (aI (c5 : Int))] dX12_shapeOf_93 rfl (by decide) ?_
                refine w_iconst dX12_shapeOf_94 ?_
                refine w_istore [some (aR 12 0), some (aI (n : Int)), some (aI (mSum (mGain (gg 4 0 1) (sbt (gg 17 0) S t) (gg 4 0 2) (gg 18 0)) (gg 5 0 3).toNat)), some (aI (t : Int)), some (aI (mSum (mGain (gg 4 0 1) (sbt (gg 17 0) S t) (gg 4 0 2) (gg 18 0)) (gg 5 0 3).toNat)), some (aI 0)] dX12_shapeOf_95 rfl (by decide) ?_
                have lp97 : ∀ c6 : Nat, c6 ≤ n → ∀ B6 : Nat → Int, (∀ z : Nat, z < c6 → B6 z = S z) → fwWP mX12_shapeOf (d + 6) 97 [some (aR 12 0), some (aI (n : Int)), some (aI (mSum (mGain (gg 4 0 1) (sbt (gg 17 0) S t) (gg 4 0 2) (gg 18 0)) (gg 5 0 3).toNat)), some (aI (t : Int)), some (aI (mSum (mGain (gg 4 0 1) (sbt (gg 17 0) S t) (gg 4 0 2) (gg 18 0)) (gg 5 0 3).toNat)), some (aI (c6 : Int))] [] (HH h A5 S B6) Q := by
                  refine fw_up (fun c6 hc6 ih97 => ?_)
                  intro B6 hB6
                  refine w_iload dX12_shapeOf_97 rfl ?_
                  refine w_iload_n dX12_shapeOf_99 rfl ?_
                  refine w_icmp_ge 123 dX12_shapeOf_100 (by decide) (by omega) (by omega) (fun c100 => ?_) (fun c100 => ?_)
                  · refine w_aload_n dX12_shapeOf_123 rfl ?_
                    refine w_iload_n dX12_shapeOf_124 rfl ?_
                    refine w_callV (d := d + 5) (S := []) [aI (n : Int)] dX12_shapeOf_125 ml_X12_339 ok_X12_nextRow vi_X12_nextRow rfl rfl (by decide) rfl (Nat.le_of_ble_eq_true rfl) ?_
                    have hsR : shR (sP (mGt gg) (fun z => (S z).toNat) n 0 (gg 17 0) s).2 (mSum (mGain (gg 4 0 1) (sbt (gg 17 0) S t) (gg 4 0 2) (gg 18 0)) (gg 5 0 3).toNat) B6 n := (by rw [hW2]; exact shR_y hsr (by show mo < mSum (mGain (gg 4 0 1) (sbt (gg 17 0) S t) (gg 4 0 2) (gg 18 0)) (gg 5 0 3).toNat; omega) (fun z hz => by rw [hB6 z (by omega), hW1 z (Nat.zero_le _) (by omega)]; have := hS z (by omega); omega))
                    refine c_s_nextRow (d := (d + 4)) n J R hn (by omega) hS ⟨?_, ?_⟩
                    · intro S2 i2 hS2 hlt hi2 hne hmz hn1
                      have hlt2 : m3 S < m3 S2 := hlt
                      have hne : S i2 ≠ gg 4 0 1 - 1 := hne
                      have hmz : ∀ z : Nat, i2 < z → z < n → S z = gg 4 0 1 - 1 := hmz
                      have hn1 : ∀ z : Nat, z < n → S2 z = if z < i2 then S z else S i2 + 1 := hn1
                      rw [HH_44]
                      show fwWP mX12_shapeOf (d + 6) 128 [some (aR 12 0), some (aI (n : Int)), some (aI (mSum (mGain (gg 4 0 1) (sbt (gg 17 0) S t) (gg 4 0 2) (gg 18 0)) (gg 5 0 3).toNat)), some (aI (t : Int)), some (aI (mSum (mGain (gg 4 0 1) (sbt (gg 17 0) S t) (gg 4 0 2) (gg 18 0)) (gg 5 0 3).toNat)), some (aI (c6 : Int))] [aI 1] (HH h A5 S2 B6) Q
                      refine w_if_ne 28 dX12_shapeOf_128 (by decide) (by omega) (fun c128 => ?_) (fun c128 => ?_)
                      · refine w_drop [3, 4, 5] [some (aR 12 0), some (aI (n : Int)), some (aI (mSum (mGain (gg 4 0 1) (sbt (gg 17 0) S t) (gg 4 0 2) (gg 18 0)) (gg 5 0 3).toNat)), none, none, none] rfl ?_
                        exact ih28 (by omega) _ _ _ _ (sP (mGt gg) (fun z => (S z).toNat) n 0 (gg 17 0) s) (by omega) hA5 hS2 (by omega) hsR (by rw [← hts]; exact (tS_next (G := mGt gg) (nc := (gg 4 0 1).toNat) (S := fun z => (S z).toNat) (T := fun z => (S2 z).toNat) (i := i2) n 0 (gg 17 0) s (Nat.zero_le _) (by omega) (by show (S i2).toNat + 1 < (gg 4 0 1).toNat; have := hS i2 (by omega); omega) (fun z a b => by show (S z).toNat + 1 = (gg 4 0 1).toNat; have := hmz z a (by omega); have := hS z (by omega); omega) (fun z a => by show (S2 z).toNat = (S z).toNat; rw [hn1 z (by omega), if_pos a]) (fun z a b => by show (S2 z).toNat = (S i2).toNat + 1; rw [hn1 z (by omega), if_neg (by omega)]; have := hS i2 (by omega); omega)).symm)
                      · (exfalso; omega)
                    · intro hall
                      have hall : ∀ z : Nat, z < n → S z = gg 4 0 1 - 1 := hall
                      have hend : sP (mGt gg) (fun z => (S z).toNat) n 0 (gg 17 0) s = mShp gg n := by rw [← hts]; exact (tS_last _ _ _ _ (fun z a b => by show (S z).toNat + 1 = (gg 4 0 1).toNat; rw [hall z (by omega)]; omega)).symm
                      show fwWP mX12_shapeOf (d + 6) 128 [some (aR 12 0), some (aI (n : Int)), some (aI (mSum (mGain (gg 4 0 1) (sbt (gg 17 0) S t) (gg 4 0 2) (gg 18 0)) (gg 5 0 3).toNat)), some (aI (t : Int)), some (aI (mSum (mGain (gg 4 0 1) (sbt (gg 17 0) S t) (gg 4 0 2) (gg 18 0)) (gg 5 0 3).toNat)), some (aI (c6 : Int))] [aI 0] (HH h A5 S B6) Q
                      refine w_if_ne 28 dX12_shapeOf_128 (by decide) (by omega) (fun c128 => ?_) (fun c128 => ?_)
                      · (exfalso; omega)
                      · refine w_iload_n dX12_shapeOf_131 rfl ?_
                        exact w_iret dX12_shapeOf_132 rfl (k _ _ (by rw [← hend]; exact hsR) (by omega) (scr_uc (scr_uc (scr_uc (scr_rf hsh) rfl (by decide) (by decide) (by decide)) rfl (by decide) (by decide) (by decide)) rfl (by decide) (by decide) (by decide)))
                  · refine w_aload_n dX12_shapeOf_103 rfl ?_
                    refine w_getr 45 0 dX12_shapeOf_104 fl_X12_44 rfl (by decide) ?_
                    refine w_iload dX12_shapeOf_107 rfl ?_
                    refine w_aload_n dX12_shapeOf_109 rfl ?_
                    refine w_getr 44 0 dX12_shapeOf_110 fl_X12_41 rfl (by decide) ?_
                    refine w_iload dX12_shapeOf_113 rfl ?_
                    refine w_ialdE (v := S c6) dX12_shapeOf_115 rfl (by decide) (by omega) (by omega) (by rw [show ((c6 : Int) : Int).toNat = c6 by omega]; rfl) ?_
                    refine w_iast dX12_shapeOf_116 rfl (by decide) (by omega) (by omega) ?_
                    refine w_iinc [some (aR 12 0), some (aI (n : Int)), some (aI (mSum (mGain (gg 4 0 1) (sbt (gg 17 0) S t) (gg 4 0 2) (gg 18 0)) (gg 5 0 3).toNat)), some (aI (t : Int)), some (aI (mSum (mGain (gg 4 0 1) (sbt (gg 17 0) S t) (gg 4 0 2) (gg 18 0)) (gg 5 0 3).toNat)), some (aI ((c6 : Int) + 1))] dX12_shapeOf_117 rfl rfl (by decide) ?_
                    refine w_goto 97 dX12_shapeOf_120 (by decide) ?_
                    rw [HH_p45]
                    exact ih97 (by omega) _ (fun z hz => by unfold fwFu; exact (Decidable.em (z = c6)).elim (fun e => by rw [if_pos (by omega), e]) (fun e => by rw [if_neg (by omega)]; exact hB6 z (by omega)))
                exact lp97 0 (by omega) _ (fun z hz => absurd hz (Nat.not_lt_zero _))
              · refine w_goto 123 dX12_shapeOf_88 (by decide) ?_
                refine w_aload_n dX12_shapeOf_123 rfl ?_
                refine w_iload_n dX12_shapeOf_124 rfl ?_
                refine w_callV (d := d + 5) (S := []) [aI (n : Int)] dX12_shapeOf_125 ml_X12_339 ok_X12_nextRow vi_X12_nextRow rfl rfl (by decide) rfl (Nat.le_of_ble_eq_true rfl) ?_
                have hsR : shR (sP (mGt gg) (fun z => (S z).toNat) n 0 (gg 17 0) s).2 mo B n := (by rw [hW2]; exact shR_n hsr (show 0 ≤ mSum (mGain (gg 4 0 1) (sbt (gg 17 0) S t) (gg 4 0 2) (gg 18 0)) (gg 5 0 3).toNat by omega) (show mSum (mGain (gg 4 0 1) (sbt (gg 17 0) S t) (gg 4 0 2) (gg 18 0)) (gg 5 0 3).toNat ≤ mo by omega))
                refine c_s_nextRow (d := (d + 4)) n J R hn (by omega) hS ⟨?_, ?_⟩
                · intro S2 i2 hS2 hlt hi2 hne hmz hn1
                  have hlt2 : m3 S < m3 S2 := hlt
                  have hne : S i2 ≠ gg 4 0 1 - 1 := hne
                  have hmz : ∀ z : Nat, i2 < z → z < n → S z = gg 4 0 1 - 1 := hmz
                  have hn1 : ∀ z : Nat, z < n → S2 z = if z < i2 then S z else S i2 + 1 := hn1
                  rw [HH_44]
                  show fwWP mX12_shapeOf (d + 6) 128 [some (aR 12 0), some (aI (n : Int)), some (aI mo), some (aI (t : Int)), some (aI (mSum (mGain (gg 4 0 1) (sbt (gg 17 0) S t) (gg 4 0 2) (gg 18 0)) (gg 5 0 3).toNat)), some (aI (c5 : Int))] [aI 1] (HH h A5 S2 B) Q
                  refine w_if_ne 28 dX12_shapeOf_128 (by decide) (by omega) (fun c128 => ?_) (fun c128 => ?_)
                  · refine w_drop [3, 4, 5] [some (aR 12 0), some (aI (n : Int)), some (aI mo), none, none, none] rfl ?_
                    exact ih28 (by omega) _ _ _ _ (sP (mGt gg) (fun z => (S z).toNat) n 0 (gg 17 0) s) (by omega) hA5 hS2 (by omega) hsR (by rw [← hts]; exact (tS_next (G := mGt gg) (nc := (gg 4 0 1).toNat) (S := fun z => (S z).toNat) (T := fun z => (S2 z).toNat) (i := i2) n 0 (gg 17 0) s (Nat.zero_le _) (by omega) (by show (S i2).toNat + 1 < (gg 4 0 1).toNat; have := hS i2 (by omega); omega) (fun z a b => by show (S z).toNat + 1 = (gg 4 0 1).toNat; have := hmz z a (by omega); have := hS z (by omega); omega) (fun z a => by show (S2 z).toNat = (S z).toNat; rw [hn1 z (by omega), if_pos a]) (fun z a b => by show (S2 z).toNat = (S i2).toNat + 1; rw [hn1 z (by omega), if_neg (by omega)]; have := hS i2 (by omega); omega)).symm)
                  · (exfalso; omega)
                · intro hall
                  have hall : ∀ z : Nat, z < n → S z = gg 4 0 1 - 1 := hall
                  have hend : sP (mGt gg) (fun z => (S z).toNat) n 0 (gg 17 0) s = mShp gg n := by rw [← hts]; exact (tS_last _ _ _ _ (fun z a b => by show (S z).toNat + 1 = (gg 4 0 1).toNat; rw [hall z (by omega)]; omega)).symm
                  show fwWP mX12_shapeOf (d + 6) 128 [some (aR 12 0), some (aI (n : Int)), some (aI mo), some (aI (t : Int)), some (aI (mSum (mGain (gg 4 0 1) (sbt (gg 17 0) S t) (gg 4 0 2) (gg 18 0)) (gg 5 0 3).toNat)), some (aI (c5 : Int))] [aI 0] (HH h A5 S B) Q
                  refine w_if_ne 28 dX12_shapeOf_128 (by decide) (by omega) (fun c128 => ?_) (fun c128 => ?_)
                  · (exfalso; omega)
                  · refine w_iload_n dX12_shapeOf_131 rfl ?_
                    exact w_iret dX12_shapeOf_132 rfl (k _ _ (by rw [← hend]; exact hsR) (by omega) (scr_uc (scr_uc (scr_uc (scr_rf hsh) rfl (by decide) (by decide) (by decide)) rfl (by decide) (by decide) (by decide)) rfl (by decide) (by decide) (by decide)))
            · have hs5 := hS c5 (by omega)
              refine w_aload_n dX12_shapeOf_60 rfl ?_
              refine w_getr 42 0 dX12_shapeOf_61 fl_X12_34 rfl (by decide) ?_
              refine w_aload_n dX12_shapeOf_64 rfl ?_
              refine w_getr 44 0 dX12_shapeOf_65 fl_X12_41 rfl (by decide) ?_
              refine w_iload dX12_shapeOf_68 rfl ?_
              refine w_ialdE (v := S c5) dX12_shapeOf_70 rfl (by decide) (by omega) (by omega) (by rw [show ((c5 : Int) : Int).toNat = c5 by omega]; rfl) ?_
              refine w_dup2 dX12_shapeOf_71 rfl rfl ?_
              refine w_ialdE (v := A5 (S c5).toNat) dX12_shapeOf_72 rfl (by decide) (by omega) (by omega) rfl ?_
              refine w_iconst dX12_shapeOf_73 ?_
              refine w_iadd dX12_shapeOf_74 ?_
              refine w_iast dX12_shapeOf_75 rfl (by decide) (by omega) (by omega) ?_
              refine w_iinc [some (aR 12 0), some (aI (n : Int)), some (aI mo), some (aI (t : Int)), some (aI (mSum (mGain (gg 4 0 1) (sbt (gg 17 0) S t) (gg 4 0 2) (gg 18 0)) (gg 5 0 3).toNat)), some (aI ((c5 : Int) + 1))] dX12_shapeOf_76 rfl rfl (by decide) ?_
              refine w_goto 54 dX12_shapeOf_79 (by decide) ?_
              rw [HH_p42]
              exact ih54 (by omega) _ (by have := hiR_fu hA5 (S c5).toNat (A5 (S c5).toNat + 1); rw [hA5 (S c5).toNat (by omega)] at this ⊢; rw [rgv_s] at this; exact this)
          exact lp54 0 (by omega) _ (by rw [rgv_0]; exact hA1)
      rw [HH_in]
      exact lp28 0 (by omega) _ _ _ _ (gg 27 0, 0, gg 8 0 5, gg 28 0) (by omega) hA1_1 (fun i hi => by rw [hz0 i (by omega)]; omega) (by unfold m3; rw [hz0 0 (by omega), hz0 1 (by omega), hz0 2 (by omega)]; omega) (Or.inl ⟨rfl, rfl⟩) (tS_rep (f := 0) (by omega) _ _ _ _ (fun z a b => by show (_ : Int).toNat = 0; rw [hz0 z (by omega)]; rfl))
    · refine w_aload_n dX12_shapeOf_11 rfl ?_
      refine w_getr 44 0 dX12_shapeOf_12 fl_X12_41 rfl (by decide) ?_
      refine w_iload_n dX12_shapeOf_15 rfl ?_
      refine w_iconst dX12_shapeOf_16 ?_
      refine w_iast dX12_shapeOf_17 rfl (by decide) (by omega) (by omega) ?_
      refine w_iinc [some (aR 12 0), some (aI (n : Int)), some (aI ((c : Int) + 1)), none, none, none] dX12_shapeOf_18 rfl rfl (by decide) ?_
      refine w_goto 6 dX12_shapeOf_21 (by decide) ?_
      rw [fwUp_uc, Int.toNat_natCast]
      exact ih6 (by omega) _ _ (by omega) (fun z hz => by unfold fwFu; exact (Decidable.em (z = c)).elim (fun e => by rw [if_pos e]) (fun e => by rw [if_neg e]; exact hz0 z (by omega)))
  have e44 := fwUc_self (fwUc h 42 0 A1_1) 44 0
  rw [← e44]
  exact lp6 0 (by omega) _ _ rfl (fun z hz => absurd hz (by omega))
set_option maxRecDepth 100000 in
set_option maxHeartbeats 4000000 in
theorem c_X12_shape {d : Nat} {h gg : fwH} {Q : Option fwV → fwH → Prop} (x : Int) (J : cOk gg) (R : jF gg h) (K : jA gg h) (hsh : sc h) (hx : -2147483648 ≤ x ∧ x < 2147483648) (k : ∀ g, scr h g → Q (some (aI (an_shape gg x))) g) : fwCt mX12_shape (d + 7) [aR 12 0, aI x] h Q := by
  refine fwCt_of [some (aR 12 0), some (aI x), none] rfl rfl rfl ?_
  obtain ⟨hl, hP, hG, hM0, htd, hut, hlw, hhc, ha, hs, hT, hsc⟩ := id J
  have hb17 : hB (gg 17 0) := fun c hc => by have := hM0 c hc; omega
  obtain ⟨⟨g1, g2⟩, ⟨g3, g4⟩, ⟨g5, g6⟩, g7, -⟩ := id hG
  have h17_99 : ∀ c : Nat, (c : Int) < gg 4 0 1 → gg 17 0 c ≤ 99 := fun c hc => (hM0 c (by omega)).2
  have hpz := hP.1
  have hrs1 := R.2.2.2.2.2.2.2.2.2.2.2
  refine w_aload_n dX12_shape_0 rfl ?_
  refine w_callV (d := d + 6) (S := []) [] dX12_shape_1 ml_X12_73 ok_X12_isMount vi_X12_isMount rfl rfl (by decide) rfl (Nat.le_of_ble_eq_true rfl) ?_
  refine c_X12_isMount (d := (d + 6)) J R ?_
  show fwWP mX12_shape (d + 7) 4 [some (aR 12 0), some (aI x), none] [aI (fwB (0 < gg 3 0 6))] h Q
  refine w_ifB_eq 19 dX12_shape_4 (by decide) (fun c4 => ?_) (fun c4 => ?_)
  · refine w_bipush dX12_shape_19 rfl ?_
    exact w_iretE dX12_shape_21 rfl (by unfold an_shape; rw [if_neg (by omega)]) (k _ (scr_rf hsh))
  · refine w_iload_n dX12_shape_7 rfl ?_
    refine w_i2l dX12_shape_8 (by omega) ?_
    refine w_lconst (z := 0) dX12_shape_9 rfl ?_
    refine w_ldc2 (n := 3) dX12_shape_10 cs_X12_342 ?_
    refine w_callS (d := d + 6) (S := []) [aJ x, aJ 0, aJ 3] dX12_shape_13 ml_X12_65 ok_X12_in st_X12_in rfl (Nat.le_of_ble_eq_true rfl) ?_
    refine c_X12_in (d := (d + 6)) x 0 3 (by omega) (by omega) (by omega) ?_
    show fwWP mX12_shape (d + 7) 16 [some (aR 12 0), some (aI x), none] [aI (fwB (0 ≤ x ∧ x ≤ 3))] h Q
    refine w_ifB_ne 22 dX12_shape_16 (by decide) (fun c16 => ?_) (fun c16 => ?_)
    · obtain ⟨f, rfl⟩ : ∃ f : Nat, x = (f : Int) := ⟨x.toNat, by omega⟩
      refine w_aload_n dX12_shape_22 rfl ?_
      refine w_iload_n dX12_shape_23 rfl ?_
      refine w_callV (d := d + 6) (S := []) [aI (f : Int)] dX12_shape_24 ml_X12_344 ok_X12_shapeOf vi_X12_shapeOf rfl rfl (by decide) rfl (Nat.le_of_ble_eq_true rfl) ?_
      refine c_s_shapeOf (d := d) f J R K hsh (by omega) (by omega) ?_
      intro v3 g3 sr3 hv3 sg3
      show fwWP mX12_shape (d + 7) 27 [some (aR 12 0), some (aI (f : Int)), none] [aI v3] g3 Q
      have hfd := mShp_fd (h := gg) (n := f) (fun c hc => (hM0 c (by omega)).1) (by omega)
      have hbg := shp_bg J f
      refine w_istore_n [some (aR 12 0), some (aI (f : Int)), some (aI v3)] dX12_shape_27 rfl (by decide) ?_
      refine w_iload_n dX12_shape_28 rfl ?_
      refine w_ldcw (n := -1000000000) dX12_shape_29 cs_X12_335 ?_
      refine w_icmp_ne 40 dX12_shape_32 (by decide) (by omega) (by omega) (fun c32 => ?_) (fun c32 => ?_)
      · refine w_iload_n dX12_shape_40 rfl ?_
        exact w_iretE dX12_shape_41 rfl (by unfold an_shape; rw [if_pos (by have q1 := hfd.mp (by rcases sr3 with z | z; (exfalso; omega); exact z.1); omega), Int.toNat_natCast]; rcases sr3 with z | z; (exfalso; omega); exact z.2.1) (k _ sg3)
      · refine w_bipush dX12_shape_35 rfl ?_
        refine w_goto 41 dX12_shape_37 (by decide) ?_
        exact w_iretE dX12_shape_41 rfl (by unfold an_shape; rw [if_neg (fun q => by have q1 := hfd.mpr (by omega); rcases sr3 with z | z; exact q1 z.1; have := hbg.2; omega)]) (k _ sg3)
    · refine w_bipush dX12_shape_19 rfl ?_
      exact w_iretE dX12_shape_21 rfl (by unfold an_shape; rw [if_neg (by omega)]) (k _ (scr_rf hsh))
set_option maxRecDepth 100000 in
set_option maxHeartbeats 4000000 in
theorem c_X12_shaped {d : Nat} {h gg : fwH} {Q : Option fwV → fwH → Prop} (x : Int) (y : Int) (J : cOk gg) (R : jF gg h) (K : jA gg h) (hsh : sc h) (hx : -2147483648 ≤ x ∧ x < 2147483648) (hy : -2147483648 ≤ y ∧ y < 2147483648) (k : ∀ g, scr h g → Q (some (aI (an_shaped gg x y))) g) : fwCt mX12_shaped (d + 7) [aR 12 0, aI x, aI y] h Q := by
  refine fwCt_of [some (aR 12 0), some (aI x), some (aI y)] rfl rfl rfl ?_
  obtain ⟨hl, hP, hG, hM0, htd, hut, hlw, hhc, ha, hs, hT, hsc⟩ := id J
  have hb17 : hB (gg 17 0) := fun c hc => by have := hM0 c hc; omega
  obtain ⟨⟨g1, g2⟩, ⟨g3, g4⟩, ⟨g5, g6⟩, g7, -⟩ := id hG
  have h17_99 : ∀ c : Nat, (c : Int) < gg 4 0 1 → gg 17 0 c ≤ 99 := fun c hc => (hM0 c (by omega)).2
  have hpz := hP.1
  have hrs1 := R.2.2.2.2.2.2.2.2.2.2.2
  refine w_aload_n dX12_shaped_0 rfl ?_
  refine w_callV (d := d + 6) (S := []) [] dX12_shaped_1 ml_X12_73 ok_X12_isMount vi_X12_isMount rfl rfl (by decide) rfl (Nat.le_of_ble_eq_true rfl) ?_
  refine c_X12_isMount (d := (d + 6)) J R ?_
  show fwWP mX12_shaped (d + 7) 4 [some (aR 12 0), some (aI x), some (aI y)] [aI (fwB (0 < gg 3 0 6))] h Q
  refine w_ifB_eq 30 dX12_shaped_4 (by decide) (fun c4 => ?_) (fun c4 => ?_)
  · refine w_bipush dX12_shaped_30 rfl ?_
    exact w_iretE dX12_shaped_32 rfl (by unfold an_shaped; rw [if_neg (by omega)]) (k _ (scr_rf hsh))
  · refine w_iload_n dX12_shaped_7 rfl ?_
    refine w_i2l dX12_shaped_8 (by omega) ?_
    refine w_lconst (z := 0) dX12_shaped_9 rfl ?_
    refine w_ldc2 (n := 3) dX12_shaped_10 cs_X12_342 ?_
    refine w_callS (d := d + 6) (S := []) [aJ x, aJ 0, aJ 3] dX12_shaped_13 ml_X12_65 ok_X12_in st_X12_in rfl (Nat.le_of_ble_eq_true rfl) ?_
    refine c_X12_in (d := (d + 6)) x 0 3 (by omega) (by omega) (by omega) ?_
    show fwWP mX12_shaped (d + 7) 16 [some (aR 12 0), some (aI x), some (aI y)] [aI (fwB (0 ≤ x ∧ x ≤ 3))] h Q
    refine w_ifB_eq 30 dX12_shaped_16 (by decide) (fun c16 => ?_) (fun c16 => ?_)
    · refine w_bipush dX12_shaped_30 rfl ?_
      exact w_iretE dX12_shaped_32 rfl (by unfold an_shaped; rw [if_neg (by omega)]) (k _ (scr_rf hsh))
    · obtain ⟨f, rfl⟩ : ∃ f : Nat, x = (f : Int) := ⟨x.toNat, by omega⟩
      refine w_aload_n dX12_shaped_19 rfl ?_
      refine w_iload_n dX12_shaped_20 rfl ?_
      refine w_callV (d := d + 6) (S := []) [aI (f : Int)] dX12_shaped_21 ml_X12_344 ok_X12_shapeOf vi_X12_shapeOf rfl rfl (by decide) rfl (Nat.le_of_ble_eq_true rfl) ?_
      refine c_s_shapeOf (d := d) f J R K hsh (by omega) (by omega) ?_
      intro v3 g3 sr3 hv3 sg3
      show fwWP mX12_shaped (d + 7) 24 [some (aR 12 0), some (aI (f : Int)), some (aI y)] [aI v3] g3 Q
      have hfd := mShp_fd (h := gg) (n := f) (fun c hc => (hM0 c (by omega)).1) (by omega)
      have hbg := shp_bg J f
      refine w_ldcw (n := -1000000000) dX12_shaped_24 cs_X12_335 ?_
      refine w_icmp_ne 33 dX12_shaped_27 (by decide) (by omega) (by omega) (fun c27 => ?_) (fun c27 => ?_)
      · refine w_iload_n dX12_shaped_33 rfl ?_
        refine w_i2l dX12_shaped_34 (by omega) ?_
        refine w_lconst (z := 0) dX12_shaped_35 rfl ?_
        refine w_iload_n dX12_shaped_36 rfl ?_
        refine w_iconst dX12_shaped_37 ?_
        refine w_isub dX12_shaped_38 ?_
        refine w_i2l dX12_shaped_39 (by omega) ?_
        refine w_callS (d := d + 6) (S := []) [aJ y, aJ 0, aJ ((f : Int) - 1)] dX12_shaped_40 ml_X12_65 ok_X12_in st_X12_in rfl (Nat.le_of_ble_eq_true rfl) ?_
        refine c_X12_in (d := (d + 6)) y 0 ((f : Int) - 1) (by omega) (by omega) (by omega) ?_
        show fwWP mX12_shaped (d + 7) 43 [some (aR 12 0), some (aI (f : Int)), some (aI y)] [aI (fwB (0 ≤ y ∧ y ≤ ((f : Int) - 1)))] g3 Q
        refine w_ifB_eq 55 dX12_shaped_43 (by decide) (fun c43 => ?_) (fun c43 => ?_)
        · refine w_iconst dX12_shaped_55 ?_
          exact w_iretE dX12_shaped_56 rfl (by unfold an_shaped; rw [if_pos (by have q1 := hfd.mp (by rcases sr3 with z | z; (exfalso; omega); exact z.1); omega), if_neg (by omega)]) (k _ sg3)
        · refine w_aload_n dX12_shaped_46 rfl ?_
          refine w_getr 45 0 dX12_shaped_47 fl_X12_44 rfl (by decide) ?_
          refine w_iload_n dX12_shaped_50 rfl ?_
          refine w_ialdE (v := g3 45 0 ((y).toNat)) dX12_shaped_51 rfl (by decide) (by omega) (by omega) rfl ?_
          refine w_goto 56 dX12_shaped_52 (by decide) ?_
          exact w_iretE dX12_shaped_56 rfl (by unfold an_shaped; rw [if_pos (by have q1 := hfd.mp (by rcases sr3 with z | z; (exfalso; omega); exact z.1); omega), if_pos (by omega), Int.toNat_natCast]; rcases sr3 with z | z; (exfalso; omega); exact z.2.2 _ (by omega)) (k _ sg3)
      · refine w_bipush dX12_shaped_30 rfl ?_
        exact w_iretE dX12_shaped_32 rfl (by unfold an_shaped; rw [if_neg (fun q => by have q1 := hfd.mpr (by omega); rcases sr3 with z | z; exact q1 z.1; have := hbg.2; omega)]) (k _ sg3)
end
section
section PAIRSS
variable {d d2 : Nat} {e : fwH} {Q : Option fwV → fwH → Prop}
theorem prs_shape (I : jI e) (x : Int) (hx : -2147483648 ≤ x ∧ x < 2147483648) (k : ∀ v g1, prM mX12_shape (d2 + 7) [aI x] v g1 → Q (some (aI v)) g1) : fwCt mX11_shape (d + 10) [aR 0 0, aI x] e Q :=
  c_X11_shape x I.1 hx (fun g hg => k _ _ (fun Q2 k2 => c_X12_shape (gg := e) x I.1 (jF_g I hg) (jA_g I hg) hg.2.2 hx (fun g2 hg2 => k2 _ (jI_scr I (scr_tr hg hg2)))))
theorem prs_shaped (I : jI e) (x : Int) (y : Int) (hx : -2147483648 ≤ x ∧ x < 2147483648) (hy : -2147483648 ≤ y ∧ y < 2147483648) (k : ∀ v g1, prM mX12_shaped (d2 + 7) [aI x, aI y] v g1 → Q (some (aI v)) g1) : fwCt mX11_shaped (d + 10) [aR 0 0, aI x, aI y] e Q :=
  c_X11_shaped x y I.1 hx hy (fun g hg => k _ _ (fun Q2 k2 => c_X12_shaped (gg := e) x y I.1 (jF_g I hg) (jA_g I hg) hg.2.2 hx hy (fun g2 hg2 => k2 _ (jI_scr I (scr_tr hg hg2)))))
end PAIRSS
end
