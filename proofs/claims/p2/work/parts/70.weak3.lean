def cnt (S : Nat → Int) : Nat → Nat → Int
  | 0, _ => 0
  | i + 1, z => cnt S i z + (if (S i).toNat = z then 1 else 0)
theorem cnt_0 (S : Nat → Int) (z : Nat) : ∀ i, 0 ≤ cnt S i z := by
  intro i
  induction i with
  | zero => exact Int.le_refl _
  | succ i ih => rw [cnt]; split <;> omega
def sbt (H S : Nat → Int) (i : Nat) : Nat → Int := fun z => H z - cnt S i z
def rgv (H S : Nat → Int) (t i : Nat) : Nat → Int := fun z => H z - cnt S t z + cnt S i z
theorem sbt_s (H S : Nat → Int) (i : Nat) : fwFu (sbt H S i) (S i).toNat (sbt H S i (S i).toNat - 1) = sbt H S (i + 1) := by
  funext z
  unfold fwFu sbt
  rw [cnt]
  by_cases e : z = (S i).toNat
  · rw [if_pos e, if_pos e.symm, e]; omega
  · rw [if_neg e, if_neg (fun q => e q.symm)]; omega
theorem rgv_s (H S : Nat → Int) (t i : Nat) : fwFu (rgv H S t i) (S i).toNat (rgv H S t i (S i).toNat + 1) = rgv H S t (i + 1) := by
  funext z
  unfold fwFu rgv
  rw [cnt]
  by_cases e : z = (S i).toNat
  · rw [if_pos e, if_pos e.symm, e]; omega
  · rw [if_neg e, if_neg (fun q => e q.symm)]; omega
theorem rgv_0 (H S : Nat → Int) (t : Nat) : rgv H S t 0 = sbt H S t := by
  funext z
  unfold rgv sbt
  rw [cnt]
  omega
theorem rgv_t (H S : Nat → Int) (t : Nat) : rgv H S t t = H := by
  funext z
  unfold rgv
  omega
theorem sbt_le (H S : Nat → Int) (i z : Nat) : sbt H S i z ≤ H z := by
  have := cnt_0 S z i
  unfold sbt
  omega
theorem sbt_nn {H S : Nat → Int} {i : Nat} (h : ∀ z : Nat, z < 10 → 0 ≤ sbt H S i z) (hp : 0 < sbt H S i (S i).toNat) : ∀ z : Nat, z < 10 → 0 ≤ sbt H S (i + 1) z := by
  intro z hz
  have := h z hz
  unfold sbt at this hp ⊢
  rw [cnt]
  split
  · rename_i e; rw [e] at hp; omega
  · omega
def sB (n : Int) (S : Nat → Int) : Prop := ∀ i : Nat, i < 3 → 0 ≤ S i ∧ S i < n
def m3 (S : Nat → Int) : Int := 100 * S 0 + 10 * S 1 + S 2
theorem m3_lt {S r : Nat → Int} {n i : Nat} {N : Int} (hn : n ≤ 3) (hi : i < n) (hN : N ≤ 10) (hS : sB N S) (hx : S i ≠ N - 1) (hm : ∀ z : Nat, i < z → z < n → S z = N - 1) (h1 : ∀ z : Nat, z < n → r z = if z < i then S z else S i + 1) (h2 : ∀ z : Nat, n ≤ z → r z = S z) : m3 S < m3 r ∧ sB N r := by
  have e : ∀ z : Nat, z < 3 → (z < i ∧ r z = S z) ∨ (i ≤ z ∧ z < n ∧ r z = S i + 1 ∧ (z = i ∨ S z = N - 1)) ∨ (n ≤ z ∧ r z = S z) := by
    intro z hz
    rcases Nat.lt_or_ge z n with q | q
    · have := h1 z q
      rcases Nat.lt_or_ge z i with p | p
      · rw [if_pos p] at this
        exact Or.inl ⟨p, this⟩
      · rw [if_neg (by omega)] at this
        rcases Nat.eq_or_lt_of_le p with u | u
        · exact Or.inr (Or.inl ⟨p, q, this, Or.inl u.symm⟩)
        · exact Or.inr (Or.inl ⟨p, q, this, Or.inr (hm z u q)⟩)
    · exact Or.inr (Or.inr ⟨q, h2 z q⟩)
  have b0 := hS 0 (by omega)
  have b1 := hS 1 (by omega)
  have b2 := hS 2 (by omega)
  have bi := hS i (by omega)
  have e0 := e 0 (by omega)
  have e1 := e 1 (by omega)
  have e2 := e 2 (by omega)
  unfold m3
  refine ⟨?_, fun z hz => ?_⟩
  · rcases (show i = 0 ∨ i = 1 ∨ i = 2 by omega) with rfl | rfl | rfl <;> omega
  · have ez := e z hz
    have bz := hS z hz
    omega
def HH (h : fwH) (A S B : Nat → Int) : fwH := fwUc (fwUc (fwUc h 42 0 A) 44 0 S) 45 0 B
theorem fwUc_cmm {h : fwH} {k k' : Nat} (A B : Nat → Int) (hk : k ≠ k') : fwUc (fwUc h k 0 A) k' 0 B = fwUc (fwUc h k' 0 B) k 0 A := by
  funext a b
  unfold fwUc
  by_cases e1 : a = k' ∧ b = 0
  · rw [if_pos e1, if_neg (fun z => hk (z.1.symm.trans e1.1)), if_pos e1]
  · rw [if_neg e1]
    by_cases e2 : a = k ∧ b = 0
    · rw [if_pos e2, if_pos e2]
    · rw [if_neg e2, if_neg e2, if_neg e1]
theorem HH_42 (h : fwH) (A S B C : Nat → Int) : fwUc (HH h A S B) 42 0 C = HH h C S B := by
  unfold HH
  rw [fwUc_cmm B C (show 45 ≠ 42 by decide), fwUc_cmm S C (show 44 ≠ 42 by decide), fwUc_uc]
theorem HH_44 (h : fwH) (A S B C : Nat → Int) : fwUc (HH h A S B) 44 0 C = HH h A C B := by
  unfold HH
  rw [fwUc_cmm B C (show 45 ≠ 44 by decide), fwUc_uc]
theorem HH_45 (h : fwH) (A S B C : Nat → Int) : fwUc (HH h A S B) 45 0 C = HH h A S C := by
  unfold HH
  rw [fwUc_uc]
theorem HH_in (h : fwH) (A S : Nat → Int) : fwUc (fwUc h 42 0 A) 44 0 S = HH h A S (h 45 0) := by
  unfold HH
  exact (fwUc_self _ 45 0).symm
theorem HH_p42 (h : fwH) (A S B : Nat → Int) (j : Nat) (x : Int) : fwUp (HH h A S B) 42 0 j x = HH h (fwFu A j x) S B := by
  rw [fwUp_fu, HH_42]
  rfl
theorem HH_p45 (h : fwH) (A S B : Nat → Int) (j : Nat) (x : Int) : fwUp (HH h A S B) 45 0 j x = HH h A S (fwFu B j x) := by
  rw [fwUp_fu, HH_45]
  rfl
set_option maxRecDepth 100000 in
set_option maxHeartbeats 4000000 in
theorem c_w_takeRow {d : Nat} {h gg : fwH} {Q : Option fwV → fwH → Prop} (n : Nat) (J : cOk gg) (R : jF gg h) (hn : n ≤ 3) (hH : hiR (gg 4 0 1) (h 42 0) (gg 17 0)) (hS : sB (gg 4 0 1) (h 44 0)) (k : ∀ (t : Nat) A, t ≤ n → hiR (gg 4 0 1) A (sbt (gg 17 0) (h 44 0) t) → (∀ z : Nat, z < 10 → 0 ≤ sbt (gg 17 0) (h 44 0) t z) → Q (some (aI (t : Int))) (fwUc h 42 0 A)) : fwCt mX12_takeRow (d + 1) [aR 12 0, aI (n : Int)] h Q := by
  refine fwCt_of [some (aR 12 0), some (aI (n : Int)), none] rfl rfl rfl ?_
  obtain ⟨hl, hP, hG, -, -, -, hlw, -, ha, hs, -, hsc⟩ := id J
  obtain ⟨⟨g1, g2⟩, ⟨g3, g4⟩, ⟨g5, g6⟩, g7, -⟩ := id hG
  have hpz := hP.1
  have hM9 := J.2.2.2.1
  have hH0 : hiR (gg 4 0 1) (h 42 0) (sbt (gg 17 0) (h 44 0) 0) := fun c hc => by rw [hH c hc]; unfold sbt; rw [cnt]; omega
  have hnn0 : ∀ z : Nat, z < 10 → 0 ≤ sbt (gg 17 0) (h 44 0) 0 z := fun z hz => by have := hM9 z hz; unfold sbt; rw [cnt]; omega
  refine w_iconst dX12_takeRow_0 ?_
  refine w_istore_n [some (aR 12 0), some (aI (n : Int)), some (aI 0)] dX12_takeRow_1 rfl (by decide) ?_
  have lp2 : ∀ c : Nat, c ≤ n → ∀ A : Nat → Int, hiR (gg 4 0 1) A (sbt (gg 17 0) (h 44 0) c) → (∀ z : Nat, z < 10 → 0 ≤ sbt (gg 17 0) (h 44 0) c z) → fwWP mX12_takeRow (d + 1) 2 [some (aR 12 0), some (aI (n : Int)), some (aI (c : Int))] [] (fwUc h 42 0 A) Q := by
    refine fw_up (fun c hc ih2 => ?_)
    intro A hA hnn
    refine w_iload_n dX12_takeRow_2 rfl ?_
    refine w_iload_n dX12_takeRow_3 rfl ?_
    refine w_icmp_ge 44 dX12_takeRow_4 (by decide) (by omega) (by omega) (fun c4 => ?_) (fun c4 => ?_)
    · refine w_iload_n dX12_takeRow_44 rfl ?_
      have ec : c = n := by omega
      subst ec
      exact w_iret dX12_takeRow_45 rfl (k c _ (by omega) hA hnn)
    · have hsc9 := hS c (by omega)
      have hx0 := hnn (h 44 0 c).toNat (by omega)
      have hx1 := sbt_le (gg 17 0) (h 44 0) c (h 44 0 c).toNat
      have hx2 := hM9 (h 44 0 c).toNat (by omega)
      refine w_aload_n dX12_takeRow_7 rfl ?_
      refine w_getr 42 0 dX12_takeRow_8 fl_X12_34 rfl (by decide) ?_
      refine w_aload_n dX12_takeRow_11 rfl ?_
      refine w_getr 44 0 dX12_takeRow_12 fl_X12_41 rfl (by decide) ?_
      refine w_iload_n dX12_takeRow_15 rfl ?_
      refine w_ialdE (v := h 44 0 c) dX12_takeRow_16 rfl (by decide) (by omega) (by omega) (by rw [show (c : Int).toNat = c by omega]; rfl) ?_
      refine w_ialdE (v := sbt (gg 17 0) (h 44 0) c (h 44 0 c).toNat) dX12_takeRow_17 rfl (by decide) (by omega) (by omega) (hA _ (by omega)) ?_
      refine w_if_ne 23 dX12_takeRow_18 (by decide) (by omega) (fun c18 => ?_) (fun c18 => ?_)
      · refine w_aload_n dX12_takeRow_23 rfl ?_
        refine w_getr 42 0 dX12_takeRow_24 fl_X12_34 rfl (by decide) ?_
        refine w_aload_n dX12_takeRow_27 rfl ?_
        refine w_getr 44 0 dX12_takeRow_28 fl_X12_41 rfl (by decide) ?_
        refine w_iload_n dX12_takeRow_31 rfl ?_
        refine w_ialdE (v := h 44 0 c) dX12_takeRow_32 rfl (by decide) (by omega) (by omega) (by rw [show (c : Int).toNat = c by omega]; rfl) ?_
        refine w_dup2 dX12_takeRow_33 rfl rfl ?_
        refine w_ialdE (v := sbt (gg 17 0) (h 44 0) c (h 44 0 c).toNat) dX12_takeRow_34 rfl (by decide) (by omega) (by omega) (hA _ (by omega)) ?_
        refine w_iconst dX12_takeRow_35 ?_
        refine w_isub dX12_takeRow_36 ?_
        refine w_iast dX12_takeRow_37 rfl (by decide) (by omega) (by omega) ?_
        refine w_iinc [some (aR 12 0), some (aI (n : Int)), some (aI ((c : Int) + 1))] dX12_takeRow_38 rfl rfl (by decide) ?_
        refine w_goto 2 dX12_takeRow_41 (by decide) ?_
        rw [fwUp_uc]
        exact ih2 (by omega) _ (by have := hiR_fu hA (h 44 0 c).toNat (sbt (gg 17 0) (h 44 0) c (h 44 0 c).toNat - 1); rw [sbt_s] at this; exact this) (sbt_nn hnn (by omega))
      · refine w_iload_n dX12_takeRow_21 rfl ?_
        exact w_iret dX12_takeRow_22 rfl (k c _ (by omega) hA hnn)
  have e0 : fwUc h 42 0 (h 42 0) = h := fwUc_self h 42 0
  rw [← e0]
  exact lp2 0 (by omega) _ hH0 hnn0
set_option maxRecDepth 100000 in
set_option maxHeartbeats 4000000 in
theorem c_w_nextRow {d : Nat} {h gg : fwH} {Q : Option fwV → fwH → Prop} (n : Nat) (J : cOk gg) (R : jF gg h) (hn : n ≤ 3) (hN : 1 ≤ gg 4 0 1) (hS : sB (gg 4 0 1) (h 44 0)) (k : (∀ S, sB (gg 4 0 1) S → m3 (h 44 0) < m3 S → Q (some (aI 1)) (fwUc h 44 0 S)) ∧ Q (some (aI 0)) h) : fwCt mX12_nextRow (d + 1) [aR 12 0, aI (n : Int)] h Q := by
  refine fwCt_of [some (aR 12 0), some (aI (n : Int)), none, none] rfl rfl rfl ?_
  obtain ⟨hl, hP, hG, -, -, -, hlw, -, ha, hs, -, hsc⟩ := id J
  obtain ⟨⟨g1, g2⟩, ⟨g3, g4⟩, ⟨g5, g6⟩, g7, -⟩ := id hG
  have hpz := hP.1
  refine w_iload_n dX12_nextRow_0 rfl ?_
  refine w_iconst dX12_nextRow_1 ?_
  refine w_isub dX12_nextRow_2 ?_
  refine w_istore_n [some (aR 12 0), some (aI (n : Int)), some (aI ((n : Int) - 1)), none] dX12_nextRow_3 rfl (by decide) ?_
  have lp4 : ∀ c : Nat, c ≤ n → ∀ y4 : Int, y4 = (n : Int) - 1 - (c : Int) → (∀ z : Nat, n - c ≤ z → z < n → h 44 0 z = gg 4 0 1 - 1) → fwWP mX12_nextRow (d + 1) 4 [some (aR 12 0), some (aI (n : Int)), some (aI y4), none] [] h Q := by
    refine fw_up (fun c hc ih4 => ?_)
    intro y4 ey4 hmx
    subst ey4
    show fwWP mX12_nextRow (d + 1) 4 [some (aR 12 0), some (aI (n : Int)), some (aI ((n : Int) - 1 - (c : Int))), none] [] h Q
    refine w_iload_n dX12_nextRow_4 rfl ?_
    refine w_if_lt 73 dX12_nextRow_5 (by decide) (by omega) (fun c5 => ?_) (fun c5 => ?_)
    · refine w_iconst dX12_nextRow_73 ?_
      exact w_zret dX12_nextRow_74 rfl (Or.inl rfl) k.2
    · obtain ⟨i, hi⟩ : ∃ i : Nat, i + 1 + c = n := ⟨n - 1 - c, by omega⟩
      have hsi := hS i (by omega)
      refine w_aload_n dX12_nextRow_8 rfl ?_
      refine w_getr 44 0 dX12_nextRow_9 fl_X12_41 rfl (by decide) ?_
      refine w_iload_n dX12_nextRow_12 rfl ?_
      refine w_ialdE (v := h 44 0 i) dX12_nextRow_13 rfl (by decide) (by omega) (by omega) (by rw [show ((n : Int) - 1 - (c : Int) : Int).toNat = i by omega]) ?_
      refine w_aload_n dX12_nextRow_14 rfl ?_
      refine w_getr 36 0 dX12_nextRow_15 fl_X12_9 rfl (by decide) ?_
      refine w_iconst dX12_nextRow_18 ?_
      refine w_ialdE (v := gg 4 0 1) dX12_nextRow_19 rfl (by decide) (by omega) (by omega) R.1 ?_
      refine w_iconst dX12_nextRow_20 ?_
      refine w_isub dX12_nextRow_21 ?_
      refine w_icmp_ne 28 dX12_nextRow_22 (by decide) (by omega) (by omega) (fun c22 => ?_) (fun c22 => ?_)
      · refine w_aload_n dX12_nextRow_28 rfl ?_
        refine w_getr 44 0 dX12_nextRow_29 fl_X12_41 rfl (by decide) ?_
        refine w_iload_n dX12_nextRow_32 rfl ?_
        refine w_dup2 dX12_nextRow_33 rfl rfl ?_
        refine w_ialdE (v := h 44 0 i) dX12_nextRow_34 rfl (by decide) (by omega) (by omega) (by rw [show ((n : Int) - 1 - (c : Int) : Int).toNat = i by omega]) ?_
        refine w_iconst dX12_nextRow_35 ?_
        refine w_iadd dX12_nextRow_36 ?_
        refine w_iast dX12_nextRow_37 rfl (by decide) (by omega) (by omega) ?_
        refine w_iload_n dX12_nextRow_38 rfl ?_
        refine w_iconst dX12_nextRow_39 ?_
        refine w_iadd dX12_nextRow_40 ?_
        refine w_istore_n [some (aR 12 0), some (aI (n : Int)), some (aI ((n : Int) - 1 - (c : Int))), some (aI (((n : Int) - 1 - (c : Int)) + 1))] dX12_nextRow_41 rfl (by decide) ?_
        have lp42 : ∀ c2 : Nat, c2 ≤ n - (i + 1) → ∀ (y42 : Int) (r : Nat → Int), y42 = ((n : Int) - 1 - (c : Int)) + 1 + (c2 : Int) → (∀ z : Nat, z < i + 1 + c2 → r z = if z < i then h 44 0 z else h 44 0 i + 1) → (∀ z : Nat, i + 1 + c2 ≤ z → r z = h 44 0 z) → fwWP mX12_nextRow (d + 1) 42 [some (aR 12 0), some (aI (n : Int)), some (aI ((n : Int) - 1 - (c : Int))), some (aI y42)] [] (fwUc h 44 0 r) Q := by
          refine fw_up (fun c2 hc2 ih42 => ?_)
          intro y42 r ey42 hr1 hr2
          subst ey42
          show fwWP mX12_nextRow (d + 1) 42 [some (aR 12 0), some (aI (n : Int)), some (aI ((n : Int) - 1 - (c : Int))), some (aI (((n : Int) - 1 - (c : Int)) + 1 + (c2 : Int)))] [] (fwUc h 44 0 r) Q
          refine w_iload_n dX12_nextRow_42 rfl ?_
          refine w_iload_n dX12_nextRow_43 rfl ?_
          refine w_icmp_ge 65 dX12_nextRow_44 (by decide) (by omega) (by omega) (fun c44 => ?_) (fun c44 => ?_)
          · refine w_iconst dX12_nextRow_65 ?_
            have hm := m3_lt (S := h 44 0) (r := r) (n := n) (i := i) (N := gg 4 0 1) hn (by omega) (by omega) hS c22 (fun z h1 h2 => hmx z (by omega) h2) (fun z hz => hr1 z (by omega)) (fun z hz => hr2 z (by omega))
            exact w_zret dX12_nextRow_66 rfl (Or.inr rfl) (k.1 r hm.2 hm.1)
          · refine w_aload_n dX12_nextRow_47 rfl ?_
            refine w_getr 44 0 dX12_nextRow_48 fl_X12_41 rfl (by decide) ?_
            refine w_iload_n dX12_nextRow_51 rfl ?_
            refine w_aload_n dX12_nextRow_52 rfl ?_
            refine w_getr 44 0 dX12_nextRow_53 fl_X12_41 rfl (by decide) ?_
            refine w_iload_n dX12_nextRow_56 rfl ?_
            refine w_ialdE (v := h 44 0 i + 1) dX12_nextRow_57 rfl (by decide) (by omega) (by omega) (by rw [show ((n : Int) - 1 - (c : Int) : Int).toNat = i by omega]; exact (hr1 i (by omega)).trans (if_neg (by omega))) ?_
            refine w_iast dX12_nextRow_58 rfl (by decide) (by omega) (by omega) ?_
            refine w_iinc [some (aR 12 0), some (aI (n : Int)), some (aI ((n : Int) - 1 - (c : Int))), some (aI ((((n : Int) - 1 - (c : Int)) + 1 + (c2 : Int)) + 1))] dX12_nextRow_59 rfl rfl (by decide) ?_
            refine w_goto 42 dX12_nextRow_62 (by decide) ?_
            rw [fwUp_uc, show ((((n : Int) - 1 - (c : Int)) + 1 + (c2 : Int)).toNat) = i + 1 + c2 by omega]
            exact ih42 (by omega) _ _ (by omega) (fun z hz => by unfold fwFu; exact (Decidable.em (z = i + 1 + c2)).elim (fun e => by rw [if_pos e, if_neg (by omega)]) (fun e => by rw [if_neg e]; exact hr1 z (by omega))) (fun z hz => by unfold fwFu; rw [if_neg (by omega)]; exact hr2 z (by omega))
        rw [show (((n : Int) - 1 - (c : Int)).toNat) = i by omega, fwUp_fu]
        exact lp42 0 (by omega) _ _ (by omega) (fun z hz => by unfold fwFu; exact (Decidable.em (z = i)).elim (fun e => by rw [if_pos e, if_neg (by omega)]) (fun e => by rw [if_neg e, if_pos (by omega)])) (fun z hz => by unfold fwFu; rw [if_neg (by omega)])
      · refine w_goto 67 dX12_nextRow_25 (by decide) ?_
        refine w_iinc [some (aR 12 0), some (aI (n : Int)), some (aI (((n : Int) - 1 - (c : Int)) + (-1))), none] dX12_nextRow_67 rfl rfl (by decide) ?_
        refine w_goto 4 dX12_nextRow_70 (by decide) ?_
        exact ih4 (by omega) _ (by omega) (fun z h1 h2 => (Nat.lt_or_ge i z).elim (fun q => hmx z (by omega) h2) (fun q => by rw [show z = i by omega]; omega))
  exact lp4 0 (by omega) _ (by omega) (fun z h1 h2 => absurd h2 (by omega))
