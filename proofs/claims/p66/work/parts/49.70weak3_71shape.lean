section
def cnt (S : Nat → Int) : Nat → Nat → Int
  | 0, _ => 0
  | i + 1, z => cnt S i z + (if (S i).toNat = z then 1 else 0)
theorem cnt_0 (S : Nat → Int) (z : Nat) : ∀ i, 0 ≤ cnt S i z := by
  intro i
  induction i with
  | zero => exact Int.le_refl _
  | succ i ih => rw [cnt]; split <;> omega
def sbt (H S : Nat → Int) (i : Nat) : Nat → Int := fun z => H z - cnt S i z
def rgv (H S : Nat → Int) (t i : Nat) : Nat → Int := fun z => H z - cnt S t z + cnt S i z
theorem sbt_s (H S : Nat → Int) (i : Nat) : fwFu (sbt H S i) (S i).toNat (sbt H S i (S i).toNat - 1) = sbt H S (i + 1) := by
  funext z
  unfold fwFu sbt
  rw [cnt]
  by_cases e : z = (S i).toNat
  · rw [if_pos e, if_pos e.symm, e]; omega
  · rw [if_neg e, if_neg (fun q => e q.symm)]; omega
theorem rgv_s (H S : Nat → Int) (t i : Nat) : fwFu (rgv H S t i) (S i).toNat (rgv H S t i (S i).toNat + 1) = rgv H S t (i + 1) := by
  funext z
  unfold fwFu rgv
  rw [cnt]
  by_cases e : z = (S i).toNat
  · rw [if_pos e, if_pos e.symm, e]; omega
  · rw [if_neg e, if_neg (fun q => e q.symm)]; omega
theorem rgv_0 (H S : Nat → Int) (t : Nat) : rgv H S t 0 = sbt H S t := by
  funext z
  unfold rgv sbt
  rw [cnt]
  omega
theorem rgv_t (H S : Nat → Int) (t : Nat) : rgv H S t t = H := by
  funext z
  unfold rgv
  omega
theorem sbt_le (H S : Nat → Int) (i z : Nat) : sbt H S i z ≤ H z := by
  have := cnt_0 S z i
  unfold sbt
  omega
theorem sbt_nn {H S : Nat → Int} {i : Nat} (h : ∀ z : Nat, z < 10 → 0 ≤ sbt H S i z) (hp : 0 < sbt H S i (S i).toNat) : ∀ z : Nat, z < 10 → 0 ≤ sbt H S (i + 1) z := by
  intro z hz
  have := h z hz
  unfold sbt at this hp ⊢
  rw [cnt]
  split
  · rename_i e; rw [e] at hp; omega
  · omega
def sB (n : Int) (S : Nat → Int) : Prop := ∀ i : Nat, i < 3 → 0 ≤ S i ∧ S i < n
def m3 (S : Nat → Int) : Int := 100 * S 0 + 10 * S 1 + S 2
theorem m3_lt {S r : Nat → Int} {n i : Nat} {N : Int} (hn : n ≤ 3) (hi : i < n) (hN : N ≤ 10) (hS : sB N S) (hx : S i ≠ N - 1) (hm : ∀ z : Nat, i < z → z < n → S z = N - 1) (h1 : ∀ z : Nat, z < n → r z = if z < i then S z else S i + 1) (h2 : ∀ z : Nat, n ≤ z → r z = S z) : m3 S < m3 r ∧ sB N r := by
  have e : ∀ z : Nat, z < 3 → (z < i ∧ r z = S z) ∨ (i ≤ z ∧ z < n ∧ r z = S i + 1 ∧ (z = i ∨ S z = N - 1)) ∨ (n ≤ z ∧ r z = S z) := by
    intro z hz
    rcases Nat.lt_or_ge z n with q | q
    · have := h1 z q
      rcases Nat.lt_or_ge z i with p | p
      · rw [if_pos p] at this
        exact Or.inl ⟨p, this⟩
      · rw [if_neg (by omega)] at this
        rcases Nat.eq_or_lt_of_le p with u | u
        · exact Or.inr (Or.inl ⟨p, q, this, Or.inl u.symm⟩)
        · exact Or.inr (Or.inl ⟨p, q, this, Or.inr (hm z u q)⟩)
    · exact Or.inr (Or.inr ⟨q, h2 z q⟩)
  have b0 := hS 0 (by omega)
  have b1 := hS 1 (by omega)
  have b2 := hS 2 (by omega)
  have bi := hS i (by omega)
  have e0 := e 0 (by omega)
  have e1 := e 1 (by omega)
  have e2 := e 2 (by omega)
  unfold m3
  refine ⟨?_, fun z hz => ?_⟩
  · rcases (show i = 0 ∨ i = 1 ∨ i = 2 by omega) with rfl | rfl | rfl <;> omega
  · have ez := e z hz
    have bz := hS z hz
    omega
def HH (h : fwH) (A S B : Nat → Int) : fwH := fwUc (fwUc (fwUc h 42 0 A) 44 0 S) 45 0 B
theorem fwUc_cmm {h : fwH} {k k' : Nat} (A B : Nat → Int) (hk : k ≠ k') : fwUc (fwUc h k 0 A) k' 0 B = fwUc (fwUc h k' 0 B) k 0 A := by
  funext a b
  unfold fwUc
  by_cases e1 : a = k' ∧ b = 0
  · rw [if_pos e1, if_neg (fun z => hk (z.1.symm.trans e1.1)), if_pos e1]
  · rw [if_neg e1]
    by_cases e2 : a = k ∧ b = 0
    · rw [if_pos e2, if_pos e2]
    · rw [if_neg e2, if_neg e2, if_neg e1]
theorem HH_42 (h : fwH) (A S B C : Nat → Int) : fwUc (HH h A S B) 42 0 C = HH h C S B := by
  unfold HH
  rw [fwUc_cmm B C (show 45 ≠ 42 by decide), fwUc_cmm S C (show 44 ≠ 42 by decide), fwUc_uc]
theorem HH_44 (h : fwH) (A S B C : Nat → Int) : fwUc (HH h A S B) 44 0 C = HH h A C B := by
  unfold HH
  rw [fwUc_cmm B C (show 45 ≠ 44 by decide), fwUc_uc]
theorem HH_45 (h : fwH) (A S B C : Nat → Int) : fwUc (HH h A S B) 45 0 C = HH h A S C := by
  unfold HH
  rw [fwUc_uc]
theorem HH_in (h : fwH) (A S : Nat → Int) : fwUc (fwUc h 42 0 A) 44 0 S = HH h A S (h 45 0) := by
  unfold HH
  exact (fwUc_self _ 45 0).symm
theorem HH_p42 (h : fwH) (A S B : Nat → Int) (j : Nat) (x : Int) : fwUp (HH h A S B) 42 0 j x = HH h (fwFu A j x) S B := by
  rw [fwUp_fu, HH_42]
  rfl
theorem HH_p45 (h : fwH) (A S B : Nat → Int) (j : Nat) (x : Int) : fwUp (HH h A S B) 45 0 j x = HH h A S (fwFu B j x) := by
  rw [fwUp_fu, HH_45]
  rfl
set_option maxRecDepth 100000 in
set_option maxHeartbeats 4000000 in
theorem c_w_takeRow {d : Nat} {h gg : fwH} {Q : Option fwV → fwH → Prop} (n : Nat) (J : cOk gg) (R : jF gg h) (hn : n ≤ 3) (hH : hiR (gg 4 0 1) (h 42 0) (gg 17 0)) (hS : sB (gg 4 0 1) (h 44 0)) (k : ∀ (t : Nat) A, t ≤ n → hiR (gg 4 0 1) A (sbt (gg 17 0) (h 44 0) t) → (∀ z : Nat, z < 10 → 0 ≤ sbt (gg 17 0) (h 44 0) t z) → Q (some (aI (t : Int))) (fwUc h 42 0 A)) : fwCt mX12_takeRow (d + 1) [aR 12 0, aI (n : Int)] h Q := by
  refine fwCt_of [some (aR 12 0), some (aI (n : Int)), none] rfl rfl rfl ?_
  obtain ⟨hl, hP, hG, -, -, -, hlw, -, ha, hs, -, hsc⟩ := id J
  obtain ⟨⟨g1, g2⟩, ⟨g3, g4⟩, ⟨g5, g6⟩, g7, -⟩ := id hG
  have hpz := hP.1
  have hM9 := J.2.2.2.1
  have hH0 : hiR (gg 4 0 1) (h 42 0) (sbt (gg 17 0) (h 44 0) 0) := fun c hc => by rw [hH c hc]; unfold sbt; rw [cnt]; omega
  have hnn0 : ∀ z : Nat, z < 10 → 0 ≤ sbt (gg 17 0) (h 44 0) 0 z := fun z hz => by have := hM9 z hz; unfold sbt; rw [cnt]; omega
  refine w_iconst dX12_takeRow_0 ?_
  refine w_istore_n [some (aR 12 0), some (aI (n : Int)), some (aI 0)] dX12_takeRow_1 rfl (by decide) ?_
  have lp2 : ∀ c : Nat, c ≤ n → ∀ A : Nat → Int, hiR (gg 4 0 1) A (sbt (gg 17 0) (h 44 0) c) → (∀ z : Nat, z < 10 → 0 ≤ sbt (gg 17 0) (h 44 0) c z) → fwWP mX12_takeRow (d + 1) 2 [some (aR 12 0), some (aI (n : Int)), some (aI (c : Int))] [] (fwUc h 42 0 A) Q := by
    refine fw_up (fun c hc ih2 => ?_)
    intro A hA hnn
    refine w_iload_n dX12_takeRow_2 rfl ?_
    refine w_iload_n dX12_takeRow_3 rfl ?_
    refine w_icmp_ge 44 dX12_takeRow_4 (by decide) (by omega) (by omega) (fun c4 => ?_) (fun c4 => ?_)
    · refine w_iload_n dX12_takeRow_44 rfl ?_
      have ec : c = n := by omega
      subst ec
      exact w_iret dX12_takeRow_45 rfl (k c _ (by omega) hA hnn)
    · have hsc9 := hS c (by omega)
      have hx0 := hnn (h 44 0 c).toNat (by omega)
      have hx1 := sbt_le (gg 17 0) (h 44 0) c (h 44 0 c).toNat
      have hx2 := hM9 (h 44 0 c).toNat (by omega)
      refine w_aload_n dX12_takeRow_7 rfl ?_
      refine w_getr 42 0 dX12_takeRow_8 fl_X12_34 rfl (by decide) ?_
      refine w_aload_n dX12_takeRow_11 rfl ?_
      refine w_getr 44 0 dX12_takeRow_12 fl_X12_41 rfl (by decide) ?_
      refine w_iload_n dX12_takeRow_15 rfl ?_
      refine w_ialdE (v := h 44 0 c) dX12_takeRow_16 rfl (by decide) (by omega) (by omega) (by rw [show (c : Int).toNat = c by omega]; rfl) ?_
      refine w_ialdE (v := sbt (gg 17 0) (h 44 0) c (h 44 0 c).toNat) dX12_takeRow_17 rfl (by decide) (by omega) (by omega) (hA _ (by omega)) ?_
      refine w_if_ne 23 dX12_takeRow_18 (by decide) (by omega) (fun c18 => ?_) (fun c18 => ?_)
      · refine w_aload_n dX12_takeRow_23 rfl ?_
        refine w_getr 42 0 dX12_takeRow_24 fl_X12_34 rfl (by decide) ?_
        refine w_aload_n dX12_takeRow_27 rfl ?_
        refine w_getr 44 0 dX12_takeRow_28 fl_X12_41 rfl (by decide) ?_
        refine w_iload_n dX12_takeRow_31 rfl ?_
        refine w_ialdE (v := h 44 0 c) dX12_takeRow_32 rfl (by decide) (by omega) (by omega) (by rw [show (c : Int).toNat = c by omega]; rfl) ?_
        refine w_dup2 dX12_takeRow_33 rfl rfl ?_
        refine w_ialdE (v := sbt (gg 17 0) (h 44 0) c (h 44 0 c).toNat) dX12_takeRow_34 rfl (by decide) (by omega) (by omega) (hA _ (by omega)) ?_
        refine w_iconst dX12_takeRow_35 ?_
        refine w_isub dX12_takeRow_36 ?_
        refine w_iast dX12_takeRow_37 rfl (by decide) (by omega) (by omega) ?_
        refine w_iinc [some (aR 12 0), some (aI (n : Int)), some (aI ((c : Int) + 1))] dX12_takeRow_38 rfl rfl (by decide) ?_
        refine w_goto 2 dX12_takeRow_41 (by decide) ?_
        rw [fwUp_uc]
        exact ih2 (by omega) _ (by have := hiR_fu hA (h 44 0 c).toNat (sbt (gg 17 0) (h 44 0) c (h 44 0 c).toNat - 1); rw [sbt_s] at this; exact this) (sbt_nn hnn (by omega))
      · refine w_iload_n dX12_takeRow_21 rfl ?_
        exact w_iret dX12_takeRow_22 rfl (k c _ (by omega) hA hnn)
  have e0 : fwUc h 42 0 (h 42 0) = h := fwUc_self h 42 0
  rw [← e0]
  exact lp2 0 (by omega) _ hH0 hnn0
set_option maxRecDepth 100000 in
set_option maxHeartbeats 4000000 in
theorem c_w_nextRow {d : Nat} {h gg : fwH} {Q : Option fwV → fwH → Prop} (n : Nat) (J : cOk gg) (R : jF gg h) (hn : n ≤ 3) (hN : 1 ≤ gg 4 0 1) (hS : sB (gg 4 0 1) (h 44 0)) (k : (∀ S, sB (gg 4 0 1) S → m3 (h 44 0) < m3 S → Q (some (aI 1)) (fwUc h 44 0 S)) ∧ Q (some (aI 0)) h) : fwCt mX12_nextRow (d + 1) [aR 12 0, aI (n : Int)] h Q := by
  refine fwCt_of [some (aR 12 0), some (aI (n : Int)), none, none] rfl rfl rfl ?_
  obtain ⟨hl, hP, hG, -, -, -, hlw, -, ha, hs, -, hsc⟩ := id J
  obtain ⟨⟨g1, g2⟩, ⟨g3, g4⟩, ⟨g5, g6⟩, g7, -⟩ := id hG
  have hpz := hP.1
  refine w_iload_n dX12_nextRow_0 rfl ?_
  refine w_iconst dX12_nextRow_1 ?_
  refine w_isub dX12_nextRow_2 ?_
  refine w_istore_n [some (aR 12 0), some (aI (n : Int)), some (aI ((n : Int) - 1)), none] dX12_nextRow_3 rfl (by decide) ?_
  have lp4 : ∀ c : Nat, c ≤ n → ∀ y4 : Int, y4 = (n : Int) - 1 - (c : Int) → (∀ z : Nat, n - c ≤ z → z < n → h 44 0 z = gg 4 0 1 - 1) → fwWP mX12_nextRow (d + 1) 4 [some (aR 12 0), some (aI (n : Int)), some (aI y4), none] [] h Q := by
    refine fw_up (fun c hc ih4 => ?_)
    intro y4 ey4 hmx
    subst ey4
    show fwWP mX12_nextRow (d + 1) 4 [some (aR 12 0), some (aI (n : Int)), some (aI ((n : Int) - 1 - (c : Int))), none] [] h Q
    refine w_iload_n dX12_nextRow_4 rfl ?_
    refine w_if_lt 73 dX12_nextRow_5 (by decide) (by omega) (fun c5 => ?_) (fun c5 => ?_)
    · refine w_iconst dX12_nextRow_73 ?_
      exact w_zret dX12_nextRow_74 rfl (Or.inl rfl) k.2
    · obtain ⟨i, hi⟩ : ∃ i : Nat, i + 1 + c = n := ⟨n - 1 - c, by omega⟩
      have hsi := hS i (by omega)
      refine w_aload_n dX12_nextRow_8 rfl ?_
      refine w_getr 44 0 dX12_nextRow_9 fl_X12_41 rfl (by decide) ?_
      refine w_iload_n dX12_nextRow_12 rfl ?_
      refine w_ialdE (v := h 44 0 i) dX12_nextRow_13 rfl (by decide) (by omega) (by omega) (by rw [show ((n : Int) - 1 - (c : Int) : Int).toNat = i by omega]) ?_
      refine w_aload_n dX12_nextRow_14 rfl ?_
      refine w_getr 36 0 dX12_nextRow_15 fl_X12_9 rfl (by decide) ?_
      refine w_iconst dX12_nextRow_18 ?_
      refine w_ialdE (v := gg 4 0 1) dX12_nextRow_19 rfl (by decide) (by omega) (by omega) R.1 ?_
      refine w_iconst dX12_nextRow_20 ?_
      refine w_isub dX12_nextRow_21 ?_
      refine w_icmp_ne 28 dX12_nextRow_22 (by decide) (by omega) (by omega) (fun c22 => ?_) (fun c22 => ?_)
      · refine w_aload_n dX12_nextRow_28 rfl ?_
        refine w_getr 44 0 dX12_nextRow_29 fl_X12_41 rfl (by decide) ?_
        refine w_iload_n dX12_nextRow_32 rfl ?_
        refine w_dup2 dX12_nextRow_33 rfl rfl ?_
        refine w_ialdE (v := h 44 0 i) dX12_nextRow_34 rfl (by decide) (by omega) (by omega) (by rw [show ((n : Int) - 1 - (c : Int) : Int).toNat = i by omega]) ?_
        refine w_iconst dX12_nextRow_35 ?_
        refine w_iadd dX12_nextRow_36 ?_
        refine w_iast dX12_nextRow_37 rfl (by decide) (by omega) (by omega) ?_
        refine w_iload_n dX12_nextRow_38 rfl ?_
        refine w_iconst dX12_nextRow_39 ?_
        refine w_iadd dX12_nextRow_40 ?_
        refine w_istore_n [some (aR 12 0), some (aI (n : Int)), some (aI ((n : Int) - 1 - (c : Int))), some (aI (((n : Int) - 1 - (c : Int)) + 1))] dX12_nextRow_41 rfl (by decide) ?_
        have lp42 : ∀ c2 : Nat, c2 ≤ n - (i + 1) → ∀ (y42 : Int) (r : Nat → Int), y42 = ((n : Int) - 1 - (c : Int)) + 1 + (c2 : Int) → (∀ z : Nat, z < i + 1 + c2 → r z = if z < i then h 44 0 z else h 44 0 i + 1) → (∀ z : Nat, i + 1 + c2 ≤ z → r z = h 44 0 z) → fwWP mX12_nextRow (d + 1) 42 [some (aR 12 0), some (aI (n : Int)), some (aI ((n : Int) - 1 - (c : Int))), some (aI y42)] [] (fwUc h 44 0 r) Q := by
          refine fw_up (fun c2 hc2 ih42 => ?_)
          intro y42 r ey42 hr1 hr2
          subst ey42
          show fwWP mX12_nextRow (d + 1) 42 [some (aR 12 0), some (aI (n : Int)), some (aI ((n : Int) - 1 - (c : Int))), some (aI (((n : Int) - 1 - (c : Int)) + 1 + (c2 : Int)))] [] (fwUc h 44 0 r) Q
          refine w_iload_n dX12_nextRow_42 rfl ?_
          refine w_iload_n dX12_nextRow_43 rfl ?_
          refine w_icmp_ge 65 dX12_nextRow_44 (by decide) (by omega) (by omega) (fun c44 => ?_) (fun c44 => ?_)
          · refine w_iconst dX12_nextRow_65 ?_
            have hm := m3_lt (S := h 44 0) (r := r) (n := n) (i := i) (N := gg 4 0 1) hn (by omega) (by omega) hS c22 (fun z h1 h2 => hmx z (by omega) h2) (fun z hz => hr1 z (by omega)) (fun z hz => hr2 z (by omega))
            exact w_zret dX12_nextRow_66 rfl (Or.inr rfl) (k.1 r hm.2 hm.1)
          · refine w_aload_n dX12_nextRow_47 rfl ?_
            refine w_getr 44 0 dX12_nextRow_48 fl_X12_41 rfl (by decide) ?_
            refine w_iload_n dX12_nextRow_51 rfl ?_
            refine w_aload_n dX12_nextRow_52 rfl ?_
            refine w_getr 44 0 dX12_nextRow_53 fl_X12_41 rfl (by decide) ?_
            refine w_iload_n dX12_nextRow_56 rfl ?_
            refine w_ialdE (v := h 44 0 i + 1) dX12_nextRow_57 rfl (by decide) (by omega) (by omega) (by rw [show ((n : Int) - 1 - (c : Int) : Int).toNat = i by omega]; exact (hr1 i (by omega)).trans (if_neg (by omega))) ?_
            refine w_iast dX12_nextRow_58 rfl (by decide) (by omega) (by omega) ?_
            refine w_iinc [some (aR 12 0), some (aI (n : Int)), some (aI ((n : Int) - 1 - (c : Int))), some (aI ((((n : Int) - 1 - (c : Int)) + 1 + (c2 : Int)) + 1))] dX12_nextRow_59 rfl rfl (by decide) ?_
            refine w_goto 42 dX12_nextRow_62 (by decide) ?_
            rw [fwUp_uc, show ((((n : Int) - 1 - (c : Int)) + 1 + (c2 : Int)).toNat) = i + 1 + c2 by omega]
            exact ih42 (by omega) _ _ (by omega) (fun z hz => by unfold fwFu; exact (Decidable.em (z = i + 1 + c2)).elim (fun e => by rw [if_pos e, if_neg (by omega)]) (fun e => by rw [if_neg e]; exact hr1 z (by omega))) (fun z hz => by unfold fwFu; rw [if_neg (by omega)]; exact hr2 z (by omega))
        rw [show (((n : Int) - 1 - (c : Int)).toNat) = i by omega, fwUp_fu]
        exact lp42 0 (by omega) _ _ (by omega) (fun z hz => by unfold fwFu; exact (Decidable.em (z = i)).elim (fun e => by rw [if_pos e, if_neg (by omega)]) (fun e => by rw [if_neg e, if_pos (by omega)])) (fun z hz => by unfold fwFu; rw [if_neg (by omega)])
      · refine w_goto 67 dX12_nextRow_25 (by decide) ?_
        refine w_iinc [some (aR 12 0), some (aI (n : Int)), some (aI (((n : Int) - 1 - (c : Int)) + (-1))), none] dX12_nextRow_67 rfl rfl (by decide) ?_
        refine w_goto 4 dX12_nextRow_70 (by decide) ?_
        exact ih4 (by omega) _ (by omega) (fun z h1 h2 => (Nat.lt_or_ge i z).elim (fun q => hmx z (by omega) h2) (fun q => by rw [show z = i by omega]; omega))
  exact lp4 0 (by omega) _ (by omega) (fun z h1 h2 => absurd h2 (by omega))
end
section
set_option maxRecDepth 100000 in
set_option maxHeartbeats 4000000 in
theorem c_w_shapeOf {d : Nat} {h gg : fwH} {Q : Option fwV → fwH → Prop} (n : Nat) (J : cOk gg) (R : jF gg h) (K : jA gg h) (hsh : sc h) (hn : n ≤ 3) (hmt : 0 < gg 3 0 6) (k : ∀ v g, (-1000000000 ≤ v ∧ v ≤ 1000000000) → scr h g → Q (some (aI v)) g) : fwCt mX12_shapeOf (d + 6) [aR 12 0, aI (n : Int)] h Q := by
  refine fwCt_of [some (aR 12 0), some (aI (n : Int)), none, none, none, none] rfl rfl rfl ?_
  obtain ⟨hl, hP, hG, hM0, htd, hut, hlw, hhc, ha, hs, hT, hsc⟩ := id J
  have hb17 : hB (gg 17 0) := fun c hc => by have := hM0 c hc; omega
  obtain ⟨⟨g1, g2⟩, ⟨g3, g4⟩, ⟨g5, g6⟩, g7, -⟩ := id hG
  have h17_99 : ∀ c : Nat, (c : Int) < gg 4 0 1 → gg 17 0 c ≤ 99 := fun c hc => (hM0 c (by omega)).2
  have hpz := hP.1
  have hrs1 := R.2.2.2.2.2.2.2.2.2.2.2
  refine w_aload_n dX12_shapeOf_0 rfl ?_
  refine w_callV (d := d + 5) (S := []) [] dX12_shapeOf_1 ml_X12_240 ok_X12_asItIs vi_X12_asItIs rfl rfl (by decide) rfl (Nat.le_of_ble_eq_true rfl) ?_
  refine c_X12_asItIs (d := d) J R K (show 1 ≤ gg 4 0 1 by omega) (show 1 ≤ gg 4 0 3 by omega) ?_
  intro A1_1 hA1_1
  show fwWP mX12_shapeOf (d + 6) 4 [some (aR 12 0), some (aI (n : Int)), none, none, none, none] [] (fwUc h 42 0 A1_1) Q
  refine w_iconst dX12_shapeOf_4 ?_
  refine w_istore_n [some (aR 12 0), some (aI (n : Int)), some (aI 0), none, none, none] dX12_shapeOf_5 rfl (by decide) ?_
  have lp6 : ∀ c : Nat, c ≤ 3 → ∀ (y6 : Int) (r : Nat → Int), y6 = (c : Int) → (∀ z : Nat, z < c → r z = 0) → fwWP mX12_shapeOf (d + 6) 6 [some (aR 12 0), some (aI (n : Int)), some (aI y6), none, none, none] [] (fwUc (fwUc h 42 0 A1_1) 44 0 r) Q := by
    refine fw_up (fun c hc ih6 => ?_)
    intro y6 r ey6 hz0
    subst ey6
    show fwWP mX12_shapeOf (d + 6) 6 [some (aR 12 0), some (aI (n : Int)), some (aI (c : Int)), none, none, none] [] (fwUc (fwUc h 42 0 A1_1) 44 0 r) Q
    refine w_iload_n dX12_shapeOf_6 rfl ?_
    refine w_iconst dX12_shapeOf_7 ?_
    refine w_icmp_ge 24 dX12_shapeOf_8 (by decide) (by omega) (by omega) (fun c8 => ?_) (fun c8 => ?_)
    · refine w_ldcw (n := -1000000000) dX12_shapeOf_24 cs_X12_335 ?_
      refine w_istore_n [some (aR 12 0), some (aI (n : Int)), some (aI (-1000000000)), none, none, none] dX12_shapeOf_27 rfl (by decide) ?_
      have lp28 : ∀ c : Nat, c ≤ 1000 → ∀ (mo : Int) (A S B : Nat → Int), (-1000000000 ≤ mo ∧ mo ≤ 1000000000) → hiR (gg 4 0 1) A (gg 17 0) → sB (gg 4 0 1) S → (c : Int) ≤ m3 S → fwWP mX12_shapeOf (d + 6) 28 [some (aR 12 0), some (aI (n : Int)), some (aI mo), none, none, none] [] (HH h A S B) Q := by
        refine fw_up (fun c hc ih28 => ?_)
        intro mo A S B hmo hA hS hm
        have hm9 : m3 S ≤ 999 := by have q0 := hS 0 (by omega); have q1 := hS 1 (by omega); have q2 := hS 2 (by omega); unfold m3; omega
        refine w_aload_n dX12_shapeOf_28 rfl ?_
        refine w_iload_n dX12_shapeOf_29 rfl ?_
        refine w_callV (d := d + 5) (S := []) [aI (n : Int)] dX12_shapeOf_30 ml_X12_336 ok_X12_takeRow vi_X12_takeRow rfl rfl (by decide) rfl (Nat.le_of_ble_eq_true rfl) ?_
        refine c_w_takeRow (d := (d + 4)) n J R hn hA hS ?_
        intro t A1 ht hA1 hnn; rw [HH_42]
        show fwWP mX12_shapeOf (d + 6) 33 [some (aR 12 0), some (aI (n : Int)), some (aI mo), none, none, none] [aI (t : Int)] (HH h A1 S B) Q
        have hbt : hB (sbt (gg 17 0) S t) := fun z hz => ⟨hnn z hz, by have := sbt_le (gg 17 0) S t z; have := hM0 z hz; omega⟩
        refine w_istore_n [some (aR 12 0), some (aI (n : Int)), some (aI mo), some (aI (t : Int)), none, none] dX12_shapeOf_33 rfl (by decide) ?_
        refine w_iload_n dX12_shapeOf_34 rfl ?_
        refine w_iload_n dX12_shapeOf_35 rfl ?_
        refine w_icmp_ne 46 dX12_shapeOf_36 (by decide) (by omega) (by omega) (fun c36 => ?_) (fun c36 => ?_)
        · refine w_ldcw (n := -1000000000) dX12_shapeOf_46 cs_X12_335 ?_
          refine w_istore [some (aR 12 0), some (aI (n : Int)), some (aI mo), some (aI (t : Int)), some (aI (-1000000000)), none] dX12_shapeOf_49 rfl (by decide) ?_
          refine w_iconst dX12_shapeOf_51 ?_
          refine w_istore [some (aR 12 0), some (aI (n : Int)), some (aI mo), some (aI (t : Int)), some (aI (-1000000000)), some (aI 0)] dX12_shapeOf_52 rfl (by decide) ?_
          have lp54 : ∀ c5 : Nat, c5 ≤ t → ∀ A5 : Nat → Int, hiR (gg 4 0 1) A5 (rgv (gg 17 0) S t c5) → fwWP mX12_shapeOf (d + 6) 54 [some (aR 12 0), some (aI (n : Int)), some (aI mo), some (aI (t : Int)), some (aI (-1000000000)), some (aI (c5 : Int))] [] (HH h A5 S B) Q := by
            refine fw_up (fun c5 hc5 ih54 => ?_)
            intro A5 hA5
            refine w_iload dX12_shapeOf_54 rfl ?_
            refine w_iload_n dX12_shapeOf_56 rfl ?_
            refine w_icmp_ge 82 dX12_shapeOf_57 (by decide) (by omega) (by omega) (fun c57 => ?_) (fun c57 => ?_)
            · have ec5 : c5 = t := by omega
              rw [ec5, rgv_t] at hA5
              refine w_iload dX12_shapeOf_82 rfl ?_
              refine w_iload_n dX12_shapeOf_84 rfl ?_
              refine w_icmp_gt 91 dX12_shapeOf_85 (by decide) (by omega) (by omega) (fun c85 => ?_) (fun c85 => ?_)
              · refine w_iload dX12_shapeOf_91 rfl ?_
                refine w_istore_n [some (aR 12 0), some (aI (n : Int)), some (aI (-1000000000)), some (aI (t : Int)), some (aI (-1000000000)), some (aI (c5 : Int))] dX12_shapeOf_93 rfl (by decide) ?_
                refine w_iconst dX12_shapeOf_94 ?_
                refine w_istore [some (aR 12 0), some (aI (n : Int)), some (aI (-1000000000)), some (aI (t : Int)), some (aI (-1000000000)), some (aI 0)] dX12_shapeOf_95 rfl (by decide) ?_
                have lp97 : ∀ c6 : Nat, c6 ≤ n → ∀ B6 : Nat → Int, fwWP mX12_shapeOf (d + 6) 97 [some (aR 12 0), some (aI (n : Int)), some (aI (-1000000000)), some (aI (t : Int)), some (aI (-1000000000)), some (aI (c6 : Int))] [] (HH h A5 S B6) Q := by
                  refine fw_up (fun c6 hc6 ih97 => ?_)
                  intro B6
                  refine w_iload dX12_shapeOf_97 rfl ?_
                  refine w_iload_n dX12_shapeOf_99 rfl ?_
                  refine w_icmp_ge 123 dX12_shapeOf_100 (by decide) (by omega) (by omega) (fun c100 => ?_) (fun c100 => ?_)
                  · refine w_aload_n dX12_shapeOf_123 rfl ?_
                    refine w_iload_n dX12_shapeOf_124 rfl ?_
                    refine w_callV (d := d + 5) (S := []) [aI (n : Int)] dX12_shapeOf_125 ml_X12_339 ok_X12_nextRow vi_X12_nextRow rfl rfl (by decide) rfl (Nat.le_of_ble_eq_true rfl) ?_
                    refine c_w_nextRow (d := (d + 4)) n J R hn (by omega) hS ⟨?_, ?_⟩
                    · intro S2 hS2 hlt
                      have hlt2 : m3 S < m3 S2 := hlt
                      rw [HH_44]
                      show fwWP mX12_shapeOf (d + 6) 128 [some (aR 12 0), some (aI (n : Int)), some (aI (-1000000000)), some (aI (t : Int)), some (aI (-1000000000)), some (aI (c6 : Int))] [aI 1] (HH h A5 S2 B6) Q
                      refine w_if_ne 28 dX12_shapeOf_128 (by decide) (by omega) (fun c128 => ?_) (fun c128 => ?_)
                      · refine w_drop [3, 4, 5] [some (aR 12 0), some (aI (n : Int)), some (aI (-1000000000)), none, none, none] rfl ?_
                        exact ih28 (by omega) _ _ _ _ (by omega) hA5 hS2 (by omega)
                      · (exfalso; omega)
                    · show fwWP mX12_shapeOf (d + 6) 128 [some (aR 12 0), some (aI (n : Int)), some (aI (-1000000000)), some (aI (t : Int)), some (aI (-1000000000)), some (aI (c6 : Int))] [aI 0] (HH h A5 S B6) Q
                      refine w_if_ne 28 dX12_shapeOf_128 (by decide) (by omega) (fun c128 => ?_) (fun c128 => ?_)
                      · (exfalso; omega)
                      · refine w_iload_n dX12_shapeOf_131 rfl ?_
                        exact w_iret dX12_shapeOf_132 rfl (k _ _ (by omega) (scr_uc (scr_uc (scr_uc (scr_rf hsh) rfl (by decide) (by decide) (by decide)) rfl (by decide) (by decide) (by decide)) rfl (by decide) (by decide) (by decide)))
                  · refine w_aload_n dX12_shapeOf_103 rfl ?_
                    refine w_getr 45 0 dX12_shapeOf_104 fl_X12_44 rfl (by decide) ?_
                    refine w_iload dX12_shapeOf_107 rfl ?_
                    refine w_aload_n dX12_shapeOf_109 rfl ?_
                    refine w_getr 44 0 dX12_shapeOf_110 fl_X12_41 rfl (by decide) ?_
                    refine w_iload dX12_shapeOf_113 rfl ?_
                    refine w_ialdE (v := S c6) dX12_shapeOf_115 rfl (by decide) (by omega) (by omega) (by rw [show ((c6 : Int) : Int).toNat = c6 by omega]; rfl) ?_
                    refine w_iast dX12_shapeOf_116 rfl (by decide) (by omega) (by omega) ?_
                    refine w_iinc [some (aR 12 0), some (aI (n : Int)), some (aI (-1000000000)), some (aI (t : Int)), some (aI (-1000000000)), some (aI ((c6 : Int) + 1))] dX12_shapeOf_117 rfl rfl (by decide) ?_
                    refine w_goto 97 dX12_shapeOf_120 (by decide) ?_
                    rw [HH_p45]
                    exact ih97 (by omega) _
                exact lp97 0 (by omega) _
              · refine w_goto 123 dX12_shapeOf_88 (by decide) ?_
                refine w_aload_n dX12_shapeOf_123 rfl ?_
                refine w_iload_n dX12_shapeOf_124 rfl ?_
                refine w_callV (d := d + 5) (S := []) [aI (n : Int)] dX12_shapeOf_125 ml_X12_339 ok_X12_nextRow vi_X12_nextRow rfl rfl (by decide) rfl (Nat.le_of_ble_eq_true rfl) ?_
                refine c_w_nextRow (d := (d + 4)) n J R hn (by omega) hS ⟨?_, ?_⟩
                · intro S2 hS2 hlt
                  have hlt2 : m3 S < m3 S2 := hlt
                  rw [HH_44]
                  show fwWP mX12_shapeOf (d + 6) 128 [some (aR 12 0), some (aI (n : Int)), some (aI mo), some (aI (t : Int)), some (aI (-1000000000)), some (aI (c5 : Int))] [aI 1] (HH h A5 S2 B) Q
                  refine w_if_ne 28 dX12_shapeOf_128 (by decide) (by omega) (fun c128 => ?_) (fun c128 => ?_)
                  · refine w_drop [3, 4, 5] [some (aR 12 0), some (aI (n : Int)), some (aI mo), none, none, none] rfl ?_
                    exact ih28 (by omega) _ _ _ _ (by omega) hA5 hS2 (by omega)
                  · (exfalso; omega)
                · show fwWP mX12_shapeOf (d + 6) 128 [some (aR 12 0), some (aI (n : Int)), some (aI mo), some (aI (t : Int)), some (aI (-1000000000)), some (aI (c5 : Int))] [aI 0] (HH h A5 S B) Q
                  refine w_if_ne 28 dX12_shapeOf_128 (by decide) (by omega) (fun c128 => ?_) (fun c128 => ?_)
                  · (exfalso; omega)
                  · refine w_iload_n dX12_shapeOf_131 rfl ?_
                    exact w_iret dX12_shapeOf_132 rfl (k _ _ (by omega) (scr_uc (scr_uc (scr_uc (scr_rf hsh) rfl (by decide) (by decide) (by decide)) rfl (by decide) (by decide) (by decide)) rfl (by decide) (by decide) (by decide)))
            · have hs5 := hS c5 (by omega)
              refine w_aload_n dX12_shapeOf_60 rfl ?_
              refine w_getr 42 0 dX12_shapeOf_61 fl_X12_34 rfl (by decide) ?_
              refine w_aload_n dX12_shapeOf_64 rfl ?_
              refine w_getr 44 0 dX12_shapeOf_65 fl_X12_41 rfl (by decide) ?_
              refine w_iload dX12_shapeOf_68 rfl ?_
              refine w_ialdE (v := S c5) dX12_shapeOf_70 rfl (by decide) (by omega) (by omega) (by rw [show ((c5 : Int) : Int).toNat = c5 by omega]; rfl) ?_
              refine w_dup2 dX12_shapeOf_71 rfl rfl ?_
              refine w_ialdE (v := A5 (S c5).toNat) dX12_shapeOf_72 rfl (by decide) (by omega) (by omega) rfl ?_
              refine w_iconst dX12_shapeOf_73 ?_
              refine w_iadd dX12_shapeOf_74 ?_
              refine w_iast dX12_shapeOf_75 rfl (by decide) (by omega) (by omega) ?_
              refine w_iinc [some (aR 12 0), some (aI (n : Int)), some (aI mo), some (aI (t : Int)), some (aI (-1000000000)), some (aI ((c5 : Int) + 1))] dX12_shapeOf_76 rfl rfl (by decide) ?_
              refine w_goto 54 dX12_shapeOf_79 (by decide) ?_
              rw [HH_p42]
              exact ih54 (by omega) _ (by have := hiR_fu hA5 (S c5).toNat (A5 (S c5).toNat + 1); rw [hA5 (S c5).toNat (by omega)] at this ⊢; rw [rgv_s] at this; exact this)
          exact lp54 0 (by omega) _ (by rw [rgv_0]; exact hA1)
        · refine w_aload_n dX12_shapeOf_39 rfl ?_
          refine w_callV (d := d + 5) (S := []) [] dX12_shapeOf_40 ml_X12_251 ok_X12_gainOfAll vi_X12_gainOfAll rfl rfl (by decide) rfl (Nat.le_of_ble_eq_true rfl) ?_
          refine c_X12_gainOfAll (d := d) (sbt (gg 17 0) S t) J R hA1 hbt (by omega) ?_
          show fwWP mX12_shapeOf (d + 6) 43 [some (aR 12 0), some (aI (n : Int)), some (aI mo), some (aI (t : Int)), none, none] [aI (mSum (mGain (gg 4 0 1) (sbt (gg 17 0) S t) (gg 4 0 2) (gg 18 0)) (gg 5 0 3).toNat)] (HH h A1 S B) Q
          have hga := mSum_r2 J hbt (gg 5 0 3).toNat (by omega)
          refine w_goto 49 dX12_shapeOf_43 (by decide) ?_
          refine w_istore [some (aR 12 0), some (aI (n : Int)), some (aI mo), some (aI (t : Int)), some (aI (mSum (mGain (gg 4 0 1) (sbt (gg 17 0) S t) (gg 4 0 2) (gg 18 0)) (gg 5 0 3).toNat)), none] dX12_shapeOf_49 rfl (by decide) ?_
          refine w_iconst dX12_shapeOf_51 ?_
          refine w_istore [some (aR 12 0), some (aI (n : Int)), some (aI mo), some (aI (t : Int)), some (aI (mSum (mGain (gg 4 0 1) (sbt (gg 17 0) S t) (gg 4 0 2) (gg 18 0)) (gg 5 0 3).toNat)), some (aI 0)] dX12_shapeOf_52 rfl (by decide) ?_
          have lp54 : ∀ c5 : Nat, c5 ≤ t → ∀ A5 : Nat → Int, hiR (gg 4 0 1) A5 (rgv (gg 17 0) S t c5) → fwWP mX12_shapeOf (d + 6) 54 [some (aR 12 0), some (aI (n : Int)), some (aI mo), some (aI (t : Int)), some (aI (mSum (mGain (gg 4 0 1) (sbt (gg 17 0) S t) (gg 4 0 2) (gg 18 0)) (gg 5 0 3).toNat)), some (aI (c5 : Int))] [] (HH h A5 S B) Q := by
            refine fw_up (fun c5 hc5 ih54 => ?_)
            intro A5 hA5
            refine w_iload dX12_shapeOf_54 rfl ?_
            refine w_iload_n dX12_shapeOf_56 rfl ?_
            refine w_icmp_ge 82 dX12_shapeOf_57 (by decide) (by omega) (by omega) (fun c57 => ?_) (fun c57 => ?_)
            · have ec5 : c5 = t := by omega
              rw [ec5, rgv_t] at hA5
              refine w_iload dX12_shapeOf_82 rfl ?_
              refine w_iload_n dX12_shapeOf_84 rfl ?_
              refine w_icmp_gt 91 dX12_shapeOf_85 (by decide) (by omega) (by omega) (fun c85 => ?_) (fun c85 => ?_)
              · refine w_iload dX12_shapeOf_91 rfl ?_
                refine w_istore_n [some (aR 12 0), some (aI (n : Int)), some (aI (mSum (mGain (gg 4 0 1) (sbt (gg 17 0) S t) (gg 4 0 2) (gg 18 0)) (gg 5 0 3).toNat)), some (aI (t : Int)), some (aI (mSum (mGain (gg 4 0 1) (sbt (gg 17 0) S t) (gg 4 0 2) (gg 18 0)) (gg 5 0 3).toNat)), some (aI (c5 : Int))] dX12_shapeOf_93 rfl (by decide) ?_
                refine w_iconst dX12_shapeOf_94 ?_
                refine w_istore [some (aR 12 0), some (aI (n : Int)), some (aI (mSum (mGain (gg 4 0 1) (sbt (gg 17 0) S t) (gg 4 0 2) (gg 18 0)) (gg 5 0 3).toNat)), some (aI (t : Int)), some (aI (mSum (mGain (gg 4 0 1) (sbt (gg 17 0) S t) (gg 4 0 2) (gg 18 0)) (gg 5 0 3).toNat)), some (aI 0)] dX12_shapeOf_95 rfl (by decide) ?_
                have lp97 : ∀ c6 : Nat, c6 ≤ n → ∀ B6 : Nat → Int, fwWP mX12_shapeOf (d + 6) 97 [some (aR 12 0), some (aI (n : Int)), some (aI (mSum (mGain (gg 4 0 1) (sbt (gg 17 0) S t) (gg 4 0 2) (gg 18 0)) (gg 5 0 3).toNat)), some (aI (t : Int)), some (aI (mSum (mGain (gg 4 0 1) (sbt (gg 17 0) S t) (gg 4 0 2) (gg 18 0)) (gg 5 0 3).toNat)), some (aI (c6 : Int))] [] (HH h A5 S B6) Q := by
                  refine fw_up (fun c6 hc6 ih97 => ?_)
                  intro B6
                  refine w_iload dX12_shapeOf_97 rfl ?_
                  refine w_iload_n dX12_shapeOf_99 rfl ?_
                  refine w_icmp_ge 123 dX12_shapeOf_100 (by decide) (by omega) (by omega) (fun c100 => ?_) (fun c100 => ?_)
                  · refine w_aload_n dX12_shapeOf_123 rfl ?_
                    refine w_iload_n dX12_shapeOf_124 rfl ?_
                    refine w_callV (d := d + 5) (S := []) [aI (n : Int)] dX12_shapeOf_125 ml_X12_339 ok_X12_nextRow vi_X12_nextRow rfl rfl (by decide) rfl (Nat.le_of_ble_eq_true rfl) ?_
                    refine c_w_nextRow (d := (d + 4)) n J R hn (by omega) hS ⟨?_, ?_⟩
                    · intro S2 hS2 hlt
                      have hlt2 : m3 S < m3 S2 := hlt
                      rw [HH_44]
                      show fwWP mX12_shapeOf (d + 6) 128 [some (aR 12 0), some (aI (n : Int)), some (aI (mSum (mGain (gg 4 0 1) (sbt (gg 17 0) S t) (gg 4 0 2) (gg 18 0)) (gg 5 0 3).toNat)), some (aI (t : Int)), some (aI (mSum (mGain (gg 4 0 1) (sbt (gg 17 0) S t) (gg 4 0 2) (gg 18 0)) (gg 5 0 3).toNat)), some (aI (c6 : Int))] [aI 1] (HH h A5 S2 B6) Q
                      refine w_if_ne 28 dX12_shapeOf_128 (by decide) (by omega) (fun c128 => ?_) (fun c128 => ?_)
                      · refine w_drop [3, 4, 5] [some (aR 12 0), some (aI (n : Int)), some (aI (mSum (mGain (gg 4 0 1) (sbt (gg 17 0) S t) (gg 4 0 2) (gg 18 0)) (gg 5 0 3).toNat)), none, none, none] rfl ?_
                        exact ih28 (by omega) _ _ _ _ (by omega) hA5 hS2 (by omega)
                      · (exfalso; omega)
                    · show fwWP mX12_shapeOf (d + 6) 128 [some (aR 12 0), some (aI (n : Int)), some (aI (mSum (mGain (gg 4 0 1) (sbt (gg 17 0) S t) (gg 4 0 2) (gg 18 0)) (gg 5 0 3).toNat)), some (aI (t : Int)), some (aI (mSum (mGain (gg 4 0 1) (sbt (gg 17 0) S t) (gg 4 0 2) (gg 18 0)) (gg 5 0 3).toNat)), some (aI (c6 : Int))] [aI 0] (HH h A5 S B6) Q
                      refine w_if_ne 28 dX12_shapeOf_128 (by decide) (by omega) (fun c128 => ?_) (fun c128 => ?_)
                      · (exfalso; omega)
                      · refine w_iload_n dX12_shapeOf_131 rfl ?_
                        exact w_iret dX12_shapeOf_132 rfl (k _ _ (by omega) (scr_uc (scr_uc (scr_uc (scr_rf hsh) rfl (by decide) (by decide) (by decide)) rfl (by decide) (by decide) (by decide)) rfl (by decide) (by decide) (by decide)))
                  · refine w_aload_n dX12_shapeOf_103 rfl ?_
                    refine w_getr 45 0 dX12_shapeOf_104 fl_X12_44 rfl (by decide) ?_
                    refine w_iload dX12_shapeOf_107 rfl ?_
                    refine w_aload_n dX12_shapeOf_109 rfl ?_
                    refine w_getr 44 0 dX12_shapeOf_110 fl_X12_41 rfl (by decide) ?_
                    refine w_iload dX12_shapeOf_113 rfl ?_
                    refine w_ialdE (v := S c6) dX12_shapeOf_115 rfl (by decide) (by omega) (by omega) (by rw [show ((c6 : Int) : Int).toNat = c6 by omega]; rfl) ?_
                    refine w_iast dX12_shapeOf_116 rfl (by decide) (by omega) (by omega) ?_
                    refine w_iinc [some (aR 12 0), some (aI (n : Int)), some (aI (mSum (mGain (gg 4 0 1) (sbt (gg 17 0) S t) (gg 4 0 2) (gg 18 0)) (gg 5 0 3).toNat)), some (aI (t : Int)), some (aI (mSum (mGain (gg 4 0 1) (sbt (gg 17 0) S t) (gg 4 0 2) (gg 18 0)) (gg 5 0 3).toNat)), some (aI ((c6 : Int) + 1))] dX12_shapeOf_117 rfl rfl (by decide) ?_
                    refine w_goto 97 dX12_shapeOf_120 (by decide) ?_
                    rw [HH_p45]
                    exact ih97 (by omega) _
                exact lp97 0 (by omega) _
              · refine w_goto 123 dX12_shapeOf_88 (by decide) ?_
                refine w_aload_n dX12_shapeOf_123 rfl ?_
                refine w_iload_n dX12_shapeOf_124 rfl ?_
                refine w_callV (d := d + 5) (S := []) [aI (n : Int)] dX12_shapeOf_125 ml_X12_339 ok_X12_nextRow vi_X12_nextRow rfl rfl (by decide) rfl (Nat.le_of_ble_eq_true rfl) ?_
                refine c_w_nextRow (d := (d + 4)) n J R hn (by omega) hS ⟨?_, ?_⟩
                · intro S2 hS2 hlt
                  have hlt2 : m3 S < m3 S2 := hlt
                  rw [HH_44]
                  show fwWP mX12_shapeOf (d + 6) 128 [some (aR 12 0), some (aI (n : Int)), some (aI mo), some (aI (t : Int)), some (aI (mSum (mGain (gg 4 0 1) (sbt (gg 17 0) S t) (gg 4 0 2) (gg 18 0)) (gg 5 0 3).toNat)), some (aI (c5 : Int))] [aI 1] (HH h A5 S2 B) Q
                  refine w_if_ne 28 dX12_shapeOf_128 (by decide) (by omega) (fun c128 => ?_) (fun c128 => ?_)
                  · refine w_drop [3, 4, 5] [some (aR 12 0), some (aI (n : Int)), some (aI mo), none, none, none] rfl ?_
                    exact ih28 (by omega) _ _ _ _ (by omega) hA5 hS2 (by omega)
                  · (exfalso; omega)
                · show fwWP mX12_shapeOf (d + 6) 128 [some (aR 12 0), some (aI (n : Int)), some (aI mo), some (aI (t : Int)), some (aI (mSum (mGain (gg 4 0 1) (sbt (gg 17 0) S t) (gg 4 0 2) (gg 18 0)) (gg 5 0 3).toNat)), some (aI (c5 : Int))] [aI 0] (HH h A5 S B) Q
                  refine w_if_ne 28 dX12_shapeOf_128 (by decide) (by omega) (fun c128 => ?_) (fun c128 => ?_)
                  · (exfalso; omega)
                  · refine w_iload_n dX12_shapeOf_131 rfl ?_
                    exact w_iret dX12_shapeOf_132 rfl (k _ _ (by omega) (scr_uc (scr_uc (scr_uc (scr_rf hsh) rfl (by decide) (by decide) (by decide)) rfl (by decide) (by decide) (by decide)) rfl (by decide) (by decide) (by decide)))
            · have hs5 := hS c5 (by omega)
              refine w_aload_n dX12_shapeOf_60 rfl ?_
              refine w_getr 42 0 dX12_shapeOf_61 fl_X12_34 rfl (by decide) ?_
              refine w_aload_n dX12_shapeOf_64 rfl ?_
              refine w_getr 44 0 dX12_shapeOf_65 fl_X12_41 rfl (by decide) ?_
              refine w_iload dX12_shapeOf_68 rfl ?_
              refine w_ialdE (v := S c5) dX12_shapeOf_70 rfl (by decide) (by omega) (by omega) (by rw [show ((c5 : Int) : Int).toNat = c5 by omega]; rfl) ?_
              refine w_dup2 dX12_shapeOf_71 rfl rfl ?_
              refine w_ialdE (v := A5 (S c5).toNat) dX12_shapeOf_72 rfl (by decide) (by omega) (by omega) rfl ?_
              refine w_iconst dX12_shapeOf_73 ?_
              refine w_iadd dX12_shapeOf_74 ?_
              refine w_iast dX12_shapeOf_75 rfl (by decide) (by omega) (by omega) ?_
              refine w_iinc [some (aR 12 0), some (aI (n : Int)), some (aI mo), some (aI (t : Int)), some (aI (mSum (mGain (gg 4 0 1) (sbt (gg 17 0) S t) (gg 4 0 2) (gg 18 0)) (gg 5 0 3).toNat)), some (aI ((c5 : Int) + 1))] dX12_shapeOf_76 rfl rfl (by decide) ?_
              refine w_goto 54 dX12_shapeOf_79 (by decide) ?_
              rw [HH_p42]
              exact ih54 (by omega) _ (by have := hiR_fu hA5 (S c5).toNat (A5 (S c5).toNat + 1); rw [hA5 (S c5).toNat (by omega)] at this ⊢; rw [rgv_s] at this; exact this)
          exact lp54 0 (by omega) _ (by rw [rgv_0]; exact hA1)
      rw [HH_in]
      exact lp28 0 (by omega) _ _ _ _ (by omega) hA1_1 (fun i hi => by rw [hz0 i (by omega)]; omega) (by unfold m3; rw [hz0 0 (by omega), hz0 1 (by omega), hz0 2 (by omega)]; omega)
    · refine w_aload_n dX12_shapeOf_11 rfl ?_
      refine w_getr 44 0 dX12_shapeOf_12 fl_X12_41 rfl (by decide) ?_
      refine w_iload_n dX12_shapeOf_15 rfl ?_
      refine w_iconst dX12_shapeOf_16 ?_
      refine w_iast dX12_shapeOf_17 rfl (by decide) (by omega) (by omega) ?_
      refine w_iinc [some (aR 12 0), some (aI (n : Int)), some (aI ((c : Int) + 1)), none, none, none] dX12_shapeOf_18 rfl rfl (by decide) ?_
      refine w_goto 6 dX12_shapeOf_21 (by decide) ?_
      rw [fwUp_uc, Int.toNat_natCast]
      exact ih6 (by omega) _ _ (by omega) (fun z hz => by unfold fwFu; exact (Decidable.em (z = c)).elim (fun e => by rw [if_pos e]) (fun e => by rw [if_neg e]; exact hz0 z (by omega)))
  have e44 := fwUc_self (fwUc h 42 0 A1_1) 44 0
  rw [← e44]
  exact lp6 0 (by omega) _ _ rfl (fun z hz => absurd hz (by omega))
theorem c_w_shapeE {d : Nat} {h gg : fwH} {Q : Option fwV → fwH → Prop} (x : Int) (J : cOk gg) (R : jF gg h) (K : jA gg h) (hsh : sc h) (hx : 0 ≤ x ∧ x ≤ 3) (hmt : 0 < gg 3 0 6) (k : ∀ v g, (-1000000000 ≤ v ∧ v ≤ 1000000000) → scr h g → Q (some (aI v)) g) : fwCt mX12_shapeOf (d + 6) [aR 12 0, aI x] h Q := by
  obtain ⟨n, rfl⟩ : ∃ n : Nat, x = (n : Int) := ⟨x.toNat, by omega⟩
  exact c_w_shapeOf n J R K hsh (by omega) hmt k
set_option maxRecDepth 100000 in
set_option maxHeartbeats 4000000 in
theorem c_w_shape {d : Nat} {h gg : fwH} {Q : Option fwV → fwH → Prop} (x : Int) (J : cOk gg) (R : jF gg h) (K : jA gg h) (hsh : sc h) (hx : -2147483648 ≤ x ∧ x < 2147483648) (k : ∀ v g, scr h g → Q (some (aI v)) g) : fwCt mX12_shape (d + 7) [aR 12 0, aI x] h Q := by
  refine fwCt_of [some (aR 12 0), some (aI x), none] rfl rfl rfl ?_
  obtain ⟨hl, hP, hG, hM0, htd, hut, hlw, hhc, ha, hs, hT, hsc⟩ := id J
  have hb17 : hB (gg 17 0) := fun c hc => by have := hM0 c hc; omega
  obtain ⟨⟨g1, g2⟩, ⟨g3, g4⟩, ⟨g5, g6⟩, g7, -⟩ := id hG
  have h17_99 : ∀ c : Nat, (c : Int) < gg 4 0 1 → gg 17 0 c ≤ 99 := fun c hc => (hM0 c (by omega)).2
  have hpz := hP.1
  have hrs1 := R.2.2.2.2.2.2.2.2.2.2.2
  refine w_aload_n dX12_shape_0 rfl ?_
  refine w_callV (d := d + 6) (S := []) [] dX12_shape_1 ml_X12_73 ok_X12_isMount vi_X12_isMount rfl rfl (by decide) rfl (Nat.le_of_ble_eq_true rfl) ?_
  refine c_X12_isMount (d := (d + 6)) J R ?_
  show fwWP mX12_shape (d + 7) 4 [some (aR 12 0), some (aI x), none] [aI (fwB (0 < gg 3 0 6))] h Q
  refine w_ifB_eq 19 dX12_shape_4 (by decide) (fun c4 => ?_) (fun c4 => ?_)
  · refine w_bipush dX12_shape_19 rfl ?_
    exact w_iret dX12_shape_21 rfl (k _ _ (scr_rf hsh))
  · refine w_iload_n dX12_shape_7 rfl ?_
    refine w_i2l dX12_shape_8 (by omega) ?_
    refine w_lconst (z := 0) dX12_shape_9 rfl ?_
    refine w_ldc2 (n := 3) dX12_shape_10 cs_X12_342 ?_
    refine w_callS (d := d + 6) (S := []) [aJ x, aJ 0, aJ 3] dX12_shape_13 ml_X12_65 ok_X12_in st_X12_in rfl (Nat.le_of_ble_eq_true rfl) ?_
    refine c_X12_in (d := (d + 6)) x 0 3 (by omega) (by omega) (by omega) ?_
    show fwWP mX12_shape (d + 7) 16 [some (aR 12 0), some (aI x), none] [aI (fwB (0 ≤ x ∧ x ≤ 3))] h Q
    refine w_ifB_ne 22 dX12_shape_16 (by decide) (fun c16 => ?_) (fun c16 => ?_)
    · refine w_aload_n dX12_shape_22 rfl ?_
      refine w_iload_n dX12_shape_23 rfl ?_
      refine w_callV (d := d + 6) (S := []) [aI x] dX12_shape_24 ml_X12_344 ok_X12_shapeOf vi_X12_shapeOf rfl rfl (by decide) rfl (Nat.le_of_ble_eq_true rfl) ?_
      refine c_w_shapeE (d := d) x J R K hsh (by omega) (by omega) ?_
      intro v3 g3 hv3 sg3
      show fwWP mX12_shape (d + 7) 27 [some (aR 12 0), some (aI x), none] [aI v3] g3 Q
      refine w_istore_n [some (aR 12 0), some (aI x), some (aI v3)] dX12_shape_27 rfl (by decide) ?_
      refine w_iload_n dX12_shape_28 rfl ?_
      refine w_ldcw (n := -1000000000) dX12_shape_29 cs_X12_335 ?_
      refine w_icmp_ne 40 dX12_shape_32 (by decide) (by omega) (by omega) (fun c32 => ?_) (fun c32 => ?_)
      · refine w_iload_n dX12_shape_40 rfl ?_
        exact w_iret dX12_shape_41 rfl (k _ _ (sg3))
      · refine w_bipush dX12_shape_35 rfl ?_
        refine w_goto 41 dX12_shape_37 (by decide) ?_
        exact w_iret dX12_shape_41 rfl (k _ _ (sg3))
    · refine w_bipush dX12_shape_19 rfl ?_
      exact w_iret dX12_shape_21 rfl (k _ _ (scr_rf hsh))
set_option maxRecDepth 100000 in
set_option maxHeartbeats 4000000 in
theorem c_w_shaped {d : Nat} {h gg : fwH} {Q : Option fwV → fwH → Prop} (x : Int) (y : Int) (J : cOk gg) (R : jF gg h) (K : jA gg h) (hsh : sc h) (hx : -2147483648 ≤ x ∧ x < 2147483648) (hy : -2147483648 ≤ y ∧ y < 2147483648) (k : ∀ v g, scr h g → Q (some (aI v)) g) : fwCt mX12_shaped (d + 7) [aR 12 0, aI x, aI y] h Q := by
  refine fwCt_of [some (aR 12 0), some (aI x), some (aI y)] rfl rfl rfl ?_
  obtain ⟨hl, hP, hG, hM0, htd, hut, hlw, hhc, ha, hs, hT, hsc⟩ := id J
  have hb17 : hB (gg 17 0) := fun c hc => by have := hM0 c hc; omega
  obtain ⟨⟨g1, g2⟩, ⟨g3, g4⟩, ⟨g5, g6⟩, g7, -⟩ := id hG
  have h17_99 : ∀ c : Nat, (c : Int) < gg 4 0 1 → gg 17 0 c ≤ 99 := fun c hc => (hM0 c (by omega)).2
  have hpz := hP.1
  have hrs1 := R.2.2.2.2.2.2.2.2.2.2.2
  refine w_aload_n dX12_shaped_0 rfl ?_
  refine w_callV (d := d + 6) (S := []) [] dX12_shaped_1 ml_X12_73 ok_X12_isMount vi_X12_isMount rfl rfl (by decide) rfl (Nat.le_of_ble_eq_true rfl) ?_
  refine c_X12_isMount (d := (d + 6)) J R ?_
  show fwWP mX12_shaped (d + 7) 4 [some (aR 12 0), some (aI x), some (aI y)] [aI (fwB (0 < gg 3 0 6))] h Q
  refine w_ifB_eq 30 dX12_shaped_4 (by decide) (fun c4 => ?_) (fun c4 => ?_)
  · refine w_bipush dX12_shaped_30 rfl ?_
    exact w_iret dX12_shaped_32 rfl (k _ _ (scr_rf hsh))
  · refine w_iload_n dX12_shaped_7 rfl ?_
    refine w_i2l dX12_shaped_8 (by omega) ?_
    refine w_lconst (z := 0) dX12_shaped_9 rfl ?_
    refine w_ldc2 (n := 3) dX12_shaped_10 cs_X12_342 ?_
    refine w_callS (d := d + 6) (S := []) [aJ x, aJ 0, aJ 3] dX12_shaped_13 ml_X12_65 ok_X12_in st_X12_in rfl (Nat.le_of_ble_eq_true rfl) ?_
    refine c_X12_in (d := (d + 6)) x 0 3 (by omega) (by omega) (by omega) ?_
    show fwWP mX12_shaped (d + 7) 16 [some (aR 12 0), some (aI x), some (aI y)] [aI (fwB (0 ≤ x ∧ x ≤ 3))] h Q
    refine w_ifB_eq 30 dX12_shaped_16 (by decide) (fun c16 => ?_) (fun c16 => ?_)
    · refine w_bipush dX12_shaped_30 rfl ?_
      exact w_iret dX12_shaped_32 rfl (k _ _ (scr_rf hsh))
    · refine w_aload_n dX12_shaped_19 rfl ?_
      refine w_iload_n dX12_shaped_20 rfl ?_
      refine w_callV (d := d + 6) (S := []) [aI x] dX12_shaped_21 ml_X12_344 ok_X12_shapeOf vi_X12_shapeOf rfl rfl (by decide) rfl (Nat.le_of_ble_eq_true rfl) ?_
      refine c_w_shapeE (d := d) x J R K hsh (by omega) (by omega) ?_
      intro v3 g3 hv3 sg3
      show fwWP mX12_shaped (d + 7) 24 [some (aR 12 0), some (aI x), some (aI y)] [aI v3] g3 Q
      refine w_ldcw (n := -1000000000) dX12_shaped_24 cs_X12_335 ?_
      refine w_icmp_ne 33 dX12_shaped_27 (by decide) (by omega) (by omega) (fun c27 => ?_) (fun c27 => ?_)
      · refine w_iload_n dX12_shaped_33 rfl ?_
        refine w_i2l dX12_shaped_34 (by omega) ?_
        refine w_lconst (z := 0) dX12_shaped_35 rfl ?_
        refine w_iload_n dX12_shaped_36 rfl ?_
        refine w_iconst dX12_shaped_37 ?_
        refine w_isub dX12_shaped_38 ?_
        refine w_i2l dX12_shaped_39 (by omega) ?_
        refine w_callS (d := d + 6) (S := []) [aJ y, aJ 0, aJ (x - 1)] dX12_shaped_40 ml_X12_65 ok_X12_in st_X12_in rfl (Nat.le_of_ble_eq_true rfl) ?_
        refine c_X12_in (d := (d + 6)) y 0 (x - 1) (by omega) (by omega) (by omega) ?_
        show fwWP mX12_shaped (d + 7) 43 [some (aR 12 0), some (aI x), some (aI y)] [aI (fwB (0 ≤ y ∧ y ≤ (x - 1)))] g3 Q
        refine w_ifB_eq 55 dX12_shaped_43 (by decide) (fun c43 => ?_) (fun c43 => ?_)
        · refine w_iconst dX12_shaped_55 ?_
          exact w_iret dX12_shaped_56 rfl (k _ _ (sg3))
        · refine w_aload_n dX12_shaped_46 rfl ?_
          refine w_getr 45 0 dX12_shaped_47 fl_X12_44 rfl (by decide) ?_
          refine w_iload_n dX12_shaped_50 rfl ?_
          refine w_iald dX12_shaped_51 rfl (by decide) (by omega) (by omega) ?_
          refine w_goto 56 dX12_shaped_52 (by decide) ?_
          exact w_iret dX12_shaped_56 rfl (k _ _ (sg3))
      · refine w_bipush dX12_shaped_30 rfl ?_
        exact w_iret dX12_shaped_32 rfl (k _ _ (sg3))
end
