theorem c_r_adv {d : Nat} {h gg : fwH} {Q : Option fwV → fwH → Prop} (i : Nat) (W : Nat → Int) (S : mSt gg (.inr (i, W)) h) (hK : cutH gg 14 0 i ≠ 0) (k : ∀ g, mSt gg (.inr (i + 1, W)) g → mFr h g → Q none g) : fwCt mX12_advance (d + 1) [aR 12 0] h Q := by
  have hr := mSt_r S
  have hi := (tk_kind S.1.1 hr.1).2.2.2.2.1 hK
  have hlt := ((cut_at S.1.1).1 i hi).2.2.2
  have hb : mBy gg (tokP (mBy gg) i) ≠ -1 := fun z => by have := mBy_m1.mp z; omega
  have h8 := hr.2.1.2.2.1
  rw [if_neg hb] at h8
  exact c_md_advance (mNxt (mBy gg) (tokP (mBy gg) i)) S.1 (mNxt_le hlt) h8 (fun A hA hk => k _ (mSt_adv S hi hA hk) (mFr_12 (mFr_rf h) A))
set_option maxRecDepth 100000 in
set_option maxHeartbeats 4000000 in
theorem c_f_takes {d : Nat} {h gg : fwH} {Q : Option fwV → fwH → Prop} (s : Nat) (e : Int × Nat) (S : mSt gg (.inl e) h) (hs : s < 26) (k : Q (some (aI 0)) h) : fwCt mX12_takes (d + 5) [aR 12 0, aR 50 s] h Q := by
  refine fwCt_of [some (aR 12 0), some (aR 50 s), none] rfl rfl rfl ?_
  obtain ⟨hl1, hl2, hl3, hl4⟩ := mSt_l S
  refine w_aload_n dX12_takes_0 rfl ?_
  refine w_aload_n dX12_takes_1 rfl ?_
  refine w_callV (d := d + 4) (S := []) [aR 50 s] dX12_takes_2 ml_X12_133 ok_X12_is vi_X12_is rfl rfl (by decide) rfl (Nat.le_of_ble_eq_true rfl) ?_
  refine c_f_is (d := d) s _ S (by omega) ?_
  show fwWP mX12_takes (d + 5) 5 [some (aR 12 0), some (aR 50 s), none] [aI 0] h Q
  refine w_istore_n [some (aR 12 0), some (aR 50 s), some (aI 0)] dX12_takes_5 rfl (by decide) ?_
  refine w_iload_n dX12_takes_6 rfl ?_
  refine w_if_eq 14 dX12_takes_7 (by decide) (by omega) (fun c7 => ?_) (fun c7 => ?_)
  · refine w_iload_n dX12_takes_14 rfl ?_
    exact w_zret dX12_takes_15 rfl (Or.inl rfl) k
  · (exfalso; omega)
set_option maxRecDepth 100000 in
set_option maxHeartbeats 4000000 in
theorem c_r_takes {d : Nat} {h gg : fwH} {Q : Option fwV → fwH → Prop} (s : Nat) (i : Nat) (W : Nat → Int) (S : mSt gg (.inr (i, W)) h) (hs : s < 13) (k : (cutH gg 14 0 i = (s : Int) + 4 → ∀ g, mSt gg (.inr (i + 1, W)) g → mFr h g → Q (some (aI 1)) g) ∧ (¬ (cutH gg 14 0 i = (s : Int) + 4) → Q (some (aI 0)) h)) : fwCt mX12_takes (d + 5) [aR 12 0, aR 50 (s + 13)] h Q := by
  refine fwCt_of [some (aR 12 0), some (aR 50 (s + 13)), none] rfl rfl rfl ?_
  obtain ⟨hz1, hz2⟩ := S.1.1
  obtain ⟨hr1, hr2, hr3, hr4, hr5⟩ := mSt_r S
  obtain ⟨hk1, hk2, hk3, hk4, hk5, hk6, hk7⟩ := tk_kind S.1.1 hr1
  refine w_aload_n dX12_takes_0 rfl ?_
  refine w_aload_n dX12_takes_1 rfl ?_
  refine w_callV (d := d + 4) (S := []) [aR 50 (s + 13)] dX12_takes_2 ml_X12_133 ok_X12_is vi_X12_is rfl rfl (by decide) rfl (Nat.le_of_ble_eq_true rfl) ?_
  refine c_r_is (d := d) s _ _ S (by omega) ?_
  show fwWP mX12_takes (d + 5) 5 [some (aR 12 0), some (aR 50 (s + 13)), none] [aI (fwB (cutH gg 14 0 i = ((s : Nat) : Int) + 4))] h Q
  refine w_istore_n [some (aR 12 0), some (aR 50 (s + 13)), some (aI (fwB (cutH gg 14 0 i = ((s : Nat) : Int) + 4)))] dX12_takes_5 rfl (by decide) ?_
  refine w_iload_n dX12_takes_6 rfl ?_
  refine w_ifB_eq 14 dX12_takes_7 (by decide) (fun c7 => ?_) (fun c7 => ?_)
  · refine w_iload_n dX12_takes_14 rfl ?_
    exact w_zretE (P := cutH gg 14 0 i = (s : Int) + 4) dX12_takes_15 rfl rfl (by rw [fwB_f c7]; exact k.2 c7)
  · refine w_aload_n dX12_takes_10 rfl ?_
    refine w_callV (d := d + 4) (S := []) [] dX12_takes_11 ml_X12_137 ok_X12_advance vi_X12_advance rfl rfl (by decide) rfl (Nat.le_of_ble_eq_true rfl) ?_
    refine c_r_adv (d := (d + 3)) _ _ S (by omega) ?_
    intro g1 S1 F1
    show fwWP mX12_takes (d + 5) 14 [some (aR 12 0), some (aR 50 (s + 13)), some (aI (fwB (cutH gg 14 0 i = ((s : Nat) : Int) + 4)))] [] g1 Q
    refine w_iload_n dX12_takes_14 rfl ?_
    exact w_zretE (P := cutH gg 14 0 i = (s : Int) + 4) dX12_takes_15 rfl rfl (by rw [fwB_t c7]; exact k.1 c7 _ S1 F1)
set_option maxRecDepth 100000 in
set_option maxHeartbeats 4000000 in
theorem c_f_needs {d : Nat} {h gg : fwH} {Q : Option fwV → fwH → Prop} (s : Nat) (e : Int × Nat) (S : mSt gg (.inl e) h) (hs : s < 26) (k : Q none h) : fwCt mX12_needs (d + 6) [aR 12 0, aR 50 s] h Q := by
  refine fwCt_of [some (aR 12 0), some (aR 50 s)] rfl rfl rfl ?_
  obtain ⟨hl1, hl2, hl3, hl4⟩ := mSt_l S
  refine w_aload_n dX12_needs_0 rfl ?_
  refine w_aload_n dX12_needs_1 rfl ?_
  refine w_callV (d := d + 5) (S := []) [aR 50 s] dX12_needs_2 ml_X12_140 ok_X12_takes vi_X12_takes rfl rfl (by decide) rfl (Nat.le_of_ble_eq_true rfl) ?_
  refine c_f_takes (d := d) s _ S (by omega) ?_
  show fwWP mX12_needs (d + 6) 5 [some (aR 12 0), some (aR 50 s)] [aI 0] h Q
  refine w_if_ne 13 dX12_needs_5 (by decide) (by omega) (fun c5 => ?_) (fun c5 => ?_)
  · (exfalso; omega)
  · refine w_aload_n dX12_needs_8 rfl ?_
    refine w_iconst dX12_needs_9 ?_
    refine w_callV (d := d + 5) (S := []) [aI 1] dX12_needs_10 ml_X12_143 ok_X12_errs vi_X12_errs rfl rfl (by decide) rfl (Nat.le_of_ble_eq_true rfl) ?_
    refine c_f_errs (d := (d + 4)) 1 _ S ?_
    show fwWP mX12_needs (d + 6) 13 [some (aR 12 0), some (aR 50 s)] [] h Q
    exact w_vret dX12_needs_13 rfl k
set_option maxRecDepth 100000 in
set_option maxHeartbeats 4000000 in
theorem c_r_needs {d : Nat} {h gg : fwH} {Q : Option fwV → fwH → Prop} (s : Nat) (i : Nat) (W : Nat → Int) (S : mSt gg (.inr (i, W)) h) (hs : s < 13) (k : (cutH gg 14 0 i = (s : Int) + 4 → ∀ g, mSt gg (.inr (i + 1, W)) g → mFr h g → Q none g) ∧ (¬ (cutH gg 14 0 i = (s : Int) + 4) → ∀ g, mSt gg (.inl (1, i)) g → mFr h g → Q none g)) : fwCt mX12_needs (d + 6) [aR 12 0, aR 50 (s + 13)] h Q := by
  refine fwCt_of [some (aR 12 0), some (aR 50 (s + 13))] rfl rfl rfl ?_
  obtain ⟨hz1, hz2⟩ := S.1.1
  obtain ⟨hr1, hr2, hr3, hr4, hr5⟩ := mSt_r S
  obtain ⟨hk1, hk2, hk3, hk4, hk5, hk6, hk7⟩ := tk_kind S.1.1 hr1
  refine w_aload_n dX12_needs_0 rfl ?_
  refine w_aload_n dX12_needs_1 rfl ?_
  refine w_callV (d := d + 5) (S := []) [aR 50 (s + 13)] dX12_needs_2 ml_X12_140 ok_X12_takes vi_X12_takes rfl rfl (by decide) rfl (Nat.le_of_ble_eq_true rfl) ?_
  refine c_r_takes (d := d) s _ _ S (by omega) ⟨?_, ?_⟩
  · intro cw2 g2 S2 F2
    show fwWP mX12_needs (d + 6) 5 [some (aR 12 0), some (aR 50 (s + 13))] [aI 1] g2 Q
    refine w_if_ne 13 dX12_needs_5 (by decide) (by omega) (fun c5 => ?_) (fun c5 => ?_)
    · exact w_vret dX12_needs_13 rfl (k.1 (by omega) _ S2 F2)
    · (exfalso; omega)
  · intro cw2
    show fwWP mX12_needs (d + 6) 5 [some (aR 12 0), some (aR 50 (s + 13))] [aI 0] h Q
    refine w_if_ne 13 dX12_needs_5 (by decide) (by omega) (fun c5 => ?_) (fun c5 => ?_)
    · (exfalso; omega)
    · refine w_aload_n dX12_needs_8 rfl ?_
      refine w_iconst dX12_needs_9 ?_
      refine w_callV (d := d + 5) (S := []) [aI 1] dX12_needs_10 ml_X12_143 ok_X12_errs vi_X12_errs rfl rfl (by decide) rfl (Nat.le_of_ble_eq_true rfl) ?_
      refine c_r_errs (d := (d + 4)) 1 _ _ S (by omega) ?_
      intro g3 S3 F3
      show fwWP mX12_needs (d + 6) 13 [some (aR 12 0), some (aR 50 (s + 13))] [] g3 Q
      exact w_vret dX12_needs_13 rfl (k.2 (by omega) _ S3 F3)
set_option maxRecDepth 100000 in
set_option maxHeartbeats 4000000 in
theorem c_f_number {d : Nat} {h gg : fwH} {Q : Option fwV → fwH → Prop} (lo hi : Int) (e : Int × Nat) (S : mSt gg (.inl e) h) (k : Q (some (aI 0)) h) : fwCt mX12_number (d + 2) [aR 12 0, aI lo, aI hi] h Q := by
  refine fwCt_of [some (aR 12 0), some (aI lo), some (aI hi), none] rfl rfl rfl ?_
  obtain ⟨hl1, hl2, hl3, hl4⟩ := mSt_l S
  refine w_aload_n dX12_number_0 rfl ?_
  refine w_callV (d := d + 1) (S := []) [] dX12_number_1 ml_X12_121 ok_X12_good vi_X12_good rfl rfl (by decide) rfl (Nat.le_of_ble_eq_true rfl) ?_
  refine c_f_good (d := (d + 1)) _ S ?_
  show fwWP mX12_number (d + 2) 4 [some (aR 12 0), some (aI lo), some (aI hi), none] [aI 0] h Q
  refine w_if_eq 20 dX12_number_4 (by decide) (by omega) (fun c4 => ?_) (fun c4 => ?_)
  · refine w_aload_n dX12_number_20 rfl ?_
    refine w_callV (d := d + 1) (S := []) [] dX12_number_21 ml_X12_121 ok_X12_good vi_X12_good rfl rfl (by decide) rfl (Nat.le_of_ble_eq_true rfl) ?_
    refine c_f_good (d := (d + 1)) _ S ?_
    show fwWP mX12_number (d + 2) 24 [some (aR 12 0), some (aI lo), some (aI hi), none] [aI 0] h Q
    refine w_if_eq 47 dX12_number_24 (by decide) (by omega) (fun c24 => ?_) (fun c24 => ?_)
    · refine w_aload_n dX12_number_47 rfl ?_
      refine w_callV (d := d + 1) (S := []) [] dX12_number_48 ml_X12_121 ok_X12_good vi_X12_good rfl rfl (by decide) rfl (Nat.le_of_ble_eq_true rfl) ?_
      refine c_f_good (d := (d + 1)) _ S ?_
      show fwWP mX12_number (d + 2) 51 [some (aR 12 0), some (aI lo), some (aI hi), none] [aI 0] h Q
      refine w_if_ne 56 dX12_number_51 (by decide) (by omega) (fun c51 => ?_) (fun c51 => ?_)
      · (exfalso; omega)
      · refine w_iconst dX12_number_54 ?_
        exact w_iret dX12_number_55 rfl k
    · (exfalso; omega)
  · (exfalso; omega)
set_option maxRecDepth 100000 in
set_option maxHeartbeats 4000000 in
theorem c_r_number {d : Nat} {h gg : fwH} {Q : Option fwV → fwH → Prop} (lo hi : Int) (i : Nat) (W : Nat → Int) (S : mSt gg (.inr (i, W)) h) (hlo : -1000 ≤ lo ∧ lo ≤ 1000) (hhi : -1000 ≤ hi ∧ hi ≤ 1000) (k : (cutH gg 14 0 i = 3 → (lo ≤ cutH gg 16 0 i ∧ cutH gg 16 0 i ≤ hi) → ∀ g, mSt gg (.inr (i + 1, W)) g → mFr h g → Q (some (aI (cutH gg 16 0 i))) g) ∧ (cutH gg 14 0 i = 3 → ¬ (lo ≤ cutH gg 16 0 i ∧ cutH gg 16 0 i ≤ hi) → ∀ g, mSt gg (.inl (2, i)) g → mFr h g → Q (some (aI 0)) g) ∧ (¬ cutH gg 14 0 i = 3 → ∀ g, mSt gg (.inl (1, i)) g → mFr h g → Q (some (aI 0)) g)) : fwCt mX12_number (d + 2) [aR 12 0, aI lo, aI hi] h Q := by
  refine fwCt_of [some (aR 12 0), some (aI lo), some (aI hi), none] rfl rfl rfl ?_
  obtain ⟨hz1, hz2⟩ := S.1.1
  obtain ⟨hr1, hr2, hr3, hr4, hr5⟩ := mSt_r S
  obtain ⟨hk1, hk2, hk3, hk4, hk5, hk6, hk7⟩ := tk_kind S.1.1 hr1
  refine w_aload_n dX12_number_0 rfl ?_
  refine w_callV (d := d + 1) (S := []) [] dX12_number_1 ml_X12_121 ok_X12_good vi_X12_good rfl rfl (by decide) rfl (Nat.le_of_ble_eq_true rfl) ?_
  refine c_r_good (d := (d + 1)) _ _ S ?_
  show fwWP mX12_number (d + 2) 4 [some (aR 12 0), some (aI lo), some (aI hi), none] [aI 1] h Q
  refine w_if_eq 20 dX12_number_4 (by decide) (by omega) (fun c4 => ?_) (fun c4 => ?_)
  · (exfalso; omega)
  · refine w_aload_n dX12_number_7 rfl ?_
    refine w_getiE (v := mdT (mBy gg) (tokP (mBy gg) i)) dX12_number_8 fl_X12_97 rfl (by decide) (mSt_r S).2.1.2.2.2.1 ?_
    refine w_iconst dX12_number_11 ?_
    refine w_icmp_eq 20 dX12_number_12 (by decide) (by omega) (by omega) (fun c12 => ?_) (fun c12 => ?_)
    · refine w_aload_n dX12_number_20 rfl ?_
      refine w_callV (d := d + 1) (S := []) [] dX12_number_21 ml_X12_121 ok_X12_good vi_X12_good rfl rfl (by decide) rfl (Nat.le_of_ble_eq_true rfl) ?_
      refine c_r_good (d := (d + 1)) _ _ S ?_
      show fwWP mX12_number (d + 2) 24 [some (aR 12 0), some (aI lo), some (aI hi), none] [aI 1] h Q
      refine w_if_eq 47 dX12_number_24 (by decide) (by omega) (fun c24 => ?_) (fun c24 => ?_)
      · (exfalso; omega)
      · have hvr := (tk_cut S.1.1).2.2.2 i hr1
        refine w_aload_n dX12_number_27 rfl ?_
        refine w_getiE (v := min 99999 (cutH gg 16 0 i)) dX12_number_28 fl_X12_108 rfl (by decide) (by rw [hk4 (by omega)]; exact hr2.2.2.2.2 (by omega)) ?_
        refine w_i2l dX12_number_31 (by omega) ?_
        refine w_iload_n dX12_number_32 rfl ?_
        refine w_i2l dX12_number_33 (by omega) ?_
        refine w_iload_n dX12_number_34 rfl ?_
        refine w_i2l dX12_number_35 (by omega) ?_
        refine w_callS (d := d + 1) (S := []) [aJ (min 99999 (cutH gg 16 0 i)), aJ lo, aJ hi] dX12_number_36 ml_X12_65 ok_X12_in st_X12_in rfl (Nat.le_of_ble_eq_true rfl) ?_
        refine c_X12_in (d := (d + 1)) (min 99999 (cutH gg 16 0 i)) lo hi (by omega) (by omega) (by omega) ?_
        show fwWP mX12_number (d + 2) 39 [some (aR 12 0), some (aI lo), some (aI hi), none] [aI (fwB (lo ≤ (min 99999 (cutH gg 16 0 i)) ∧ (min 99999 (cutH gg 16 0 i)) ≤ hi))] h Q
        refine w_ifB_ne 47 dX12_number_39 (by decide) (fun c39 => ?_) (fun c39 => ?_)
        · refine w_aload_n dX12_number_47 rfl ?_
          refine w_callV (d := d + 1) (S := []) [] dX12_number_48 ml_X12_121 ok_X12_good vi_X12_good rfl rfl (by decide) rfl (Nat.le_of_ble_eq_true rfl) ?_
          refine c_r_good (d := (d + 1)) _ _ S ?_
          show fwWP mX12_number (d + 2) 51 [some (aR 12 0), some (aI lo), some (aI hi), none] [aI 1] h Q
          refine w_if_ne 56 dX12_number_51 (by decide) (by omega) (fun c51 => ?_) (fun c51 => ?_)
          · refine w_aload_n dX12_number_56 rfl ?_
            refine w_getiE (v := min 99999 (cutH gg 16 0 i)) dX12_number_57 fl_X12_108 rfl (by decide) (by rw [hk4 (by omega)]; exact hr2.2.2.2.2 (by omega)) ?_
            refine w_istore_n [some (aR 12 0), some (aI lo), some (aI hi), some (aI (min 99999 (cutH gg 16 0 i)))] dX12_number_60 rfl (by decide) ?_
            refine w_aload_n dX12_number_61 rfl ?_
            refine w_callV (d := d + 1) (S := []) [] dX12_number_62 ml_X12_137 ok_X12_advance vi_X12_advance rfl rfl (by decide) rfl (Nat.le_of_ble_eq_true rfl) ?_
            refine c_r_adv (d := d) _ _ S (by omega) ?_
            intro g4 S4 F4
            show fwWP mX12_number (d + 2) 65 [some (aR 12 0), some (aI lo), some (aI hi), some (aI (min 99999 (cutH gg 16 0 i)))] [] g4 Q
            refine w_iload_n dX12_number_65 rfl ?_
            exact w_iretE dX12_number_66 rfl (show min 99999 (cutH gg 16 0 i) = cutH gg 16 0 i by omega) (k.1 (by omega) (by omega) _ S4 F4)
          · (exfalso; omega)
        · refine w_aload_n dX12_number_42 rfl ?_
          refine w_iconst dX12_number_43 ?_
          refine w_callV (d := d + 1) (S := []) [aI 2] dX12_number_44 ml_X12_143 ok_X12_errs vi_X12_errs rfl rfl (by decide) rfl (Nat.le_of_ble_eq_true rfl) ?_
          refine c_r_errs (d := d) 2 _ _ S (by omega) ?_
          intro g5 S5 F5
          show fwWP mX12_number (d + 2) 47 [some (aR 12 0), some (aI lo), some (aI hi), none] [] g5 Q
          refine w_aload_n dX12_number_47 rfl ?_
          refine w_callV (d := d + 1) (S := []) [] dX12_number_48 ml_X12_121 ok_X12_good vi_X12_good rfl rfl (by decide) rfl (Nat.le_of_ble_eq_true rfl) ?_
          refine c_f_good (d := (d + 1)) _ S5 ?_
          show fwWP mX12_number (d + 2) 51 [some (aR 12 0), some (aI lo), some (aI hi), none] [aI 0] g5 Q
          refine w_if_ne 56 dX12_number_51 (by decide) (by omega) (fun c51 => ?_) (fun c51 => ?_)
          · (exfalso; omega)
          · refine w_iconst dX12_number_54 ?_
            exact w_iret dX12_number_55 rfl (k.2.1 (by omega) (by omega) _ S5 F5)
    · refine w_aload_n dX12_number_15 rfl ?_
      refine w_iconst dX12_number_16 ?_
      refine w_callV (d := d + 1) (S := []) [aI 1] dX12_number_17 ml_X12_143 ok_X12_errs vi_X12_errs rfl rfl (by decide) rfl (Nat.le_of_ble_eq_true rfl) ?_
      refine c_r_errs (d := d) 1 _ _ S (by omega) ?_
      intro g6 S6 F6
      show fwWP mX12_number (d + 2) 20 [some (aR 12 0), some (aI lo), some (aI hi), none] [] g6 Q
      refine w_aload_n dX12_number_20 rfl ?_
      refine w_callV (d := d + 1) (S := []) [] dX12_number_21 ml_X12_121 ok_X12_good vi_X12_good rfl rfl (by decide) rfl (Nat.le_of_ble_eq_true rfl) ?_
      refine c_f_good (d := (d + 1)) _ S6 ?_
      show fwWP mX12_number (d + 2) 24 [some (aR 12 0), some (aI lo), some (aI hi), none] [aI 0] g6 Q
      refine w_if_eq 47 dX12_number_24 (by decide) (by omega) (fun c24 => ?_) (fun c24 => ?_)
      · refine w_aload_n dX12_number_47 rfl ?_
        refine w_callV (d := d + 1) (S := []) [] dX12_number_48 ml_X12_121 ok_X12_good vi_X12_good rfl rfl (by decide) rfl (Nat.le_of_ble_eq_true rfl) ?_
        refine c_f_good (d := (d + 1)) _ S6 ?_
        show fwWP mX12_number (d + 2) 51 [some (aR 12 0), some (aI lo), some (aI hi), none] [aI 0] g6 Q
        refine w_if_ne 56 dX12_number_51 (by decide) (by omega) (fun c51 => ?_) (fun c51 => ?_)
        · (exfalso; omega)
        · refine w_iconst dX12_number_54 ?_
          exact w_iret dX12_number_55 rfl (k.2.2 (by omega) _ S6 F6)
      · (exfalso; omega)
set_option maxRecDepth 100000 in
set_option maxHeartbeats 4000000 in
theorem c_f_told {d : Nat} {h gg : fwH} {Q : Option fwV → fwH → Prop} (s : Nat) (lo hi : Int) (e : Int × Nat) (S : mSt gg (.inl e) h) (hs : s < 26) (k : Q (some (aI 0)) h) : fwCt mX12_told (d + 7) [aR 12 0, aR 50 s, aI lo, aI hi] h Q := by
  refine fwCt_of [some (aR 12 0), some (aR 50 s), some (aI lo), some (aI hi)] rfl rfl rfl ?_
  obtain ⟨hl1, hl2, hl3, hl4⟩ := mSt_l S
  refine w_aload_n dX12_told_0 rfl ?_
  refine w_aload_n dX12_told_1 rfl ?_
  refine w_callV (d := d + 6) (S := []) [aR 50 s] dX12_told_2 ml_X12_147 ok_X12_needs vi_X12_needs rfl rfl (by decide) rfl (Nat.le_of_ble_eq_true rfl) ?_
  refine c_f_needs (d := d) s _ S (by omega) ?_
  show fwWP mX12_told (d + 7) 5 [some (aR 12 0), some (aR 50 s), some (aI lo), some (aI hi)] [] h Q
  refine w_aload_n dX12_told_5 rfl ?_
  refine w_iload_n dX12_told_6 rfl ?_
  refine w_iload_n dX12_told_7 rfl ?_
  refine w_callV (d := d + 6) (S := []) [aI lo, aI hi] dX12_told_8 ml_X12_151 ok_X12_number vi_X12_number rfl rfl (by decide) rfl (Nat.le_of_ble_eq_true rfl) ?_
  refine c_f_number (d := (d + 4)) lo hi _ S ?_
  show fwWP mX12_told (d + 7) 11 [some (aR 12 0), some (aR 50 s), some (aI lo), some (aI hi)] [aI 0] h Q
  exact w_iret dX12_told_11 rfl k
set_option maxRecDepth 100000 in
set_option maxHeartbeats 4000000 in
theorem c_r_told {d : Nat} {h gg : fwH} {Q : Option fwV → fwH → Prop} (s : Nat) (lo hi : Int) (i : Nat) (W : Nat → Int) (S : mSt gg (.inr (i, W)) h) (hs : s < 13) (hlo : -1000 ≤ lo ∧ lo ≤ 1000) (hhi : -1000 ≤ hi ∧ hi ≤ 1000) (k : (cutH gg 14 0 i = (s : Int) + 4 → cutH gg 14 0 (i + 1) = 3 → (lo ≤ cutH gg 16 0 (i + 1) ∧ cutH gg 16 0 (i + 1) ≤ hi) → ∀ g, mSt gg (.inr (i + 1 + 1, W)) g → mFr h g → Q (some (aI (cutH gg 16 0 (i + 1)))) g) ∧ (cutH gg 14 0 i = (s : Int) + 4 → cutH gg 14 0 (i + 1) = 3 → ¬ (lo ≤ cutH gg 16 0 (i + 1) ∧ cutH gg 16 0 (i + 1) ≤ hi) → ∀ g, mSt gg (.inl (2, i + 1)) g → mFr h g → Q (some (aI 0)) g) ∧ (cutH gg 14 0 i = (s : Int) + 4 → ¬ cutH gg 14 0 (i + 1) = 3 → ∀ g, mSt gg (.inl (1, i + 1)) g → mFr h g → Q (some (aI 0)) g) ∧ (¬ (cutH gg 14 0 i = (s : Int) + 4) → ∀ g, mSt gg (.inl (1, i)) g → mFr h g → Q (some (aI 0)) g)) : fwCt mX12_told (d + 7) [aR 12 0, aR 50 (s + 13), aI lo, aI hi] h Q := by
  refine fwCt_of [some (aR 12 0), some (aR 50 (s + 13)), some (aI lo), some (aI hi)] rfl rfl rfl ?_
  obtain ⟨hz1, hz2⟩ := S.1.1
  obtain ⟨hr1, hr2, hr3, hr4, hr5⟩ := mSt_r S
  obtain ⟨hk1, hk2, hk3, hk4, hk5, hk6, hk7⟩ := tk_kind S.1.1 hr1
  refine w_aload_n dX12_told_0 rfl ?_
  refine w_aload_n dX12_told_1 rfl ?_
  refine w_callV (d := d + 6) (S := []) [aR 50 (s + 13)] dX12_told_2 ml_X12_147 ok_X12_needs vi_X12_needs rfl rfl (by decide) rfl (Nat.le_of_ble_eq_true rfl) ?_
  refine c_r_needs (d := d) s _ _ S (by omega) ⟨?_, ?_⟩
  · intro cw7 g7 S7 F7
    show fwWP mX12_told (d + 7) 5 [some (aR 12 0), some (aR 50 (s + 13)), some (aI lo), some (aI hi)] [] g7 Q
    refine w_aload_n dX12_told_5 rfl ?_
    refine w_iload_n dX12_told_6 rfl ?_
    refine w_iload_n dX12_told_7 rfl ?_
    refine w_callV (d := d + 6) (S := []) [aI lo, aI hi] dX12_told_8 ml_X12_151 ok_X12_number vi_X12_number rfl rfl (by decide) rfl (Nat.le_of_ble_eq_true rfl) ?_
    refine c_r_number (d := (d + 4)) lo hi _ _ S7 (by omega) (by omega) ⟨?_, ?_, ?_⟩
    · intro cn9 cv9 g9 S9 F9
      have hvr9 := (tk_cut S.1.1).2.2.2 (i + 1) (mSt_r S7).1
      show fwWP mX12_told (d + 7) 11 [some (aR 12 0), some (aR 50 (s + 13)), some (aI lo), some (aI hi)] [aI (cutH gg 16 0 (i + 1))] g9 Q
      have G9 := mFr_tr F7 F9
      exact w_iret dX12_told_11 rfl (k.1 (by omega) (by omega) (by omega) _ S9 G9)
    · intro cn9 cv9 g10 S10 F10
      show fwWP mX12_told (d + 7) 11 [some (aR 12 0), some (aR 50 (s + 13)), some (aI lo), some (aI hi)] [aI 0] g10 Q
      have G10 := mFr_tr F7 F10
      exact w_iret dX12_told_11 rfl (k.2.1 (by omega) (by omega) (by omega) _ S10 G10)
    · intro cn9 g11 S11 F11
      show fwWP mX12_told (d + 7) 11 [some (aR 12 0), some (aR 50 (s + 13)), some (aI lo), some (aI hi)] [aI 0] g11 Q
      have G11 := mFr_tr F7 F11
      exact w_iret dX12_told_11 rfl (k.2.2.1 (by omega) (by omega) _ S11 G11)
  · intro cw7 g8 S8 F8
    show fwWP mX12_told (d + 7) 5 [some (aR 12 0), some (aR 50 (s + 13)), some (aI lo), some (aI hi)] [] g8 Q
    refine w_aload_n dX12_told_5 rfl ?_
    refine w_iload_n dX12_told_6 rfl ?_
    refine w_iload_n dX12_told_7 rfl ?_
    refine w_callV (d := d + 6) (S := []) [aI lo, aI hi] dX12_told_8 ml_X12_151 ok_X12_number vi_X12_number rfl rfl (by decide) rfl (Nat.le_of_ble_eq_true rfl) ?_
    refine c_f_number (d := (d + 4)) lo hi _ S8 ?_
    show fwWP mX12_told (d + 7) 11 [some (aR 12 0), some (aR 50 (s + 13)), some (aI lo), some (aI hi)] [aI 0] g8 Q
    exact w_iret dX12_told_11 rfl (k.2.2.2 (by omega) _ S8 F8)
