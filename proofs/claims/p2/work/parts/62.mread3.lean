theorem mSt_l {gg h : fwH} {e : Int × Nat} (S : mSt gg (.inl e) h) : e.2 ≤ tkN gg ∧ (1 ≤ e.1 ∧ e.1 ≤ 3) ∧ h 12 0 12 = e.1 ∧ h 12 0 13 = (tokP (mBy gg) e.2 : Int) := S.2.2
theorem mSt_r {gg h : fwH} {i : Nat} {W : Nat → Int} (S : mSt gg (.inr (i, W)) h) : i ≤ tkN gg ∧ mTk gg (tokP (mBy gg) i) (h 12 0) ∧ h 12 0 12 = 0 ∧ h 12 0 13 = -1 ∧ ∀ z : Nat, z < 135 → h 41 0 z = W z := S.2.2
theorem mSt_flt {gg h : fwH} {i : Nat} {W : Nat → Int} (S : mSt gg (.inr (i, W)) h) {x : Int} (hx : 1 ≤ x ∧ x ≤ 3) : mSt gg (.inl (x, i)) (fwUp (fwUp h 12 0 12 x) 12 0 13 (h 12 0 9)) := by
  obtain ⟨a, b, c1, c2, c3, c4, c5⟩ := S
  refine ⟨jT_up (jT_up a (by decide)) (by decide), b, c1, hx, rfl, ?_⟩
  show h 12 0 9 = _
  exact c2.2.1
theorem mFr_flt (h : fwH) (x y : Int) : mFr h (fwUp (fwUp h 12 0 12 x) 12 0 13 y) := fun a b p q => by
  funext j
  show (if a = 12 ∧ b = 0 ∧ j = 13 then y else if a = 12 ∧ b = 0 ∧ j = 12 then x else h a b j) = h a b j
  rw [if_neg (fun z => p z.1), if_neg (fun z => p z.1)]
set_option maxRecDepth 100000 in
set_option maxHeartbeats 4000000 in
theorem c_f_good {d : Nat} {h gg : fwH} {Q : Option fwV → fwH → Prop}  (e : Int × Nat) (S : mSt gg (.inl e) h) (k : Q (some (aI 0)) h) : fwCt mX12_good (d + 0) [aR 12 0] h Q := by
  refine fwCt_of [some (aR 12 0)] rfl rfl rfl ?_
  obtain ⟨hl1, hl2, hl3, hl4⟩ := mSt_l S
  refine w_aload_n dX12_good_0 rfl ?_
  refine w_getiE (v := e.1) dX12_good_1 fl_X12_118 rfl (by decide) (mSt_l S).2.2.1 ?_
  refine w_if_ne 11 dX12_good_4 (by decide) (by omega) (fun c4 => ?_) (fun c4 => ?_)
  · refine w_iconst dX12_good_11 ?_
    exact w_zret dX12_good_12 rfl (Or.inl rfl) k
  · refine w_iconst dX12_good_7 ?_
    refine w_goto 12 dX12_good_8 (by decide) ?_
    (exfalso; omega)
set_option maxRecDepth 100000 in
set_option maxHeartbeats 4000000 in
theorem c_r_good {d : Nat} {h gg : fwH} {Q : Option fwV → fwH → Prop}  (i : Nat) (W : Nat → Int) (S : mSt gg (.inr (i, W)) h) (k : Q (some (aI 1)) h) : fwCt mX12_good (d + 0) [aR 12 0] h Q := by
  refine fwCt_of [some (aR 12 0)] rfl rfl rfl ?_
  obtain ⟨hz1, hz2⟩ := S.1.1
  obtain ⟨hr1, hr2, hr3, hr4, hr5⟩ := mSt_r S
  obtain ⟨hk1, hk2, hk3, hk4, hk5, hk6, hk7⟩ := tk_kind S.1.1 hr1
  refine w_aload_n dX12_good_0 rfl ?_
  refine w_getiE (v := 0) dX12_good_1 fl_X12_118 rfl (by decide) (mSt_r S).2.2.1 ?_
  refine w_if_ne 11 dX12_good_4 (by decide) (by omega) (fun c4 => ?_) (fun c4 => ?_)
  · (exfalso; omega)
  · refine w_iconst dX12_good_7 ?_
    refine w_goto 12 dX12_good_8 (by decide) ?_
    exact w_zret dX12_good_12 rfl (Or.inr rfl) k
set_option maxRecDepth 100000 in
set_option maxHeartbeats 4000000 in
theorem c_f_errs {d : Nat} {h gg : fwH} {Q : Option fwV → fwH → Prop} (x : Int) (e : Int × Nat) (S : mSt gg (.inl e) h) (k : Q none h) : fwCt mX12_errs (d + 1) [aR 12 0, aI x] h Q := by
  refine fwCt_of [some (aR 12 0), some (aI x)] rfl rfl rfl ?_
  obtain ⟨hl1, hl2, hl3, hl4⟩ := mSt_l S
  refine w_aload_n dX12_errs_0 rfl ?_
  refine w_callV (d := d + 0) (S := []) [] dX12_errs_1 ml_X12_121 ok_X12_good vi_X12_good rfl rfl (by decide) rfl (Nat.le_of_ble_eq_true rfl) ?_
  refine c_f_good (d := d) _ S ?_
  show fwWP mX12_errs (d + 1) 4 [some (aR 12 0), some (aI x)] [aI 0] h Q
  refine w_if_ne 8 dX12_errs_4 (by decide) (by omega) (fun c4 => ?_) (fun c4 => ?_)
  · (exfalso; omega)
  · exact w_vret dX12_errs_7 rfl k
set_option maxRecDepth 100000 in
set_option maxHeartbeats 4000000 in
theorem c_r_errs {d : Nat} {h gg : fwH} {Q : Option fwV → fwH → Prop} (x : Int) (i : Nat) (W : Nat → Int) (S : mSt gg (.inr (i, W)) h) (hx : 1 ≤ x ∧ x ≤ 3) (k : ∀ g, mSt gg (.inl (x, i)) g → mFr h g → Q none g) : fwCt mX12_errs (d + 1) [aR 12 0, aI x] h Q := by
  refine fwCt_of [some (aR 12 0), some (aI x)] rfl rfl rfl ?_
  obtain ⟨hz1, hz2⟩ := S.1.1
  obtain ⟨hr1, hr2, hr3, hr4, hr5⟩ := mSt_r S
  obtain ⟨hk1, hk2, hk3, hk4, hk5, hk6, hk7⟩ := tk_kind S.1.1 hr1
  refine w_aload_n dX12_errs_0 rfl ?_
  refine w_callV (d := d + 0) (S := []) [] dX12_errs_1 ml_X12_121 ok_X12_good vi_X12_good rfl rfl (by decide) rfl (Nat.le_of_ble_eq_true rfl) ?_
  refine c_r_good (d := d) _ _ S ?_
  show fwWP mX12_errs (d + 1) 4 [some (aR 12 0), some (aI x)] [aI 1] h Q
  refine w_if_ne 8 dX12_errs_4 (by decide) (by omega) (fun c4 => ?_) (fun c4 => ?_)
  · refine w_aload_n dX12_errs_8 rfl ?_
    refine w_iload_n dX12_errs_9 rfl ?_
    refine w_puti dX12_errs_10 fl_X12_118 fp_12_12 rfl (by decide) ?_
    refine w_aload_n dX12_errs_13 rfl ?_
    refine w_aload_n dX12_errs_14 rfl ?_
    refine w_getiE (v := h 12 0 9) dX12_errs_15 fl_X12_94 rfl (by decide) (by first | rfl | simp [fwUp, fwUc]) ?_
    refine w_puti dX12_errs_18 fl_X12_27 fp_12_13 rfl (by decide) ?_
    exact w_vret dX12_errs_21 rfl (k _ (mSt_flt S hx) (mFr_flt _ _ _))
  · (exfalso; omega)
set_option maxRecDepth 100000 in
set_option maxHeartbeats 4000000 in
theorem c_f_is {d : Nat} {h gg : fwH} {Q : Option fwV → fwH → Prop} (s : Nat) (e : Int × Nat) (S : mSt gg (.inl e) h) (hs : s < 26) (k : Q (some (aI 0)) h) : fwCt mX12_is (d + 4) [aR 12 0, aR 50 s] h Q := by
  refine fwCt_of [some (aR 12 0), some (aR 50 s), none, none] rfl rfl rfl ?_
  obtain ⟨hl1, hl2, hl3, hl4⟩ := mSt_l S
  refine w_aload_n dX12_is_0 rfl ?_
  refine w_callV (d := d + 3) (S := []) [] dX12_is_1 ml_X12_121 ok_X12_good vi_X12_good rfl rfl (by decide) rfl (Nat.le_of_ble_eq_true rfl) ?_
  refine c_f_good (d := (d + 3)) _ S ?_
  show fwWP mX12_is (d + 4) 4 [some (aR 12 0), some (aR 50 s), none, none] [aI 0] h Q
  refine w_if_eq 35 dX12_is_4 (by decide) (by omega) (fun c4 => ?_) (fun c4 => ?_)
  · refine w_iconst dX12_is_35 ?_
    refine w_istore_n [some (aR 12 0), some (aR 50 s), some (aI 0), none] dX12_is_36 rfl (by decide) ?_
    refine w_iconst dX12_is_37 ?_
    refine w_istore_n [some (aR 12 0), some (aR 50 s), some (aI 0), some (aI 0)] dX12_is_38 rfl (by decide) ?_
    have hsl := fwSb_l2 s (by omega)
    refine w_iload_n dX12_is_39 rfl ?_
    refine w_aload_n dX12_is_40 rfl ?_
    refine w_callT (d := d + 3) (S := [aI 0]) [] dX12_is_41 ml_X12_124 ok_J0_length_8abf5 vi_J0_length_8abf5 rfl (by omega) rfl (Nat.le_of_ble_eq_true rfl) ?_
    refine c_length (d := (d + 2)) s (by omega) ?_
    show fwWP mX12_is (d + 4) 44 [some (aR 12 0), some (aR 50 s), some (aI 0), some (aI 0)] [aI ((fwSb s).length : Int), aI 0] h Q
    refine w_icmp_ge 82 dX12_is_44 (by decide) (by omega) (by omega) (fun c44 => ?_) (fun c44 => ?_)
    · refine w_iload_n dX12_is_82 rfl ?_
      exact w_zret dX12_is_83 rfl (Or.inl rfl) k
    · refine w_iload_n dX12_is_47 rfl ?_
      refine w_if_eq 82 dX12_is_48 (by decide) (by omega) (fun c48 => ?_) (fun c48 => ?_)
      · refine w_iload_n dX12_is_82 rfl ?_
        exact w_zret dX12_is_83 rfl (Or.inl rfl) k
      · (exfalso; omega)
  · (exfalso; omega)
theorem fwB_c {P R : Prop} [Decidable P] [Decidable R] (h : P ↔ R) : fwB P = fwB R := by
  unfold fwB
  by_cases p : P
  · rw [if_pos p, if_pos (h.mp p)]
  · rw [if_neg p, if_neg (fun z => p (h.mpr z))]
theorem and255_n : ∀ n : Nat, n < 256 → fwAnd ((n : Int) - 128) 255 = if 128 ≤ n then (n : Int) - 128 else (n : Int) + 128 := by decide +kernel
theorem and255 {x : Int} (h : -128 ≤ x ∧ x < 128) : fwAnd x 255 = if 0 ≤ x then x else x + 256 := by
  obtain ⟨n, rfl⟩ : ∃ n : Nat, x = (n : Int) - 128 := ⟨(x + 128).toNat, by omega⟩
  rw [and255_n n (by omega)]
  split <;> split <;> omega
theorem mdT_1 {b : Nat → Int} {p : Nat} (h : mdT b p = 1) : b p ≠ -1 ∧ mLet (b p) = true := by
  unfold mdT at h
  split at h
  · omega
  · rename_i q
    split at h
    · rename_i q2
      exact ⟨q, q2⟩
    · split at h
      · omega
      · split at h <;> omega
/-- where the model stands behind a word -/
theorem mTk_at1 {gg : fwH} {p : Nat} {A : Nat → Int} (h : mTk gg p A) (h1 : mdT (mBy gg) p = 1) : A 8 = (mLetEnd (mBy gg) p : Int) ∧ (mLetEnd (mBy gg) p : Int) ≤ gg 1 0 1 := by
  obtain ⟨e1, e2⟩ := mdT_1 h1
  refine ⟨?_, mRun_le (q := mLet) (by decide) h.1⟩
  rw [h.2.2.1, if_neg e1]
  unfold mNxt
  rw [if_pos e2]
theorem mBy_in {h : fwH} {p : Nat} (hp : (p : Int) < h 1 0 1) : mBy h p = fwAnd (h 13 0 p) 255 := if_pos hp
theorem mTk_8 {gg : fwH} {p : Nat} {A : Nat → Int} (h : mTk gg p A) (hT : tOk gg) : 0 ≤ A 8 ∧ A 8 ≤ 900 := by
  have h1 := h.1
  have h2 := hT.2
  rw [h.2.2.1]
  split
  · omega
  · rename_i q
    rcases Int.lt_or_le (p : Int) (gg 1 0 1) with z | z
    · have := mNxt_le (h := gg) z
      omega
    · exact absurd (mBy_m1.mpr z) q
theorem mAll_le {p : Nat → Bool} {a b : Nat} (h : mAll p b = true) (hab : a ≤ b) : mAll p a = true := (mAll_iff _ _).mpr (fun j hj => (mAll_iff _ _).mp h j (by omega))
set_option maxRecDepth 100000 in
set_option maxHeartbeats 4000000 in
theorem c_r_is {d : Nat} {h gg : fwH} {Q : Option fwV → fwH → Prop} (s : Nat) (i : Nat) (W : Nat → Int) (S : mSt gg (.inr (i, W)) h) (hs : s < 13) (k : Q (some (aI (fwB (cutH gg 14 0 i = (s : Int) + 4)))) h) : fwCt mX12_is (d + 4) [aR 12 0, aR 50 (s + 13)] h Q := by
  refine fwCt_of [some (aR 12 0), some (aR 50 (s + 13)), none, none] rfl rfl rfl ?_
  obtain ⟨hz1, hz2⟩ := S.1.1
  obtain ⟨hr1, hr2, hr3, hr4, hr5⟩ := mSt_r S
  obtain ⟨hk1, hk2, hk3, hk4, hk5, hk6, hk7⟩ := tk_kind S.1.1 hr1
  have hsl := fwSb_l2 (s + 13) (by omega)
  have hpz := hr2.1
  have hp0 := S.1.1
  have hpr := mTk_8 hr2 hp0
  refine w_aload_n dX12_is_0 rfl ?_
  refine w_callV (d := d + 3) (S := []) [] dX12_is_1 ml_X12_121 ok_X12_good vi_X12_good rfl rfl (by decide) rfl (Nat.le_of_ble_eq_true rfl) ?_
  refine c_r_good (d := (d + 3)) _ _ S ?_
  show fwWP mX12_is (d + 4) 4 [some (aR 12 0), some (aR 50 (s + 13)), none, none] [aI 1] h Q
  refine w_if_eq 35 dX12_is_4 (by decide) (by omega) (fun c4 => ?_) (fun c4 => ?_)
  · (exfalso; omega)
  · have J36 : ∀ v : Int, v = fwB (mdT (mBy gg) (tokP (mBy gg) i) = 1 ∧ h 12 0 8 - ((tokP (mBy gg) i) : Int) = ((fwSb (s + 13)).length : Int)) → fwWP mX12_is (d + 4) 36 [some (aR 12 0), some (aR 50 (s + 13)), none, none] [aI v] h Q := by
      intro v ev
      subst ev
      refine w_istore_n [some (aR 12 0), some (aR 50 (s + 13)), some (aI (fwB (mdT (mBy gg) (tokP (mBy gg) i) = 1 ∧ h 12 0 8 - ((tokP (mBy gg) i) : Int) = ((fwSb (s + 13)).length : Int)))), none] dX12_is_36 rfl (by decide) ?_
      refine w_iconst dX12_is_37 ?_
      refine w_istore_n [some (aR 12 0), some (aR 50 (s + 13)), some (aI (fwB (mdT (mBy gg) (tokP (mBy gg) i) = 1 ∧ h 12 0 8 - ((tokP (mBy gg) i) : Int) = ((fwSb (s + 13)).length : Int)))), some (aI 0)] dX12_is_38 rfl (by decide) ?_
      have lp39 : ∀ c : Nat, c ≤ (fwSb (s + 13)).length → ∀ (y39 iz : Int), y39 = (c : Int) → iz = fwB ((mdT (mBy gg) (tokP (mBy gg) i) = 1 ∧ h 12 0 8 - ((tokP (mBy gg) i) : Int) = ((fwSb (s + 13)).length : Int)) ∧ mAll (mTxB (mBy gg) (tokP (mBy gg) i) s) c = true) → fwWP mX12_is (d + 4) 39 [some (aR 12 0), some (aR 50 (s + 13)), some (aI iz), some (aI y39)] [] h Q := by
        refine fw_up (fun c hc39 ih39 => ?_)
        intro y39 iz ey39 e_iz
        subst ey39
        subst e_iz
        have hfr := fwB_rng ((mdT (mBy gg) (tokP (mBy gg) i) = 1 ∧ h 12 0 8 - ((tokP (mBy gg) i) : Int) = ((fwSb (s + 13)).length : Int)) ∧ mAll (mTxB (mBy gg) (tokP (mBy gg) i) s) c = true)
        show fwWP mX12_is (d + 4) 39 [some (aR 12 0), some (aR 50 (s + 13)), some (aI (fwB ((mdT (mBy gg) (tokP (mBy gg) i) = 1 ∧ h 12 0 8 - ((tokP (mBy gg) i) : Int) = ((fwSb (s + 13)).length : Int)) ∧ mAll (mTxB (mBy gg) (tokP (mBy gg) i) s) c = true))), some (aI (c : Int))] [] h Q
        refine w_iload_n dX12_is_39 rfl ?_
        refine w_aload_n dX12_is_40 rfl ?_
        refine w_callT (d := d + 3) (S := [aI (c : Int)]) [] dX12_is_41 ml_X12_124 ok_J0_length_8abf5 vi_J0_length_8abf5 rfl (by omega) rfl (Nat.le_of_ble_eq_true rfl) ?_
        refine c_length (d := (d + 2)) (s + 13) (by omega) ?_
        show fwWP mX12_is (d + 4) 44 [some (aR 12 0), some (aR 50 (s + 13)), some (aI (fwB ((mdT (mBy gg) (tokP (mBy gg) i) = 1 ∧ h 12 0 8 - ((tokP (mBy gg) i) : Int) = ((fwSb (s + 13)).length : Int)) ∧ mAll (mTxB (mBy gg) (tokP (mBy gg) i) s) c = true))), some (aI (c : Int))] [aI ((fwSb (s + 13)).length : Int), aI (c : Int)] h Q
        refine w_icmp_ge 82 dX12_is_44 (by decide) (by omega) (by omega) (fun c44 => ?_) (fun c44 => ?_)
        · refine w_iload_n dX12_is_82 rfl ?_
          have hmp : ∀ z : mdT (mBy gg) (tokP (mBy gg) i) = 1, h 12 0 8 = (mLetEnd (mBy gg) (tokP (mBy gg) i) : Int) := fun z => (mTk_at1 hr2 z).1
          have e13 := wk_13 s hs
          have ecl : c = (fwSb s).length := by rw [← e13]; omega
          exact w_zretE (P := cutH gg 14 0 i = (s : Int) + 4) dX12_is_83 rfl (fwB_c ⟨fun z => (hk6 s hs).mpr ⟨z.1.1, by have := hmp z.1.1; have := z.1.2; rw [e13] at this; omega, by rw [← ecl]; exact z.2⟩, fun z => by have z1 := (hk6 s hs).mp z; have z2 := hmp z1.1; have z3 := z1.2.1; exact ⟨⟨z1.1, by rw [e13]; omega⟩, by rw [ecl]; exact z1.2.2⟩⟩) k
        · refine w_iload_n dX12_is_47 rfl ?_
          refine w_if_eq 82 dX12_is_48 (by decide) (by omega) (fun c48 => ?_) (fun c48 => ?_)
          · refine w_iload_n dX12_is_82 rfl ?_
            have hmp : ∀ z : mdT (mBy gg) (tokP (mBy gg) i) = 1, h 12 0 8 = (mLetEnd (mBy gg) (tokP (mBy gg) i) : Int) := fun z => (mTk_at1 hr2 z).1
            have e13 := wk_13 s hs
            exact w_zretE (P := cutH gg 14 0 i = (s : Int) + 4) dX12_is_83 rfl (by rw [c48, fwB_f (fun z => by have z1 := (hk6 s hs).mp z; have z2 := hmp z1.1; have z3 := z1.2.1; have z4 : fwB _ = 1 := fwB_t (P := (mdT (mBy gg) (tokP (mBy gg) i) = 1 ∧ h 12 0 8 - ((tokP (mBy gg) i) : Int) = ((fwSb (s + 13)).length : Int)) ∧ mAll (mTxB (mBy gg) (tokP (mBy gg) i) s) c = true) ⟨⟨z1.1, by rw [e13]; omega⟩, mAll_le z1.2.2 (by rw [← e13]; omega)⟩; omega)]) k
          · have q9 : (mdT (mBy gg) (tokP (mBy gg) i) = 1 ∧ h 12 0 8 - ((tokP (mBy gg) i) : Int) = ((fwSb (s + 13)).length : Int)) ∧ mAll (mTxB (mBy gg) (tokP (mBy gg) i) s) c = true := Decidable.byContradiction (fun z => c48 (fwB_f z))
            have hat := mTk_at1 hr2 q9.1.1
            have hq92 := q9.1.2
            have hsz := S.1.1.2
            have hbr := S.1.2.2.2 ((tokP (mBy gg) i) + c) (by omega)
            have hby : mBy gg ((tokP (mBy gg) i) + c) = fwAnd (h 39 0 ((tokP (mBy gg) i) + c)) 255 := by rw [mBy_in (by omega), S.1.2.2.1 _ (by omega)]
            rw [and255 hbr] at hby
            have hch := (wk_let s hs).2 c (by rw [← wk_13 s hs]; omega)
            refine w_aload_n dX12_is_51 rfl ?_
            refine w_getr 39 0 dX12_is_52 fl_X12_20 rfl (by decide) ?_
            refine w_aload_n dX12_is_55 rfl ?_
            refine w_getiE (v := (tokP (mBy gg) i : Int)) dX12_is_56 fl_X12_94 rfl (by decide) (mSt_r S).2.1.2.1 ?_
            refine w_iload_n dX12_is_59 rfl ?_
            refine w_iadd dX12_is_60 ?_
            refine w_baldE (v := h 39 0 (tokP (mBy gg) i + c)) dX12_is_61 rfl (by decide) (by omega) (by omega) (by rw [show (((tokP (mBy gg) i : Int) + (c : Int)).toNat) = tokP (mBy gg) i + c by omega]) ?_
            refine w_aload_n dX12_is_62 rfl ?_
            refine w_iload_n dX12_is_63 rfl ?_
            refine w_callT (d := d + 3) (S := [aI (h 39 0 (tokP (mBy gg) i + c))]) [aI (c : Int)] dX12_is_64 ml_X12_129 ok_J0_charAt_5068e vi_J0_charAt_5068e rfl (by omega) rfl (Nat.le_of_ble_eq_true rfl) ?_
            refine c_charAt (d := d) (s + 13) (c : Int) (by omega) (by omega) (by omega) ?_
            show fwWP mX12_is (d + 4) 67 [some (aR 12 0), some (aR 50 (s + 13)), some (aI (fwB ((mdT (mBy gg) (tokP (mBy gg) i) = 1 ∧ h 12 0 8 - ((tokP (mBy gg) i) : Int) = ((fwSb (s + 13)).length : Int)) ∧ mAll (mTxB (mBy gg) (tokP (mBy gg) i) s) c = true))), some (aI (c : Int))] [aI ((fwSb (s + 13)).getD ((c : Int)).toNat 0), aI (h 39 0 (tokP (mBy gg) i + c))] h Q
            rw [Int.toNat_natCast, wk_13 s hs]
            refine w_icmp_ne 74 dX12_is_67 (by decide) (by omega) (by omega) (fun c67 => ?_) (fun c67 => ?_)
            · refine w_iconst dX12_is_74 ?_
              refine w_istore_n [some (aR 12 0), some (aR 50 (s + 13)), some (aI 0), some (aI (c : Int))] dX12_is_75 rfl (by decide) ?_
              refine w_iinc [some (aR 12 0), some (aR 50 (s + 13)), some (aI 0), some (aI ((c : Int) + 1))] dX12_is_76 rfl rfl (by decide) ?_
              refine w_goto 39 dX12_is_79 (by decide) ?_
              refine ih39 (by omega) _ _ ?_ ?_
              · exact (by omega)
              · exact (by rw [fwB_f (fun z => by have z2 := z.2; rw [mAll, q9.2, Bool.true_and] at z2; have z3 := of_decide_eq_true z2; split at hby <;> omega)])
            · refine w_iconst dX12_is_70 ?_
              refine w_goto 75 dX12_is_71 (by decide) ?_
              refine w_istore_n [some (aR 12 0), some (aR 50 (s + 13)), some (aI 1), some (aI (c : Int))] dX12_is_75 rfl (by decide) ?_
              refine w_iinc [some (aR 12 0), some (aR 50 (s + 13)), some (aI 1), some (aI ((c : Int) + 1))] dX12_is_76 rfl rfl (by decide) ?_
              refine w_goto 39 dX12_is_79 (by decide) ?_
              refine ih39 (by omega) _ _ ?_ ?_
              · exact (by omega)
              · exact (by rw [fwB_t ⟨q9.1, by rw [mAll, q9.2, Bool.true_and]; exact decide_eq_true (by split at hby <;> omega)⟩])
      refine lp39 0 (Nat.zero_le _) _ _ ?_ ?_
      · exact (by omega)
      · exact (fwB_c ⟨fun z => ⟨z, rfl⟩, fun z => z.1⟩)
    refine w_aload_n dX12_is_7 rfl ?_
    refine w_getiE (v := mdT (mBy gg) (tokP (mBy gg) i)) dX12_is_8 fl_X12_97 rfl (by decide) (mSt_r S).2.1.2.2.2.1 ?_
    refine w_iconst dX12_is_11 ?_
    refine w_icmp_ne 35 dX12_is_12 (by decide) (by omega) (by omega) (fun c12 => ?_) (fun c12 => ?_)
    · refine w_iconst dX12_is_35 ?_
      exact J36 _ (by first | omega | (rw [fwB_t (by omega)]) | (rw [fwB_f (by omega)]))
    · refine w_aload_n dX12_is_15 rfl ?_
      refine w_getiE (v := h 12 0 8) dX12_is_16 fl_X12_87 rfl (by decide) rfl ?_
      refine w_aload_n dX12_is_19 rfl ?_
      refine w_getiE (v := (tokP (mBy gg) i : Int)) dX12_is_20 fl_X12_94 rfl (by decide) (mSt_r S).2.1.2.1 ?_
      refine w_isub dX12_is_23 ?_
      refine w_aload_n dX12_is_24 rfl ?_
      refine w_callT (d := d + 3) (S := [aI ((h 12 0 8) - (tokP (mBy gg) i : Int))]) [] dX12_is_25 ml_X12_124 ok_J0_length_8abf5 vi_J0_length_8abf5 rfl (by omega) rfl (Nat.le_of_ble_eq_true rfl) ?_
      refine c_length (d := (d + 2)) (s + 13) (by omega) ?_
      show fwWP mX12_is (d + 4) 28 [some (aR 12 0), some (aR 50 (s + 13)), none, none] [aI ((fwSb (s + 13)).length : Int), aI ((h 12 0 8) - (tokP (mBy gg) i : Int))] h Q
      refine w_icmp_ne 35 dX12_is_28 (by decide) (by omega) (by omega) (fun c28 => ?_) (fun c28 => ?_)
      · refine w_iconst dX12_is_35 ?_
        exact J36 _ (by first | omega | (rw [fwB_t (by omega)]) | (rw [fwB_f (by omega)]))
      · refine w_iconst dX12_is_31 ?_
        refine w_goto 36 dX12_is_32 (by decide) ?_
        exact J36 _ (by first | omega | (rw [fwB_t (by omega)]) | (rw [fwB_f (by omega)]))
