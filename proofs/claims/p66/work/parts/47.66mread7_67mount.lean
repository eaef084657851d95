section
set_option maxRecDepth 100000 in
set_option maxHeartbeats 4000000 in
theorem c_r_readNext {d : Nat} {h gg : fwH} {Q : Option fwV → fwH → Prop} (f : Nat) (i : Nat) (W : Nat → Int) (S : mSt gg (.inr (i, W)) h) (hW : wG W) (h6 : W 6 = (f : Int)) (k : ∀ q g, mSt gg q g → mFr h g → qThen q (qW2 (cutH gg 14 0)) = qThen (if cutH gg 14 0 i = 8 then qFolk (cutH gg 14 0) (cutH gg 16 0) f i W else qHeap (cutH gg 14 0) (cutH gg 16 0) i W) (qW2 (cutH gg 14 0)) → Q none g) : fwCt mX12_readNext (d + 10) [aR 12 0] h Q := by
  refine fwCt_of [some (aR 12 0), none] rfl rfl rfl ?_
  obtain ⟨hz1, hz2⟩ := S.1.1
  obtain ⟨hr1, hr2, hr3, hr4, hr5⟩ := mSt_r S
  have hW0 := hW.1
  have hW6 := hW.2.2.2.2.2.2.2.1
  refine w_aload_n dX12_readNext_0 rfl ?_
  refine w_ldcS (n := 17) dX12_readNext_1 rfl ?_
  refine w_callV (d := d + 9) (S := []) [aR 50 17] dX12_readNext_3 ml_X12_133 ok_X12_is vi_X12_is rfl rfl (by decide) rfl (Nat.le_of_ble_eq_true rfl) ?_
  refine c_r_is (d := (d + 5)) 4 _ _ S (by omega) ?_
  show fwWP mX12_readNext (d + 10) 6 [some (aR 12 0), none] [aI (fwB (cutH gg 14 0 i = ((4 : Nat) : Int) + 4))] h Q
  refine w_ifB_ne 23 dX12_readNext_6 (by decide) (fun c6 => ?_) (fun c6 => ?_)
  · refine w_aload_n dX12_readNext_23 rfl ?_
    refine w_ldcS (n := 17) dX12_readNext_24 rfl ?_
    refine w_callV (d := d + 9) (S := []) [aR 50 17] dX12_readNext_26 ml_X12_133 ok_X12_is vi_X12_is rfl rfl (by decide) rfl (Nat.le_of_ble_eq_true rfl) ?_
    refine c_r_is (d := (d + 5)) 4 _ _ S (by omega) ?_
    show fwWP mX12_readNext (d + 10) 29 [some (aR 12 0), none] [aI (fwB (cutH gg 14 0 i = ((4 : Nat) : Int) + 4))] h Q
    refine w_ifB_eq 49 dX12_readNext_29 (by decide) (fun c29 => ?_) (fun c29 => ?_)
    · (exfalso; omega)
    · refine w_aload_n dX12_readNext_32 rfl ?_
      refine w_getr 41 0 dX12_readNext_33 fl_X12_31 rfl (by decide) ?_
      refine w_bipush dX12_readNext_36 rfl ?_
      refine w_ialdE (v := (f : Int)) dX12_readNext_38 rfl (by decide) (by omega) (by omega) (by rw [show (6 : Int).toNat = 6 by omega]; exact ((mSt_r S).2.2.2.2 6 (by omega)).trans h6) ?_
      refine w_bipush dX12_readNext_39 rfl ?_
      refine w_icmp_ne 49 dX12_readNext_41 (by decide) (by omega) (by omega) (fun c41 => ?_) (fun c41 => ?_)
      · refine w_aload_n dX12_readNext_49 rfl ?_
        refine w_callV (d := d + 9) (S := []) [] dX12_readNext_50 ml_X12_121 ok_X12_good vi_X12_good rfl rfl (by decide) rfl (Nat.le_of_ble_eq_true rfl) ?_
        refine c_r_good (d := (d + 9)) _ _ S ?_
        show fwWP mX12_readNext (d + 10) 53 [some (aR 12 0), none] [aI 1] h Q
        refine w_if_ne 57 dX12_readNext_53 (by decide) (by omega) (fun c53 => ?_) (fun c53 => ?_)
        · refine w_aload_n dX12_readNext_57 rfl ?_
          refine w_ldcS (n := 17) dX12_readNext_58 rfl ?_
          refine w_callV (d := d + 9) (S := []) [aR 50 17] dX12_readNext_60 ml_X12_140 ok_X12_takes vi_X12_takes rfl rfl (by decide) rfl (Nat.le_of_ble_eq_true rfl) ?_
          refine c_r_takes (d := (d + 4)) 4 _ _ S (by omega) ⟨?_, ?_⟩
          · intro cw187 g187 S187 F187
            show fwWP mX12_readNext (d + 10) 63 [some (aR 12 0), none] [aI 1] g187 Q
            refine w_if_eq 73 dX12_readNext_63 (by decide) (by omega) (fun c63 => ?_) (fun c63 => ?_)
            · (exfalso; omega)
            · refine w_aload_n dX12_readNext_66 rfl ?_
              refine w_callV (d := d + 9) (S := []) [] dX12_readNext_67 ml_X12_185 ok_X12_readFolk vi_X12_readFolk rfl rfl (by decide) rfl (Nat.le_of_ble_eq_true rfl) ?_
              refine c_r_readFolk (d := (d + 1)) f _ _ S187 hW h6 (by omega) (by omega) ?_
              intro q188 g188 S188 F188 E188
              show fwWP mX12_readNext (d + 10) 70 [some (aR 12 0), none] [] g188 Q
              have G188 := mFr_tr F187 F188
              refine w_goto 105 dX12_readNext_70 (by decide) ?_
              exact w_vret dX12_readNext_105 rfl (k _ _ S188 G188 (by rw [if_pos (show cutH gg 14 0 i = 8 by omega)]; exact E188))
          · (intros; exfalso; omega)
        · (exfalso; omega)
      · refine w_aload_n dX12_readNext_44 rfl ?_
        refine w_iconst dX12_readNext_45 ?_
        refine w_callV (d := d + 9) (S := []) [aI 3] dX12_readNext_46 ml_X12_143 ok_X12_errs vi_X12_errs rfl rfl (by decide) rfl (Nat.le_of_ble_eq_true rfl) ?_
        refine c_r_errs (d := (d + 8)) 3 _ _ S (by omega) ?_
        intro g189 S189 F189
        show fwWP mX12_readNext (d + 10) 49 [some (aR 12 0), none] [] g189 Q
        refine w_aload_n dX12_readNext_49 rfl ?_
        refine w_callV (d := d + 9) (S := []) [] dX12_readNext_50 ml_X12_121 ok_X12_good vi_X12_good rfl rfl (by decide) rfl (Nat.le_of_ble_eq_true rfl) ?_
        refine c_f_good (d := (d + 9)) _ S189 ?_
        show fwWP mX12_readNext (d + 10) 53 [some (aR 12 0), none] [aI 0] g189 Q
        refine w_if_ne 57 dX12_readNext_53 (by decide) (by omega) (fun c53 => ?_) (fun c53 => ?_)
        · (exfalso; omega)
        · exact w_vret dX12_readNext_56 rfl (k _ _ S189 F189 (by rw [if_pos (show cutH gg 14 0 i = 8 by omega), qFolk, if_pos (show 8 ≤ f by omega)]))
  · refine w_aload_n dX12_readNext_9 rfl ?_
    refine w_ldcS (n := 23) dX12_readNext_10 rfl ?_
    refine w_callV (d := d + 9) (S := []) [aR 50 23] dX12_readNext_12 ml_X12_133 ok_X12_is vi_X12_is rfl rfl (by decide) rfl (Nat.le_of_ble_eq_true rfl) ?_
    refine c_r_is (d := (d + 5)) 10 _ _ S (by omega) ?_
    show fwWP mX12_readNext (d + 10) 15 [some (aR 12 0), none] [aI (fwB (cutH gg 14 0 i = ((10 : Nat) : Int) + 4))] h Q
    refine w_ifB_ne 23 dX12_readNext_15 (by decide) (fun c15 => ?_) (fun c15 => ?_)
    · refine w_aload_n dX12_readNext_23 rfl ?_
      refine w_ldcS (n := 17) dX12_readNext_24 rfl ?_
      refine w_callV (d := d + 9) (S := []) [aR 50 17] dX12_readNext_26 ml_X12_133 ok_X12_is vi_X12_is rfl rfl (by decide) rfl (Nat.le_of_ble_eq_true rfl) ?_
      refine c_r_is (d := (d + 5)) 4 _ _ S (by omega) ?_
      show fwWP mX12_readNext (d + 10) 29 [some (aR 12 0), none] [aI (fwB (cutH gg 14 0 i = ((4 : Nat) : Int) + 4))] h Q
      refine w_ifB_eq 49 dX12_readNext_29 (by decide) (fun c29 => ?_) (fun c29 => ?_)
      · refine w_aload_n dX12_readNext_49 rfl ?_
        refine w_callV (d := d + 9) (S := []) [] dX12_readNext_50 ml_X12_121 ok_X12_good vi_X12_good rfl rfl (by decide) rfl (Nat.le_of_ble_eq_true rfl) ?_
        refine c_r_good (d := (d + 9)) _ _ S ?_
        show fwWP mX12_readNext (d + 10) 53 [some (aR 12 0), none] [aI 1] h Q
        refine w_if_ne 57 dX12_readNext_53 (by decide) (by omega) (fun c53 => ?_) (fun c53 => ?_)
        · refine w_aload_n dX12_readNext_57 rfl ?_
          refine w_ldcS (n := 17) dX12_readNext_58 rfl ?_
          refine w_callV (d := d + 9) (S := []) [aR 50 17] dX12_readNext_60 ml_X12_140 ok_X12_takes vi_X12_takes rfl rfl (by decide) rfl (Nat.le_of_ble_eq_true rfl) ?_
          refine c_r_takes (d := (d + 4)) 4 _ _ S (by omega) ⟨?_, ?_⟩
          · (intros; exfalso; omega)
          · intro cw190
            show fwWP mX12_readNext (d + 10) 63 [some (aR 12 0), none] [aI 0] h Q
            refine w_if_eq 73 dX12_readNext_63 (by decide) (by omega) (fun c63 => ?_) (fun c63 => ?_)
            · refine w_aload_n dX12_readNext_73 rfl ?_
              refine w_callV (d := d + 9) (S := []) [] dX12_readNext_74 ml_X12_137 ok_X12_advance vi_X12_advance rfl rfl (by decide) rfl (Nat.le_of_ble_eq_true rfl) ?_
              refine c_r_adv (d := (d + 8)) _ _ S (by omega) ?_
              intro g191 S191 F191
              show fwWP mX12_readNext (d + 10) 77 [some (aR 12 0), none] [] g191 Q
              refine w_aload_n dX12_readNext_77 rfl ?_
              refine w_iconst dX12_readNext_78 ?_
              refine w_aload_n dX12_readNext_79 rfl ?_
              refine w_getr 41 0 dX12_readNext_80 fl_X12_31 rfl (by decide) ?_
              refine w_iconst dX12_readNext_83 ?_
              refine w_ialdE (v := W 0) dX12_readNext_84 rfl (by decide) (by omega) (by omega) (by rw [show (0 : Int).toNat = 0 by omega]; exact ((mSt_r S191).2.2.2.2 0 (by omega))) ?_
              refine w_iconst dX12_readNext_85 ?_
              refine w_isub dX12_readNext_86 ?_
              refine w_callV (d := d + 9) (S := []) [aI 0, aI ((W 0) - 1)] dX12_readNext_87 ml_X12_151 ok_X12_number vi_X12_number rfl rfl (by decide) rfl (Nat.le_of_ble_eq_true rfl) ?_
              refine c_r_number (d := (d + 7)) 0 ((W 0) - 1) _ _ S191 (by omega) (by omega) ⟨?_, ?_, ?_⟩
              · intro cn192 cv192 g192 S192 F192
                have hvr192 := (tk_cut S.1.1).2.2.2 (i + 1) (mSt_r S191).1
                show fwWP mX12_readNext (d + 10) 90 [some (aR 12 0), none] [aI (cutH gg 16 0 (i + 1))] g192 Q
                have G192 := mFr_tr F191 F192
                refine w_istore_n [some (aR 12 0), some (aI (cutH gg 16 0 (i + 1)))] dX12_readNext_90 rfl (by decide) ?_
                refine w_aload_n dX12_readNext_91 rfl ?_
                refine w_callV (d := d + 9) (S := []) [] dX12_readNext_92 ml_X12_121 ok_X12_good vi_X12_good rfl rfl (by decide) rfl (Nat.le_of_ble_eq_true rfl) ?_
                refine c_r_good (d := (d + 9)) _ _ S192 ?_
                show fwWP mX12_readNext (d + 10) 95 [some (aR 12 0), some (aI (cutH gg 16 0 (i + 1)))] [aI 1] g192 Q
                refine w_if_eq 105 dX12_readNext_95 (by decide) (by omega) (fun c95 => ?_) (fun c95 => ?_)
                · (exfalso; omega)
                · refine w_aload_n dX12_readNext_98 rfl ?_
                  refine w_getr 41 0 dX12_readNext_99 fl_X12_31 rfl (by decide) ?_
                  refine w_iconst dX12_readNext_102 ?_
                  refine w_iload_n dX12_readNext_103 rfl ?_
                  refine w_iast dX12_readNext_104 rfl (by decide) (by omega) (by omega) ?_
                  rw [show (5 : Int).toNat = 5 from by omega]
                  have S195 : mSt gg (.inr (((i + 1) + 1), fwFu W 5 (cutH gg 16 0 (i + 1)))) (fwUp g192 41 0 5 (cutH gg 16 0 (i + 1))) := mSt_put S192 5 (cutH gg 16 0 (i + 1))
                  have F195 := mFr_41 G192 5 (cutH gg 16 0 (i + 1))
                  generalize fwUp g192 41 0 5 (cutH gg 16 0 (i + 1)) = g195 at S195 F195 ⊢
                  exact w_vret dX12_readNext_105 rfl (k _ _ S195 F195 (by rw [if_neg (show ¬ cutH gg 14 0 i = 8 by omega), qHeap, qFact_t (by omega) cn192 cv192]))
              · intro cn192 cv192 g193 S193 F193
                show fwWP mX12_readNext (d + 10) 90 [some (aR 12 0), none] [aI 0] g193 Q
                have G193 := mFr_tr F191 F193
                refine w_istore_n [some (aR 12 0), some (aI 0)] dX12_readNext_90 rfl (by decide) ?_
                refine w_aload_n dX12_readNext_91 rfl ?_
                refine w_callV (d := d + 9) (S := []) [] dX12_readNext_92 ml_X12_121 ok_X12_good vi_X12_good rfl rfl (by decide) rfl (Nat.le_of_ble_eq_true rfl) ?_
                refine c_f_good (d := (d + 9)) _ S193 ?_
                show fwWP mX12_readNext (d + 10) 95 [some (aR 12 0), some (aI 0)] [aI 0] g193 Q
                refine w_if_eq 105 dX12_readNext_95 (by decide) (by omega) (fun c95 => ?_) (fun c95 => ?_)
                · exact w_vret dX12_readNext_105 rfl (k _ _ S193 G193 (by rw [if_neg (show ¬ cutH gg 14 0 i = 8 by omega), qHeap, qFact_2 (by omega) cn192 cv192]))
                · (exfalso; omega)
              · intro cn192 g194 S194 F194
                show fwWP mX12_readNext (d + 10) 90 [some (aR 12 0), none] [aI 0] g194 Q
                have G194 := mFr_tr F191 F194
                refine w_istore_n [some (aR 12 0), some (aI 0)] dX12_readNext_90 rfl (by decide) ?_
                refine w_aload_n dX12_readNext_91 rfl ?_
                refine w_callV (d := d + 9) (S := []) [] dX12_readNext_92 ml_X12_121 ok_X12_good vi_X12_good rfl rfl (by decide) rfl (Nat.le_of_ble_eq_true rfl) ?_
                refine c_f_good (d := (d + 9)) _ S194 ?_
                show fwWP mX12_readNext (d + 10) 95 [some (aR 12 0), some (aI 0)] [aI 0] g194 Q
                refine w_if_eq 105 dX12_readNext_95 (by decide) (by omega) (fun c95 => ?_) (fun c95 => ?_)
                · exact w_vret dX12_readNext_105 rfl (k _ _ S194 G194 (by rw [if_neg (show ¬ cutH gg 14 0 i = 8 by omega), qHeap, qFact_1 (by omega) cn192]))
                · (exfalso; omega)
            · (exfalso; omega)
        · (exfalso; omega)
      · (exfalso; omega)
    · refine w_aload_n dX12_readNext_18 rfl ?_
      refine w_iconst dX12_readNext_19 ?_
      refine w_callV (d := d + 9) (S := []) [aI 1] dX12_readNext_20 ml_X12_143 ok_X12_errs vi_X12_errs rfl rfl (by decide) rfl (Nat.le_of_ble_eq_true rfl) ?_
      refine c_r_errs (d := (d + 8)) 1 _ _ S (by omega) ?_
      intro g196 S196 F196
      show fwWP mX12_readNext (d + 10) 23 [some (aR 12 0), none] [] g196 Q
      refine w_aload_n dX12_readNext_23 rfl ?_
      refine w_ldcS (n := 17) dX12_readNext_24 rfl ?_
      refine w_callV (d := d + 9) (S := []) [aR 50 17] dX12_readNext_26 ml_X12_133 ok_X12_is vi_X12_is rfl rfl (by decide) rfl (Nat.le_of_ble_eq_true rfl) ?_
      refine c_f_is (d := (d + 5)) 17 _ S196 (by omega) ?_
      show fwWP mX12_readNext (d + 10) 29 [some (aR 12 0), none] [aI 0] g196 Q
      refine w_if_eq 49 dX12_readNext_29 (by decide) (by omega) (fun c29 => ?_) (fun c29 => ?_)
      · refine w_aload_n dX12_readNext_49 rfl ?_
        refine w_callV (d := d + 9) (S := []) [] dX12_readNext_50 ml_X12_121 ok_X12_good vi_X12_good rfl rfl (by decide) rfl (Nat.le_of_ble_eq_true rfl) ?_
        refine c_f_good (d := (d + 9)) _ S196 ?_
        show fwWP mX12_readNext (d + 10) 53 [some (aR 12 0), none] [aI 0] g196 Q
        refine w_if_ne 57 dX12_readNext_53 (by decide) (by omega) (fun c53 => ?_) (fun c53 => ?_)
        · (exfalso; omega)
        · exact w_vret dX12_readNext_56 rfl (k _ _ S196 F196 (by rw [if_neg (show ¬ cutH gg 14 0 i = 8 by omega), qHeap, qFact_0 (by omega)]))
      · (exfalso; omega)
end
section
/-- as the reading begins -/
def mIn (gg g : fwH) : Prop := jT gg g ∧ g 12 0 5 = 0 ∧ g 12 0 8 = 0 ∧ g 12 0 12 = 0 ∧ g 12 0 13 = -1
theorem mIn_41 {gg g : fwH} (I : mIn gg g) (s : Nat) (x : Int) : mIn gg (fwUp g 41 0 s x) := I
theorem mIn_of {gg h : fwH} (hT : tOk gg) (h5 : h 12 0 5 = gg 1 0 1) (hb : ∀ p : Nat, (p : Int) < gg 1 0 1 → h 39 0 p = gg 13 0 p) (hr : ∀ p : Nat, p < 900 → -128 ≤ h 39 0 p ∧ h 39 0 p < 128) : mIn gg (fwUp (fwUp (fwUp (fwUp (fwUp h 12 0 7 (h 12 0 5)) 12 0 5 0) 12 0 8 0) 12 0 12 0) 12 0 13 (-1)) := ⟨⟨hT, h5, hb, hr⟩, rfl, rfl, rfl, rfl⟩
theorem mFr_in (h : fwH) (a b c d e : Int) : mFr h (fwUp (fwUp (fwUp (fwUp (fwUp h 12 0 7 a) 12 0 5 b) 12 0 8 c) 12 0 12 d) 12 0 13 e) := fun x y p q => by
  funext j
  simp only [fwUp, p, false_and, if_false]
theorem mSt_in {gg g : fwH} (I : mIn gg g) (hz : ∀ z : Nat, z < 135 → g 41 0 z = 0) {A : Nat → Int} (hA : mTk gg (skB (mBy gg) 0) A) (hk : mKp (g 12 0) A) : mSt gg (.inr (0, fun _ => 0)) (fwUc g 12 0 A) := by
  obtain ⟨a, b, c, e, f⟩ := I
  exact ⟨jT_uc a (hk.2.1.trans a.2.1), hk.1.trans b, Nat.zero_le _, hA, hk.2.2.1.trans e, hk.2.2.2.trans f, hz⟩
theorem mSt_tr {gg g g2 : fwH} {q : fwPq} (S : mSt gg q g) (e : ∀ a b, a ≠ 36 → g2 a b = g a b) : mSt gg q g2 := by
  unfold mSt jT at S ⊢
  rw [e 12 0 (by decide), e 39 0 (by decide)]
  cases q with
  | inl x => exact S
  | inr x =>
    dsimp only at S ⊢
    rw [e 41 0 (by decide)]
    exact S
theorem qRun_900 {K V : Nat → Int} {c i : Nat} {W : Nat → Int} (h : qRun K V c = .inr (i, W)) (hk : K i = 0) (hc : c ≤ 900) : qRun K V 900 = .inr (i, W) := by
  have := qRun_stay h hk (900 - c)
  rwa [show c + (900 - c) = 900 by omega] at this
theorem qRun_900f {K V : Nat → Int} {c : Nat} {e : Int × Nat} (h : qRun K V c = .inl e) (hc : c ≤ 900) : qRun K V 900 = .inl e := by
  have := qRun_flt h (900 - c)
  rwa [show c + (900 - c) = 900 by omega] at this
theorem qLine_W {K V : Nat → Int} {i : Nat} {W : Nat → Int} {q : fwPq} (e : qThen q (qW2 K) = qLine K V i W) {i1 : Nat} {W1 : Nat → Int} (hq : q = .inr (i1, W1)) (h2 : K i1 = 2) : qLine K V i W = .inr (i1 + 1, W1) := by
  rw [← e, hq]
  exact qWord_t h2
theorem qLine_1 {K V : Nat → Int} {i : Nat} {W : Nat → Int} {q : fwPq} (e : qThen q (qW2 K) = qLine K V i W) {i1 : Nat} {W1 : Nat → Int} (hq : q = .inr (i1, W1)) (h2 : ¬ K i1 = 2) : qLine K V i W = .inl (1, i1) := by
  rw [← e, hq]
  exact qWord_f h2
theorem qLine_f {K V : Nat → Int} {i : Nat} {W : Nat → Int} {q : fwPq} (e : qThen q (qW2 K) = qLine K V i W) {x : Int × Nat} (hq : q = .inl x) : qLine K V i W = .inl x := by
  rw [← e, hq]
  rfl
theorem qLine_body {K V : Nat → Int} {i : Nat} {W : Nat → Int} : qLine K V i W = qThen (qBody K V i W) (qW2 K) := rfl
theorem t_mount_f {d : Nat} {h gg : fwH} {Q : Option fwV → fwH → Prop} (kl : ∀ e g, qRun (cutH gg 14 0) (cutH gg 16 0) 900 = .inl e → mSt gg (.inl e) g → mFr h g → Q (some (aI (-4))) g) {e : Int × Nat} {g : fwH} (he : qRun (cutH gg 14 0) (cutH gg 16 0) 900 = .inl e) (S : mSt gg (.inl e) g) (F : mFr h g) : fwWP mX12_mount (d + 11) 54 [some (aR 12 0), none] [] g Q := by
  refine w_aload_n dX12_mount_54 rfl ?_
  refine w_callV (d := d + 10) (S := []) [] dX12_mount_55 ml_X12_121 ok_X12_good vi_X12_good rfl rfl (by decide) rfl (Nat.le_of_ble_eq_true rfl) ?_
  refine c_f_good (d := (d + 10)) _ S ?_
  show fwWP mX12_mount (d + 11) 58 [some (aR 12 0), none] [aI 0] g Q
  refine w_if_eq 134 dX12_mount_58 (by decide) (by omega) (fun c58 => ?_) (fun c58 => ?_)
  · refine w_aload_n dX12_mount_134 rfl ?_
    refine w_callV (d := d + 10) (S := []) [] dX12_mount_135 ml_X12_121 ok_X12_good vi_X12_good rfl rfl (by decide) rfl (Nat.le_of_ble_eq_true rfl) ?_
    refine c_f_good (d := (d + 10)) _ S ?_
    show fwWP mX12_mount (d + 11) 138 [some (aR 12 0), none] [aI 0] g Q
    refine w_if_ne 144 dX12_mount_138 (by decide) (by omega) (fun c138 => ?_) (fun c138 => ?_)
    · (exfalso; omega)
    · refine w_bipush dX12_mount_141 rfl ?_
      exact w_iret dX12_mount_143 rfl (kl _ _ he S F)
  · (exfalso; omega)
theorem t_mount_g {d : Nat} {h gg : fwH} {Q : Option fwV → fwH → Prop} (kr : ∀ i W g, qRun (cutH gg 14 0) (cutH gg 16 0) 900 = .inr (i, W) → mSt gg (.inr (i, W)) g → (∀ a b, a ≠ 12 → a ≠ 41 → a ≠ 36 → g a b = h a b) → (∀ z : Nat, z < 135 → g 36 0 z = W z) → Q (some (aI (W 7))) g) {i : Nat} {W : Nat → Int} {g : fwH} (he : qRun (cutH gg 14 0) (cutH gg 16 0) 900 = .inr (i, W)) (S : mSt gg (.inr (i, W)) g) (F : mFr h g) : fwWP mX12_mount (d + 11) 134 [some (aR 12 0), none] [] g Q := by
  refine w_aload_n dX12_mount_134 rfl ?_
  refine w_callV (d := d + 10) (S := []) [] dX12_mount_135 ml_X12_121 ok_X12_good vi_X12_good rfl rfl (by decide) rfl (Nat.le_of_ble_eq_true rfl) ?_
  refine c_r_good (d := (d + 10)) _ _ S ?_
  show fwWP mX12_mount (d + 11) 138 [some (aR 12 0), none] [aI 1] g Q
  refine w_if_ne 144 dX12_mount_138 (by decide) (by omega) (fun c138 => ?_) (fun c138 => ?_)
  · refine w_iconst dX12_mount_144 ?_
    refine w_istore_n [some (aR 12 0), some (aI 0)] dX12_mount_145 rfl (by decide) ?_
    have lp146 : ∀ c : Nat, c ≤ 135 → ∀ gc : fwH, (∀ a b, a ≠ 36 → gc a b = g a b) → (∀ z : Nat, z < c → gc 36 0 z = W z) → fwWP mX12_mount (d + 11) 146 [some (aR 12 0), some (aI (c : Int))] [] gc Q := by
      refine fw_up (fun c hc ih146 => ?_)
      intro gc Fc hz0
      refine w_iload_n dX12_mount_146 rfl ?_
      refine w_sipush dX12_mount_147 rfl ?_
      refine w_icmp_ge 171 dX12_mount_150 (by decide) (by omega) (by omega) (fun c150 => ?_) (fun c150 => ?_)
      · refine w_aload_n dX12_mount_171 rfl ?_
        refine w_getr 36 0 dX12_mount_172 fl_X12_9 rfl (by decide) ?_
        refine w_bipush dX12_mount_175 rfl ?_
        refine w_ialdE (v := W 7) dX12_mount_177 rfl (by decide) (by omega) (by omega) (by rw [show (7 : Int).toNat = 7 by omega]; exact hz0 7 (by omega)) ?_
        exact w_iret dX12_mount_178 rfl (kr _ _ _ he (mSt_tr S Fc) (fun a b p q r => (Fc a b r).trans (F a b p q)) (fun z hz => hz0 z (by omega)))
      · refine w_aload_n dX12_mount_153 rfl ?_
        refine w_getr 36 0 dX12_mount_154 fl_X12_9 rfl (by decide) ?_
        refine w_iload_n dX12_mount_157 rfl ?_
        refine w_aload_n dX12_mount_158 rfl ?_
        refine w_getr 41 0 dX12_mount_159 fl_X12_31 rfl (by decide) ?_
        refine w_iload_n dX12_mount_162 rfl ?_
        refine w_ialdE (v := W c) dX12_mount_163 rfl (by decide) (by omega) (by omega) (by rw [show (c : Int).toNat = c by omega, Fc 41 0 (by decide)]; exact (mSt_r S).2.2.2.2 c (by omega)) ?_
        refine w_iast dX12_mount_164 rfl (by decide) (by omega) (by omega) ?_
        refine w_iinc [some (aR 12 0), some (aI ((c : Int) + 1))] dX12_mount_165 rfl rfl (by decide) ?_
        refine w_goto 146 dX12_mount_168 (by decide) ?_
        exact ih146 (by omega) _ (fun a b p => by rw [show ((c : Int).toNat) = c by omega]; funext j; show (if a = 36 ∧ b = 0 ∧ j = c then _ else gc a b j) = _; rw [if_neg (fun z => p z.1), Fc a b p]) (fun z hz => by rw [show ((c : Int).toNat) = c by omega]; show (if 36 = 36 ∧ 0 = 0 ∧ z = c then _ else gc 36 0 z) = _; exact (Decidable.em (z = c)).elim (fun e9 => by rw [if_pos ⟨rfl, rfl, e9⟩, e9]) (fun e9 => by rw [if_neg (fun q => e9 q.2.2)]; exact hz0 z (by omega)))
    exact lp146 0 (by omega) _ (fun _ _ _ => rfl) (fun z hz => absurd hz (by omega))
  · (exfalso; omega)
theorem t_mount_l {d : Nat} {h gg : fwH} {Q : Option fwV → fwH → Prop} (kl : ∀ e g, qRun (cutH gg 14 0) (cutH gg 16 0) 900 = .inl e → mSt gg (.inl e) g → mFr h g → Q (some (aI (-4))) g) {c i : Nat} {W : Nat → Int} {g : fwH} (hq : qRun (cutH gg 14 0) (cutH gg 16 0) c = .inr (i, W)) (hW : wL W) (hk : cutH gg 14 0 i ≠ 0) (hc : c < 900) (hci : c ≤ i) (h7 : W 7 = (c : Int))  (kb : ∀ i2 W2 g2, qRun (cutH gg 14 0) (cutH gg 16 0) (c + 1) = .inr (i2, W2) → wL W2 → c + 1 ≤ i2 → W2 7 = (c : Int) + 1 → mSt gg (.inr (i2, W2)) g2 → mFr h g2 → fwWP mX12_mount (d + 11) 54 [some (aR 12 0), none] [] g2 Q) {e1 : Int × Nat} (S : mSt gg (.inl e1) g) (F : mFr h g) (e : qThen (.inl e1) (qW2 (cutH gg 14 0)) = qLine (cutH gg 14 0) (cutH gg 16 0) i W) : fwWP mX12_mount (d + 11) 89 [some (aR 12 0), none] [] g Q := by
  obtain ⟨hl1, hl2, hl3, hl4⟩ := mSt_l S
  refine w_aload_n dX12_mount_89 rfl ?_
  refine w_callV (d := d + 10) (S := []) [] dX12_mount_90 ml_X12_121 ok_X12_good vi_X12_good rfl rfl (by decide) rfl (Nat.le_of_ble_eq_true rfl) ?_
  refine c_f_good (d := (d + 10)) _ S ?_
  show fwWP mX12_mount (d + 11) 93 [some (aR 12 0), none] [aI 0] g Q
  refine w_if_eq 109 dX12_mount_93 (by decide) (by omega) (fun c93 => ?_) (fun c93 => ?_)
  · refine w_aload_n dX12_mount_109 rfl ?_
    refine w_callV (d := d + 10) (S := []) [] dX12_mount_110 ml_X12_121 ok_X12_good vi_X12_good rfl rfl (by decide) rfl (Nat.le_of_ble_eq_true rfl) ?_
    refine c_f_good (d := (d + 10)) _ S ?_
    show fwWP mX12_mount (d + 11) 113 [some (aR 12 0), none] [aI 0] g Q
    refine w_if_eq 120 dX12_mount_113 (by decide) (by omega) (fun c113 => ?_) (fun c113 => ?_)
    · refine w_aload_n dX12_mount_120 rfl ?_
      refine w_getr 41 0 dX12_mount_121 fl_X12_31 rfl (by decide) ?_
      refine w_bipush dX12_mount_124 rfl ?_
      refine w_dup2 dX12_mount_126 rfl rfl ?_
      refine w_ialdE (v := g 41 0 7) dX12_mount_127 rfl (by decide) (by omega) (by omega) (by rw [show (7 : Int).toNat = 7 by omega]) ?_
      refine w_iconst dX12_mount_128 ?_
      refine w_iadd dX12_mount_129 ?_
      refine w_iast dX12_mount_130 rfl (by decide) (by omega) (by omega) ?_
      rw [show (7 : Int).toNat = 7 from by omega]
      have S197 : mSt gg (.inl e1) (fwUp g 41 0 7 ((g 41 0 7) + 1)) := mSt_put S 7 ((g 41 0 7) + 1)
      have F197 := mFr_41 F 7 ((g 41 0 7) + 1)
      generalize fwUp g 41 0 7 ((g 41 0 7) + 1) = g197 at S197 F197 ⊢
      refine w_goto 54 dX12_mount_131 (by decide) ?_
      have hl := qLine_f e rfl
      exact t_mount_f kl (qRun_900f (c := c + 1) (by rw [qRun_next hq hk, hl]; rfl) (by omega)) S197 F197
    · (exfalso; omega)
  · (exfalso; omega)
theorem t_mount_r {d : Nat} {h gg : fwH} {Q : Option fwV → fwH → Prop} (kl : ∀ e g, qRun (cutH gg 14 0) (cutH gg 16 0) 900 = .inl e → mSt gg (.inl e) g → mFr h g → Q (some (aI (-4))) g) {c i : Nat} {W : Nat → Int} {g : fwH} (hq : qRun (cutH gg 14 0) (cutH gg 16 0) c = .inr (i, W)) (hW : wL W) (hk : cutH gg 14 0 i ≠ 0) (hc : c < 900) (hci : c ≤ i) (h7 : W 7 = (c : Int))  (kb : ∀ i2 W2 g2, qRun (cutH gg 14 0) (cutH gg 16 0) (c + 1) = .inr (i2, W2) → wL W2 → c + 1 ≤ i2 → W2 7 = (c : Int) + 1 → mSt gg (.inr (i2, W2)) g2 → mFr h g2 → fwWP mX12_mount (d + 11) 54 [some (aR 12 0), none] [] g2 Q) {i1 : Nat} {W1 : Nat → Int} (S : mSt gg (.inr (i1, W1)) g) (F : mFr h g) (e : qThen (.inr (i1, W1)) (qW2 (cutH gg 14 0)) = qLine (cutH gg 14 0) (cutH gg 16 0) i W) : fwWP mX12_mount (d + 11) 89 [some (aR 12 0), none] [] g Q := by
  obtain ⟨hr1, hr2, hr3, hr4, hr5⟩ := mSt_r S
  obtain ⟨hk1, hk2, hk3, hk4, hk5, hk6, hk7⟩ := tk_kind S.1.1 hr1
  refine w_aload_n dX12_mount_89 rfl ?_
  refine w_callV (d := d + 10) (S := []) [] dX12_mount_90 ml_X12_121 ok_X12_good vi_X12_good rfl rfl (by decide) rfl (Nat.le_of_ble_eq_true rfl) ?_
  refine c_r_good (d := (d + 10)) _ _ S ?_
  show fwWP mX12_mount (d + 11) 93 [some (aR 12 0), none] [aI 1] g Q
  refine w_if_eq 109 dX12_mount_93 (by decide) (by omega) (fun c93 => ?_) (fun c93 => ?_)
  · (exfalso; omega)
  · refine w_aload_n dX12_mount_96 rfl ?_
    refine w_getiE (v := mdT (mBy gg) (tokP (mBy gg) i1)) dX12_mount_97 fl_X12_97 rfl (by decide) (mSt_r S).2.1.2.2.2.1 ?_
    refine w_iconst dX12_mount_100 ?_
    refine w_icmp_eq 109 dX12_mount_101 (by decide) (by omega) (by omega) (fun c101 => ?_) (fun c101 => ?_)
    · refine w_aload_n dX12_mount_109 rfl ?_
      refine w_callV (d := d + 10) (S := []) [] dX12_mount_110 ml_X12_121 ok_X12_good vi_X12_good rfl rfl (by decide) rfl (Nat.le_of_ble_eq_true rfl) ?_
      refine c_r_good (d := (d + 10)) _ _ S ?_
      show fwWP mX12_mount (d + 11) 113 [some (aR 12 0), none] [aI 1] g Q
      refine w_if_eq 120 dX12_mount_113 (by decide) (by omega) (fun c113 => ?_) (fun c113 => ?_)
      · (exfalso; omega)
      · refine w_aload_n dX12_mount_116 rfl ?_
        refine w_callV (d := d + 10) (S := []) [] dX12_mount_117 ml_X12_137 ok_X12_advance vi_X12_advance rfl rfl (by decide) rfl (Nat.le_of_ble_eq_true rfl) ?_
        refine c_r_adv (d := (d + 9)) _ _ S (by omega) ?_
        intro g198 S198 F198
        show fwWP mX12_mount (d + 11) 120 [some (aR 12 0), none] [] g198 Q
        have G198 := mFr_tr F F198
        refine w_aload_n dX12_mount_120 rfl ?_
        refine w_getr 41 0 dX12_mount_121 fl_X12_31 rfl (by decide) ?_
        refine w_bipush dX12_mount_124 rfl ?_
        refine w_dup2 dX12_mount_126 rfl rfl ?_
        refine w_ialdE (v := W1 7) dX12_mount_127 rfl (by decide) (by omega) (by omega) (by rw [show (7 : Int).toNat = 7 by omega]; exact (mSt_r S198).2.2.2.2 7 (by omega)) ?_
        refine w_iconst dX12_mount_128 ?_
        refine w_iadd dX12_mount_129 ?_
        refine w_iast dX12_mount_130 rfl (by decide) (by omega) (by omega) ?_
        rw [show (7 : Int).toNat = 7 from by omega]
        have S199 : mSt gg (.inr ((i1 + 1), fwFu W1 7 ((W1 7) + 1))) (fwUp g198 41 0 7 ((W1 7) + 1)) := mSt_put S198 7 ((W1 7) + 1)
        have F199 := mFr_41 G198 7 ((W1 7) + 1)
        generalize fwUp g198 41 0 7 ((W1 7) + 1) = g199 at S199 F199 ⊢
        refine w_goto 54 dX12_mount_131 (by decide) ?_
        have hl := qLine_W e rfl (show cutH gg 14 0 i1 = 2 by omega)
        have hw := qRun_wL hW hl
        exact kb _ _ _ (by rw [qRun_next hq hk, hl]; rfl) hw.2.1 (by omega) (by rw [fwFu_at]; omega) S199 F199
    · refine w_aload_n dX12_mount_104 rfl ?_
      refine w_iconst dX12_mount_105 ?_
      refine w_callV (d := d + 10) (S := []) [aI 1] dX12_mount_106 ml_X12_143 ok_X12_errs vi_X12_errs rfl rfl (by decide) rfl (Nat.le_of_ble_eq_true rfl) ?_
      refine c_r_errs (d := (d + 9)) 1 _ _ S (by omega) ?_
      intro g200 S200 F200
      show fwWP mX12_mount (d + 11) 109 [some (aR 12 0), none] [] g200 Q
      have G200 := mFr_tr F F200
      refine w_aload_n dX12_mount_109 rfl ?_
      refine w_callV (d := d + 10) (S := []) [] dX12_mount_110 ml_X12_121 ok_X12_good vi_X12_good rfl rfl (by decide) rfl (Nat.le_of_ble_eq_true rfl) ?_
      refine c_f_good (d := (d + 10)) _ S200 ?_
      show fwWP mX12_mount (d + 11) 113 [some (aR 12 0), none] [aI 0] g200 Q
      refine w_if_eq 120 dX12_mount_113 (by decide) (by omega) (fun c113 => ?_) (fun c113 => ?_)
      · refine w_aload_n dX12_mount_120 rfl ?_
        refine w_getr 41 0 dX12_mount_121 fl_X12_31 rfl (by decide) ?_
        refine w_bipush dX12_mount_124 rfl ?_
        refine w_dup2 dX12_mount_126 rfl rfl ?_
        refine w_ialdE (v := g200 41 0 7) dX12_mount_127 rfl (by decide) (by omega) (by omega) (by rw [show (7 : Int).toNat = 7 by omega]) ?_
        refine w_iconst dX12_mount_128 ?_
        refine w_iadd dX12_mount_129 ?_
        refine w_iast dX12_mount_130 rfl (by decide) (by omega) (by omega) ?_
        rw [show (7 : Int).toNat = 7 from by omega]
        have S201 : mSt gg (.inl ((1 : Int), i1)) (fwUp g200 41 0 7 ((g200 41 0 7) + 1)) := mSt_put S200 7 ((g200 41 0 7) + 1)
        have F201 := mFr_41 G200 7 ((g200 41 0 7) + 1)
        generalize fwUp g200 41 0 7 ((g200 41 0 7) + 1) = g201 at S201 F201 ⊢
        refine w_goto 54 dX12_mount_131 (by decide) ?_
        have hl := qLine_1 e rfl (show ¬ cutH gg 14 0 i1 = 2 by omega)
        exact t_mount_f kl (qRun_900f (c := c + 1) (by rw [qRun_next hq hk, hl]; rfl) (by omega)) S201 F201
      · (exfalso; omega)
theorem t_mount_89 {d : Nat} {h gg : fwH} {Q : Option fwV → fwH → Prop} (kl : ∀ e g, qRun (cutH gg 14 0) (cutH gg 16 0) 900 = .inl e → mSt gg (.inl e) g → mFr h g → Q (some (aI (-4))) g) {c i : Nat} {W : Nat → Int} {g : fwH} (hq : qRun (cutH gg 14 0) (cutH gg 16 0) c = .inr (i, W)) (hW : wL W) (hk : cutH gg 14 0 i ≠ 0) (hc : c < 900) (hci : c ≤ i) (h7 : W 7 = (c : Int))  (kb : ∀ i2 W2 g2, qRun (cutH gg 14 0) (cutH gg 16 0) (c + 1) = .inr (i2, W2) → wL W2 → c + 1 ≤ i2 → W2 7 = (c : Int) + 1 → mSt gg (.inr (i2, W2)) g2 → mFr h g2 → fwWP mX12_mount (d + 11) 54 [some (aR 12 0), none] [] g2 Q) {q : fwPq} (S : mSt gg q g) (F : mFr h g) (e : qThen q (qW2 (cutH gg 14 0)) = qLine (cutH gg 14 0) (cutH gg 16 0) i W) : fwWP mX12_mount (d + 11) 89 [some (aR 12 0), none] [] g Q := by
  cases q with
  | inl x => exact t_mount_l kl hq hW hk hc hci h7 kb S F e
  | inr x => exact t_mount_r kl hq hW hk hc hci h7 kb (i1 := x.1) (W1 := x.2) S F e
theorem t_mount_54 {d : Nat} {h gg : fwH} {Q : Option fwV → fwH → Prop} (kl : ∀ e g, qRun (cutH gg 14 0) (cutH gg 16 0) 900 = .inl e → mSt gg (.inl e) g → mFr h g → Q (some (aI (-4))) g) (kr : ∀ i W g, qRun (cutH gg 14 0) (cutH gg 16 0) 900 = .inr (i, W) → mSt gg (.inr (i, W)) g → (∀ a b, a ≠ 12 → a ≠ 41 → a ≠ 36 → g a b = h a b) → (∀ z : Nat, z < 135 → g 36 0 z = W z) → Q (some (aI (W 7))) g) : ∀ c : Nat, c ≤ 900 → ∀ i W g, qRun (cutH gg 14 0) (cutH gg 16 0) c = .inr (i, W) → wL W → c ≤ i → W 7 = (c : Int) → mSt gg (.inr (i, W)) g → mFr h g → fwWP mX12_mount (d + 11) 54 [some (aR 12 0), none] [] g Q := by
  refine fw_up (fun c hc ih54 => ?_)
  intro i W g he hW hci h7 S F
  have hTN := (tk_cut S.1.1).2.1
  obtain ⟨hr1, hr2, hr3, hr4, hr5⟩ := mSt_r S
  obtain ⟨hk1, hk2, hk3, hk4, hk5, hk6, hk7⟩ := tk_kind S.1.1 hr1
  refine w_aload_n dX12_mount_54 rfl ?_
  refine w_callV (d := d + 10) (S := []) [] dX12_mount_55 ml_X12_121 ok_X12_good vi_X12_good rfl rfl (by decide) rfl (Nat.le_of_ble_eq_true rfl) ?_
  refine c_r_good (d := (d + 10)) _ _ S ?_
  show fwWP mX12_mount (d + 11) 58 [some (aR 12 0), none] [aI 1] g Q
  refine w_if_eq 134 dX12_mount_58 (by decide) (by omega) (fun c58 => ?_) (fun c58 => ?_)
  · (exfalso; omega)
  · refine w_aload_n dX12_mount_61 rfl ?_
    refine w_getiE (v := mdT (mBy gg) (tokP (mBy gg) i)) dX12_mount_62 fl_X12_97 rfl (by decide) (mSt_r S).2.1.2.2.2.1 ?_
    refine w_if_eq 134 dX12_mount_65 (by decide) (by omega) (fun c65 => ?_) (fun c65 => ?_)
    · exact t_mount_g kr (qRun_900 he (by omega) (by omega)) S F
    · refine w_aload_n dX12_mount_68 rfl ?_
      refine w_getr 41 0 dX12_mount_69 fl_X12_31 rfl (by decide) ?_
      refine w_bipush dX12_mount_72 rfl ?_
      refine w_ialdE (v := (c : Int)) dX12_mount_74 rfl (by decide) (by omega) (by omega) (by rw [show (7 : Int).toNat = 7 by omega]; exact ((mSt_r S).2.2.2.2 7 (by omega)).trans h7) ?_
      refine w_if_ne 85 dX12_mount_75 (by decide) (by omega) (fun c75 => ?_) (fun c75 => ?_)
      · have hwG : wG W := by rcases hW with z | z; have := z.1; omega; exact z.2.1
        refine w_aload_n dX12_mount_85 rfl ?_
        refine w_callV (d := d + 10) (S := []) [] dX12_mount_86 ml_X12_191 ok_X12_readNext vi_X12_readNext rfl rfl (by decide) rfl (Nat.le_of_ble_eq_true rfl) ?_
        refine c_r_readNext (d := d) (W 6).toNat i W S hwG (by have := hwG.2.2.2.2.2.2.2.1; omega) ?_
        intro q202 g202 S202 F202 E202
        show fwWP mX12_mount (d + 11) 89 [some (aR 12 0), none] [] g202 Q
        have G202 := mFr_tr F F202
        exact t_mount_89 kl he hW (by omega) (by omega) hci h7 (fun i2 W2 g2 a1 a2 a3 a4 a5 a6 => ih54 (by omega) i2 W2 g2 a1 a2 a3 a4 a5 a6) S202 G202 (by rw [qLine_body, qBody, if_neg (by omega)]; exact E202)
      · have hw0 : W = fun _ => 0 := by rcases hW with z | z; exact z.2; have := z.1; omega
        refine w_aload_n dX12_mount_78 rfl ?_
        refine w_callV (d := d + 10) (S := []) [] dX12_mount_79 ml_X12_188 ok_X12_readFirst vi_X12_readFirst rfl rfl (by decide) rfl (Nat.le_of_ble_eq_true rfl) ?_
        refine c_r_readFirst (d := (d + 2)) i (mSt_eq S (by rw [hw0])) ?_
        intro g203 S203 F203
        show fwWP mX12_mount (d + 11) 82 [some (aR 12 0), none] [] g203 Q
        have G203 := mFr_tr F F203
        refine w_goto 89 dX12_mount_82 (by decide) ?_
        exact t_mount_89 kl he hW (by omega) (by omega) hci h7 (fun i2 W2 g2 a1 a2 a3 a4 a5 a6 => ih54 (by omega) i2 W2 g2 a1 a2 a3 a4 a5 a6) S203 G203 (by rw [qLine_body, qBody, if_pos (by omega), hw0])
theorem c_X12_mount {d : Nat} {h gg : fwH} {Q : Option fwV → fwH → Prop} (hT : tOk gg) (h5 : h 12 0 5 = gg 1 0 1) (hb : ∀ p : Nat, (p : Int) < gg 1 0 1 → h 39 0 p = gg 13 0 p) (hr : ∀ p : Nat, p < 900 → -128 ≤ h 39 0 p ∧ h 39 0 p < 128) (kl : ∀ e g, qRun (cutH gg 14 0) (cutH gg 16 0) 900 = .inl e → mSt gg (.inl e) g → mFr h g → Q (some (aI (-4))) g) (kr : ∀ i W g, qRun (cutH gg 14 0) (cutH gg 16 0) 900 = .inr (i, W) → mSt gg (.inr (i, W)) g → (∀ a b, a ≠ 12 → a ≠ 41 → a ≠ 36 → g a b = h a b) → (∀ z : Nat, z < 135 → g 36 0 z = W z) → Q (some (aI (W 7))) g) : fwCt mX12_mount (d + 11) [aR 12 0] h Q := by
  refine fwCt_of [some (aR 12 0), none] rfl rfl rfl ?_
  refine w_aload_n dX12_mount_0 rfl ?_
  refine w_aload_n dX12_mount_1 rfl ?_
  refine w_geti dX12_mount_2 fl_X12_81 rfl (by decide) ?_
  refine w_puti dX12_mount_5 fl_X12_84 fp_12_7 rfl (by decide) ?_
  refine w_aload_n dX12_mount_8 rfl ?_
  refine w_iconst dX12_mount_9 ?_
  refine w_puti dX12_mount_10 fl_X12_81 fp_12_5 rfl (by decide) ?_
  refine w_aload_n dX12_mount_13 rfl ?_
  refine w_iconst dX12_mount_14 ?_
  refine w_puti dX12_mount_15 fl_X12_87 fp_12_8 rfl (by decide) ?_
  refine w_aload_n dX12_mount_18 rfl ?_
  refine w_iconst dX12_mount_19 ?_
  refine w_puti dX12_mount_20 fl_X12_118 fp_12_12 rfl (by decide) ?_
  refine w_aload_n dX12_mount_23 rfl ?_
  refine w_iconst dX12_mount_24 ?_
  refine w_puti dX12_mount_25 fl_X12_27 fp_12_13 rfl (by decide) ?_
  refine w_iconst dX12_mount_28 ?_
  refine w_istore_n [some (aR 12 0), some (aI 0)] dX12_mount_29 rfl (by decide) ?_
  have lp30 : ∀ c : Nat, c ≤ 135 → ∀ gc : fwH, mIn gg gc → mFr h gc → (∀ z : Nat, z < c → gc 41 0 z = 0) → fwWP mX12_mount (d + 11) 30 [some (aR 12 0), some (aI (c : Int))] [] gc Q := by
    refine fw_up (fun c hc ih30 => ?_)
    intro gc Ic Fc hz0
    refine w_iload_n dX12_mount_30 rfl ?_
    refine w_sipush dX12_mount_31 rfl ?_
    refine w_icmp_ge 50 dX12_mount_34 (by decide) (by omega) (by omega) (fun c34 => ?_) (fun c34 => ?_)
    · refine w_aload_n dX12_mount_50 rfl ?_
      refine w_callV (d := d + 10) (S := []) [] dX12_mount_51 ml_X12_137 ok_X12_advance vi_X12_advance rfl rfl (by decide) rfl (Nat.le_of_ble_eq_true rfl) ?_
      refine c_md_advance (d := (d + 9)) 0 Ic.1 (by have := hT.1; omega) Ic.2.2.1 ?_
      intro A hA hAk
      show fwWP mX12_mount (d + 11) 54 [some (aR 12 0), some (aI (c : Int))] [] (fwUc gc 12 0 A) Q
      refine w_drop [1] [some (aR 12 0), none] rfl ?_
      exact t_mount_54 kl kr 0 (by omega) 0 (fun _ => 0) _ rfl wL_init (Nat.le_refl _) rfl (mSt_in Ic (fun z hz => hz0 z (by omega)) hA hAk) (mFr_12 Fc A)
    · refine w_aload_n dX12_mount_37 rfl ?_
      refine w_getr 41 0 dX12_mount_38 fl_X12_31 rfl (by decide) ?_
      refine w_iload_n dX12_mount_41 rfl ?_
      refine w_iconst dX12_mount_42 ?_
      refine w_iast dX12_mount_43 rfl (by decide) (by omega) (by omega) ?_
      refine w_iinc [some (aR 12 0), some (aI ((c : Int) + 1))] dX12_mount_44 rfl rfl (by decide) ?_
      refine w_goto 30 dX12_mount_47 (by decide) ?_
      exact ih30 (by omega) _ (mIn_41 Ic _ _) (mFr_41 Fc _ _) (fun z hz => by rw [show ((c : Int).toNat) = c by omega]; show (if 41 = 41 ∧ 0 = 0 ∧ z = c then _ else gc 41 0 z) = _; exact (Decidable.em (z = c)).elim (fun e9 => by rw [if_pos ⟨rfl, rfl, e9⟩]) (fun e9 => by rw [if_neg (fun q => e9 q.2.2)]; exact hz0 z (by omega)))
  exact lp30 0 (by omega) _ (mIn_of hT h5 hb hr) (mFr_in _ _ _ _ _ _) (fun z hz => absurd hz (by omega))
end
