set_option maxRecDepth 100000 in
set_option maxHeartbeats 4000000 in
theorem c_r_readNext {d : Nat} {h gg : fwH} {Q : Option fwV → fwH → Prop} (f : Nat) (i : Nat) (W : Nat → Int) (S : mSt gg (.inr (i, W)) h) (hW : wG W) (h6 : W 6 = (f : Int)) (k : ∀ q g, mSt gg q g → mFr h g → qThen q (qW2 (cutH gg 14 0)) = qThen (if cutH gg 14 0 i = 8 then qFolk (cutH gg 14 0) (cutH gg 16 0) f i W else qHeap (cutH gg 14 0) (cutH gg 16 0) i W) (qW2 (cutH gg 14 0)) → Q none g) : fwCt mX12_readNext (d + 10) [aR 12 0] h Q := by
  refine fwCt_of [some (aR 12 0), none] rfl rfl rfl ?_
  obtain ⟨hz1, hz2⟩ := S.1.1
  obtain ⟨hr1, hr2, hr3, hr4, hr5⟩ := mSt_r S
  have hW0 := hW.1
  have hW6 := hW.2.2.2.2.2.2.2.1
  refine w_aload_n dX12_readNext_0 rfl ?_
  refine w_ldcS (n := 17) dX12_readNext_1 rfl ?_
  refine w_callV (d := d + 9) (S := []) [aR 50 17] dX12_readNext_3 ml_X12_133 ok_X12_is vi_X12_is rfl rfl (by decide) rfl (Nat.le_of_ble_eq_true rfl) ?_
  refine c_r_is (d := (d + 5)) 4 _ _ S (by omega) ?_
  show fwWP mX12_readNext (d + 10) 6 [some (aR 12 0), none] [aI (fwB (cutH gg 14 0 i = ((4 : Nat) : Int) + 4))] h Q
  refine w_ifB_ne 23 dX12_readNext_6 (by decide) (fun c6 => ?_) (fun c6 => ?_)
  · refine w_aload_n dX12_readNext_23 rfl ?_
    refine w_ldcS (n := 17) dX12_readNext_24 rfl ?_
    refine w_callV (d := d + 9) (S := []) [aR 50 17] dX12_readNext_26 ml_X12_133 ok_X12_is vi_X12_is rfl rfl (by decide) rfl (Nat.le_of_ble_eq_true rfl) ?_
    refine c_r_is (d := (d + 5)) 4 _ _ S (by omega) ?_
    show fwWP mX12_readNext (d + 10) 29 [some (aR 12 0), none] [aI (fwB (cutH gg 14 0 i = ((4 : Nat) : Int) + 4))] h Q
    refine w_ifB_eq 49 dX12_readNext_29 (by decide) (fun c29 => ?_) (fun c29 => ?_)
    · (exfalso; omega)
    · refine w_aload_n dX12_readNext_32 rfl ?_
      refine w_getr 41 0 dX12_readNext_33 fl_X12_31 rfl (by decide) ?_
      refine w_bipush dX12_readNext_36 rfl ?_
      refine w_ialdE (v := (f : Int)) dX12_readNext_38 rfl (by decide) (by omega) (by omega) (by rw [show (6 : Int).toNat = 6 by omega]; exact ((mSt_r S).2.2.2.2 6 (by omega)).trans h6) ?_
      refine w_bipush dX12_readNext_39 rfl ?_
      refine w_icmp_ne 49 dX12_readNext_41 (by decide) (by omega) (by omega) (fun c41 => ?_) (fun c41 => ?_)
      · refine w_aload_n dX12_readNext_49 rfl ?_
        refine w_callV (d := d + 9) (S := []) [] dX12_readNext_50 ml_X12_121 ok_X12_good vi_X12_good rfl rfl (by decide) rfl (Nat.le_of_ble_eq_true rfl) ?_
        refine c_r_good (d := (d + 9)) _ _ S ?_
        show fwWP mX12_readNext (d + 10) 53 [some (aR 12 0), none] [aI 1] h Q
        refine w_if_ne 57 dX12_readNext_53 (by decide) (by omega) (fun c53 => ?_) (fun c53 => ?_)
        · refine w_aload_n dX12_readNext_57 rfl ?_
          refine w_ldcS (n := 17) dX12_readNext_58 rfl ?_
          refine w_callV (d := d + 9) (S := []) [aR 50 17] dX12_readNext_60 ml_X12_140 ok_X12_takes vi_X12_takes rfl rfl (by decide) rfl (Nat.le_of_ble_eq_true rfl) ?_
          refine c_r_takes (d := (d + 4)) 4 _ _ S (by omega) ⟨?_, ?_⟩
          · intro cw187 g187 S187 F187
            show fwWP mX12_readNext (d + 10) 63 [some (aR 12 0), none] [aI 1] g187 Q
            refine w_if_eq 73 dX12_readNext_63 (by decide) (by omega) (fun c63 => ?_) (fun c63 => ?_)
            · (exfalso; omega)
            · refine w_aload_n dX12_readNext_66 rfl ?_
              refine w_callV (d := d + 9) (S := []) [] dX12_readNext_67 ml_X12_185 ok_X12_readFolk vi_X12_readFolk rfl rfl (by decide) rfl (Nat.le_of_ble_eq_true rfl) ?_
              refine c_r_readFolk (d := (d + 1)) f _ _ S187 hW h6 (by omega) (by omega) ?_
              intro q188 g188 S188 F188 E188
              show fwWP mX12_readNext (d + 10) 70 [some (aR 12 0), none] [] g188 Q
              have G188 := mFr_tr F187 F188
              refine w_goto 105 dX12_readNext_70 (by decide) ?_
              exact w_vret dX12_readNext_105 rfl (k _ _ S188 G188 (by rw [if_pos (show cutH gg 14 0 i = 8 by omega)]; exact E188))
          · (intros; exfalso; omega)
        · (exfalso; omega)
      · refine w_aload_n dX12_readNext_44 rfl ?_
        refine w_iconst dX12_readNext_45 ?_
        refine w_callV (d := d + 9) (S := []) [aI 3] dX12_readNext_46 ml_X12_143 ok_X12_errs vi_X12_errs rfl rfl (by decide) rfl (Nat.le_of_ble_eq_true rfl) ?_
        refine c_r_errs (d := (d + 8)) 3 _ _ S (by omega) ?_
        intro g189 S189 F189
        show fwWP mX12_readNext (d + 10) 49 [some (aR 12 0), none] [] g189 Q
        refine w_aload_n dX12_readNext_49 rfl ?_
        refine w_callV (d := d + 9) (S := []) [] dX12_readNext_50 ml_X12_121 ok_X12_good vi_X12_good rfl rfl (by decide) rfl (Nat.le_of_ble_eq_true rfl) ?_
        refine c_f_good (d := (d + 9)) _ S189 ?_
        show fwWP mX12_readNext (d + 10) 53 [some (aR 12 0), none] [aI 0] g189 Q
        refine w_if_ne 57 dX12_readNext_53 (by decide) (by omega) (fun c53 => ?_) (fun c53 => ?_)
        · (exfalso; omega)
        · exact w_vret dX12_readNext_56 rfl (k _ _ S189 F189 (by rw [if_pos (show cutH gg 14 0 i = 8 by omega), qFolk, if_pos (show 8 ≤ f by omega)]))
  · refine w_aload_n dX12_readNext_9 rfl ?_
    refine w_ldcS (n := 23) dX12_readNext_10 rfl ?_
    refine w_callV (d := d + 9) (S := []) [aR 50 23] dX12_readNext_12 ml_X12_133 ok_X12_is vi_X12_is rfl rfl (by decide) rfl (Nat.le_of_ble_eq_true rfl) ?_
    refine c_r_is (d := (d + 5)) 10 _ _ S (by omega) ?_
    show fwWP mX12_readNext (d + 10) 15 [some (aR 12 0), none] [aI (fwB (cutH gg 14 0 i = ((10 : Nat) : Int) + 4))] h Q
    refine w_ifB_ne 23 dX12_readNext_15 (by decide) (fun c15 => ?_) (fun c15 => ?_)
    · refine w_aload_n dX12_readNext_23 rfl ?_
      refine w_ldcS (n := 17) dX12_readNext_24 rfl ?_
      refine w_callV (d := d + 9) (S := []) [aR 50 17] dX12_readNext_26 ml_X12_133 ok_X12_is vi_X12_is rfl rfl (by decide) rfl (Nat.le_of_ble_eq_true rfl) ?_
      refine c_r_is (d := (d + 5)) 4 _ _ S (by omega) ?_
      show fwWP mX12_readNext (d + 10) 29 [some (aR 12 0), none] [aI (fwB (cutH gg 14 0 i = ((4 : Nat) : Int) + 4))] h Q
      refine w_ifB_eq 49 dX12_readNext_29 (by decide) (fun c29 => ?_) (fun c29 => ?_)
      · refine w_aload_n dX12_readNext_49 rfl ?_
        refine w_callV (d := d + 9) (S := []) [] dX12_readNext_50 ml_X12_121 ok_X12_good vi_X12_good rfl rfl (by decide) rfl (Nat.le_of_ble_eq_true rfl) ?_
        refine c_r_good (d := (d + 9)) _ _ S ?_
        show fwWP mX12_readNext (d + 10) 53 [some (aR 12 0), none] [aI 1] h Q
        refine w_if_ne 57 dX12_readNext_53 (by decide) (by omega) (fun c53 => ?_) (fun c53 => ?_)
        · refine w_aload_n dX12_readNext_57 rfl ?_
          refine w_ldcS (n := 17) dX12_readNext_58 rfl ?_
          refine w_callV (d := d + 9) (S := []) [aR 50 17] dX12_readNext_60 ml_X12_140 ok_X12_takes vi_X12_takes rfl rfl (by decide) rfl (Nat.le_of_ble_eq_true rfl) ?_
          refine c_r_takes (d := (d + 4)) 4 _ _ S (by omega) ⟨?_, ?_⟩
          · (intros; exfalso; omega)
          · intro cw190
            show fwWP mX12_readNext (d + 10) 63 [some (aR 12 0), none] [aI 0] h Q
            refine w_if_eq 73 dX12_readNext_63 (by decide) (by omega) (fun c63 => ?_) (fun c63 => ?_)
            · refine w_aload_n dX12_readNext_73 rfl ?_
              refine w_callV (d := d + 9) (S := []) [] dX12_readNext_74 ml_X12_137 ok_X12_advance vi_X12_advance rfl rfl (by decide) rfl (Nat.le_of_ble_eq_true rfl) ?_
              refine c_r_adv (d := (d + 8)) _ _ S (by omega) ?_
              intro g191 S191 F191
              show fwWP mX12_readNext (d + 10) 77 [some (aR 12 0), none] [] g191 Q
              refine w_aload_n dX12_readNext_77 rfl ?_
              refine w_iconst dX12_readNext_78 ?_
              refine w_aload_n dX12_readNext_79 rfl ?_
              refine w_getr 41 0 dX12_readNext_80 fl_X12_31 rfl (by decide) ?_
              refine w_iconst dX12_readNext_83 ?_
              refine w_ialdE (v := W 0) dX12_readNext_84 rfl (by decide) (by omega) (by omega) (by rw [show (0 : Int).toNat = 0 by omega]; exact ((mSt_r S191).2.2.2.2 0 (by omega))) ?_
              refine w_iconst dX12_readNext_85 ?_
              refine w_isub dX12_readNext_86 ?_
              refine w_callV (d := d + 9) (S := []) [aI 0, aI ((W 0) - 1)] dX12_readNext_87 ml_X12_151 ok_X12_number vi_X12_number rfl rfl (by decide) rfl (Nat.le_of_ble_eq_true rfl) ?_
              refine c_r_number (d := (d + 7)) 0 ((W 0) - 1) _ _ S191 (by omega) (by omega) ⟨?_, ?_, ?_⟩
              · intro cn192 cv192 g192 S192 F192
                have hvr192 := (tk_cut S.1.1).2.2.2 (i + 1) (mSt_r S191).1
                show fwWP mX12_readNext (d + 10) 90 [some (aR 12 0), none] [aI (cutH gg 16 0 (i + 1))] g192 Q
                have G192 := mFr_tr F191 F192
                refine w_istore_n [some (aR 12 0), some (aI (cutH gg 16 0 (i + 1)))] dX12_readNext_90 rfl (by decide) ?_
                refine w_aload_n dX12_readNext_91 rfl ?_
                refine w_callV (d := d + 9) (S := []) [] dX12_readNext_92 ml_X12_121 ok_X12_good vi_X12_good rfl rfl (by decide) rfl (Nat.le_of_ble_eq_true rfl) ?_
                refine c_r_good (d := (d + 9)) _ _ S192 ?_
                show fwWP mX12_readNext (d + 10) 95 [some (aR 12 0), some (aI (cutH gg 16 0 (i + 1)))] [aI 1] g192 Q
                refine w_if_eq 105 dX12_readNext_95 (by decide) (by omega) (fun c95 => ?_) (fun c95 => ?_)
                · (exfalso; omega)
                · refine w_aload_n dX12_readNext_98 rfl ?_
                  refine w_getr 41 0 dX12_readNext_99 fl_X12_31 rfl (by decide) ?_
                  refine w_iconst dX12_readNext_102 ?_
                  refine w_iload_n dX12_readNext_103 rfl ?_
                  refine w_iast dX12_readNext_104 rfl (by decide) (by omega) (by omega) ?_
                  rw [show (5 : Int).toNat = 5 from by omega]
                  have S195 : mSt gg (.inr (((i + 1) + 1), fwFu W 5 (cutH gg 16 0 (i + 1)))) (fwUp g192 41 0 5 (cutH gg 16 0 (i + 1))) := mSt_put S192 5 (cutH gg 16 0 (i + 1))
                  have F195 := mFr_41 G192 5 (cutH gg 16 0 (i + 1))
                  generalize fwUp g192 41 0 5 (cutH gg 16 0 (i + 1)) = g195 at S195 F195 ⊢
                  exact w_vret dX12_readNext_105 rfl (k _ _ S195 F195 (by rw [if_neg (show ¬ cutH gg 14 0 i = 8 by omega), qHeap, qFact_t (by omega) cn192 cv192]))
              · intro cn192 cv192 g193 S193 F193
                show fwWP mX12_readNext (d + 10) 90 [some (aR 12 0), none] [aI 0] g193 Q
                have G193 := mFr_tr F191 F193
                refine w_istore_n [some (aR 12 0), some (aI 0)] dX12_readNext_90 rfl (by decide) ?_
                refine w_aload_n dX12_readNext_91 rfl ?_
                refine w_callV (d := d + 9) (S := []) [] dX12_readNext_92 ml_X12_121 ok_X12_good vi_X12_good rfl rfl (by decide) rfl (Nat.le_of_ble_eq_true rfl) ?_
                refine c_f_good (d := (d + 9)) _ S193 ?_
                show fwWP mX12_readNext (d + 10) 95 [some (aR 12 0), some (aI 0)] [aI 0] g193 Q
                refine w_if_eq 105 dX12_readNext_95 (by decide) (by omega) (fun c95 => ?_) (fun c95 => ?_)
                · exact w_vret dX12_readNext_105 rfl (k _ _ S193 G193 (by rw [if_neg (show ¬ cutH gg 14 0 i = 8 by omega), qHeap, qFact_2 (by omega) cn192 cv192]))
                · (exfalso; omega)
              · intro cn192 g194 S194 F194
                show fwWP mX12_readNext (d + 10) 90 [some (aR 12 0), none] [aI 0] g194 Q
                have G194 := mFr_tr F191 F194
                refine w_istore_n [some (aR 12 0), some (aI 0)] dX12_readNext_90 rfl (by decide) ?_
                refine w_aload_n dX12_readNext_91 rfl ?_
                refine w_callV (d := d + 9) (S := []) [] dX12_readNext_92 ml_X12_121 ok_X12_good vi_X12_good rfl rfl (by decide) rfl (Nat.le_of_ble_eq_true rfl) ?_
                refine c_f_good (d := (d + 9)) _ S194 ?_
                show fwWP mX12_readNext (d + 10) 95 [some (aR 12 0), some (aI 0)] [aI 0] g194 Q
                refine w_if_eq 105 dX12_readNext_95 (by decide) (by omega) (fun c95 => ?_) (fun c95 => ?_)
                · exact w_vret dX12_readNext_105 rfl (k _ _ S194 G194 (by rw [if_neg (show ¬ cutH gg 14 0 i = 8 by omega), qHeap, qFact_1 (by omega) cn192]))
                · (exfalso; omega)
            · (exfalso; omega)
        · (exfalso; omega)
      · (exfalso; omega)
    · refine w_aload_n dX12_readNext_18 rfl ?_
      refine w_iconst dX12_readNext_19 ?_
      refine w_callV (d := d + 9) (S := []) [aI 1] dX12_readNext_20 ml_X12_143 ok_X12_errs vi_X12_errs rfl rfl (by decide) rfl (Nat.le_of_ble_eq_true rfl) ?_
      refine c_r_errs (d := (d + 8)) 1 _ _ S (by omega) ?_
      intro g196 S196 F196
      show fwWP mX12_readNext (d + 10) 23 [some (aR 12 0), none] [] g196 Q
      refine w_aload_n dX12_readNext_23 rfl ?_
      refine w_ldcS (n := 17) dX12_readNext_24 rfl ?_
      refine w_callV (d := d + 9) (S := []) [aR 50 17] dX12_readNext_26 ml_X12_133 ok_X12_is vi_X12_is rfl rfl (by decide) rfl (Nat.le_of_ble_eq_true rfl) ?_
      refine c_f_is (d := (d + 5)) 17 _ S196 (by omega) ?_
      show fwWP mX12_readNext (d + 10) 29 [some (aR 12 0), none] [aI 0] g196 Q
      refine w_if_eq 49 dX12_readNext_29 (by decide) (by omega) (fun c29 => ?_) (fun c29 => ?_)
      · refine w_aload_n dX12_readNext_49 rfl ?_
        refine w_callV (d := d + 9) (S := []) [] dX12_readNext_50 ml_X12_121 ok_X12_good vi_X12_good rfl rfl (by decide) rfl (Nat.le_of_ble_eq_true rfl) ?_
        refine c_f_good (d := (d + 9)) _ S196 ?_
        show fwWP mX12_readNext (d + 10) 53 [some (aR 12 0), none] [aI 0] g196 Q
        refine w_if_ne 57 dX12_readNext_53 (by decide) (by omega) (fun c53 => ?_) (fun c53 => ?_)
        · (exfalso; omega)
        · exact w_vret dX12_readNext_56 rfl (k _ _ S196 F196 (by rw [if_neg (show ¬ cutH gg 14 0 i = 8 by omega), qHeap, qFact_0 (by omega)]))
      · (exfalso; omega)
