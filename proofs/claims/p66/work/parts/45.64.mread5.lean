section QEQ
variable {K V : Nat → Int} {i : Nat} {W : Nat → Int}
theorem qWord_t {x : Int} (h : K i = x) : qWord K x i W = .inr (i + 1, W) := if_pos h
theorem qWord_f {x : Int} (h : ¬ K i = x) : qWord K x i W = .inl (1, i) := if_neg h
theorem qNum_t {lo hi : Int} {f : Int → Nat → (Nat → Int)} (h : K i = 3) (hv : lo ≤ V i ∧ V i ≤ hi) : qNum K V lo hi f i = .inr (i + 1, f (V i) i) := by unfold qNum; rw [if_pos h, if_pos hv]
theorem qNum_2 {lo hi : Int} {f : Int → Nat → (Nat → Int)} (h : K i = 3) (hv : ¬ (lo ≤ V i ∧ V i ≤ hi)) : qNum K V lo hi f i = .inl (2, i) := by unfold qNum; rw [if_pos h, if_neg hv]
theorem qNum_1 {lo hi : Int} {f : Int → Nat → (Nat → Int)} (h : ¬ K i = 3) : qNum K V lo hi f i = .inl (1, i) := by unfold qNum; rw [if_neg h]
theorem qFact_t {x lo hi : Int} {s : Nat} (h : K i = x) (h3 : K (i + 1) = 3) (hv : lo ≤ V (i + 1) ∧ V (i + 1) ≤ hi) : qFact K V x lo hi s i W = .inr (i + 1 + 1, fwFu W s (V (i + 1))) := by
  unfold qFact
  rw [qWord_t h]
  show qNum K V lo hi (fun v _ => fwFu W s v) (i + 1) = _
  exact qNum_t h3 hv
theorem qFact_2 {x lo hi : Int} {s : Nat} (h : K i = x) (h3 : K (i + 1) = 3) (hv : ¬ (lo ≤ V (i + 1) ∧ V (i + 1) ≤ hi)) : qFact K V x lo hi s i W = .inl (2, i + 1) := by
  unfold qFact
  rw [qWord_t h]
  show qNum K V lo hi (fun v _ => fwFu W s v) (i + 1) = _
  exact qNum_2 h3 hv
theorem qFact_1 {x lo hi : Int} {s : Nat} (h : K i = x) (h3 : ¬ K (i + 1) = 3) : qFact K V x lo hi s i W = .inl (1, i + 1) := by
  unfold qFact
  rw [qWord_t h]
  show qNum K V lo hi (fun v _ => fwFu W s v) (i + 1) = _
  exact qNum_1 h3
theorem qFact_0 {x lo hi : Int} {s : Nat} (h : ¬ K i = x) : qFact K V x lo hi s i W = .inl (1, i) := by
  unfold qFact
  rw [qWord_f h]
  rfl
theorem qHts_s {c : Nat} (hc : c < 10) (h0 : W 0 = (c : Int)) (h3 : K i = 3) (hv : 0 ≤ V i ∧ V i ≤ 40) : qHts K V (11 - c) i W = qHts K V (11 - (c + 1)) (i + 1) (fwFu (fwFu W (9 + c) (V i)) 0 ((c : Int) + 1)) := by
  obtain ⟨n, hn⟩ : ∃ n, 11 - c = n + 1 := ⟨10 - c, by omega⟩
  rw [hn, qHts, if_pos h3, if_pos hv, if_neg (by omega), show 11 - (c + 1) = n by omega, show 10 - n = c by omega]
theorem qHts_3 {c : Nat} (hc : c = 10) (h3 : K i = 3) (hv : 0 ≤ V i ∧ V i ≤ 40) : qHts K V (11 - c) i W = .inl (3, i) := by
  subst hc
  rw [show 11 - 10 = 0 + 1 from rfl, qHts, if_pos h3, if_pos hv, if_pos rfl]
theorem qHts_2 {c : Nat} (hc : c ≤ 10) (h3 : K i = 3) (hv : ¬ (0 ≤ V i ∧ V i ≤ 40)) : qHts K V (11 - c) i W = .inl (2, i) := by
  obtain ⟨n, hn⟩ : ∃ n, 11 - c = n + 1 := ⟨10 - c, by omega⟩
  rw [hn, qHts, if_pos h3, if_neg hv]
theorem qHts_1 {c : Nat} (hc : c ≤ 10) (h3 : ¬ K i = 3) (hv : ¬ 3 ≤ W 0) : qHts K V (11 - c) i W = .inl (1, i) := by
  obtain ⟨n, hn⟩ : ∃ n, 11 - c = n + 1 := ⟨10 - c, by omega⟩
  rw [hn, qHts, if_neg h3, if_neg hv]
theorem qHts_t {c : Nat} (hc : c ≤ 10) (h3 : ¬ K i = 3) (hv : 3 ≤ W 0) : qHts K V (11 - c) i W = .inr (i, W) := by
  obtain ⟨n, hn⟩ : ∃ n, 11 - c = n + 1 := ⟨10 - c, by omega⟩
  rw [hn, qHts, if_neg h3, if_pos hv]
end QEQ
theorem fwFu_id {g : Nat → Int} {j : Nat} {x : Int} (h : g j = x) : fwFu g j x = g := by
  funext z
  unfold fwFu
  split
  · rename_i e
    rw [e, h]
  · rfl
theorem mSt_eq {gg h : fwH} {q q' : fwPq} (S : mSt gg q h) (e : q' = q) : mSt gg q' h := e ▸ S
set_option maxRecDepth 100000 in
set_option maxHeartbeats 4000000 in
theorem c_r_readFirst {d : Nat} {h gg : fwH} {Q : Option fwV → fwH → Prop}  (i : Nat) (S : mSt gg (.inr (i, fun _ => 0)) h) (k : ∀ g, mSt gg (qFirst (cutH gg 14 0) (cutH gg 16 0) i (fun _ => 0)) g → mFr h g → Q none g) : fwCt mX12_readFirst (d + 8) [aR 12 0] h Q := by
  refine fwCt_of [some (aR 12 0), none] rfl rfl rfl ?_
  obtain ⟨hz1, hz2⟩ := S.1.1
  obtain ⟨hr1, hr2, hr3, hr4, hr5⟩ := mSt_r S
  obtain ⟨hk1, hk2, hk3, hk4, hk5, hk6, hk7⟩ := tk_kind S.1.1 hr1
  refine w_aload_n dX12_readFirst_0 rfl ?_
  refine w_ldcS (n := 13) dX12_readFirst_1 rfl ?_
  refine w_callV (d := d + 7) (S := []) [aR 50 13] dX12_readFirst_3 ml_X12_147 ok_X12_needs vi_X12_needs rfl rfl (by decide) rfl (Nat.le_of_ble_eq_true rfl) ?_
  refine c_r_needs (d := (d + 1)) 0 _ _ S (by omega) ⟨?_, ?_⟩
  · intro cw12 g12 S12 F12
    show fwWP mX12_readFirst (d + 8) 6 [some (aR 12 0), none] [] g12 Q
    have q14 : qWord (cutH gg 14 0) 4 i (fun _ => (0 : Int)) = .inr (i + 1, (fun _ => (0 : Int))) := qWord_t (by omega)
    have lp6 : ∀ c : Nat, c ≤ 10 → ∀ (Wc : Nat → Int) (gc : fwH), mSt gg (.inr (i + 1 + c, Wc)) gc → mFr h gc → Wc 0 = (c : Int) → qHts (cutH gg 14 0) (cutH gg 16 0) 11 (i + 1) (fun _ => 0) = qHts (cutH gg 14 0) (cutH gg 16 0) (11 - c) (i + 1 + c) Wc → fwWP mX12_readFirst (d + 8) 6 [some (aR 12 0), none] [] gc Q := by
      refine fw_up (fun c hc6 ih6 => ?_)
      intro Wc gc Sc Fc hw0 he6
      have hkc := tk_kind S.1.1 (mSt_r Sc).1
      obtain ⟨hc1, hc2, hc3, hc4, hc5, hc6b, hc7⟩ := hkc
      refine w_aload_n dX12_readFirst_6 rfl ?_
      refine w_callV (d := d + 7) (S := []) [] dX12_readFirst_7 ml_X12_121 ok_X12_good vi_X12_good rfl rfl (by decide) rfl (Nat.le_of_ble_eq_true rfl) ?_
      refine c_r_good (d := (d + 7)) _ _ Sc ?_
      show fwWP mX12_readFirst (d + 8) 10 [some (aR 12 0), none] [aI 1] gc Q
      refine w_if_eq 114 dX12_readFirst_10 (by decide) (by omega) (fun c10 => ?_) (fun c10 => ?_)
      · (exfalso; omega)
      · refine w_aload_n dX12_readFirst_13 rfl ?_
        refine w_getiE (v := mdT (mBy gg) (tokP (mBy gg) (i + 1 + c))) dX12_readFirst_14 fl_X12_97 rfl (by decide) (mSt_r Sc).2.1.2.2.2.1 ?_
        refine w_iconst dX12_readFirst_17 ?_
        refine w_icmp_eq 31 dX12_readFirst_18 (by decide) (by omega) (by omega) (fun c18 => ?_) (fun c18 => ?_)
        · refine w_aload_n dX12_readFirst_31 rfl ?_
          refine w_getiE (v := mdT (mBy gg) (tokP (mBy gg) (i + 1 + c))) dX12_readFirst_32 fl_X12_97 rfl (by decide) (mSt_r Sc).2.1.2.2.2.1 ?_
          refine w_iconst dX12_readFirst_35 ?_
          refine w_icmp_ne 70 dX12_readFirst_36 (by decide) (by omega) (by omega) (fun c36 => ?_) (fun c36 => ?_)
          · (exfalso; omega)
          · have hvc := (tk_cut S.1.1).2.2.2 (i + 1 + c) (mSt_r Sc).1
            refine w_aload_n dX12_readFirst_39 rfl ?_
            refine w_getiE (v := min 99999 (cutH gg 16 0 (i + 1 + c))) dX12_readFirst_40 fl_X12_108 rfl (by decide) (by rw [hc4 (by omega)]; exact (mSt_r Sc).2.1.2.2.2.2 (by omega)) ?_
            refine w_i2l dX12_readFirst_43 (by omega) ?_
            refine w_lconst (z := 0) dX12_readFirst_44 rfl ?_
            refine w_ldc2 (n := 40) dX12_readFirst_45 cs_X12_156 ?_
            refine w_callS (d := d + 7) (S := []) [aJ (min 99999 (cutH gg 16 0 (i + 1 + c))), aJ 0, aJ 40] dX12_readFirst_48 ml_X12_65 ok_X12_in st_X12_in rfl (Nat.le_of_ble_eq_true rfl) ?_
            refine c_X12_in (d := (d + 7)) (min 99999 (cutH gg 16 0 (i + 1 + c))) 0 40 (by omega) (by omega) (by omega) ?_
            show fwWP mX12_readFirst (d + 8) 51 [some (aR 12 0), none] [aI (fwB (0 ≤ (min 99999 (cutH gg 16 0 (i + 1 + c))) ∧ (min 99999 (cutH gg 16 0 (i + 1 + c))) ≤ 40))] gc Q
            refine w_ifB_eq 70 dX12_readFirst_51 (by decide) (fun c51 => ?_) (fun c51 => ?_)
            · refine w_aload_n dX12_readFirst_70 rfl ?_
              refine w_iconst dX12_readFirst_71 ?_
              refine w_bipush dX12_readFirst_72 rfl ?_
              refine w_callV (d := d + 7) (S := []) [aI 0, aI 40] dX12_readFirst_74 ml_X12_151 ok_X12_number vi_X12_number rfl rfl (by decide) rfl (Nat.le_of_ble_eq_true rfl) ?_
              refine c_r_number (d := (d + 5)) 0 40 _ _ Sc (by omega) (by omega) ⟨?_, ?_, ?_⟩
              · (intros; exfalso; omega)
              · intro cn16 cv16 g17 S17 F17
                show fwWP mX12_readFirst (d + 8) 77 [some (aR 12 0), none] [aI 0] g17 Q
                have G17 := mFr_tr Fc F17
                refine w_istore_n [some (aR 12 0), some (aI 0)] dX12_readFirst_77 rfl (by decide) ?_
                refine w_aload_n dX12_readFirst_78 rfl ?_
                refine w_callV (d := d + 7) (S := []) [] dX12_readFirst_79 ml_X12_121 ok_X12_good vi_X12_good rfl rfl (by decide) rfl (Nat.le_of_ble_eq_true rfl) ?_
                refine c_f_good (d := (d + 7)) _ S17 ?_
                show fwWP mX12_readFirst (d + 8) 82 [some (aR 12 0), some (aI 0)] [aI 0] g17 Q
                refine w_if_ne 86 dX12_readFirst_82 (by decide) (by omega) (fun c82 => ?_) (fun c82 => ?_)
                · (exfalso; omega)
                · have qh : qHts (cutH gg 14 0) (cutH gg 16 0) 11 (i + 1) (fun _ => 0) = .inl (2, i + 1 + c) := (by rw [he6]; exact qHts_2 hc6 (by omega) (by omega))
                  have eF : qFirst (cutH gg 14 0) (cutH gg 16 0) i (fun _ => 0) = .inl ((2 : Int), (i + 1 + c)) := by simp only [qFirst, qThen, q14, qh]
                  exact w_vret dX12_readFirst_85 rfl (k _ (mSt_eq S17 eF) G17)
              · (intros; exfalso; omega)
            · refine w_aload_n dX12_readFirst_54 rfl ?_
              refine w_getr 41 0 dX12_readFirst_55 fl_X12_31 rfl (by decide) ?_
              refine w_iconst dX12_readFirst_58 ?_
              refine w_ialdE (v := (c : Int)) dX12_readFirst_59 rfl (by decide) (by omega) (by omega) (by rw [show (0 : Int).toNat = 0 by omega]; exact ((mSt_r Sc).2.2.2.2 0 (by omega)).trans (by first | exact hw0 | (rw [fwFu_ne (by omega)]; exact hw0))) ?_
              refine w_bipush dX12_readFirst_60 rfl ?_
              refine w_icmp_ne 70 dX12_readFirst_62 (by decide) (by omega) (by omega) (fun c62 => ?_) (fun c62 => ?_)
              · refine w_aload_n dX12_readFirst_70 rfl ?_
                refine w_iconst dX12_readFirst_71 ?_
                refine w_bipush dX12_readFirst_72 rfl ?_
                refine w_callV (d := d + 7) (S := []) [aI 0, aI 40] dX12_readFirst_74 ml_X12_151 ok_X12_number vi_X12_number rfl rfl (by decide) rfl (Nat.le_of_ble_eq_true rfl) ?_
                refine c_r_number (d := (d + 5)) 0 40 _ _ Sc (by omega) (by omega) ⟨?_, ?_, ?_⟩
                · intro cn19 cv19 g19 S19 F19
                  have hvr19 := (tk_cut S.1.1).2.2.2 (i + 1 + c) (mSt_r Sc).1
                  show fwWP mX12_readFirst (d + 8) 77 [some (aR 12 0), none] [aI (cutH gg 16 0 (i + 1 + c))] g19 Q
                  have G19 := mFr_tr Fc F19
                  refine w_istore_n [some (aR 12 0), some (aI (cutH gg 16 0 (i + 1 + c)))] dX12_readFirst_77 rfl (by decide) ?_
                  refine w_aload_n dX12_readFirst_78 rfl ?_
                  refine w_callV (d := d + 7) (S := []) [] dX12_readFirst_79 ml_X12_121 ok_X12_good vi_X12_good rfl rfl (by decide) rfl (Nat.le_of_ble_eq_true rfl) ?_
                  refine c_r_good (d := (d + 7)) _ _ S19 ?_
                  show fwWP mX12_readFirst (d + 8) 82 [some (aR 12 0), some (aI (cutH gg 16 0 (i + 1 + c)))] [aI 1] g19 Q
                  refine w_if_ne 86 dX12_readFirst_82 (by decide) (by omega) (fun c82 => ?_) (fun c82 => ?_)
                  · refine w_aload_n dX12_readFirst_86 rfl ?_
                    refine w_getr 41 0 dX12_readFirst_87 fl_X12_31 rfl (by decide) ?_
                    refine w_bipush dX12_readFirst_90 rfl ?_
                    refine w_aload_n dX12_readFirst_92 rfl ?_
                    refine w_getr 41 0 dX12_readFirst_93 fl_X12_31 rfl (by decide) ?_
                    refine w_iconst dX12_readFirst_96 ?_
                    refine w_ialdE (v := (c : Int)) dX12_readFirst_97 rfl (by decide) (by omega) (by omega) (by rw [show (0 : Int).toNat = 0 by omega]; exact ((mSt_r S19).2.2.2.2 0 (by omega)).trans (by first | exact hw0 | (rw [fwFu_ne (by omega)]; exact hw0))) ?_
                    refine w_iadd dX12_readFirst_98 ?_
                    refine w_iload_n dX12_readFirst_99 rfl ?_
                    refine w_iast dX12_readFirst_100 rfl (by decide) (by omega) (by omega) ?_
                    rw [show (9 + (c : Int) : Int).toNat = (9 + c) from by omega]
                    have S22 : mSt gg (.inr (((i + 1 + c) + 1), fwFu Wc (9 + c) (cutH gg 16 0 (i + 1 + c)))) (fwUp g19 41 0 (9 + c) (cutH gg 16 0 (i + 1 + c))) := mSt_put S19 (9 + c) (cutH gg 16 0 (i + 1 + c))
                    have F22 := mFr_41 G19 (9 + c) (cutH gg 16 0 (i + 1 + c))
                    generalize fwUp g19 41 0 (9 + c) (cutH gg 16 0 (i + 1 + c)) = g22 at S22 F22 ⊢
                    refine w_aload_n dX12_readFirst_101 rfl ?_
                    refine w_getr 41 0 dX12_readFirst_102 fl_X12_31 rfl (by decide) ?_
                    refine w_iconst dX12_readFirst_105 ?_
                    refine w_dup2 dX12_readFirst_106 rfl rfl ?_
                    refine w_ialdE (v := (c : Int)) dX12_readFirst_107 rfl (by decide) (by omega) (by omega) (by rw [show (0 : Int).toNat = 0 by omega]; exact ((mSt_r S22).2.2.2.2 0 (by omega)).trans (by first | exact hw0 | (rw [fwFu_ne (by omega)]; exact hw0))) ?_
                    refine w_iconst dX12_readFirst_108 ?_
                    refine w_iadd dX12_readFirst_109 ?_
                    refine w_iast dX12_readFirst_110 rfl (by decide) (by omega) (by omega) ?_
                    rw [show (0 : Int).toNat = 0 from by omega]
                    have S23 : mSt gg (.inr (((i + 1 + c) + 1), fwFu (fwFu Wc (9 + c) (cutH gg 16 0 (i + 1 + c))) 0 ((c : Int) + 1))) (fwUp g22 41 0 0 ((c : Int) + 1)) := mSt_put S22 0 ((c : Int) + 1)
                    have F23 := mFr_41 F22 0 ((c : Int) + 1)
                    generalize fwUp g22 41 0 0 ((c : Int) + 1) = g23 at S23 F23 ⊢
                    refine w_goto 6 dX12_readFirst_111 (by decide) ?_
                    refine w_drop [1] [some (aR 12 0), none] rfl ?_
                    exact ih6 (by omega) _ _ (mSt_eq S23 (by rw [show i + 1 + (c + 1) = i + 1 + c + 1 by omega])) F23 (by rw [fwFu_at]; omega) (by rw [he6]; exact qHts_s (by omega) hw0 (by omega) (by omega))
                  · (exfalso; omega)
                · (intros; exfalso; omega)
                · (intros; exfalso; omega)
              · refine w_aload_n dX12_readFirst_65 rfl ?_
                refine w_iconst dX12_readFirst_66 ?_
                refine w_callV (d := d + 7) (S := []) [aI 3] dX12_readFirst_67 ml_X12_143 ok_X12_errs vi_X12_errs rfl rfl (by decide) rfl (Nat.le_of_ble_eq_true rfl) ?_
                refine c_r_errs (d := (d + 6)) 3 _ _ Sc (by omega) ?_
                intro g24 S24 F24
                show fwWP mX12_readFirst (d + 8) 70 [some (aR 12 0), none] [] g24 Q
                have G24 := mFr_tr Fc F24
                refine w_aload_n dX12_readFirst_70 rfl ?_
                refine w_iconst dX12_readFirst_71 ?_
                refine w_bipush dX12_readFirst_72 rfl ?_
                refine w_callV (d := d + 7) (S := []) [aI 0, aI 40] dX12_readFirst_74 ml_X12_151 ok_X12_number vi_X12_number rfl rfl (by decide) rfl (Nat.le_of_ble_eq_true rfl) ?_
                refine c_f_number (d := (d + 5)) 0 40 _ S24 ?_
                show fwWP mX12_readFirst (d + 8) 77 [some (aR 12 0), none] [aI 0] g24 Q
                refine w_istore_n [some (aR 12 0), some (aI 0)] dX12_readFirst_77 rfl (by decide) ?_
                refine w_aload_n dX12_readFirst_78 rfl ?_
                refine w_callV (d := d + 7) (S := []) [] dX12_readFirst_79 ml_X12_121 ok_X12_good vi_X12_good rfl rfl (by decide) rfl (Nat.le_of_ble_eq_true rfl) ?_
                refine c_f_good (d := (d + 7)) _ S24 ?_
                show fwWP mX12_readFirst (d + 8) 82 [some (aR 12 0), some (aI 0)] [aI 0] g24 Q
                refine w_if_ne 86 dX12_readFirst_82 (by decide) (by omega) (fun c82 => ?_) (fun c82 => ?_)
                · (exfalso; omega)
                · have qh : qHts (cutH gg 14 0) (cutH gg 16 0) 11 (i + 1) (fun _ => 0) = .inl (3, i + 1 + c) := (by rw [he6]; exact qHts_3 (by omega) (by omega) (by omega))
                  have eF : qFirst (cutH gg 14 0) (cutH gg 16 0) i (fun _ => 0) = .inl ((3 : Int), (i + 1 + c)) := by simp only [qFirst, qThen, q14, qh]
                  exact w_vret dX12_readFirst_85 rfl (k _ (mSt_eq S24 eF) G24)
        · refine w_aload_n dX12_readFirst_21 rfl ?_
          refine w_getr 41 0 dX12_readFirst_22 fl_X12_31 rfl (by decide) ?_
          refine w_iconst dX12_readFirst_25 ?_
          refine w_ialdE (v := (c : Int)) dX12_readFirst_26 rfl (by decide) (by omega) (by omega) (by rw [show (0 : Int).toNat = 0 by omega]; exact ((mSt_r Sc).2.2.2.2 0 (by omega)).trans (by first | exact hw0 | (rw [fwFu_ne (by omega)]; exact hw0))) ?_
          refine w_iconst dX12_readFirst_27 ?_
          refine w_icmp_ge 114 dX12_readFirst_28 (by decide) (by omega) (by omega) (fun c28 => ?_) (fun c28 => ?_)
          · have q25 : qHts (cutH gg 14 0) (cutH gg 16 0) 11 (i + 1) (fun _ => 0) = .inr (i + 1 + c, Wc) := (by rw [he6]; exact qHts_t hc6 (by omega) (by omega))
            refine w_aload_n dX12_readFirst_114 rfl ?_
            refine w_getr 41 0 dX12_readFirst_115 fl_X12_31 rfl (by decide) ?_
            refine w_iconst dX12_readFirst_118 ?_
            refine w_aload_n dX12_readFirst_119 rfl ?_
            refine w_ldcS (n := 14) dX12_readFirst_120 rfl ?_
            refine w_iconst dX12_readFirst_122 ?_
            refine w_bipush dX12_readFirst_123 rfl ?_
            refine w_callV (d := d + 7) (S := [aI 1, aR 41 0]) [aR 50 14, aI 0, aI 40] dX12_readFirst_125 ml_X12_160 ok_X12_told vi_X12_told rfl rfl (by decide) rfl (Nat.le_of_ble_eq_true rfl) ?_
            refine c_r_told (d := d) 1 0 40 _ _ Sc (by omega) (by omega) (by omega) ⟨?_, ?_, ?_, ?_⟩
            · intro cw26 cn26 cv26 g26 S26 F26
              have hvr26 := (tk_cut S.1.1).2.2.2 ((i + 1 + c) + 1) (by have := (mSt_r S26).1; omega)
              show fwWP mX12_readFirst (d + 8) 128 [some (aR 12 0), none] [aI (cutH gg 16 0 ((i + 1 + c) + 1)), aI 1, aR 41 0] g26 Q
              have G26 := mFr_tr Fc F26
              have q30 : qFact (cutH gg 14 0) (cutH gg 16 0) 5 0 40 1 (i + 1 + c) Wc = .inr (((i + 1 + c) + 1) + 1, fwFu Wc 1 (cutH gg 16 0 ((i + 1 + c) + 1))) := qFact_t (by omega) cn26 cv26
              refine w_iast dX12_readFirst_128 rfl (by decide) (by omega) (by omega) ?_
              rw [show (1 : Int).toNat = 1 from by omega]
              have S34 : mSt gg (.inr ((((i + 1 + c) + 1) + 1), fwFu Wc 1 (cutH gg 16 0 ((i + 1 + c) + 1)))) (fwUp g26 41 0 1 (cutH gg 16 0 ((i + 1 + c) + 1))) := mSt_put S26 1 (cutH gg 16 0 ((i + 1 + c) + 1))
              have F34 := mFr_41 G26 1 (cutH gg 16 0 ((i + 1 + c) + 1))
              generalize fwUp g26 41 0 1 (cutH gg 16 0 ((i + 1 + c) + 1)) = g34 at S34 F34 ⊢
              refine w_aload_n dX12_readFirst_129 rfl ?_
              refine w_getr 41 0 dX12_readFirst_130 fl_X12_31 rfl (by decide) ?_
              refine w_iconst dX12_readFirst_133 ?_
              refine w_aload_n dX12_readFirst_134 rfl ?_
              refine w_ldcS (n := 15) dX12_readFirst_135 rfl ?_
              refine w_iconst dX12_readFirst_137 ?_
              refine w_bipush dX12_readFirst_138 rfl ?_
              refine w_callV (d := d + 7) (S := [aI 2, aR 41 0]) [aR 50 15, aI 1, aI 40] dX12_readFirst_140 ml_X12_160 ok_X12_told vi_X12_told rfl rfl (by decide) rfl (Nat.le_of_ble_eq_true rfl) ?_
              refine c_r_told (d := d) 2 1 40 _ _ S34 (by omega) (by omega) (by omega) ⟨?_, ?_, ?_, ?_⟩
              · intro cw35 cn35 cv35 g35 S35 F35
                have hvr35 := (tk_cut S.1.1).2.2.2 ((((i + 1 + c) + 1) + 1) + 1) (by have := (mSt_r S35).1; omega)
                show fwWP mX12_readFirst (d + 8) 143 [some (aR 12 0), none] [aI (cutH gg 16 0 ((((i + 1 + c) + 1) + 1) + 1)), aI 2, aR 41 0] g35 Q
                have G35 := mFr_tr F34 F35
                have q39 : qFact (cutH gg 14 0) (cutH gg 16 0) 6 1 40 2 (((i + 1 + c) + 1) + 1) (fwFu Wc 1 (cutH gg 16 0 ((i + 1 + c) + 1))) = .inr (((((i + 1 + c) + 1) + 1) + 1) + 1, fwFu (fwFu Wc 1 (cutH gg 16 0 ((i + 1 + c) + 1))) 2 (cutH gg 16 0 ((((i + 1 + c) + 1) + 1) + 1))) := qFact_t (by omega) cn35 cv35
                refine w_iast dX12_readFirst_143 rfl (by decide) (by omega) (by omega) ?_
                rw [show (2 : Int).toNat = 2 from by omega]
                have S43 : mSt gg (.inr ((((((i + 1 + c) + 1) + 1) + 1) + 1), fwFu (fwFu Wc 1 (cutH gg 16 0 ((i + 1 + c) + 1))) 2 (cutH gg 16 0 ((((i + 1 + c) + 1) + 1) + 1)))) (fwUp g35 41 0 2 (cutH gg 16 0 ((((i + 1 + c) + 1) + 1) + 1))) := mSt_put S35 2 (cutH gg 16 0 ((((i + 1 + c) + 1) + 1) + 1))
                have F43 := mFr_41 G35 2 (cutH gg 16 0 ((((i + 1 + c) + 1) + 1) + 1))
                generalize fwUp g35 41 0 2 (cutH gg 16 0 ((((i + 1 + c) + 1) + 1) + 1)) = g43 at S43 F43 ⊢
                refine w_aload_n dX12_readFirst_144 rfl ?_
                refine w_getr 41 0 dX12_readFirst_145 fl_X12_31 rfl (by decide) ?_
                refine w_iconst dX12_readFirst_148 ?_
                refine w_aload_n dX12_readFirst_149 rfl ?_
                refine w_ldcS (n := 16) dX12_readFirst_150 rfl ?_
                refine w_iconst dX12_readFirst_152 ?_
                refine w_sipush dX12_readFirst_153 rfl ?_
                refine w_callV (d := d + 7) (S := [aI 3, aR 41 0]) [aR 50 16, aI 1, aI 999] dX12_readFirst_156 ml_X12_160 ok_X12_told vi_X12_told rfl rfl (by decide) rfl (Nat.le_of_ble_eq_true rfl) ?_
                refine c_r_told (d := d) 3 1 999 _ _ S43 (by omega) (by omega) (by omega) ⟨?_, ?_, ?_, ?_⟩
                · intro cw44 cn44 cv44 g44 S44 F44
                  have hvr44 := (tk_cut S.1.1).2.2.2 ((((((i + 1 + c) + 1) + 1) + 1) + 1) + 1) (by have := (mSt_r S44).1; omega)
                  show fwWP mX12_readFirst (d + 8) 159 [some (aR 12 0), none] [aI (cutH gg 16 0 ((((((i + 1 + c) + 1) + 1) + 1) + 1) + 1)), aI 3, aR 41 0] g44 Q
                  have G44 := mFr_tr F43 F44
                  have q48 : qFact (cutH gg 14 0) (cutH gg 16 0) 7 1 999 3 (((((i + 1 + c) + 1) + 1) + 1) + 1) (fwFu (fwFu Wc 1 (cutH gg 16 0 ((i + 1 + c) + 1))) 2 (cutH gg 16 0 ((((i + 1 + c) + 1) + 1) + 1))) = .inr (((((((i + 1 + c) + 1) + 1) + 1) + 1) + 1) + 1, fwFu (fwFu (fwFu Wc 1 (cutH gg 16 0 ((i + 1 + c) + 1))) 2 (cutH gg 16 0 ((((i + 1 + c) + 1) + 1) + 1))) 3 (cutH gg 16 0 ((((((i + 1 + c) + 1) + 1) + 1) + 1) + 1))) := qFact_t (by omega) cn44 cv44
                  refine w_iast dX12_readFirst_159 rfl (by decide) (by omega) (by omega) ?_
                  rw [show (3 : Int).toNat = 3 from by omega]
                  have S52 : mSt gg (.inr ((((((((i + 1 + c) + 1) + 1) + 1) + 1) + 1) + 1), fwFu (fwFu (fwFu Wc 1 (cutH gg 16 0 ((i + 1 + c) + 1))) 2 (cutH gg 16 0 ((((i + 1 + c) + 1) + 1) + 1))) 3 (cutH gg 16 0 ((((((i + 1 + c) + 1) + 1) + 1) + 1) + 1)))) (fwUp g44 41 0 3 (cutH gg 16 0 ((((((i + 1 + c) + 1) + 1) + 1) + 1) + 1))) := mSt_put S44 3 (cutH gg 16 0 ((((((i + 1 + c) + 1) + 1) + 1) + 1) + 1))
                  have F52 := mFr_41 G44 3 (cutH gg 16 0 ((((((i + 1 + c) + 1) + 1) + 1) + 1) + 1))
                  generalize fwUp g44 41 0 3 (cutH gg 16 0 ((((((i + 1 + c) + 1) + 1) + 1) + 1) + 1)) = g52 at S52 F52 ⊢
                  refine w_aload_n dX12_readFirst_160 rfl ?_
                  refine w_getr 41 0 dX12_readFirst_161 fl_X12_31 rfl (by decide) ?_
                  refine w_iconst dX12_readFirst_164 ?_
                  refine w_aload_n dX12_readFirst_165 rfl ?_
                  refine w_ldcS (n := 25) dX12_readFirst_166 rfl ?_
                  refine w_callV (d := d + 7) (S := [aI 4, aR 41 0]) [aR 50 25] dX12_readFirst_168 ml_X12_140 ok_X12_takes vi_X12_takes rfl rfl (by decide) rfl (Nat.le_of_ble_eq_true rfl) ?_
                  refine c_r_takes (d := (d + 2)) 12 _ _ S52 (by omega) ⟨?_, ?_⟩
                  · intro cw53 g53 S53 F53
                    show fwWP mX12_readFirst (d + 8) 171 [some (aR 12 0), none] [aI 1, aI 4, aR 41 0] g53 Q
                    have G53 := mFr_tr F52 F53
                    have q54 : qSide (cutH gg 14 0) (((((((i + 1 + c) + 1) + 1) + 1) + 1) + 1) + 1) (fwFu (fwFu (fwFu Wc 1 (cutH gg 16 0 ((i + 1 + c) + 1))) 2 (cutH gg 16 0 ((((i + 1 + c) + 1) + 1) + 1))) 3 (cutH gg 16 0 ((((((i + 1 + c) + 1) + 1) + 1) + 1) + 1))) = .inr ((((((((i + 1 + c) + 1) + 1) + 1) + 1) + 1) + 1) + 1, fwFu (fwFu (fwFu (fwFu Wc 1 (cutH gg 16 0 ((i + 1 + c) + 1))) 2 (cutH gg 16 0 ((((i + 1 + c) + 1) + 1) + 1))) 3 (cutH gg 16 0 ((((((i + 1 + c) + 1) + 1) + 1) + 1) + 1))) 4 1) := (by unfold qSide; rw [if_pos (by omega)])
                    refine w_if_eq 178 dX12_readFirst_171 (by decide) (by omega) (fun c171 => ?_) (fun c171 => ?_)
                    · (exfalso; omega)
                    · refine w_iconst dX12_readFirst_174 ?_
                      refine w_goto 179 dX12_readFirst_175 (by decide) ?_
                      refine w_iast dX12_readFirst_179 rfl (by decide) (by omega) (by omega) ?_
                      rw [show (4 : Int).toNat = 4 from by omega]
                      have S55 : mSt gg (.inr (((((((((i + 1 + c) + 1) + 1) + 1) + 1) + 1) + 1) + 1), fwFu (fwFu (fwFu (fwFu Wc 1 (cutH gg 16 0 ((i + 1 + c) + 1))) 2 (cutH gg 16 0 ((((i + 1 + c) + 1) + 1) + 1))) 3 (cutH gg 16 0 ((((((i + 1 + c) + 1) + 1) + 1) + 1) + 1))) 4 1)) (fwUp g53 41 0 4 1) := mSt_put S53 4 1
                      have F55 := mFr_41 G53 4 1
                      generalize fwUp g53 41 0 4 1 = g55 at S55 F55 ⊢
                      refine w_aload_n dX12_readFirst_180 rfl ?_
                      refine w_getr 41 0 dX12_readFirst_181 fl_X12_31 rfl (by decide) ?_
                      refine w_iconst dX12_readFirst_184 ?_
                      refine w_ialdE (v := 1) dX12_readFirst_185 rfl (by decide) (by omega) (by omega) (by rw [show (4 : Int).toNat = 4 by omega]; exact ((mSt_r S55).2.2.2.2 4 (by omega)).trans (fwFu_at _ _ _)) ?_
                      refine w_if_ne 195 dX12_readFirst_186 (by decide) (by omega) (fun c186 => ?_) (fun c186 => ?_)
                      · have eF : qFirst (cutH gg 14 0) (cutH gg 16 0) i (fun _ => 0) = .inr (((((((((i + 1 + c) + 1) + 1) + 1) + 1) + 1) + 1) + 1), (fwFu (fwFu (fwFu (fwFu Wc 1 (cutH gg 16 0 ((i + 1 + c) + 1))) 2 (cutH gg 16 0 ((((i + 1 + c) + 1) + 1) + 1))) 3 (cutH gg 16 0 ((((((i + 1 + c) + 1) + 1) + 1) + 1) + 1))) 4 1)) := by simp only [qFirst, qThen, q14, q25, q30, q39, q48, q54]
                        exact w_vret dX12_readFirst_195 rfl (k _ (mSt_eq S55 eF) F55)
                      · (exfalso; omega)
                  · intro cw53
                    show fwWP mX12_readFirst (d + 8) 171 [some (aR 12 0), none] [aI 0, aI 4, aR 41 0] g52 Q
                    refine w_if_eq 178 dX12_readFirst_171 (by decide) (by omega) (fun c171 => ?_) (fun c171 => ?_)
                    · refine w_iconst dX12_readFirst_178 ?_
                      refine w_iast dX12_readFirst_179 rfl (by decide) (by omega) (by omega) ?_
                      rw [show (4 : Int).toNat = 4 from by omega]
                      have S56 : mSt gg (.inr ((((((((i + 1 + c) + 1) + 1) + 1) + 1) + 1) + 1), fwFu (fwFu (fwFu (fwFu Wc 1 (cutH gg 16 0 ((i + 1 + c) + 1))) 2 (cutH gg 16 0 ((((i + 1 + c) + 1) + 1) + 1))) 3 (cutH gg 16 0 ((((((i + 1 + c) + 1) + 1) + 1) + 1) + 1))) 4 0)) (fwUp g52 41 0 4 0) := mSt_put S52 4 0
                      have F56 := mFr_41 F52 4 0
                      generalize fwUp g52 41 0 4 0 = g56 at S56 F56 ⊢
                      refine w_aload_n dX12_readFirst_180 rfl ?_
                      refine w_getr 41 0 dX12_readFirst_181 fl_X12_31 rfl (by decide) ?_
                      refine w_iconst dX12_readFirst_184 ?_
                      refine w_ialdE (v := 0) dX12_readFirst_185 rfl (by decide) (by omega) (by omega) (by rw [show (4 : Int).toNat = 4 by omega]; exact ((mSt_r S56).2.2.2.2 4 (by omega)).trans (fwFu_at _ _ _)) ?_
                      refine w_if_ne 195 dX12_readFirst_186 (by decide) (by omega) (fun c186 => ?_) (fun c186 => ?_)
                      · (exfalso; omega)
                      · refine w_aload_n dX12_readFirst_189 rfl ?_
                        refine w_ldcS (n := 24) dX12_readFirst_190 rfl ?_
                        refine w_callV (d := d + 7) (S := []) [aR 50 24] dX12_readFirst_192 ml_X12_147 ok_X12_needs vi_X12_needs rfl rfl (by decide) rfl (Nat.le_of_ble_eq_true rfl) ?_
                        refine c_r_needs (d := (d + 1)) 11 _ _ S56 (by omega) ⟨?_, ?_⟩
                        · intro cw57 g57 S57 F57
                          show fwWP mX12_readFirst (d + 8) 195 [some (aR 12 0), none] [] g57 Q
                          have G57 := mFr_tr F56 F57
                          have q59 : qSide (cutH gg 14 0) (((((((i + 1 + c) + 1) + 1) + 1) + 1) + 1) + 1) (fwFu (fwFu (fwFu Wc 1 (cutH gg 16 0 ((i + 1 + c) + 1))) 2 (cutH gg 16 0 ((((i + 1 + c) + 1) + 1) + 1))) 3 (cutH gg 16 0 ((((((i + 1 + c) + 1) + 1) + 1) + 1) + 1))) = .inr ((((((((i + 1 + c) + 1) + 1) + 1) + 1) + 1) + 1) + 1, (fwFu (fwFu (fwFu (fwFu Wc 1 (cutH gg 16 0 ((i + 1 + c) + 1))) 2 (cutH gg 16 0 ((((i + 1 + c) + 1) + 1) + 1))) 3 (cutH gg 16 0 ((((((i + 1 + c) + 1) + 1) + 1) + 1) + 1))) 4 0)) := (by unfold qSide; rw [if_neg (by omega), if_pos (by omega)])
                          have eF : qFirst (cutH gg 14 0) (cutH gg 16 0) i (fun _ => 0) = .inr (((((((((i + 1 + c) + 1) + 1) + 1) + 1) + 1) + 1) + 1), (fwFu (fwFu (fwFu (fwFu Wc 1 (cutH gg 16 0 ((i + 1 + c) + 1))) 2 (cutH gg 16 0 ((((i + 1 + c) + 1) + 1) + 1))) 3 (cutH gg 16 0 ((((((i + 1 + c) + 1) + 1) + 1) + 1) + 1))) 4 0)) := by simp only [qFirst, qThen, q14, q25, q30, q39, q48, q59]
                          exact w_vret dX12_readFirst_195 rfl (k _ (mSt_eq S57 eF) G57)
                        · intro cw57 g58 S58 F58
                          show fwWP mX12_readFirst (d + 8) 195 [some (aR 12 0), none] [] g58 Q
                          have G58 := mFr_tr F56 F58
                          have q60 : qSide (cutH gg 14 0) (((((((i + 1 + c) + 1) + 1) + 1) + 1) + 1) + 1) (fwFu (fwFu (fwFu Wc 1 (cutH gg 16 0 ((i + 1 + c) + 1))) 2 (cutH gg 16 0 ((((i + 1 + c) + 1) + 1) + 1))) 3 (cutH gg 16 0 ((((((i + 1 + c) + 1) + 1) + 1) + 1) + 1))) = .inl (1, (((((((i + 1 + c) + 1) + 1) + 1) + 1) + 1) + 1)) := (by unfold qSide; rw [if_neg (by omega), if_neg (by omega)])
                          have eF : qFirst (cutH gg 14 0) (cutH gg 16 0) i (fun _ => 0) = .inl ((1 : Int), (((((((i + 1 + c) + 1) + 1) + 1) + 1) + 1) + 1)) := by simp only [qFirst, qThen, q14, q25, q30, q39, q48, q60]
                          exact w_vret dX12_readFirst_195 rfl (k _ (mSt_eq S58 eF) G58)
                    · (exfalso; omega)
                · intro cw44 cn44 cv44 g45 S45 F45
                  show fwWP mX12_readFirst (d + 8) 159 [some (aR 12 0), none] [aI 0, aI 3, aR 41 0] g45 Q
                  have G45 := mFr_tr F43 F45
                  have q49 : qFact (cutH gg 14 0) (cutH gg 16 0) 7 1 999 3 (((((i + 1 + c) + 1) + 1) + 1) + 1) (fwFu (fwFu Wc 1 (cutH gg 16 0 ((i + 1 + c) + 1))) 2 (cutH gg 16 0 ((((i + 1 + c) + 1) + 1) + 1))) = .inl (2, ((((((i + 1 + c) + 1) + 1) + 1) + 1) + 1)) := qFact_2 (by omega) cn44 cv44
                  refine w_iast dX12_readFirst_159 rfl (by decide) (by omega) (by omega) ?_
                  rw [show (3 : Int).toNat = 3 from by omega]
                  have S61 : mSt gg (.inl ((2 : Int), ((((((i + 1 + c) + 1) + 1) + 1) + 1) + 1))) (fwUp g45 41 0 3 0) := mSt_put S45 3 0
                  have F61 := mFr_41 G45 3 0
                  generalize fwUp g45 41 0 3 0 = g61 at S61 F61 ⊢
                  refine w_aload_n dX12_readFirst_160 rfl ?_
                  refine w_getr 41 0 dX12_readFirst_161 fl_X12_31 rfl (by decide) ?_
                  refine w_iconst dX12_readFirst_164 ?_
                  refine w_aload_n dX12_readFirst_165 rfl ?_
                  refine w_ldcS (n := 25) dX12_readFirst_166 rfl ?_
                  refine w_callV (d := d + 7) (S := [aI 4, aR 41 0]) [aR 50 25] dX12_readFirst_168 ml_X12_140 ok_X12_takes vi_X12_takes rfl rfl (by decide) rfl (Nat.le_of_ble_eq_true rfl) ?_
                  refine c_f_takes (d := (d + 2)) 25 _ S61 (by omega) ?_
                  show fwWP mX12_readFirst (d + 8) 171 [some (aR 12 0), none] [aI 0, aI 4, aR 41 0] g61 Q
                  refine w_if_eq 178 dX12_readFirst_171 (by decide) (by omega) (fun c171 => ?_) (fun c171 => ?_)
                  · refine w_iconst dX12_readFirst_178 ?_
                    refine w_iast dX12_readFirst_179 rfl (by decide) (by omega) (by omega) ?_
                    rw [show (4 : Int).toNat = 4 from by omega]
                    have S62 : mSt gg (.inl ((2 : Int), ((((((i + 1 + c) + 1) + 1) + 1) + 1) + 1))) (fwUp g61 41 0 4 0) := mSt_put S61 4 0
                    have F62 := mFr_41 F61 4 0
                    have e4_62 : (fwUp g61 41 0 4 0) 41 0 4 = 0 := rfl
                    generalize fwUp g61 41 0 4 0 = g62 at S62 F62 e4_62 ⊢
                    refine w_aload_n dX12_readFirst_180 rfl ?_
                    refine w_getr 41 0 dX12_readFirst_181 fl_X12_31 rfl (by decide) ?_
                    refine w_iconst dX12_readFirst_184 ?_
                    refine w_ialdE (v := 0) dX12_readFirst_185 rfl (by decide) (by omega) (by omega) (by rw [show (4 : Int).toNat = 4 by omega]; exact e4_62) ?_
                    refine w_if_ne 195 dX12_readFirst_186 (by decide) (by omega) (fun c186 => ?_) (fun c186 => ?_)
                    · (exfalso; omega)
                    · refine w_aload_n dX12_readFirst_189 rfl ?_
                      refine w_ldcS (n := 24) dX12_readFirst_190 rfl ?_
                      refine w_callV (d := d + 7) (S := []) [aR 50 24] dX12_readFirst_192 ml_X12_147 ok_X12_needs vi_X12_needs rfl rfl (by decide) rfl (Nat.le_of_ble_eq_true rfl) ?_
                      refine c_f_needs (d := (d + 1)) 24 _ S62 (by omega) ?_
                      show fwWP mX12_readFirst (d + 8) 195 [some (aR 12 0), none] [] g62 Q
                      have eF : qFirst (cutH gg 14 0) (cutH gg 16 0) i (fun _ => 0) = .inl ((2 : Int), ((((((i + 1 + c) + 1) + 1) + 1) + 1) + 1)) := by simp only [qFirst, qThen, q14, q25, q30, q39, q49]
                      exact w_vret dX12_readFirst_195 rfl (k _ (mSt_eq S62 eF) F62)
                  · (exfalso; omega)
                · intro cw44 cn44 g46 S46 F46
                  show fwWP mX12_readFirst (d + 8) 159 [some (aR 12 0), none] [aI 0, aI 3, aR 41 0] g46 Q
                  have G46 := mFr_tr F43 F46
                  have q50 : qFact (cutH gg 14 0) (cutH gg 16 0) 7 1 999 3 (((((i + 1 + c) + 1) + 1) + 1) + 1) (fwFu (fwFu Wc 1 (cutH gg 16 0 ((i + 1 + c) + 1))) 2 (cutH gg 16 0 ((((i + 1 + c) + 1) + 1) + 1))) = .inl (1, ((((((i + 1 + c) + 1) + 1) + 1) + 1) + 1)) := qFact_1 (by omega) cn44
                  refine w_iast dX12_readFirst_159 rfl (by decide) (by omega) (by omega) ?_
                  rw [show (3 : Int).toNat = 3 from by omega]
                  have S63 : mSt gg (.inl ((1 : Int), ((((((i + 1 + c) + 1) + 1) + 1) + 1) + 1))) (fwUp g46 41 0 3 0) := mSt_put S46 3 0
                  have F63 := mFr_41 G46 3 0
                  generalize fwUp g46 41 0 3 0 = g63 at S63 F63 ⊢
                  refine w_aload_n dX12_readFirst_160 rfl ?_
                  refine w_getr 41 0 dX12_readFirst_161 fl_X12_31 rfl (by decide) ?_
                  refine w_iconst dX12_readFirst_164 ?_
                  refine w_aload_n dX12_readFirst_165 rfl ?_
                  refine w_ldcS (n := 25) dX12_readFirst_166 rfl ?_
                  refine w_callV (d := d + 7) (S := [aI 4, aR 41 0]) [aR 50 25] dX12_readFirst_168 ml_X12_140 ok_X12_takes vi_X12_takes rfl rfl (by decide) rfl (Nat.le_of_ble_eq_true rfl) ?_
                  refine c_f_takes (d := (d + 2)) 25 _ S63 (by omega) ?_
                  show fwWP mX12_readFirst (d + 8) 171 [some (aR 12 0), none] [aI 0, aI 4, aR 41 0] g63 Q
                  refine w_if_eq 178 dX12_readFirst_171 (by decide) (by omega) (fun c171 => ?_) (fun c171 => ?_)
                  · refine w_iconst dX12_readFirst_178 ?_
                    refine w_iast dX12_readFirst_179 rfl (by decide) (by omega) (by omega) ?_
                    rw [show (4 : Int).toNat = 4 from by omega]
                    have S64 : mSt gg (.inl ((1 : Int), ((((((i + 1 + c) + 1) + 1) + 1) + 1) + 1))) (fwUp g63 41 0 4 0) := mSt_put S63 4 0
                    have F64 := mFr_41 F63 4 0
                    have e4_64 : (fwUp g63 41 0 4 0) 41 0 4 = 0 := rfl
                    generalize fwUp g63 41 0 4 0 = g64 at S64 F64 e4_64 ⊢
                    refine w_aload_n dX12_readFirst_180 rfl ?_
                    refine w_getr 41 0 dX12_readFirst_181 fl_X12_31 rfl (by decide) ?_
                    refine w_iconst dX12_readFirst_184 ?_
                    refine w_ialdE (v := 0) dX12_readFirst_185 rfl (by decide) (by omega) (by omega) (by rw [show (4 : Int).toNat = 4 by omega]; exact e4_64) ?_
                    refine w_if_ne 195 dX12_readFirst_186 (by decide) (by omega) (fun c186 => ?_) (fun c186 => ?_)
                    · (exfalso; omega)
                    · refine w_aload_n dX12_readFirst_189 rfl ?_
                      refine w_ldcS (n := 24) dX12_readFirst_190 rfl ?_
                      refine w_callV (d := d + 7) (S := []) [aR 50 24] dX12_readFirst_192 ml_X12_147 ok_X12_needs vi_X12_needs rfl rfl (by decide) rfl (Nat.le_of_ble_eq_true rfl) ?_
                      refine c_f_needs (d := (d + 1)) 24 _ S64 (by omega) ?_
                      show fwWP mX12_readFirst (d + 8) 195 [some (aR 12 0), none] [] g64 Q
                      have eF : qFirst (cutH gg 14 0) (cutH gg 16 0) i (fun _ => 0) = .inl ((1 : Int), ((((((i + 1 + c) + 1) + 1) + 1) + 1) + 1)) := by simp only [qFirst, qThen, q14, q25, q30, q39, q50]
                      exact w_vret dX12_readFirst_195 rfl (k _ (mSt_eq S64 eF) F64)
                  · (exfalso; omega)
                · intro cw44 g47 S47 F47
                  show fwWP mX12_readFirst (d + 8) 159 [some (aR 12 0), none] [aI 0, aI 3, aR 41 0] g47 Q
                  have G47 := mFr_tr F43 F47
                  have q51 : qFact (cutH gg 14 0) (cutH gg 16 0) 7 1 999 3 (((((i + 1 + c) + 1) + 1) + 1) + 1) (fwFu (fwFu Wc 1 (cutH gg 16 0 ((i + 1 + c) + 1))) 2 (cutH gg 16 0 ((((i + 1 + c) + 1) + 1) + 1))) = .inl (1, (((((i + 1 + c) + 1) + 1) + 1) + 1)) := qFact_0 (by omega)
                  refine w_iast dX12_readFirst_159 rfl (by decide) (by omega) (by omega) ?_
                  rw [show (3 : Int).toNat = 3 from by omega]
                  have S65 : mSt gg (.inl ((1 : Int), (((((i + 1 + c) + 1) + 1) + 1) + 1))) (fwUp g47 41 0 3 0) := mSt_put S47 3 0
                  have F65 := mFr_41 G47 3 0
                  generalize fwUp g47 41 0 3 0 = g65 at S65 F65 ⊢
                  refine w_aload_n dX12_readFirst_160 rfl ?_
                  refine w_getr 41 0 dX12_readFirst_161 fl_X12_31 rfl (by decide) ?_
                  refine w_iconst dX12_readFirst_164 ?_
                  refine w_aload_n dX12_readFirst_165 rfl ?_
                  refine w_ldcS (n := 25) dX12_readFirst_166 rfl ?_
                  refine w_callV (d := d + 7) (S := [aI 4, aR 41 0]) [aR 50 25] dX12_readFirst_168 ml_X12_140 ok_X12_takes vi_X12_takes rfl rfl (by decide) rfl (Nat.le_of_ble_eq_true rfl) ?_
                  refine c_f_takes (d := (d + 2)) 25 _ S65 (by omega) ?_
                  show fwWP mX12_readFirst (d + 8) 171 [some (aR 12 0), none] [aI 0, aI 4, aR 41 0] g65 Q
                  refine w_if_eq 178 dX12_readFirst_171 (by decide) (by omega) (fun c171 => ?_) (fun c171 => ?_)
                  · refine w_iconst dX12_readFirst_178 ?_
                    refine w_iast dX12_readFirst_179 rfl (by decide) (by omega) (by omega) ?_
                    rw [show (4 : Int).toNat = 4 from by omega]
                    have S66 : mSt gg (.inl ((1 : Int), (((((i + 1 + c) + 1) + 1) + 1) + 1))) (fwUp g65 41 0 4 0) := mSt_put S65 4 0
                    have F66 := mFr_41 F65 4 0
                    have e4_66 : (fwUp g65 41 0 4 0) 41 0 4 = 0 := rfl
                    generalize fwUp g65 41 0 4 0 = g66 at S66 F66 e4_66 ⊢
                    refine w_aload_n dX12_readFirst_180 rfl ?_
                    refine w_getr 41 0 dX12_readFirst_181 fl_X12_31 rfl (by decide) ?_
                    refine w_iconst dX12_readFirst_184 ?_
                    refine w_ialdE (v := 0) dX12_readFirst_185 rfl (by decide) (by omega) (by omega) (by rw [show (4 : Int).toNat = 4 by omega]; exact e4_66) ?_
                    refine w_if_ne 195 dX12_readFirst_186 (by decide) (by omega) (fun c186 => ?_) (fun c186 => ?_)
                    · (exfalso; omega)
                    · refine w_aload_n dX12_readFirst_189 rfl ?_
                      refine w_ldcS (n := 24) dX12_readFirst_190 rfl ?_
                      refine w_callV (d := d + 7) (S := []) [aR 50 24] dX12_readFirst_192 ml_X12_147 ok_X12_needs vi_X12_needs rfl rfl (by decide) rfl (Nat.le_of_ble_eq_true rfl) ?_
                      refine c_f_needs (d := (d + 1)) 24 _ S66 (by omega) ?_
                      show fwWP mX12_readFirst (d + 8) 195 [some (aR 12 0), none] [] g66 Q
                      have eF : qFirst (cutH gg 14 0) (cutH gg 16 0) i (fun _ => 0) = .inl ((1 : Int), (((((i + 1 + c) + 1) + 1) + 1) + 1)) := by simp only [qFirst, qThen, q14, q25, q30, q39, q51]
                      exact w_vret dX12_readFirst_195 rfl (k _ (mSt_eq S66 eF) F66)
                  · (exfalso; omega)
              · intro cw35 cn35 cv35 g36 S36 F36
                show fwWP mX12_readFirst (d + 8) 143 [some (aR 12 0), none] [aI 0, aI 2, aR 41 0] g36 Q
                have G36 := mFr_tr F34 F36
                have q40 : qFact (cutH gg 14 0) (cutH gg 16 0) 6 1 40 2 (((i + 1 + c) + 1) + 1) (fwFu Wc 1 (cutH gg 16 0 ((i + 1 + c) + 1))) = .inl (2, ((((i + 1 + c) + 1) + 1) + 1)) := qFact_2 (by omega) cn35 cv35
                refine w_iast dX12_readFirst_143 rfl (by decide) (by omega) (by omega) ?_
                rw [show (2 : Int).toNat = 2 from by omega]
                have S67 : mSt gg (.inl ((2 : Int), ((((i + 1 + c) + 1) + 1) + 1))) (fwUp g36 41 0 2 0) := mSt_put S36 2 0
                have F67 := mFr_41 G36 2 0
                generalize fwUp g36 41 0 2 0 = g67 at S67 F67 ⊢
                refine w_aload_n dX12_readFirst_144 rfl ?_
                refine w_getr 41 0 dX12_readFirst_145 fl_X12_31 rfl (by decide) ?_
                refine w_iconst dX12_readFirst_148 ?_
                refine w_aload_n dX12_readFirst_149 rfl ?_
                refine w_ldcS (n := 16) dX12_readFirst_150 rfl ?_
                refine w_iconst dX12_readFirst_152 ?_
                refine w_sipush dX12_readFirst_153 rfl ?_
                refine w_callV (d := d + 7) (S := [aI 3, aR 41 0]) [aR 50 16, aI 1, aI 999] dX12_readFirst_156 ml_X12_160 ok_X12_told vi_X12_told rfl rfl (by decide) rfl (Nat.le_of_ble_eq_true rfl) ?_
                refine c_f_told (d := d) 16 1 999 _ S67 (by omega) ?_
                show fwWP mX12_readFirst (d + 8) 159 [some (aR 12 0), none] [aI 0, aI 3, aR 41 0] g67 Q
                refine w_iast dX12_readFirst_159 rfl (by decide) (by omega) (by omega) ?_
                rw [show (3 : Int).toNat = 3 from by omega]
                have S68 : mSt gg (.inl ((2 : Int), ((((i + 1 + c) + 1) + 1) + 1))) (fwUp g67 41 0 3 0) := mSt_put S67 3 0
                have F68 := mFr_41 F67 3 0
                generalize fwUp g67 41 0 3 0 = g68 at S68 F68 ⊢
                refine w_aload_n dX12_readFirst_160 rfl ?_
                refine w_getr 41 0 dX12_readFirst_161 fl_X12_31 rfl (by decide) ?_
                refine w_iconst dX12_readFirst_164 ?_
                refine w_aload_n dX12_readFirst_165 rfl ?_
                refine w_ldcS (n := 25) dX12_readFirst_166 rfl ?_
                refine w_callV (d := d + 7) (S := [aI 4, aR 41 0]) [aR 50 25] dX12_readFirst_168 ml_X12_140 ok_X12_takes vi_X12_takes rfl rfl (by decide) rfl (Nat.le_of_ble_eq_true rfl) ?_
                refine c_f_takes (d := (d + 2)) 25 _ S68 (by omega) ?_
                show fwWP mX12_readFirst (d + 8) 171 [some (aR 12 0), none] [aI 0, aI 4, aR 41 0] g68 Q
                refine w_if_eq 178 dX12_readFirst_171 (by decide) (by omega) (fun c171 => ?_) (fun c171 => ?_)
                · refine w_iconst dX12_readFirst_178 ?_
                  refine w_iast dX12_readFirst_179 rfl (by decide) (by omega) (by omega) ?_
                  rw [show (4 : Int).toNat = 4 from by omega]
                  have S69 : mSt gg (.inl ((2 : Int), ((((i + 1 + c) + 1) + 1) + 1))) (fwUp g68 41 0 4 0) := mSt_put S68 4 0
                  have F69 := mFr_41 F68 4 0
                  have e4_69 : (fwUp g68 41 0 4 0) 41 0 4 = 0 := rfl
                  generalize fwUp g68 41 0 4 0 = g69 at S69 F69 e4_69 ⊢
                  refine w_aload_n dX12_readFirst_180 rfl ?_
                  refine w_getr 41 0 dX12_readFirst_181 fl_X12_31 rfl (by decide) ?_
                  refine w_iconst dX12_readFirst_184 ?_
                  refine w_ialdE (v := 0) dX12_readFirst_185 rfl (by decide) (by omega) (by omega) (by rw [show (4 : Int).toNat = 4 by omega]; exact e4_69) ?_
                  refine w_if_ne 195 dX12_readFirst_186 (by decide) (by omega) (fun c186 => ?_) (fun c186 => ?_)
                  · (exfalso; omega)
                  · refine w_aload_n dX12_readFirst_189 rfl ?_
                    refine w_ldcS (n := 24) dX12_readFirst_190 rfl ?_
                    refine w_callV (d := d + 7) (S := []) [aR 50 24] dX12_readFirst_192 ml_X12_147 ok_X12_needs vi_X12_needs rfl rfl (by decide) rfl (Nat.le_of_ble_eq_true rfl) ?_
                    refine c_f_needs (d := (d + 1)) 24 _ S69 (by omega) ?_
                    show fwWP mX12_readFirst (d + 8) 195 [some (aR 12 0), none] [] g69 Q
                    have eF : qFirst (cutH gg 14 0) (cutH gg 16 0) i (fun _ => 0) = .inl ((2 : Int), ((((i + 1 + c) + 1) + 1) + 1)) := by simp only [qFirst, qThen, q14, q25, q30, q40]
                    exact w_vret dX12_readFirst_195 rfl (k _ (mSt_eq S69 eF) F69)
                · (exfalso; omega)
              · intro cw35 cn35 g37 S37 F37
                show fwWP mX12_readFirst (d + 8) 143 [some (aR 12 0), none] [aI 0, aI 2, aR 41 0] g37 Q
                have G37 := mFr_tr F34 F37
                have q41 : qFact (cutH gg 14 0) (cutH gg 16 0) 6 1 40 2 (((i + 1 + c) + 1) + 1) (fwFu Wc 1 (cutH gg 16 0 ((i + 1 + c) + 1))) = .inl (1, ((((i + 1 + c) + 1) + 1) + 1)) := qFact_1 (by omega) cn35
                refine w_iast dX12_readFirst_143 rfl (by decide) (by omega) (by omega) ?_
                rw [show (2 : Int).toNat = 2 from by omega]
                have S70 : mSt gg (.inl ((1 : Int), ((((i + 1 + c) + 1) + 1) + 1))) (fwUp g37 41 0 2 0) := mSt_put S37 2 0
                have F70 := mFr_41 G37 2 0
                generalize fwUp g37 41 0 2 0 = g70 at S70 F70 ⊢
                refine w_aload_n dX12_readFirst_144 rfl ?_
                refine w_getr 41 0 dX12_readFirst_145 fl_X12_31 rfl (by decide) ?_
                refine w_iconst dX12_readFirst_148 ?_
                refine w_aload_n dX12_readFirst_149 rfl ?_
                refine w_ldcS (n := 16) dX12_readFirst_150 rfl ?_
                refine w_iconst dX12_readFirst_152 ?_
                refine w_sipush dX12_readFirst_153 rfl ?_
                refine w_callV (d := d + 7) (S := [aI 3, aR 41 0]) [aR 50 16, aI 1, aI 999] dX12_readFirst_156 ml_X12_160 ok_X12_told vi_X12_told rfl rfl (by decide) rfl (Nat.le_of_ble_eq_true rfl) ?_
                refine c_f_told (d := d) 16 1 999 _ S70 (by omega) ?_
                show fwWP mX12_readFirst (d + 8) 159 [some (aR 12 0), none] [aI 0, aI 3, aR 41 0] g70 Q
                refine w_iast dX12_readFirst_159 rfl (by decide) (by omega) (by omega) ?_
                rw [show (3 : Int).toNat = 3 from by omega]
                have S71 : mSt gg (.inl ((1 : Int), ((((i + 1 + c) + 1) + 1) + 1))) (fwUp g70 41 0 3 0) := mSt_put S70 3 0
                have F71 := mFr_41 F70 3 0
                generalize fwUp g70 41 0 3 0 = g71 at S71 F71 ⊢
                refine w_aload_n dX12_readFirst_160 rfl ?_
                refine w_getr 41 0 dX12_readFirst_161 fl_X12_31 rfl (by decide) ?_
                refine w_iconst dX12_readFirst_164 ?_
                refine w_aload_n dX12_readFirst_165 rfl ?_
                refine w_ldcS (n := 25) dX12_readFirst_166 rfl ?_
                refine w_callV (d := d + 7) (S := [aI 4, aR 41 0]) [aR 50 25] dX12_readFirst_168 ml_X12_140 ok_X12_takes vi_X12_takes rfl rfl (by decide) rfl (Nat.le_of_ble_eq_true rfl) ?_
                refine c_f_takes (d := (d + 2)) 25 _ S71 (by omega) ?_
                show fwWP mX12_readFirst (d + 8) 171 [some (aR 12 0), none] [aI 0, aI 4, aR 41 0] g71 Q
                refine w_if_eq 178 dX12_readFirst_171 (by decide) (by omega) (fun c171 => ?_) (fun c171 => ?_)
                · refine w_iconst dX12_readFirst_178 ?_
                  refine w_iast dX12_readFirst_179 rfl (by decide) (by omega) (by omega) ?_
                  rw [show (4 : Int).toNat = 4 from by omega]
                  have S72 : mSt gg (.inl ((1 : Int), ((((i + 1 + c) + 1) + 1) + 1))) (fwUp g71 41 0 4 0) := mSt_put S71 4 0
                  have F72 := mFr_41 F71 4 0
                  have e4_72 : (fwUp g71 41 0 4 0) 41 0 4 = 0 := rfl
                  generalize fwUp g71 41 0 4 0 = g72 at S72 F72 e4_72 ⊢
                  refine w_aload_n dX12_readFirst_180 rfl ?_
                  refine w_getr 41 0 dX12_readFirst_181 fl_X12_31 rfl (by decide) ?_
                  refine w_iconst dX12_readFirst_184 ?_
                  refine w_ialdE (v := 0) dX12_readFirst_185 rfl (by decide) (by omega) (by omega) (by rw [show (4 : Int).toNat = 4 by omega]; exact e4_72) ?_
                  refine w_if_ne 195 dX12_readFirst_186 (by decide) (by omega) (fun c186 => ?_) (fun c186 => ?_)
                  · (exfalso; omega)
                  · refine w_aload_n dX12_readFirst_189 rfl ?_
                    refine w_ldcS (n := 24) dX12_readFirst_190 rfl ?_
                    refine w_callV (d := d + 7) (S := []) [aR 50 24] dX12_readFirst_192 ml_X12_147 ok_X12_needs vi_X12_needs rfl rfl (by decide) rfl (Nat.le_of_ble_eq_true rfl) ?_
                    refine c_f_needs (d := (d + 1)) 24 _ S72 (by omega) ?_
                    show fwWP mX12_readFirst (d + 8) 195 [some (aR 12 0), none] [] g72 Q
                    have eF : qFirst (cutH gg 14 0) (cutH gg 16 0) i (fun _ => 0) = .inl ((1 : Int), ((((i + 1 + c) + 1) + 1) + 1)) := by simp only [qFirst, qThen, q14, q25, q30, q41]
                    exact w_vret dX12_readFirst_195 rfl (k _ (mSt_eq S72 eF) F72)
                · (exfalso; omega)
              · intro cw35 g38 S38 F38
                show fwWP mX12_readFirst (d + 8) 143 [some (aR 12 0), none] [aI 0, aI 2, aR 41 0] g38 Q
                have G38 := mFr_tr F34 F38
                have q42 : qFact (cutH gg 14 0) (cutH gg 16 0) 6 1 40 2 (((i + 1 + c) + 1) + 1) (fwFu Wc 1 (cutH gg 16 0 ((i + 1 + c) + 1))) = .inl (1, (((i + 1 + c) + 1) + 1)) := qFact_0 (by omega)
                refine w_iast dX12_readFirst_143 rfl (by decide) (by omega) (by omega) ?_
                rw [show (2 : Int).toNat = 2 from by omega]
                have S73 : mSt gg (.inl ((1 : Int), (((i + 1 + c) + 1) + 1))) (fwUp g38 41 0 2 0) := mSt_put S38 2 0
                have F73 := mFr_41 G38 2 0
                generalize fwUp g38 41 0 2 0 = g73 at S73 F73 ⊢
                refine w_aload_n dX12_readFirst_144 rfl ?_
                refine w_getr 41 0 dX12_readFirst_145 fl_X12_31 rfl (by decide) ?_
                refine w_iconst dX12_readFirst_148 ?_
                refine w_aload_n dX12_readFirst_149 rfl ?_
                refine w_ldcS (n := 16) dX12_readFirst_150 rfl ?_
                refine w_iconst dX12_readFirst_152 ?_
                refine w_sipush dX12_readFirst_153 rfl ?_
                refine w_callV (d := d + 7) (S := [aI 3, aR 41 0]) [aR 50 16, aI 1, aI 999] dX12_readFirst_156 ml_X12_160 ok_X12_told vi_X12_told rfl rfl (by decide) rfl (Nat.le_of_ble_eq_true rfl) ?_
                refine c_f_told (d := d) 16 1 999 _ S73 (by omega) ?_
                show fwWP mX12_readFirst (d + 8) 159 [some (aR 12 0), none] [aI 0, aI 3, aR 41 0] g73 Q
                refine w_iast dX12_readFirst_159 rfl (by decide) (by omega) (by omega) ?_
                rw [show (3 : Int).toNat = 3 from by omega]
                have S74 : mSt gg (.inl ((1 : Int), (((i + 1 + c) + 1) + 1))) (fwUp g73 41 0 3 0) := mSt_put S73 3 0
                have F74 := mFr_41 F73 3 0
                generalize fwUp g73 41 0 3 0 = g74 at S74 F74 ⊢
                refine w_aload_n dX12_readFirst_160 rfl ?_
                refine w_getr 41 0 dX12_readFirst_161 fl_X12_31 rfl (by decide) ?_
                refine w_iconst dX12_readFirst_164 ?_
                refine w_aload_n dX12_readFirst_165 rfl ?_
                refine w_ldcS (n := 25) dX12_readFirst_166 rfl ?_
                refine w_callV (d := d + 7) (S := [aI 4, aR 41 0]) [aR 50 25] dX12_readFirst_168 ml_X12_140 ok_X12_takes vi_X12_takes rfl rfl (by decide) rfl (Nat.le_of_ble_eq_true rfl) ?_
                refine c_f_takes (d := (d + 2)) 25 _ S74 (by omega) ?_
                show fwWP mX12_readFirst (d + 8) 171 [some (aR 12 0), none] [aI 0, aI 4, aR 41 0] g74 Q
                refine w_if_eq 178 dX12_readFirst_171 (by decide) (by omega) (fun c171 => ?_) (fun c171 => ?_)
                · refine w_iconst dX12_readFirst_178 ?_
                  refine w_iast dX12_readFirst_179 rfl (by decide) (by omega) (by omega) ?_
                  rw [show (4 : Int).toNat = 4 from by omega]
                  have S75 : mSt gg (.inl ((1 : Int), (((i + 1 + c) + 1) + 1))) (fwUp g74 41 0 4 0) := mSt_put S74 4 0
                  have F75 := mFr_41 F74 4 0
                  have e4_75 : (fwUp g74 41 0 4 0) 41 0 4 = 0 := rfl
                  generalize fwUp g74 41 0 4 0 = g75 at S75 F75 e4_75 ⊢
                  refine w_aload_n dX12_readFirst_180 rfl ?_
                  refine w_getr 41 0 dX12_readFirst_181 fl_X12_31 rfl (by decide) ?_
                  refine w_iconst dX12_readFirst_184 ?_
                  refine w_ialdE (v := 0) dX12_readFirst_185 rfl (by decide) (by omega) (by omega) (by rw [show (4 : Int).toNat = 4 by omega]; exact e4_75) ?_
                  refine w_if_ne 195 dX12_readFirst_186 (by decide) (by omega) (fun c186 => ?_) (fun c186 => ?_)
                  · (exfalso; omega)
                  · refine w_aload_n dX12_readFirst_189 rfl ?_
                    refine w_ldcS (n := 24) dX12_readFirst_190 rfl ?_
                    refine w_callV (d := d + 7) (S := []) [aR 50 24] dX12_readFirst_192 ml_X12_147 ok_X12_needs vi_X12_needs rfl rfl (by decide) rfl (Nat.le_of_ble_eq_true rfl) ?_
                    refine c_f_needs (d := (d + 1)) 24 _ S75 (by omega) ?_
                    show fwWP mX12_readFirst (d + 8) 195 [some (aR 12 0), none] [] g75 Q
                    have eF : qFirst (cutH gg 14 0) (cutH gg 16 0) i (fun _ => 0) = .inl ((1 : Int), (((i + 1 + c) + 1) + 1)) := by simp only [qFirst, qThen, q14, q25, q30, q42]
                    exact w_vret dX12_readFirst_195 rfl (k _ (mSt_eq S75 eF) F75)
                · (exfalso; omega)
            · intro cw26 cn26 cv26 g27 S27 F27
              show fwWP mX12_readFirst (d + 8) 128 [some (aR 12 0), none] [aI 0, aI 1, aR 41 0] g27 Q
              have G27 := mFr_tr Fc F27
              have q31 : qFact (cutH gg 14 0) (cutH gg 16 0) 5 0 40 1 (i + 1 + c) Wc = .inl (2, ((i + 1 + c) + 1)) := qFact_2 (by omega) cn26 cv26
              refine w_iast dX12_readFirst_128 rfl (by decide) (by omega) (by omega) ?_
              rw [show (1 : Int).toNat = 1 from by omega]
              have S76 : mSt gg (.inl ((2 : Int), ((i + 1 + c) + 1))) (fwUp g27 41 0 1 0) := mSt_put S27 1 0
              have F76 := mFr_41 G27 1 0
              generalize fwUp g27 41 0 1 0 = g76 at S76 F76 ⊢
              refine w_aload_n dX12_readFirst_129 rfl ?_
              refine w_getr 41 0 dX12_readFirst_130 fl_X12_31 rfl (by decide) ?_
              refine w_iconst dX12_readFirst_133 ?_
              refine w_aload_n dX12_readFirst_134 rfl ?_
              refine w_ldcS (n := 15) dX12_readFirst_135 rfl ?_
              refine w_iconst dX12_readFirst_137 ?_
              refine w_bipush dX12_readFirst_138 rfl ?_
              refine w_callV (d := d + 7) (S := [aI 2, aR 41 0]) [aR 50 15, aI 1, aI 40] dX12_readFirst_140 ml_X12_160 ok_X12_told vi_X12_told rfl rfl (by decide) rfl (Nat.le_of_ble_eq_true rfl) ?_
              refine c_f_told (d := d) 15 1 40 _ S76 (by omega) ?_
              show fwWP mX12_readFirst (d + 8) 143 [some (aR 12 0), none] [aI 0, aI 2, aR 41 0] g76 Q
              refine w_iast dX12_readFirst_143 rfl (by decide) (by omega) (by omega) ?_
              rw [show (2 : Int).toNat = 2 from by omega]
              have S77 : mSt gg (.inl ((2 : Int), ((i + 1 + c) + 1))) (fwUp g76 41 0 2 0) := mSt_put S76 2 0
              have F77 := mFr_41 F76 2 0
              generalize fwUp g76 41 0 2 0 = g77 at S77 F77 ⊢
              refine w_aload_n dX12_readFirst_144 rfl ?_
              refine w_getr 41 0 dX12_readFirst_145 fl_X12_31 rfl (by decide) ?_
              refine w_iconst dX12_readFirst_148 ?_
              refine w_aload_n dX12_readFirst_149 rfl ?_
              refine w_ldcS (n := 16) dX12_readFirst_150 rfl ?_
              refine w_iconst dX12_readFirst_152 ?_
              refine w_sipush dX12_readFirst_153 rfl ?_
              refine w_callV (d := d + 7) (S := [aI 3, aR 41 0]) [aR 50 16, aI 1, aI 999] dX12_readFirst_156 ml_X12_160 ok_X12_told vi_X12_told rfl rfl (by decide) rfl (Nat.le_of_ble_eq_true rfl) ?_
              refine c_f_told (d := d) 16 1 999 _ S77 (by omega) ?_
              show fwWP mX12_readFirst (d + 8) 159 [some (aR 12 0), none] [aI 0, aI 3, aR 41 0] g77 Q
              refine w_iast dX12_readFirst_159 rfl (by decide) (by omega) (by omega) ?_
              rw [show (3 : Int).toNat = 3 from by omega]
              have S78 : mSt gg (.inl ((2 : Int), ((i + 1 + c) + 1))) (fwUp g77 41 0 3 0) := mSt_put S77 3 0
              have F78 := mFr_41 F77 3 0
              generalize fwUp g77 41 0 3 0 = g78 at S78 F78 ⊢
              refine w_aload_n dX12_readFirst_160 rfl ?_
              refine w_getr 41 0 dX12_readFirst_161 fl_X12_31 rfl (by decide) ?_
              refine w_iconst dX12_readFirst_164 ?_
              refine w_aload_n dX12_readFirst_165 rfl ?_
              refine w_ldcS (n := 25) dX12_readFirst_166 rfl ?_
              refine w_callV (d := d + 7) (S := [aI 4, aR 41 0]) [aR 50 25] dX12_readFirst_168 ml_X12_140 ok_X12_takes vi_X12_takes rfl rfl (by decide) rfl (Nat.le_of_ble_eq_true rfl) ?_
              refine c_f_takes (d := (d + 2)) 25 _ S78 (by omega) ?_
              show fwWP mX12_readFirst (d + 8) 171 [some (aR 12 0), none] [aI 0, aI 4, aR 41 0] g78 Q
              refine w_if_eq 178 dX12_readFirst_171 (by decide) (by omega) (fun c171 => ?_) (fun c171 => ?_)
              · refine w_iconst dX12_readFirst_178 ?_
                refine w_iast dX12_readFirst_179 rfl (by decide) (by omega) (by omega) ?_
                rw [show (4 : Int).toNat = 4 from by omega]
                have S79 : mSt gg (.inl ((2 : Int), ((i + 1 + c) + 1))) (fwUp g78 41 0 4 0) := mSt_put S78 4 0
                have F79 := mFr_41 F78 4 0
                have e4_79 : (fwUp g78 41 0 4 0) 41 0 4 = 0 := rfl
                generalize fwUp g78 41 0 4 0 = g79 at S79 F79 e4_79 ⊢
                refine w_aload_n dX12_readFirst_180 rfl ?_
                refine w_getr 41 0 dX12_readFirst_181 fl_X12_31 rfl (by decide) ?_
                refine w_iconst dX12_readFirst_184 ?_
                refine w_ialdE (v := 0) dX12_readFirst_185 rfl (by decide) (by omega) (by omega) (by rw [show (4 : Int).toNat = 4 by omega]; exact e4_79) ?_
                refine w_if_ne 195 dX12_readFirst_186 (by decide) (by omega) (fun c186 => ?_) (fun c186 => ?_)
                · (exfalso; omega)
                · refine w_aload_n dX12_readFirst_189 rfl ?_
                  refine w_ldcS (n := 24) dX12_readFirst_190 rfl ?_
                  refine w_callV (d := d + 7) (S := []) [aR 50 24] dX12_readFirst_192 ml_X12_147 ok_X12_needs vi_X12_needs rfl rfl (by decide) rfl (Nat.le_of_ble_eq_true rfl) ?_
                  refine c_f_needs (d := (d + 1)) 24 _ S79 (by omega) ?_
                  show fwWP mX12_readFirst (d + 8) 195 [some (aR 12 0), none] [] g79 Q
                  have eF : qFirst (cutH gg 14 0) (cutH gg 16 0) i (fun _ => 0) = .inl ((2 : Int), ((i + 1 + c) + 1)) := by simp only [qFirst, qThen, q14, q25, q31]
                  exact w_vret dX12_readFirst_195 rfl (k _ (mSt_eq S79 eF) F79)
              · (exfalso; omega)
            · intro cw26 cn26 g28 S28 F28
              show fwWP mX12_readFirst (d + 8) 128 [some (aR 12 0), none] [aI 0, aI 1, aR 41 0] g28 Q
              have G28 := mFr_tr Fc F28
              have q32 : qFact (cutH gg 14 0) (cutH gg 16 0) 5 0 40 1 (i + 1 + c) Wc = .inl (1, ((i + 1 + c) + 1)) := qFact_1 (by omega) cn26
              refine w_iast dX12_readFirst_128 rfl (by decide) (by omega) (by omega) ?_
              rw [show (1 : Int).toNat = 1 from by omega]
              have S80 : mSt gg (.inl ((1 : Int), ((i + 1 + c) + 1))) (fwUp g28 41 0 1 0) := mSt_put S28 1 0
              have F80 := mFr_41 G28 1 0
              generalize fwUp g28 41 0 1 0 = g80 at S80 F80 ⊢
              refine w_aload_n dX12_readFirst_129 rfl ?_
              refine w_getr 41 0 dX12_readFirst_130 fl_X12_31 rfl (by decide) ?_
              refine w_iconst dX12_readFirst_133 ?_
              refine w_aload_n dX12_readFirst_134 rfl ?_
              refine w_ldcS (n := 15) dX12_readFirst_135 rfl ?_
              refine w_iconst dX12_readFirst_137 ?_
              refine w_bipush dX12_readFirst_138 rfl ?_
              refine w_callV (d := d + 7) (S := [aI 2, aR 41 0]) [aR 50 15, aI 1, aI 40] dX12_readFirst_140 ml_X12_160 ok_X12_told vi_X12_told rfl rfl (by decide) rfl (Nat.le_of_ble_eq_true rfl) ?_
              refine c_f_told (d := d) 15 1 40 _ S80 (by omega) ?_
              show fwWP mX12_readFirst (d + 8) 143 [some (aR 12 0), none] [aI 0, aI 2, aR 41 0] g80 Q
              refine w_iast dX12_readFirst_143 rfl (by decide) (by omega) (by omega) ?_
              rw [show (2 : Int).toNat = 2 from by omega]
              have S81 : mSt gg (.inl ((1 : Int), ((i + 1 + c) + 1))) (fwUp g80 41 0 2 0) := mSt_put S80 2 0
              have F81 := mFr_41 F80 2 0
              generalize fwUp g80 41 0 2 0 = g81 at S81 F81 ⊢
              refine w_aload_n dX12_readFirst_144 rfl ?_
              refine w_getr 41 0 dX12_readFirst_145 fl_X12_31 rfl (by decide) ?_
              refine w_iconst dX12_readFirst_148 ?_
              refine w_aload_n dX12_readFirst_149 rfl ?_
              refine w_ldcS (n := 16) dX12_readFirst_150 rfl ?_
              refine w_iconst dX12_readFirst_152 ?_
              refine w_sipush dX12_readFirst_153 rfl ?_
              refine w_callV (d := d + 7) (S := [aI 3, aR 41 0]) [aR 50 16, aI 1, aI 999] dX12_readFirst_156 ml_X12_160 ok_X12_told vi_X12_told rfl rfl (by decide) rfl (Nat.le_of_ble_eq_true rfl) ?_
              refine c_f_told (d := d) 16 1 999 _ S81 (by omega) ?_
              show fwWP mX12_readFirst (d + 8) 159 [some (aR 12 0), none] [aI 0, aI 3, aR 41 0] g81 Q
              refine w_iast dX12_readFirst_159 rfl (by decide) (by omega) (by omega) ?_
              rw [show (3 : Int).toNat = 3 from by omega]
              have S82 : mSt gg (.inl ((1 : Int), ((i + 1 + c) + 1))) (fwUp g81 41 0 3 0) := mSt_put S81 3 0
              have F82 := mFr_41 F81 3 0
              generalize fwUp g81 41 0 3 0 = g82 at S82 F82 ⊢
              refine w_aload_n dX12_readFirst_160 rfl ?_
              refine w_getr 41 0 dX12_readFirst_161 fl_X12_31 rfl (by decide) ?_
              refine w_iconst dX12_readFirst_164 ?_
              refine w_aload_n dX12_readFirst_165 rfl ?_
              refine w_ldcS (n := 25) dX12_readFirst_166 rfl ?_
              refine w_callV (d := d + 7) (S := [aI 4, aR 41 0]) [aR 50 25] dX12_readFirst_168 ml_X12_140 ok_X12_takes vi_X12_takes rfl rfl (by decide) rfl (Nat.le_of_ble_eq_true rfl) ?_
              refine c_f_takes (d := (d + 2)) 25 _ S82 (by omega) ?_
              show fwWP mX12_readFirst (d + 8) 171 [some (aR 12 0), none] [aI 0, aI 4, aR 41 0] g82 Q
              refine w_if_eq 178 dX12_readFirst_171 (by decide) (by omega) (fun c171 => ?_) (fun c171 => ?_)
              · refine w_iconst dX12_readFirst_178 ?_
                refine w_iast dX12_readFirst_179 rfl (by decide) (by omega) (by omega) ?_
                rw [show (4 : Int).toNat = 4 from by omega]
                have S83 : mSt gg (.inl ((1 : Int), ((i + 1 + c) + 1))) (fwUp g82 41 0 4 0) := mSt_put S82 4 0
                have F83 := mFr_41 F82 4 0
                have e4_83 : (fwUp g82 41 0 4 0) 41 0 4 = 0 := rfl
                generalize fwUp g82 41 0 4 0 = g83 at S83 F83 e4_83 ⊢
                refine w_aload_n dX12_readFirst_180 rfl ?_
                refine w_getr 41 0 dX12_readFirst_181 fl_X12_31 rfl (by decide) ?_
                refine w_iconst dX12_readFirst_184 ?_
                refine w_ialdE (v := 0) dX12_readFirst_185 rfl (by decide) (by omega) (by omega) (by rw [show (4 : Int).toNat = 4 by omega]; exact e4_83) ?_
                refine w_if_ne 195 dX12_readFirst_186 (by decide) (by omega) (fun c186 => ?_) (fun c186 => ?_)
                · (exfalso; omega)
                · refine w_aload_n dX12_readFirst_189 rfl ?_
                  refine w_ldcS (n := 24) dX12_readFirst_190 rfl ?_
                  refine w_callV (d := d + 7) (S := []) [aR 50 24] dX12_readFirst_192 ml_X12_147 ok_X12_needs vi_X12_needs rfl rfl (by decide) rfl (Nat.le_of_ble_eq_true rfl) ?_
                  refine c_f_needs (d := (d + 1)) 24 _ S83 (by omega) ?_
                  show fwWP mX12_readFirst (d + 8) 195 [some (aR 12 0), none] [] g83 Q
                  have eF : qFirst (cutH gg 14 0) (cutH gg 16 0) i (fun _ => 0) = .inl ((1 : Int), ((i + 1 + c) + 1)) := by simp only [qFirst, qThen, q14, q25, q32]
                  exact w_vret dX12_readFirst_195 rfl (k _ (mSt_eq S83 eF) F83)
              · (exfalso; omega)
            · intro cw26 g29 S29 F29
              show fwWP mX12_readFirst (d + 8) 128 [some (aR 12 0), none] [aI 0, aI 1, aR 41 0] g29 Q
              have G29 := mFr_tr Fc F29
              have q33 : qFact (cutH gg 14 0) (cutH gg 16 0) 5 0 40 1 (i + 1 + c) Wc = .inl (1, (i + 1 + c)) := qFact_0 (by omega)
              refine w_iast dX12_readFirst_128 rfl (by decide) (by omega) (by omega) ?_
              rw [show (1 : Int).toNat = 1 from by omega]
              have S84 : mSt gg (.inl ((1 : Int), (i + 1 + c))) (fwUp g29 41 0 1 0) := mSt_put S29 1 0
              have F84 := mFr_41 G29 1 0
              generalize fwUp g29 41 0 1 0 = g84 at S84 F84 ⊢
              refine w_aload_n dX12_readFirst_129 rfl ?_
              refine w_getr 41 0 dX12_readFirst_130 fl_X12_31 rfl (by decide) ?_
              refine w_iconst dX12_readFirst_133 ?_
              refine w_aload_n dX12_readFirst_134 rfl ?_
              refine w_ldcS (n := 15) dX12_readFirst_135 rfl ?_
              refine w_iconst dX12_readFirst_137 ?_
              refine w_bipush dX12_readFirst_138 rfl ?_
              refine w_callV (d := d + 7) (S := [aI 2, aR 41 0]) [aR 50 15, aI 1, aI 40] dX12_readFirst_140 ml_X12_160 ok_X12_told vi_X12_told rfl rfl (by decide) rfl (Nat.le_of_ble_eq_true rfl) ?_
              refine c_f_told (d := d) 15 1 40 _ S84 (by omega) ?_
              show fwWP mX12_readFirst (d + 8) 143 [some (aR 12 0), none] [aI 0, aI 2, aR 41 0] g84 Q
              refine w_iast dX12_readFirst_143 rfl (by decide) (by omega) (by omega) ?_
              rw [show (2 : Int).toNat = 2 from by omega]
              have S85 : mSt gg (.inl ((1 : Int), (i + 1 + c))) (fwUp g84 41 0 2 0) := mSt_put S84 2 0
              have F85 := mFr_41 F84 2 0
              generalize fwUp g84 41 0 2 0 = g85 at S85 F85 ⊢
              refine w_aload_n dX12_readFirst_144 rfl ?_
              refine w_getr 41 0 dX12_readFirst_145 fl_X12_31 rfl (by decide) ?_
              refine w_iconst dX12_readFirst_148 ?_
              refine w_aload_n dX12_readFirst_149 rfl ?_
              refine w_ldcS (n := 16) dX12_readFirst_150 rfl ?_
              refine w_iconst dX12_readFirst_152 ?_
              refine w_sipush dX12_readFirst_153 rfl ?_
              refine w_callV (d := d + 7) (S := [aI 3, aR 41 0]) [aR 50 16, aI 1, aI 999] dX12_readFirst_156 ml_X12_160 ok_X12_told vi_X12_told rfl rfl (by decide) rfl (Nat.le_of_ble_eq_true rfl) ?_
              refine c_f_told (d := d) 16 1 999 _ S85 (by omega) ?_
              show fwWP mX12_readFirst (d + 8) 159 [some (aR 12 0), none] [aI 0, aI 3, aR 41 0] g85 Q
              refine w_iast dX12_readFirst_159 rfl (by decide) (by omega) (by omega) ?_
              rw [show (3 : Int).toNat = 3 from by omega]
              have S86 : mSt gg (.inl ((1 : Int), (i + 1 + c))) (fwUp g85 41 0 3 0) := mSt_put S85 3 0
              have F86 := mFr_41 F85 3 0
              generalize fwUp g85 41 0 3 0 = g86 at S86 F86 ⊢
              refine w_aload_n dX12_readFirst_160 rfl ?_
              refine w_getr 41 0 dX12_readFirst_161 fl_X12_31 rfl (by decide) ?_
              refine w_iconst dX12_readFirst_164 ?_
              refine w_aload_n dX12_readFirst_165 rfl ?_
              refine w_ldcS (n := 25) dX12_readFirst_166 rfl ?_
              refine w_callV (d := d + 7) (S := [aI 4, aR 41 0]) [aR 50 25] dX12_readFirst_168 ml_X12_140 ok_X12_takes vi_X12_takes rfl rfl (by decide) rfl (Nat.le_of_ble_eq_true rfl) ?_
              refine c_f_takes (d := (d + 2)) 25 _ S86 (by omega) ?_
              show fwWP mX12_readFirst (d + 8) 171 [some (aR 12 0), none] [aI 0, aI 4, aR 41 0] g86 Q
              refine w_if_eq 178 dX12_readFirst_171 (by decide) (by omega) (fun c171 => ?_) (fun c171 => ?_)
              · refine w_iconst dX12_readFirst_178 ?_
                refine w_iast dX12_readFirst_179 rfl (by decide) (by omega) (by omega) ?_
                rw [show (4 : Int).toNat = 4 from by omega]
                have S87 : mSt gg (.inl ((1 : Int), (i + 1 + c))) (fwUp g86 41 0 4 0) := mSt_put S86 4 0
                have F87 := mFr_41 F86 4 0
                have e4_87 : (fwUp g86 41 0 4 0) 41 0 4 = 0 := rfl
                generalize fwUp g86 41 0 4 0 = g87 at S87 F87 e4_87 ⊢
                refine w_aload_n dX12_readFirst_180 rfl ?_
                refine w_getr 41 0 dX12_readFirst_181 fl_X12_31 rfl (by decide) ?_
                refine w_iconst dX12_readFirst_184 ?_
                refine w_ialdE (v := 0) dX12_readFirst_185 rfl (by decide) (by omega) (by omega) (by rw [show (4 : Int).toNat = 4 by omega]; exact e4_87) ?_
                refine w_if_ne 195 dX12_readFirst_186 (by decide) (by omega) (fun c186 => ?_) (fun c186 => ?_)
                · (exfalso; omega)
                · refine w_aload_n dX12_readFirst_189 rfl ?_
                  refine w_ldcS (n := 24) dX12_readFirst_190 rfl ?_
                  refine w_callV (d := d + 7) (S := []) [aR 50 24] dX12_readFirst_192 ml_X12_147 ok_X12_needs vi_X12_needs rfl rfl (by decide) rfl (Nat.le_of_ble_eq_true rfl) ?_
                  refine c_f_needs (d := (d + 1)) 24 _ S87 (by omega) ?_
                  show fwWP mX12_readFirst (d + 8) 195 [some (aR 12 0), none] [] g87 Q
                  have eF : qFirst (cutH gg 14 0) (cutH gg 16 0) i (fun _ => 0) = .inl ((1 : Int), (i + 1 + c)) := by simp only [qFirst, qThen, q14, q25, q33]
                  exact w_vret dX12_readFirst_195 rfl (k _ (mSt_eq S87 eF) F87)
              · (exfalso; omega)
          · refine w_aload_n dX12_readFirst_31 rfl ?_
            refine w_getiE (v := mdT (mBy gg) (tokP (mBy gg) (i + 1 + c))) dX12_readFirst_32 fl_X12_97 rfl (by decide) (mSt_r Sc).2.1.2.2.2.1 ?_
            refine w_iconst dX12_readFirst_35 ?_
            refine w_icmp_ne 70 dX12_readFirst_36 (by decide) (by omega) (by omega) (fun c36 => ?_) (fun c36 => ?_)
            · refine w_aload_n dX12_readFirst_70 rfl ?_
              refine w_iconst dX12_readFirst_71 ?_
              refine w_bipush dX12_readFirst_72 rfl ?_
              refine w_callV (d := d + 7) (S := []) [aI 0, aI 40] dX12_readFirst_74 ml_X12_151 ok_X12_number vi_X12_number rfl rfl (by decide) rfl (Nat.le_of_ble_eq_true rfl) ?_
              refine c_r_number (d := (d + 5)) 0 40 _ _ Sc (by omega) (by omega) ⟨?_, ?_, ?_⟩
              · (intros; exfalso; omega)
              · (intros; exfalso; omega)
              · intro cn88 g90 S90 F90
                show fwWP mX12_readFirst (d + 8) 77 [some (aR 12 0), none] [aI 0] g90 Q
                have G90 := mFr_tr Fc F90
                refine w_istore_n [some (aR 12 0), some (aI 0)] dX12_readFirst_77 rfl (by decide) ?_
                refine w_aload_n dX12_readFirst_78 rfl ?_
                refine w_callV (d := d + 7) (S := []) [] dX12_readFirst_79 ml_X12_121 ok_X12_good vi_X12_good rfl rfl (by decide) rfl (Nat.le_of_ble_eq_true rfl) ?_
                refine c_f_good (d := (d + 7)) _ S90 ?_
                show fwWP mX12_readFirst (d + 8) 82 [some (aR 12 0), some (aI 0)] [aI 0] g90 Q
                refine w_if_ne 86 dX12_readFirst_82 (by decide) (by omega) (fun c82 => ?_) (fun c82 => ?_)
                · (exfalso; omega)
                · have qh : qHts (cutH gg 14 0) (cutH gg 16 0) 11 (i + 1) (fun _ => 0) = .inl (1, i + 1 + c) := (by rw [he6]; exact qHts_1 hc6 (by omega) (by omega))
                  have eF : qFirst (cutH gg 14 0) (cutH gg 16 0) i (fun _ => 0) = .inl ((1 : Int), (i + 1 + c)) := by simp only [qFirst, qThen, q14, qh]
                  exact w_vret dX12_readFirst_85 rfl (k _ (mSt_eq S90 eF) G90)
            · (exfalso; omega)
    exact lp6 0 (by omega) _ _ S12 F12 rfl rfl
  · intro cw12 g13 S13 F13
    show fwWP mX12_readFirst (d + 8) 6 [some (aR 12 0), none] [] g13 Q
    have q15 : qWord (cutH gg 14 0) 4 i (fun _ => (0 : Int)) = .inl (1, i) := qWord_f (by omega)
    refine w_aload_n dX12_readFirst_6 rfl ?_
    refine w_callV (d := d + 7) (S := []) [] dX12_readFirst_7 ml_X12_121 ok_X12_good vi_X12_good rfl rfl (by decide) rfl (Nat.le_of_ble_eq_true rfl) ?_
    refine c_f_good (d := (d + 7)) _ S13 ?_
    show fwWP mX12_readFirst (d + 8) 10 [some (aR 12 0), none] [aI 0] g13 Q
    refine w_if_eq 114 dX12_readFirst_10 (by decide) (by omega) (fun c10 => ?_) (fun c10 => ?_)
    · refine w_aload_n dX12_readFirst_114 rfl ?_
      refine w_getr 41 0 dX12_readFirst_115 fl_X12_31 rfl (by decide) ?_
      refine w_iconst dX12_readFirst_118 ?_
      refine w_aload_n dX12_readFirst_119 rfl ?_
      refine w_ldcS (n := 14) dX12_readFirst_120 rfl ?_
      refine w_iconst dX12_readFirst_122 ?_
      refine w_bipush dX12_readFirst_123 rfl ?_
      refine w_callV (d := d + 7) (S := [aI 1, aR 41 0]) [aR 50 14, aI 0, aI 40] dX12_readFirst_125 ml_X12_160 ok_X12_told vi_X12_told rfl rfl (by decide) rfl (Nat.le_of_ble_eq_true rfl) ?_
      refine c_f_told (d := d) 14 0 40 _ S13 (by omega) ?_
      show fwWP mX12_readFirst (d + 8) 128 [some (aR 12 0), none] [aI 0, aI 1, aR 41 0] g13 Q
      refine w_iast dX12_readFirst_128 rfl (by decide) (by omega) (by omega) ?_
      rw [show (1 : Int).toNat = 1 from by omega]
      have S91 : mSt gg (.inl ((1 : Int), i)) (fwUp g13 41 0 1 0) := mSt_put S13 1 0
      have F91 := mFr_41 F13 1 0
      generalize fwUp g13 41 0 1 0 = g91 at S91 F91 ⊢
      refine w_aload_n dX12_readFirst_129 rfl ?_
      refine w_getr 41 0 dX12_readFirst_130 fl_X12_31 rfl (by decide) ?_
      refine w_iconst dX12_readFirst_133 ?_
      refine w_aload_n dX12_readFirst_134 rfl ?_
      refine w_ldcS (n := 15) dX12_readFirst_135 rfl ?_
      refine w_iconst dX12_readFirst_137 ?_
      refine w_bipush dX12_readFirst_138 rfl ?_
      refine w_callV (d := d + 7) (S := [aI 2, aR 41 0]) [aR 50 15, aI 1, aI 40] dX12_readFirst_140 ml_X12_160 ok_X12_told vi_X12_told rfl rfl (by decide) rfl (Nat.le_of_ble_eq_true rfl) ?_
      refine c_f_told (d := d) 15 1 40 _ S91 (by omega) ?_
      show fwWP mX12_readFirst (d + 8) 143 [some (aR 12 0), none] [aI 0, aI 2, aR 41 0] g91 Q
      refine w_iast dX12_readFirst_143 rfl (by decide) (by omega) (by omega) ?_
      rw [show (2 : Int).toNat = 2 from by omega]
      have S92 : mSt gg (.inl ((1 : Int), i)) (fwUp g91 41 0 2 0) := mSt_put S91 2 0
      have F92 := mFr_41 F91 2 0
      generalize fwUp g91 41 0 2 0 = g92 at S92 F92 ⊢
      refine w_aload_n dX12_readFirst_144 rfl ?_
      refine w_getr 41 0 dX12_readFirst_145 fl_X12_31 rfl (by decide) ?_
      refine w_iconst dX12_readFirst_148 ?_
      refine w_aload_n dX12_readFirst_149 rfl ?_
      refine w_ldcS (n := 16) dX12_readFirst_150 rfl ?_
      refine w_iconst dX12_readFirst_152 ?_
      refine w_sipush dX12_readFirst_153 rfl ?_
      refine w_callV (d := d + 7) (S := [aI 3, aR 41 0]) [aR 50 16, aI 1, aI 999] dX12_readFirst_156 ml_X12_160 ok_X12_told vi_X12_told rfl rfl (by decide) rfl (Nat.le_of_ble_eq_true rfl) ?_
      refine c_f_told (d := d) 16 1 999 _ S92 (by omega) ?_
      show fwWP mX12_readFirst (d + 8) 159 [some (aR 12 0), none] [aI 0, aI 3, aR 41 0] g92 Q
      refine w_iast dX12_readFirst_159 rfl (by decide) (by omega) (by omega) ?_
      rw [show (3 : Int).toNat = 3 from by omega]
      have S93 : mSt gg (.inl ((1 : Int), i)) (fwUp g92 41 0 3 0) := mSt_put S92 3 0
      have F93 := mFr_41 F92 3 0
      generalize fwUp g92 41 0 3 0 = g93 at S93 F93 ⊢
      refine w_aload_n dX12_readFirst_160 rfl ?_
      refine w_getr 41 0 dX12_readFirst_161 fl_X12_31 rfl (by decide) ?_
      refine w_iconst dX12_readFirst_164 ?_
      refine w_aload_n dX12_readFirst_165 rfl ?_
      refine w_ldcS (n := 25) dX12_readFirst_166 rfl ?_
      refine w_callV (d := d + 7) (S := [aI 4, aR 41 0]) [aR 50 25] dX12_readFirst_168 ml_X12_140 ok_X12_takes vi_X12_takes rfl rfl (by decide) rfl (Nat.le_of_ble_eq_true rfl) ?_
      refine c_f_takes (d := (d + 2)) 25 _ S93 (by omega) ?_
      show fwWP mX12_readFirst (d + 8) 171 [some (aR 12 0), none] [aI 0, aI 4, aR 41 0] g93 Q
      refine w_if_eq 178 dX12_readFirst_171 (by decide) (by omega) (fun c171 => ?_) (fun c171 => ?_)
      · refine w_iconst dX12_readFirst_178 ?_
        refine w_iast dX12_readFirst_179 rfl (by decide) (by omega) (by omega) ?_
        rw [show (4 : Int).toNat = 4 from by omega]
        have S94 : mSt gg (.inl ((1 : Int), i)) (fwUp g93 41 0 4 0) := mSt_put S93 4 0
        have F94 := mFr_41 F93 4 0
        have e4_94 : (fwUp g93 41 0 4 0) 41 0 4 = 0 := rfl
        generalize fwUp g93 41 0 4 0 = g94 at S94 F94 e4_94 ⊢
        refine w_aload_n dX12_readFirst_180 rfl ?_
        refine w_getr 41 0 dX12_readFirst_181 fl_X12_31 rfl (by decide) ?_
        refine w_iconst dX12_readFirst_184 ?_
        refine w_ialdE (v := 0) dX12_readFirst_185 rfl (by decide) (by omega) (by omega) (by rw [show (4 : Int).toNat = 4 by omega]; exact e4_94) ?_
        refine w_if_ne 195 dX12_readFirst_186 (by decide) (by omega) (fun c186 => ?_) (fun c186 => ?_)
        · (exfalso; omega)
        · refine w_aload_n dX12_readFirst_189 rfl ?_
          refine w_ldcS (n := 24) dX12_readFirst_190 rfl ?_
          refine w_callV (d := d + 7) (S := []) [aR 50 24] dX12_readFirst_192 ml_X12_147 ok_X12_needs vi_X12_needs rfl rfl (by decide) rfl (Nat.le_of_ble_eq_true rfl) ?_
          refine c_f_needs (d := (d + 1)) 24 _ S94 (by omega) ?_
          show fwWP mX12_readFirst (d + 8) 195 [some (aR 12 0), none] [] g94 Q
          have eF : qFirst (cutH gg 14 0) (cutH gg 16 0) i (fun _ => 0) = .inl ((1 : Int), i) := by simp only [qFirst, qThen, q15]
          exact w_vret dX12_readFirst_195 rfl (k _ (mSt_eq S94 eF) F94)
      · (exfalso; omega)
    · (exfalso; omega)
