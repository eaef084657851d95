section
/-! FootLowerModel reads the same TOKENS; gg: the heap whose TAPE it is -/
/-- the model's TAPE is the class's -/
def jT (gg h : fwH) : Prop := tOk gg ∧ h 12 0 7 = gg 1 0 1 ∧ (∀ p : Nat, (p : Int) < gg 1 0 1 → h 39 0 p = gg 13 0 p) ∧ ∀ p : Nat, p < 900 → -128 ≤ h 39 0 p ∧ h 39 0 p < 128
/-- the number that the model makes of so many digits -/
def mdV (b : Nat → Int) (p : Nat) : Nat → Int
  | 0 => 0
  | j + 1 => min 99999 (10 * mdV b p j + b (p + j) - 48)
theorem mdV_rng {b : Nat → Int} {p : Nat} : ∀ n : Nat, (∀ j, j < n → mDig (b (p + j)) = true) → 0 ≤ mdV b p n ∧ mdV b p n ≤ 99999 := by
  intro n
  induction n with
  | zero => intro _; simp [mdV]
  | succ n ih =>
    intro hd
    have h1 := ih (fun j hj => hd j (by omega))
    have h2 := of_decide_eq_true (hd n (by omega))
    rw [mdV]
    omega
theorem mdV_num {b : Nat → Int} {p : Nat} : ∀ n : Nat, (∀ j, j < n → mDig (b (p + j)) = true) → mdV b p n = min 99999 (mNum b p n) := by
  intro n
  induction n with
  | zero => intro _; rfl
  | succ n ih =>
    intro hd
    have h1 := ih (fun j hj => hd j (by omega))
    have h2 := of_decide_eq_true (hd n (by omega))
    have h3 := mNum_rng (b := b) (p := p) n (fun j hj => hd j (by omega))
    rw [mdV, mNum, h1]
    split <;> omega
/-- a TOKEN's kind, as the model has it -/
def mdT (b : Nat → Int) (p : Nat) : Int := if b p = -1 then 0 else if mLet (b p) = true then 1 else if mDig (b p) = true then 2 else if b p = 59 then 3 else 4
/-- the model stands at the TOKEN whose place is p -/
def mTk (gg : fwH) (p : Nat) (A : Nat → Int) : Prop := (p : Int) ≤ gg 1 0 1 ∧ A 9 = (p : Int) ∧ A 8 = (if mBy gg p = -1 then (p : Int) else (mNxt (mBy gg) p : Int)) ∧ A 10 = mdT (mBy gg) p ∧ (mdT (mBy gg) p = 2 → A 11 = min 99999 (mVl (mBy gg) p))
theorem mBy_m1 {gg : fwH} {p : Nat} : mBy gg p = -1 ↔ gg 1 0 1 ≤ p := by
  have := mBy_rng gg p
  constructor
  · intro e
    rcases Int.lt_or_le p (gg 1 0 1) with q | q
    · unfold mBy at e
      rw [if_pos q] at e
      have := fwAnd255 (gg 13 0 p)
      omega
    · exact q
  · intro e
    exact mBy_end e
theorem mRun_c {h : fwH} {q : Int → Bool} (hq : q (-1) = false) {p c : Nat} (hp : (p : Int) ≤ h 1 0 1) (hc : mFst (fun i => q (mBy h (p + i))) c = c) : (p : Int) + (c : Int) ≤ h 1 0 1 := by
  rcases Int.lt_or_le (h 1 0 1) ((p : Int) + (c : Int)) with e | e
  · exfalso
    have h1 := mFst_pre (p := fun i => q (mBy h (p + i))) c ((h 1 0 1).toNat - p) (by rw [hc]; omega)
    rw [show p + ((h 1 0 1).toNat - p) = (h 1 0 1).toNat by omega, mBy_end (by omega), hq] at h1
    exact Bool.noConfusion h1
  · exact e
set_option maxRecDepth 100000 in
set_option maxHeartbeats 4000000 in
theorem c_md_see {d : Nat} {h gg : fwH} {Q : Option fwV → fwH → Prop} (p : Nat) (TT : jT gg h) (hp : p ≤ 900) (k : Q (some (aI (mBy gg p))) h) : fwCt mX12_see (d + 0) [aR 12 0, aI (p : Int)] h Q := by
  refine fwCt_of [some (aR 12 0), some (aI (p : Int))] rfl rfl rfl ?_
  have htk := TT.1
  obtain ⟨ht1, ht2⟩ := htk
  refine w_iload_n dX12_see_0 rfl ?_
  refine w_aload_n dX12_see_1 rfl ?_
  refine w_getiE (v := gg 1 0 1) dX12_see_2 fl_X12_84 rfl (by decide) TT.2.1 ?_
  refine w_icmp_ge 21 dX12_see_5 (by decide) (by omega) (by omega) (fun c5 => ?_) (fun c5 => ?_)
  · refine w_iconst dX12_see_21 ?_
    exact w_iretE dX12_see_22 rfl (by unfold mBy; first | (rw [if_pos (by omega)]; done) | (rw [if_neg (by omega)]; done)) k
  · refine w_aload_n dX12_see_8 rfl ?_
    refine w_getr 39 0 dX12_see_9 fl_X12_20 rfl (by decide) ?_
    refine w_iload_n dX12_see_12 rfl ?_
    refine w_baldE (v := gg 13 0 p) dX12_see_13 rfl (by decide) (by omega) (by omega) (by rw [show (((p : Int)).toNat) = p by omega]; exact TT.2.2.1 p (by omega)) ?_
    refine w_sipush dX12_see_14 rfl ?_
    refine w_iand dX12_see_17 ?_
    refine w_goto 22 dX12_see_18 (by decide) ?_
    exact w_iretE dX12_see_22 rfl (by unfold mBy; first | (rw [if_pos (by omega)]; done) | (rw [if_neg (by omega)]; done)) k
theorem c_mdseeE {d : Nat} {h gg : fwH} {Q : Option fwV → fwH → Prop} (p : Nat) (x : Int) (ex : x = (p : Int)) (TT : jT gg h) (hp : p ≤ 900) (k : Q (some (aI (mBy gg p))) h) : fwCt mX12_see d [aR 12 0, aI x] h Q := by
  subst ex
  exact c_md_see p TT hp k
theorem jT_up {gg h : fwH} (TT : jT gg h) {j : Nat} {x : Int} (hj : j ≠ 7) : jT gg (fwUp h 12 0 j x) := by
  refine ⟨TT.1, ?_, TT.2.2⟩
  show (if (12 = 12 ∧ 0 = 0 ∧ 7 = j) then x else h 12 0 7) = gg 1 0 1
  rw [if_neg (by omega)]
  exact TT.2.1
theorem jT_uc {gg h : fwH} (TT : jT gg h) {A : Nat → Int} (hA : A 7 = gg 1 0 1) : jT gg (fwUc h 12 0 A) := ⟨TT.1, hA, TT.2.2⟩
theorem fwFu_same (g : Nat → Int) (j : Nat) {x : Int} (e : g j = x) : fwFu g j x = g := by
  funext s
  unfold fwFu
  split
  · rename_i q; rw [q, e]
  · rfl
theorem fwFu_comm (g : Nat → Int) {i j : Nat} (x y : Int) (hij : i ≠ j) : fwFu (fwFu g i x) j y = fwFu (fwFu g j y) i x := by
  funext s
  unfold fwFu
  by_cases e1 : s = j
  · subst e1; rw [if_pos rfl, if_neg (by omega), if_pos rfl]
  · rw [if_neg e1]
    by_cases e2 : s = i
    · rw [if_pos e2, if_pos e2]
    · rw [if_neg e2, if_neg e2, if_neg e1]
/-- what reading leaves alone of the model's own numbers -/
def mKp (A B : Nat → Int) : Prop := B 5 = A 5 ∧ B 7 = A 7 ∧ B 12 = A 12 ∧ B 13 = A 13
theorem mdT_m1 {b : Nat → Int} {p : Nat} (h : b p = -1) : mdT b p = 0 := if_pos h
theorem fw118 (B : Nat → Int) (v w a c : Int) : fwFu (fwFu (fwFu (fwFu B 11 v) 8 a) 11 w) 8 c = fwFu (fwFu B 11 w) 8 c := by
  rw [fwFu_comm (fwFu B 11 v) a w (show (8 : Nat) ≠ 11 by decide), fwFu_fu, fwFu_fu]
section MTK
variable {gg : fwH} {q : Nat} {A : Nat → Int}
theorem mTk_end (hq : (q : Int) ≤ gg 1 0 1) (e : mBy gg q = -1) (h9 : A 9 = (q : Int)) (h8 : A 8 = (q : Int)) (h10 : A 10 = 0) : mTk gg q A :=
  ⟨hq, h9, by rw [if_pos e]; exact h8, by rw [h10]; exact (mdT_m1 e).symm, fun z => by rw [mdT_m1 e] at z; omega⟩
theorem mTk_let (hq : (q : Int) ≤ gg 1 0 1) (e : 97 ≤ mBy gg q ∧ mBy gg q ≤ 122) (h9 : A 9 = (q : Int)) (h8 : A 8 = (mLetEnd (mBy gg) q : Int)) (h10 : A 10 = 1) : mTk gg q A := by
  have hl : mLet (mBy gg q) = true := decide_eq_true e
  have ht : mdT (mBy gg) q = 1 := by unfold mdT; rw [if_neg (by omega), if_pos hl]
  refine ⟨hq, h9, ?_, by rw [h10, ht], fun z => by omega⟩
  rw [if_neg (by omega), h8]
  unfold mNxt
  rw [if_pos hl]
theorem mTk_dig (hq : (q : Int) ≤ gg 1 0 1) (e : 48 ≤ mBy gg q ∧ mBy gg q ≤ 57) (h9 : A 9 = (q : Int)) (h8 : A 8 = (mDigEnd (mBy gg) q : Int)) (h10 : A 10 = 2) (h11 : A 11 = mdV (mBy gg) q (mFst (fun i => mDig (mBy gg (q + i))) 900)) : mTk gg q A := by
  have hl : ¬ mLet (mBy gg q) = true := fun z => by have := of_decide_eq_true z; omega
  have hd : mDig (mBy gg q) = true := decide_eq_true e
  have ht : mdT (mBy gg) q = 2 := by unfold mdT; rw [if_neg (by omega), if_neg hl, if_pos hd]
  refine ⟨hq, h9, ?_, by rw [h10, ht], fun _ => ?_⟩
  · rw [if_neg (by omega), h8]
    unfold mNxt
    rw [if_neg hl, if_pos hd]
  · rw [h11, mdV_num _ (fun j hj => mFst_pre (p := fun i => mDig (mBy gg (q + i))) 900 j hj)]
    unfold mVl
    rw [if_neg hl, if_pos hd]
theorem mTk_oth (hq : (q : Int) ≤ gg 1 0 1) (e0 : mBy gg q ≠ -1) (e1 : ¬ (97 ≤ mBy gg q ∧ mBy gg q ≤ 122)) (e2 : ¬ (48 ≤ mBy gg q ∧ mBy gg q ≤ 57)) (h9 : A 9 = (q : Int)) (h8 : A 8 = (q : Int) + 1) (h10 : A 10 = if mBy gg q = 59 then 3 else 4) : mTk gg q A := by
  have hl : ¬ mLet (mBy gg q) = true := fun z => e1 (of_decide_eq_true z)
  have hd : ¬ mDig (mBy gg q) = true := fun z => e2 (of_decide_eq_true z)
  have ht : mdT (mBy gg) q = if mBy gg q = 59 then 3 else 4 := by unfold mdT; rw [if_neg e0, if_neg hl, if_neg hd]
  refine ⟨hq, h9, ?_, by rw [h10, ht], fun z => ?_⟩
  · rw [if_neg e0, h8]
    unfold mNxt
    rw [if_neg hl, if_neg hd]
    omega
  · rw [ht] at z
    split at z <;> omega
end MTK
set_option maxRecDepth 100000 in
set_option maxHeartbeats 4000000 in
theorem c_md_advance {d : Nat} {h gg : fwH} {Q : Option fwV → fwH → Prop} (p : Nat) (TT : jT gg h) (hp : (p : Int) ≤ gg 1 0 1) (hat : h 12 0 8 = (p : Int)) (k : ∀ A, mTk gg (skB (mBy gg) p) A → mKp (h 12 0) A → Q none (fwUc h 12 0 A)) : fwCt mX12_advance (d + 1) [aR 12 0] h Q := by
  refine fwCt_of [some (aR 12 0), none] rfl rfl rfl ?_
  obtain ⟨ht1, ht2⟩ := TT.1
  have lp0 : ∀ c : Nat, c ≤ 900 → (mFst (fun i => mBlB (mBy gg (p + i))) c = c) → fwWP mX12_advance (d + 1) 0 [some (aR 12 0), none] [] (fwUc h 12 0 (fwFu (h 12 0) 8 ((p : Int) + (c : Int)))) Q := by
    refine fw_up (fun c hc0 ih0 => ?_)
    intro iv0
    have hcs : (p : Int) + (c : Int) ≤ gg 1 0 1 := by have := mRun_c (h := gg) (q := mBlB) (by decide) hp iv0; omega
    refine w_aload_n dX12_advance_0 rfl ?_
    refine w_aload_n dX12_advance_1 rfl ?_
    refine w_getiE (v := ((p : Int) + (c : Int))) dX12_advance_2 fl_X12_87 rfl (by decide) (by rfl) ?_
    refine w_callV (d := d + 0) (S := []) [aI ((p : Int) + (c : Int))] dX12_advance_5 ml_X12_90 ok_X12_see vi_X12_see rfl rfl (by decide) rfl (Nat.le_of_ble_eq_true rfl) ?_
    refine c_mdseeE (d := d) (p + c) ((p : Int) + (c : Int)) (by omega) (jT_uc TT (by exact TT.2.1)) (by omega) ?_
    show fwWP mX12_advance (d + 1) 8 [some (aR 12 0), none] [aI (mBy gg (p + c))] (fwUc h 12 0 (fwFu (h 12 0) 8 ((p : Int) + (c : Int)))) Q
    have hby1 := mBy_rng gg (p + c)
    refine w_bipush dX12_advance_8 rfl ?_
    refine w_icmp_eq 26 dX12_advance_10 (by decide) (by omega) (by omega) (fun c10 => ?_) (fun c10 => ?_)
    · refine w_aload_n dX12_advance_26 rfl ?_
      refine w_dup dX12_advance_27 rfl ?_
      refine w_getiE (v := ((p : Int) + (c : Int))) dX12_advance_28 fl_X12_87 rfl (by decide) (by rfl) ?_
      refine w_iconst dX12_advance_31 ?_
      refine w_iadd dX12_advance_32 ?_
      refine w_puti dX12_advance_33 fl_X12_87 fp_12_8 rfl (by decide) ?_
      rw [fwUp_uc]
      refine w_goto 0 dX12_advance_36 (by decide) ?_
      have hnb := mt (mBy_m1 (gg := gg) (p := p + c)).mpr (by omega)
      rw [show (fwUc h 12 0 (fwFu (fwFu (h 12 0) 8 ((p : Int) + (c : Int))) 8 (((p : Int) + (c : Int)) + 1))) = (fwUc h 12 0 (fwFu (h 12 0) 8 ((p : Int) + ((c + 1 : Nat) : Int)))) from ((congrArg (fwUc h 12 0) (fwFu_fu (h 12 0) 8 _ _)).trans (congrArg (fun z => fwUc h 12 0 (fwFu (h 12 0) 8 z)) (by omega)))]
      exact ih0 (by omega) (mFst_go iv0 (show mBlB (mBy gg (p + c)) = true from decide_eq_true (by omega)))
    · refine w_aload_n dX12_advance_13 rfl ?_
      refine w_aload_n dX12_advance_14 rfl ?_
      refine w_getiE (v := ((p : Int) + (c : Int))) dX12_advance_15 fl_X12_87 rfl (by decide) (by rfl) ?_
      refine w_callV (d := d + 0) (S := []) [aI ((p : Int) + (c : Int))] dX12_advance_18 ml_X12_90 ok_X12_see vi_X12_see rfl rfl (by decide) rfl (Nat.le_of_ble_eq_true rfl) ?_
      refine c_mdseeE (d := d) (p + c) ((p : Int) + (c : Int)) (by omega) (jT_uc TT (by exact TT.2.1)) (by omega) ?_
      show fwWP mX12_advance (d + 1) 21 [some (aR 12 0), none] [aI (mBy gg (p + c))] (fwUc h 12 0 (fwFu (h 12 0) 8 ((p : Int) + (c : Int)))) Q
      have hby3 := mBy_rng gg (p + c)
      refine w_bipush dX12_advance_21 rfl ?_
      refine w_icmp_ne 39 dX12_advance_23 (by decide) (by omega) (by omega) (fun c23 => ?_) (fun c23 => ?_)
      · have hsk : skB (mBy gg) p = p + c := by
          have e9 := mFst_stop iv0 (show ¬ mBlB (mBy gg (p + c)) = true from fun q => by have := of_decide_eq_true q; omega) (900 - c)
          rw [show c + (900 - c) = 900 by omega] at e9
          unfold skB
          rw [e9]
        rw [hsk] at k
        refine w_aload_n dX12_advance_39 rfl ?_
        refine w_aload_n dX12_advance_40 rfl ?_
        refine w_getiE (v := ((p : Int) + (c : Int))) dX12_advance_41 fl_X12_87 rfl (by decide) (by rfl) ?_
        refine w_puti dX12_advance_44 fl_X12_94 fp_12_9 rfl (by decide) ?_
        rw [fwUp_uc]
        refine w_aload_n dX12_advance_47 rfl ?_
        refine w_aload_n dX12_advance_48 rfl ?_
        refine w_getiE (v := ((p : Int) + (c : Int))) dX12_advance_49 fl_X12_87 rfl (by decide) (by rfl) ?_
        refine w_callV (d := d + 0) (S := []) [aI ((p : Int) + (c : Int))] dX12_advance_52 ml_X12_90 ok_X12_see vi_X12_see rfl rfl (by decide) rfl (Nat.le_of_ble_eq_true rfl) ?_
        refine c_mdseeE (d := d) (p + c) ((p : Int) + (c : Int)) (by omega) (jT_uc TT (by exact TT.2.1)) (by omega) ?_
        show fwWP mX12_advance (d + 1) 55 [some (aR 12 0), none] [aI (mBy gg (p + c))] (fwUc h 12 0 (fwFu (fwFu (h 12 0) 8 ((p : Int) + (c : Int))) 9 ((p : Int) + (c : Int)))) Q
        have hby5 := mBy_rng gg (p + c)
        refine w_istore_n [some (aR 12 0), some (aI (mBy gg (p + c)))] dX12_advance_55 rfl (by decide) ?_
        refine w_iload_n dX12_advance_56 rfl ?_
        refine w_iconst dX12_advance_57 ?_
        refine w_icmp_ne 69 dX12_advance_58 (by decide) (by omega) (by omega) (fun c58 => ?_) (fun c58 => ?_)
        · refine w_iload_n dX12_advance_69 rfl ?_
          refine w_i2l dX12_advance_70 (by omega) ?_
          refine w_ldc2 (n := 97) dX12_advance_71 cs_X12_100 ?_
          refine w_ldc2 (n := 122) dX12_advance_74 cs_X12_102 ?_
          refine w_callS (d := d + 0) (S := []) [aJ (mBy gg (p + c)), aJ 97, aJ 122] dX12_advance_77 ml_X12_65 ok_X12_in st_X12_in rfl (Nat.le_of_ble_eq_true rfl) ?_
          refine c_X12_in (d := d) (mBy gg (p + c)) 97 122 (by omega) (by omega) (by omega) ?_
          show fwWP mX12_advance (d + 1) 80 [some (aR 12 0), some (aI (mBy gg (p + c)))] [aI (fwB (97 ≤ (mBy gg (p + c)) ∧ (mBy gg (p + c)) ≤ 122))] (fwUc h 12 0 (fwFu (fwFu (h 12 0) 8 ((p : Int) + (c : Int))) 9 ((p : Int) + (c : Int)))) Q
          refine w_ifB_eq 125 dX12_advance_80 (by decide) (fun c80 => ?_) (fun c80 => ?_)
          · refine w_iload_n dX12_advance_125 rfl ?_
            refine w_i2l dX12_advance_126 (by omega) ?_
            refine w_ldc2 (n := 48) dX12_advance_127 cs_X12_104 ?_
            refine w_ldc2 (n := 57) dX12_advance_130 cs_X12_106 ?_
            refine w_callS (d := d + 0) (S := []) [aJ (mBy gg (p + c)), aJ 48, aJ 57] dX12_advance_133 ml_X12_65 ok_X12_in st_X12_in rfl (Nat.le_of_ble_eq_true rfl) ?_
            refine c_X12_in (d := d) (mBy gg (p + c)) 48 57 (by omega) (by omega) (by omega) ?_
            show fwWP mX12_advance (d + 1) 136 [some (aR 12 0), some (aI (mBy gg (p + c)))] [aI (fwB (48 ≤ (mBy gg (p + c)) ∧ (mBy gg (p + c)) ≤ 57))] (fwUc h 12 0 (fwFu (fwFu (h 12 0) 8 ((p : Int) + (c : Int))) 9 ((p : Int) + (c : Int)))) Q
            refine w_ifB_eq 214 dX12_advance_136 (by decide) (fun c136 => ?_) (fun c136 => ?_)
            · refine w_aload_n dX12_advance_214 rfl ?_
              refine w_iload_n dX12_advance_215 rfl ?_
              refine w_bipush dX12_advance_216 rfl ?_
              refine w_icmp_ne 225 dX12_advance_218 (by decide) (by omega) (by omega) (fun c218 => ?_) (fun c218 => ?_)
              · refine w_iconst dX12_advance_225 ?_
                refine w_puti dX12_advance_226 fl_X12_97 fp_12_10 rfl (by decide) ?_
                rw [fwUp_uc]
                refine w_aload_n dX12_advance_229 rfl ?_
                refine w_dup dX12_advance_230 rfl ?_
                refine w_getiE (v := ((p : Int) + (c : Int))) dX12_advance_231 fl_X12_87 rfl (by decide) (by rfl) ?_
                refine w_iconst dX12_advance_234 ?_
                refine w_iadd dX12_advance_235 ?_
                refine w_puti dX12_advance_236 fl_X12_87 fp_12_8 rfl (by decide) ?_
                rw [fwUp_uc]
                exact w_vret dX12_advance_239 rfl (k _ (mTk_oth (by omega) (by omega) (by omega) (by omega) (show (p : Int) + (c : Int) = ((p + c : Nat) : Int) by omega) (show (p : Int) + (c : Int) + 1 = ((p + c : Nat) : Int) + 1 by omega) (show (4 : Int) = _ by rw [if_neg (by omega)])) ⟨rfl, rfl, rfl, rfl⟩)
              · refine w_iconst dX12_advance_221 ?_
                refine w_goto 226 dX12_advance_222 (by decide) ?_
                refine w_puti dX12_advance_226 fl_X12_97 fp_12_10 rfl (by decide) ?_
                rw [fwUp_uc]
                refine w_aload_n dX12_advance_229 rfl ?_
                refine w_dup dX12_advance_230 rfl ?_
                refine w_getiE (v := ((p : Int) + (c : Int))) dX12_advance_231 fl_X12_87 rfl (by decide) (by rfl) ?_
                refine w_iconst dX12_advance_234 ?_
                refine w_iadd dX12_advance_235 ?_
                refine w_puti dX12_advance_236 fl_X12_87 fp_12_8 rfl (by decide) ?_
                rw [fwUp_uc]
                exact w_vret dX12_advance_239 rfl (k _ (mTk_oth (by omega) (by omega) (by omega) (by omega) (show (p : Int) + (c : Int) = ((p + c : Nat) : Int) by omega) (show (p : Int) + (c : Int) + 1 = ((p + c : Nat) : Int) + 1 by omega) (show (3 : Int) = _ by rw [if_pos (by omega)])) ⟨rfl, rfl, rfl, rfl⟩)
            · refine w_aload_n dX12_advance_139 rfl ?_
              refine w_iconst dX12_advance_140 ?_
              refine w_puti dX12_advance_141 fl_X12_108 fp_12_11 rfl (by decide) ?_
              rw [fwUp_uc]
              have lp144 : ∀ e9 : Nat, e9 ≤ 900 → (mFst (fun i => mDig (mBy gg (p + c + i))) e9 = e9) → fwWP mX12_advance (d + 1) 144 [some (aR 12 0), some (aI (mBy gg (p + c)))] [] (fwUc h 12 0 (fwFu (fwFu (fwFu (fwFu (h 12 0) 8 ((p : Int) + (c : Int))) 9 ((p : Int) + (c : Int))) 11 (mdV (mBy gg) (p + c) e9)) 8 ((p : Int) + (c : Int) + (e9 : Int)))) Q := by
                refine fw_up (fun e9 hc144 ih144 => ?_)
                intro iv144
                have hce : (p : Int) + (c : Int) + (e9 : Int) ≤ gg 1 0 1 := by have := mRun_c (h := gg) (q := mDig) (p := p + c) (by decide) (by omega) iv144; omega
                have hvd := mdV_rng (b := mBy gg) (p := p + c) e9 (fun j hj => by have := mFst_pre (p := (fun i => mDig (mBy gg (p + c + i)))) e9 j (by rw [iv144]; exact hj); exact this)
                refine w_aload_n dX12_advance_144 rfl ?_
                refine w_aload_n dX12_advance_145 rfl ?_
                refine w_getiE (v := ((p : Int) + (c : Int) + (e9 : Int))) dX12_advance_146 fl_X12_87 rfl (by decide) (by rfl) ?_
                refine w_callV (d := d + 0) (S := []) [aI ((p : Int) + (c : Int) + (e9 : Int))] dX12_advance_149 ml_X12_90 ok_X12_see vi_X12_see rfl rfl (by decide) rfl (Nat.le_of_ble_eq_true rfl) ?_
                refine c_mdseeE (d := d) (p + c + e9) ((p : Int) + (c : Int) + (e9 : Int)) (by omega) (jT_uc TT (by exact TT.2.1)) (by omega) ?_
                show fwWP mX12_advance (d + 1) 152 [some (aR 12 0), some (aI (mBy gg (p + c)))] [aI (mBy gg (p + c + e9))] (fwUc h 12 0 (fwFu (fwFu (fwFu (fwFu (h 12 0) 8 ((p : Int) + (c : Int))) 9 ((p : Int) + (c : Int))) 11 (mdV (mBy gg) (p + c) e9)) 8 ((p : Int) + (c : Int) + (e9 : Int)))) Q
                have hby10 := mBy_rng gg (p + c + e9)
                refine w_i2l dX12_advance_152 (by omega) ?_
                refine w_ldc2 (n := 48) dX12_advance_153 cs_X12_104 ?_
                refine w_ldc2 (n := 57) dX12_advance_156 cs_X12_106 ?_
                refine w_callS (d := d + 0) (S := []) [aJ (mBy gg (p + c + e9)), aJ 48, aJ 57] dX12_advance_159 ml_X12_65 ok_X12_in st_X12_in rfl (Nat.le_of_ble_eq_true rfl) ?_
                refine c_X12_in (d := d) (mBy gg (p + c + e9)) 48 57 (by omega) (by omega) (by omega) ?_
                show fwWP mX12_advance (d + 1) 162 [some (aR 12 0), some (aI (mBy gg (p + c)))] [aI (fwB (48 ≤ (mBy gg (p + c + e9)) ∧ (mBy gg (p + c + e9)) ≤ 57))] (fwUc h 12 0 (fwFu (fwFu (fwFu (fwFu (h 12 0) 8 ((p : Int) + (c : Int))) 9 ((p : Int) + (c : Int))) 11 (mdV (mBy gg) (p + c) e9)) 8 ((p : Int) + (c : Int) + (e9 : Int)))) Q
                refine w_ifB_eq 206 dX12_advance_162 (by decide) (fun c162 => ?_) (fun c162 => ?_)
                · have est : mFst (fun i => mDig (mBy gg (p + c + i))) 900 = e9 := by
                    have e8 := mFst_stop iv144 (show ¬ ((fun i => mDig (mBy gg (p + c + i))) : Nat → Bool) e9 = true from fun q => by have := of_decide_eq_true q; omega) (900 - e9)
                    rw [show e9 + (900 - e9) = 900 by omega] at e8
                    exact e8
                  refine w_aload_n dX12_advance_206 rfl ?_
                  refine w_iconst dX12_advance_207 ?_
                  refine w_puti dX12_advance_208 fl_X12_97 fp_12_10 rfl (by decide) ?_
                  rw [fwUp_uc]
                  refine w_goto 239 dX12_advance_211 (by decide) ?_
                  exact w_vret dX12_advance_239 rfl (k _ (mTk_dig (by omega) (by omega) (show (p : Int) + (c : Int) = ((p + c : Nat) : Int) by omega) (show (p : Int) + (c : Int) + (e9 : Int) = ((mDigEnd (mBy gg) (p + c) : Nat) : Int) by unfold mDigEnd; rw [est]; omega) rfl (show mdV (mBy gg) (p + c) e9 = _ by rw [est])) ⟨rfl, rfl, rfl, rfl⟩)
                · refine w_aload_n dX12_advance_165 rfl ?_
                  refine w_ldc (n := 99999) dX12_advance_166 cs_X12_111 ?_
                  refine w_bipush dX12_advance_168 rfl ?_
                  refine w_aload_n dX12_advance_170 rfl ?_
                  refine w_getiE (v := (mdV (mBy gg) (p + c) e9)) dX12_advance_171 fl_X12_108 rfl (by decide) (by rfl) ?_
                  refine w_imul dX12_advance_174 ?_
                  refine w_aload_n dX12_advance_175 rfl ?_
                  refine w_aload_n dX12_advance_176 rfl ?_
                  refine w_getiE (v := ((p : Int) + (c : Int) + (e9 : Int))) dX12_advance_177 fl_X12_87 rfl (by decide) (by rfl) ?_
                  refine w_callV (d := d + 0) (S := [aI (10 * (mdV (mBy gg) (p + c) e9)), aI 99999, aR 12 0]) [aI ((p : Int) + (c : Int) + (e9 : Int))] dX12_advance_180 ml_X12_90 ok_X12_see vi_X12_see rfl rfl (by decide) rfl (Nat.le_of_ble_eq_true rfl) ?_
                  refine c_mdseeE (d := d) (p + c + e9) ((p : Int) + (c : Int) + (e9 : Int)) (by omega) (jT_uc TT (by exact TT.2.1)) (by omega) ?_
                  show fwWP mX12_advance (d + 1) 183 [some (aR 12 0), some (aI (mBy gg (p + c)))] [aI (mBy gg (p + c + e9)), aI (10 * (mdV (mBy gg) (p + c) e9)), aI 99999, aR 12 0] (fwUc h 12 0 (fwFu (fwFu (fwFu (fwFu (h 12 0) 8 ((p : Int) + (c : Int))) 9 ((p : Int) + (c : Int))) 11 (mdV (mBy gg) (p + c) e9)) 8 ((p : Int) + (c : Int) + (e9 : Int)))) Q
                  have hby12 := mBy_rng gg (p + c + e9)
                  refine w_iadd dX12_advance_183 ?_
                  refine w_bipush dX12_advance_184 rfl ?_
                  refine w_isub dX12_advance_186 ?_
                  refine w_min (d := d + 0) (S := [aR 12 0]) dX12_advance_187 ml_X12_112 (by omega) (by omega) (Nat.le_of_ble_eq_true rfl) ?_
                  refine w_puti dX12_advance_190 fl_X12_108 fp_12_11 rfl (by decide) ?_
                  rw [fwUp_uc]
                  refine w_aload_n dX12_advance_193 rfl ?_
                  refine w_dup dX12_advance_194 rfl ?_
                  refine w_getiE (v := ((p : Int) + (c : Int) + (e9 : Int))) dX12_advance_195 fl_X12_87 rfl (by decide) (by rfl) ?_
                  refine w_iconst dX12_advance_198 ?_
                  refine w_iadd dX12_advance_199 ?_
                  refine w_puti dX12_advance_200 fl_X12_87 fp_12_8 rfl (by decide) ?_
                  rw [fwUp_uc]
                  refine w_goto 144 dX12_advance_203 (by decide) ?_
                  have hnb := mt (mBy_m1 (gg := gg) (p := p + c + e9)).mpr (by omega)
                  rw [show (fwUc h 12 0 (fwFu (fwFu (fwFu (fwFu (fwFu (fwFu (h 12 0) 8 ((p : Int) + (c : Int))) 9 ((p : Int) + (c : Int))) 11 (mdV (mBy gg) (p + c) e9)) 8 ((p : Int) + (c : Int) + (e9 : Int))) 11 (min 99999 (((10 * (mdV (mBy gg) (p + c) e9)) + (mBy gg (p + c + e9))) - 48))) 8 (((p : Int) + (c : Int) + (e9 : Int)) + 1))) = (fwUc h 12 0 (fwFu (fwFu (fwFu (fwFu (h 12 0) 8 ((p : Int) + (c : Int))) 9 ((p : Int) + (c : Int))) 11 (mdV (mBy gg) (p + c) (e9 + 1))) 8 ((p : Int) + (c : Int) + ((e9 + 1 : Nat) : Int)))) from ((congrArg (fwUc h 12 0) (fw118 (fwFu (fwFu (h 12 0) 8 ((p : Int) + (c : Int))) 9 ((p : Int) + (c : Int))) _ _ _ _)).trans (congrArg (fun z => fwUc h 12 0 (fwFu (fwFu (fwFu (fwFu (h 12 0) 8 ((p : Int) + (c : Int))) 9 ((p : Int) + (c : Int))) 11 (mdV (mBy gg) (p + c) (e9 + 1))) 8 z)) (by omega)))]
                  exact ih144 (by omega) (mFst_go iv144 (show mDig (mBy gg (p + c + e9)) = true from decide_eq_true (by omega)))
              rw [show (fwUc h 12 0 (fwFu (fwFu (fwFu (h 12 0) 8 ((p : Int) + (c : Int))) 9 ((p : Int) + (c : Int))) 11 0)) = (fwUc h 12 0 (fwFu (fwFu (fwFu (fwFu (h 12 0) 8 ((p : Int) + (c : Int))) 9 ((p : Int) + (c : Int))) 11 (mdV (mBy gg) (p + c) 0)) 8 ((p : Int) + (c : Int) + ((0 : Nat) : Int)))) from ((congrArg (fwUc h 12 0) (fwFu_same (fwFu (fwFu (fwFu (h 12 0) 8 ((p : Int) + (c : Int))) 9 ((p : Int) + (c : Int))) 11 0) 8 (show (p : Int) + (c : Int) = (p : Int) + (c : Int) + ((0 : Nat) : Int) by omega))).symm)]
              exact lp144 0 (Nat.zero_le _) rfl
          · have lp83 : ∀ e9 : Nat, e9 ≤ 900 → (mFst (fun i => mLet (mBy gg (p + c + i))) e9 = e9) → fwWP mX12_advance (d + 1) 83 [some (aR 12 0), some (aI (mBy gg (p + c)))] [] (fwUc h 12 0 (fwFu (fwFu (fwFu (h 12 0) 8 ((p : Int) + (c : Int))) 9 ((p : Int) + (c : Int))) 8 ((p : Int) + (c : Int) + (e9 : Int)))) Q := by
              refine fw_up (fun e9 hc83 ih83 => ?_)
              intro iv83
              have hce : (p : Int) + (c : Int) + (e9 : Int) ≤ gg 1 0 1 := by have := mRun_c (h := gg) (q := mLet) (p := p + c) (by decide) (by omega) iv83; omega
              refine w_aload_n dX12_advance_83 rfl ?_
              refine w_aload_n dX12_advance_84 rfl ?_
              refine w_getiE (v := ((p : Int) + (c : Int) + (e9 : Int))) dX12_advance_85 fl_X12_87 rfl (by decide) (by rfl) ?_
              refine w_callV (d := d + 0) (S := []) [aI ((p : Int) + (c : Int) + (e9 : Int))] dX12_advance_88 ml_X12_90 ok_X12_see vi_X12_see rfl rfl (by decide) rfl (Nat.le_of_ble_eq_true rfl) ?_
              refine c_mdseeE (d := d) (p + c + e9) ((p : Int) + (c : Int) + (e9 : Int)) (by omega) (jT_uc TT (by exact TT.2.1)) (by omega) ?_
              show fwWP mX12_advance (d + 1) 91 [some (aR 12 0), some (aI (mBy gg (p + c)))] [aI (mBy gg (p + c + e9))] (fwUc h 12 0 (fwFu (fwFu (fwFu (h 12 0) 8 ((p : Int) + (c : Int))) 9 ((p : Int) + (c : Int))) 8 ((p : Int) + (c : Int) + (e9 : Int)))) Q
              have hby13 := mBy_rng gg (p + c + e9)
              refine w_i2l dX12_advance_91 (by omega) ?_
              refine w_ldc2 (n := 97) dX12_advance_92 cs_X12_100 ?_
              refine w_ldc2 (n := 122) dX12_advance_95 cs_X12_102 ?_
              refine w_callS (d := d + 0) (S := []) [aJ (mBy gg (p + c + e9)), aJ 97, aJ 122] dX12_advance_98 ml_X12_65 ok_X12_in st_X12_in rfl (Nat.le_of_ble_eq_true rfl) ?_
              refine c_X12_in (d := d) (mBy gg (p + c + e9)) 97 122 (by omega) (by omega) (by omega) ?_
              show fwWP mX12_advance (d + 1) 101 [some (aR 12 0), some (aI (mBy gg (p + c)))] [aI (fwB (97 ≤ (mBy gg (p + c + e9)) ∧ (mBy gg (p + c + e9)) ≤ 122))] (fwUc h 12 0 (fwFu (fwFu (fwFu (h 12 0) 8 ((p : Int) + (c : Int))) 9 ((p : Int) + (c : Int))) 8 ((p : Int) + (c : Int) + (e9 : Int)))) Q
              refine w_ifB_eq 117 dX12_advance_101 (by decide) (fun c101 => ?_) (fun c101 => ?_)
              · have est : mFst (fun i => mLet (mBy gg (p + c + i))) 900 = e9 := by
                  have e8 := mFst_stop iv83 (show ¬ ((fun i => mLet (mBy gg (p + c + i))) : Nat → Bool) e9 = true from fun q => by have := of_decide_eq_true q; omega) (900 - e9)
                  rw [show e9 + (900 - e9) = 900 by omega] at e8
                  exact e8
                refine w_aload_n dX12_advance_117 rfl ?_
                refine w_iconst dX12_advance_118 ?_
                refine w_puti dX12_advance_119 fl_X12_97 fp_12_10 rfl (by decide) ?_
                rw [fwUp_uc]
                refine w_goto 239 dX12_advance_122 (by decide) ?_
                exact w_vret dX12_advance_239 rfl (k _ (mTk_let (by omega) (by omega) (show (p : Int) + (c : Int) = ((p + c : Nat) : Int) by omega) (show (p : Int) + (c : Int) + (e9 : Int) = ((mLetEnd (mBy gg) (p + c) : Nat) : Int) by unfold mLetEnd; rw [est]; omega) rfl) ⟨rfl, rfl, rfl, rfl⟩)
              · refine w_aload_n dX12_advance_104 rfl ?_
                refine w_dup dX12_advance_105 rfl ?_
                refine w_getiE (v := ((p : Int) + (c : Int) + (e9 : Int))) dX12_advance_106 fl_X12_87 rfl (by decide) (by rfl) ?_
                refine w_iconst dX12_advance_109 ?_
                refine w_iadd dX12_advance_110 ?_
                refine w_puti dX12_advance_111 fl_X12_87 fp_12_8 rfl (by decide) ?_
                rw [fwUp_uc]
                refine w_goto 83 dX12_advance_114 (by decide) ?_
                have hnb := mt (mBy_m1 (gg := gg) (p := p + c + e9)).mpr (by omega)
                rw [show (fwUc h 12 0 (fwFu (fwFu (fwFu (fwFu (h 12 0) 8 ((p : Int) + (c : Int))) 9 ((p : Int) + (c : Int))) 8 ((p : Int) + (c : Int) + (e9 : Int))) 8 (((p : Int) + (c : Int) + (e9 : Int)) + 1))) = (fwUc h 12 0 (fwFu (fwFu (fwFu (h 12 0) 8 ((p : Int) + (c : Int))) 9 ((p : Int) + (c : Int))) 8 ((p : Int) + (c : Int) + ((e9 + 1 : Nat) : Int)))) from ((congrArg (fwUc h 12 0) (fwFu_fu (fwFu (fwFu (h 12 0) 8 ((p : Int) + (c : Int))) 9 ((p : Int) + (c : Int))) 8 _ _)).trans (congrArg (fun z => fwUc h 12 0 (fwFu (fwFu (fwFu (h 12 0) 8 ((p : Int) + (c : Int))) 9 ((p : Int) + (c : Int))) 8 z)) (by omega)))]
                exact ih83 (by omega) (mFst_go iv83 (show mLet (mBy gg (p + c + e9)) = true from decide_eq_true (by omega)))
            rw [show (fwUc h 12 0 (fwFu (fwFu (h 12 0) 8 ((p : Int) + (c : Int))) 9 ((p : Int) + (c : Int)))) = (fwUc h 12 0 (fwFu (fwFu (fwFu (h 12 0) 8 ((p : Int) + (c : Int))) 9 ((p : Int) + (c : Int))) 8 ((p : Int) + (c : Int) + ((0 : Nat) : Int)))) from ((congrArg (fwUc h 12 0) (fwFu_same (fwFu (fwFu (h 12 0) 8 ((p : Int) + (c : Int))) 9 ((p : Int) + (c : Int))) 8 (show (p : Int) + (c : Int) = (p : Int) + (c : Int) + ((0 : Nat) : Int) by omega))).symm)]
            exact lp83 0 (Nat.zero_le _) rfl
        · refine w_aload_n dX12_advance_61 rfl ?_
          refine w_iconst dX12_advance_62 ?_
          refine w_puti dX12_advance_63 fl_X12_97 fp_12_10 rfl (by decide) ?_
          rw [fwUp_uc]
          refine w_goto 239 dX12_advance_66 (by decide) ?_
          exact w_vret dX12_advance_239 rfl (k _ (mTk_end (by omega) (by omega) (show (p : Int) + (c : Int) = ((p + c : Nat) : Int) by omega) (show (p : Int) + (c : Int) = ((p + c : Nat) : Int) by omega) rfl) ⟨rfl, rfl, rfl, rfl⟩)
      · refine w_aload_n dX12_advance_26 rfl ?_
        refine w_dup dX12_advance_27 rfl ?_
        refine w_getiE (v := ((p : Int) + (c : Int))) dX12_advance_28 fl_X12_87 rfl (by decide) (by rfl) ?_
        refine w_iconst dX12_advance_31 ?_
        refine w_iadd dX12_advance_32 ?_
        refine w_puti dX12_advance_33 fl_X12_87 fp_12_8 rfl (by decide) ?_
        rw [fwUp_uc]
        refine w_goto 0 dX12_advance_36 (by decide) ?_
        have hnb := mt (mBy_m1 (gg := gg) (p := p + c)).mpr (by omega)
        rw [show (fwUc h 12 0 (fwFu (fwFu (h 12 0) 8 ((p : Int) + (c : Int))) 8 (((p : Int) + (c : Int)) + 1))) = (fwUc h 12 0 (fwFu (h 12 0) 8 ((p : Int) + ((c + 1 : Nat) : Int)))) from ((congrArg (fwUc h 12 0) (fwFu_fu (h 12 0) 8 _ _)).trans (congrArg (fun z => fwUc h 12 0 (fwFu (h 12 0) 8 z)) (by omega)))]
        exact ih0 (by omega) (mFst_go iv0 (show mBlB (mBy gg (p + c)) = true from decide_eq_true (by omega)))
  rw [show h = (fwUc h 12 0 (fwFu (h 12 0) 8 ((p : Int) + ((0 : Nat) : Int)))) from (by rw [show ((p : Int) + ((0 : Nat) : Int)) = (p : Int) by omega, fwFu_same _ _ hat, fwUc_self])]
  exact lp0 0 (Nat.zero_le _) rfl
end
section
/-! the reading's state: q says where it stands, or what was faulty -/
def mSt (gg : fwH) (q : fwPq) (h : fwH) : Prop := jT gg h ∧ h 12 0 5 = 0 ∧ match q with
  | .inr s => s.1 ≤ tkN gg ∧ mTk gg (tokP (mBy gg) s.1) (h 12 0) ∧ h 12 0 12 = 0 ∧ h 12 0 13 = -1 ∧ ∀ z : Nat, z < 135 → h 41 0 z = s.2 z
  | .inl e => e.2 ≤ tkN gg ∧ (1 ≤ e.1 ∧ e.1 ≤ 3) ∧ h 12 0 12 = e.1 ∧ h 12 0 13 = (tokP (mBy gg) e.2 : Int)
/-- what reading leaves alone -/
def mFr (h g : fwH) : Prop := ∀ a b, a ≠ 12 → a ≠ 41 → g a b = h a b
theorem mFr_rf (h : fwH) : mFr h h := fun _ _ _ _ => rfl
theorem mFr_tr {h g f : fwH} (a : mFr h g) (b : mFr g f) : mFr h f := fun x y p q => (b x y p q).trans (a x y p q)
theorem mFr_12 {h g : fwH} (F : mFr h g) (A : Nat → Int) : mFr h (fwUc g 12 0 A) := fun a b p q => by rw [fwUc_ne (fun z => p z.1)]; exact F a b p q
theorem mFr_41 {h g : fwH} (F : mFr h g) (s : Nat) (x : Int) : mFr h (fwUp g 41 0 s x) := fun a b p q => by
  funext j
  show (if a = 41 ∧ b = 0 ∧ j = s then x else g a b j) = h a b j
  rw [if_neg (fun z => q z.1), F a b p q]
def qPut (q : fwPq) (s : Nat) (v : Int) : fwPq := match q with
  | .inr z => .inr (z.1, fwFu z.2 s v)
  | .inl e => .inl e
theorem mSt_put {gg h : fwH} {q : fwPq} (S : mSt gg q h) (s : Nat) (v : Int) : mSt gg (qPut q s v) (fwUp h 41 0 s v) := by
  obtain ⟨a, b, c⟩ := S
  refine ⟨a, b, ?_⟩
  cases q with
  | inl e => exact c
  | inr z =>
    obtain ⟨c1, c2, c3, c4, c5⟩ := c
    refine ⟨c1, c2, c3, c4, fun j hj => ?_⟩
    show (if 41 = 41 ∧ 0 = 0 ∧ j = s then v else h 41 0 j) = fwFu z.2 s v j
    unfold fwFu
    by_cases e : j = s
    · rw [if_pos ⟨rfl, rfl, e⟩, if_pos e]
    · rw [if_neg (fun z => e z.2.2), if_neg e]
      exact c5 j hj
/-- a step to the next TOKEN -/
theorem mSt_adv {gg h : fwH} {i : Nat} {W A : Nat → Int} (S : mSt gg (.inr (i, W)) h) (hi : i < tkN gg) (hA : mTk gg (tokP (mBy gg) (i + 1)) A) (hk : mKp (h 12 0) A) : mSt gg (.inr (i + 1, W)) (fwUc h 12 0 A) := by
  obtain ⟨a, b, c1, c2, c3, c4, c5⟩ := S
  exact ⟨jT_uc a (hk.2.1.trans a.2.1), hk.1.trans b, hi, hA, hk.2.2.1.trans c3, hk.2.2.2.trans c4, c5⟩
theorem wk_one : ∀ s, s < 13 → ∀ t, t < 13 → (fwSb s).length = (fwSb t).length → (∀ i, i < (fwSb s).length → (fwSb s).getD i 0 = (fwSb t).getD i 0) → s = t := by decide +kernel
theorem wk_13 : ∀ s, s < 13 → fwSb (s + 13) = fwSb s := by decide +kernel
theorem wk_let : ∀ s, s < 13 → (1 ≤ (fwSb s).length ∧ (fwSb s).length ≤ 5) ∧ ∀ i, i < (fwSb s).length → 97 ≤ (fwSb s).getD i 0 ∧ (fwSb s).getD i 0 ≤ 122 := by decide +kernel
theorem mTx_one {b : Nat → Int} {p q s t : Nat} (hs : s < 13) (ht : t < 13) (h1 : mTx b p q s) (h2 : mTx b p q t) : s = t := by
  refine wk_one s hs t ht (by have := h1.1; have := h2.1; omega) (fun i hi => ?_)
  have e1 := of_decide_eq_true ((mAll_iff _ _).mp h1.2 i hi)
  have e2 := of_decide_eq_true ((mAll_iff _ _).mp h2.2 i (by have := h1.1; have := h2.1; omega))
  omega
theorem mWk_iff {b : Nat → Int} {p q s : Nat} (hs : s < 13) : mWk b p q = (s : Int) + 4 ↔ mTx b p q s := by
  unfold mWk
  have hle := mFst_le (mWkB b p q) 13
  constructor
  · intro e
    split at e
    · omega
    · have e2 : mFst (mWkB b p q) 13 = s := by omega
      have := mFst_not (p := mWkB b p q) 13 (by omega)
      rw [e2] at this
      exact Decidable.not_not.mp (of_decide_eq_false this)
  · intro e
    have e2 : mFst (mWkB b p q) 13 = s := by
      rcases Nat.lt_trichotomy (mFst (mWkB b p q) 13) s with x | x | x
      · have := mFst_not (p := mWkB b p q) 13 (by omega)
        have := Decidable.not_not.mp (of_decide_eq_false this)
        exact mTx_one (by omega) hs this e
      · exact x
      · have := of_decide_eq_true (mFst_pre (p := mWkB b p q) 13 s x)
        exact absurd e this
    rw [if_neg (by omega), e2]
/-- the class's TOKEN and the model's -/
theorem tk_kind {gg : fwH} (hT : tOk gg) {i : Nat} (hi : i ≤ tkN gg) : (cutH gg 14 0 i = 3 ↔ mdT (mBy gg) (tokP (mBy gg) i) = 2) ∧ (cutH gg 14 0 i = 2 ↔ mdT (mBy gg) (tokP (mBy gg) i) = 3) ∧ (cutH gg 14 0 i = 0 ↔ mdT (mBy gg) (tokP (mBy gg) i) = 0) ∧ (cutH gg 14 0 i = 3 → cutH gg 16 0 i = mVl (mBy gg) (tokP (mBy gg) i)) ∧ (cutH gg 14 0 i ≠ 0 → i < tkN gg) ∧ (∀ s : Nat, s < 13 → (cutH gg 14 0 i = (s : Int) + 4 ↔ (mdT (mBy gg) (tokP (mBy gg) i) = 1 ∧ mTx (mBy gg) (tokP (mBy gg) i) (mLetEnd (mBy gg) (tokP (mBy gg) i)) s))) ∧ (0 ≤ mdT (mBy gg) (tokP (mBy gg) i) ∧ mdT (mBy gg) (tokP (mBy gg) i) ≤ 4) := by
  obtain ⟨k1, k2, k3, k4, k5, k6, k7⟩ := cut_at hT
  rcases Nat.lt_or_ge i (tkN gg) with e | e
  · obtain ⟨a1, a2, a3, a4⟩ := k1 i e
    have hb : mBy gg (tokP (mBy gg) i) ≠ -1 := fun z => by have := mBy_m1.mp z; omega
    rw [a1, a3]
    have hw := mWk_rng (mBy gg) (tokP (mBy gg) i) (mLetEnd (mBy gg) (tokP (mBy gg) i))
    have hw2 : mWk (mBy gg) (tokP (mBy gg) i) (mLetEnd (mBy gg) (tokP (mBy gg) i)) = 1 ∨ 4 ≤ mWk (mBy gg) (tokP (mBy gg) i) (mLetEnd (mBy gg) (tokP (mBy gg) i)) := by
      unfold mWk
      split <;> omega
    have hx := fun s hs => mWk_iff (b := mBy gg) (p := tokP (mBy gg) i) (q := mLetEnd (mBy gg) (tokP (mBy gg) i)) (s := s) hs
    generalize mTx (mBy gg) (tokP (mBy gg) i) (mLetEnd (mBy gg) (tokP (mBy gg) i)) = X at hx ⊢
    unfold mKd mdT
    rw [if_neg hb]
    by_cases c1 : mLet (mBy gg (tokP (mBy gg) i)) = true
    · rw [if_pos c1, if_pos c1]
      refine ⟨⟨fun z => by omega, fun z => by omega⟩, ⟨fun z => by omega, fun z => by omega⟩, ⟨fun z => by omega, fun z => by omega⟩, fun _ => rfl, fun _ => e, fun s hs => ?_, by decide⟩
      rw [hx s hs]
      exact ⟨fun z => ⟨rfl, z⟩, fun z => z.2⟩
    · rw [if_neg c1, if_neg c1]
      by_cases c2 : mDig (mBy gg (tokP (mBy gg) i)) = true
      · rw [if_pos c2, if_pos c2]
        exact ⟨⟨fun _ => rfl, fun _ => rfl⟩, ⟨fun z => by omega, fun z => by omega⟩, ⟨fun z => by omega, fun z => by omega⟩, fun _ => rfl, fun _ => e, fun s hs => ⟨fun z => by omega, fun z => absurd z.1 (by decide)⟩, by decide⟩
      · rw [if_neg c2, if_neg c2]
        by_cases c3 : mBy gg (tokP (mBy gg) i) = 59
        · rw [if_pos c3, if_pos c3]
          exact ⟨⟨fun z => by omega, fun z => by omega⟩, ⟨fun _ => rfl, fun _ => rfl⟩, ⟨fun z => by omega, fun z => by omega⟩, fun _ => rfl, fun _ => e, fun s hs => ⟨fun z => by omega, fun z => absurd z.1 (by decide)⟩, by decide⟩
        · rw [if_neg c3, if_neg c3]
          exact ⟨⟨fun z => by omega, fun z => by omega⟩, ⟨fun z => by omega, fun z => by omega⟩, ⟨fun z => by omega, fun z => by omega⟩, fun _ => rfl, fun _ => e, fun s hs => ⟨fun z => by omega, fun z => absurd z.1 (by decide)⟩, by decide⟩
  · have ei : i = tkN gg := by omega
    subst ei
    have hb : mBy gg (tokP (mBy gg) (tkN gg)) = -1 := mBy_m1.mpr (by omega)
    rw [k3, mdT_m1 hb]
    exact ⟨⟨fun z => by omega, fun z => by omega⟩, ⟨fun z => by omega, fun z => by omega⟩, ⟨fun _ => rfl, fun _ => rfl⟩, fun z => by omega, fun z => absurd rfl z, fun s hs => ⟨fun z => by omega, fun z => absurd z.1 (by decide)⟩, by decide⟩
end
section
theorem mSt_l {gg h : fwH} {e : Int × Nat} (S : mSt gg (.inl e) h) : e.2 ≤ tkN gg ∧ (1 ≤ e.1 ∧ e.1 ≤ 3) ∧ h 12 0 12 = e.1 ∧ h 12 0 13 = (tokP (mBy gg) e.2 : Int) := S.2.2
theorem mSt_r {gg h : fwH} {i : Nat} {W : Nat → Int} (S : mSt gg (.inr (i, W)) h) : i ≤ tkN gg ∧ mTk gg (tokP (mBy gg) i) (h 12 0) ∧ h 12 0 12 = 0 ∧ h 12 0 13 = -1 ∧ ∀ z : Nat, z < 135 → h 41 0 z = W z := S.2.2
theorem mSt_flt {gg h : fwH} {i : Nat} {W : Nat → Int} (S : mSt gg (.inr (i, W)) h) {x : Int} (hx : 1 ≤ x ∧ x ≤ 3) : mSt gg (.inl (x, i)) (fwUp (fwUp h 12 0 12 x) 12 0 13 (h 12 0 9)) := by
  obtain ⟨a, b, c1, c2, c3, c4, c5⟩ := S
  refine ⟨jT_up (jT_up a (by decide)) (by decide), b, c1, hx, rfl, ?_⟩
  show h 12 0 9 = _
  exact c2.2.1
theorem mFr_flt (h : fwH) (x y : Int) : mFr h (fwUp (fwUp h 12 0 12 x) 12 0 13 y) := fun a b p q => by
  funext j
  show (if a = 12 ∧ b = 0 ∧ j = 13 then y else if a = 12 ∧ b = 0 ∧ j = 12 then x else h a b j) = h a b j
  rw [if_neg (fun z => p z.1), if_neg (fun z => p z.1)]
set_option maxRecDepth 100000 in
set_option maxHeartbeats 4000000 in
theorem c_f_good {d : Nat} {h gg : fwH} {Q : Option fwV → fwH → Prop}  (e : Int × Nat) (S : mSt gg (.inl e) h) (k : Q (some (aI 0)) h) : fwCt mX12_good (d + 0) [aR 12 0] h Q := by
  refine fwCt_of [some (aR 12 0)] rfl rfl rfl ?_
  obtain ⟨hl1, hl2, hl3, hl4⟩ := mSt_l S
  refine w_aload_n dX12_good_0 rfl ?_
  refine w_getiE (v := e.1) dX12_good_1 fl_X12_118 rfl (by decide) (mSt_l S).2.2.1 ?_
  refine w_if_ne 11 dX12_good_4 (by decide) (by omega) (fun c4 => ?_) (fun c4 => ?_)
  · refine w_iconst dX12_good_11 ?_
    exact w_zret dX12_good_12 rfl (Or.inl rfl) k
  · refine w_iconst dX12_good_7 ?_
    refine w_goto 12 dX12_good_8 (by decide) ?_
    (exfalso; omega)
set_option maxRecDepth 100000 in
set_option maxHeartbeats 4000000 in
theorem c_r_good {d : Nat} {h gg : fwH} {Q : Option fwV → fwH → Prop}  (i : Nat) (W : Nat → Int) (S : mSt gg (.inr (i, W)) h) (k : Q (some (aI 1)) h) : fwCt mX12_good (d + 0) [aR 12 0] h Q := by
  refine fwCt_of [some (aR 12 0)] rfl rfl rfl ?_
  obtain ⟨hz1, hz2⟩ := S.1.1
  obtain ⟨hr1, hr2, hr3, hr4, hr5⟩ := mSt_r S
  obtain ⟨hk1, hk2, hk3, hk4, hk5, hk6, hk7⟩ := tk_kind S.1.1 hr1
  refine w_aload_n dX12_good_0 rfl ?_
  refine w_getiE (v := 0) dX12_good_1 fl_X12_118 rfl (by decide) (mSt_r S).2.2.1 ?_
  refine w_if_ne 11 dX12_good_4 (by decide) (by omega) (fun c4 => ?_) (fun c4 => ?_)
  · (exfalso; omega)
  · refine w_iconst dX12_good_7 ?_
    refine w_goto 12 dX12_good_8 (by decide) ?_
    exact w_zret dX12_good_12 rfl (Or.inr rfl) k
set_option maxRecDepth 100000 in
set_option maxHeartbeats 4000000 in
theorem c_f_errs {d : Nat} {h gg : fwH} {Q : Option fwV → fwH → Prop} (x : Int) (e : Int × Nat) (S : mSt gg (.inl e) h) (k : Q none h) : fwCt mX12_errs (d + 1) [aR 12 0, aI x] h Q := by
  refine fwCt_of [some (aR 12 0), some (aI x)] rfl rfl rfl ?_
  obtain ⟨hl1, hl2, hl3, hl4⟩ := mSt_l S
  refine w_aload_n dX12_errs_0 rfl ?_
  refine w_callV (d := d + 0) (S := []) [] dX12_errs_1 ml_X12_121 ok_X12_good vi_X12_good rfl rfl (by decide) rfl (Nat.le_of_ble_eq_true rfl) ?_
  refine c_f_good (d := d) _ S ?_
  show fwWP mX12_errs (d + 1) 4 [some (aR 12 0), some (aI x)] [aI 0] h Q
  refine w_if_ne 8 dX12_errs_4 (by decide) (by omega) (fun c4 => ?_) (fun c4 => ?_)
  · (exfalso; omega)
  · exact w_vret dX12_errs_7 rfl k
set_option maxRecDepth 100000 in
set_option maxHeartbeats 4000000 in
theorem c_r_errs {d : Nat} {h gg : fwH} {Q : Option fwV → fwH → Prop} (x : Int) (i : Nat) (W : Nat → Int) (S : mSt gg (.inr (i, W)) h) (hx : 1 ≤ x ∧ x ≤ 3) (k : ∀ g, mSt gg (.inl (x, i)) g → mFr h g → Q none g) : fwCt mX12_errs (d + 1) [aR 12 0, aI x] h Q := by
  refine fwCt_of [some (aR 12 0), some (aI x)] rfl rfl rfl ?_
  obtain ⟨hz1, hz2⟩ := S.1.1
  obtain ⟨hr1, hr2, hr3, hr4, hr5⟩ := mSt_r S
  obtain ⟨hk1, hk2, hk3, hk4, hk5, hk6, hk7⟩ := tk_kind S.1.1 hr1
  refine w_aload_n dX12_errs_0 rfl ?_
  refine w_callV (d := d + 0) (S := []) [] dX12_errs_1 ml_X12_121 ok_X12_good vi_X12_good rfl rfl (by decide) rfl (Nat.le_of_ble_eq_true rfl) ?_
  refine c_r_good (d := d) _ _ S ?_
  show fwWP mX12_errs (d + 1) 4 [some (aR 12 0), some (aI x)] [aI 1] h Q
  refine w_if_ne 8 dX12_errs_4 (by decide) (by omega) (fun c4 => ?_) (fun c4 => ?_)
  · refine w_aload_n dX12_errs_8 rfl ?_
    refine w_iload_n dX12_errs_9 rfl ?_
    refine w_puti dX12_errs_10 fl_X12_118 fp_12_12 rfl (by decide) ?_
    refine w_aload_n dX12_errs_13 rfl ?_
    refine w_aload_n dX12_errs_14 rfl ?_
    refine w_getiE (v := h 12 0 9) dX12_errs_15 fl_X12_94 rfl (by decide) (by first | rfl | simp [fwUp, fwUc]) ?_
    refine w_puti dX12_errs_18 fl_X12_27 fp_12_13 rfl (by decide) ?_
    exact w_vret dX12_errs_21 rfl (k _ (mSt_flt S hx) (mFr_flt _ _ _))
  · (exfalso; omega)
set_option maxRecDepth 100000 in
set_option maxHeartbeats 4000000 in
theorem c_f_is {d : Nat} {h gg : fwH} {Q : Option fwV → fwH → Prop} (s : Nat) (e : Int × Nat) (S : mSt gg (.inl e) h) (hs : s < 26) (k : Q (some (aI 0)) h) : fwCt mX12_is (d + 4) [aR 12 0, aR 50 s] h Q := by
  refine fwCt_of [some (aR 12 0), some (aR 50 s), none, none] rfl rfl rfl ?_
  obtain ⟨hl1, hl2, hl3, hl4⟩ := mSt_l S
  refine w_aload_n dX12_is_0 rfl ?_
  refine w_callV (d := d + 3) (S := []) [] dX12_is_1 ml_X12_121 ok_X12_good vi_X12_good rfl rfl (by decide) rfl (Nat.le_of_ble_eq_true rfl) ?_
  refine c_f_good (d := (d + 3)) _ S ?_
  show fwWP mX12_is (d + 4) 4 [some (aR 12 0), some (aR 50 s), none, none] [aI 0] h Q
  refine w_if_eq 35 dX12_is_4 (by decide) (by omega) (fun c4 => ?_) (fun c4 => ?_)
  · refine w_iconst dX12_is_35 ?_
    refine w_istore_n [some (aR 12 0), some (aR 50 s), some (aI 0), none] dX12_is_36 rfl (by decide) ?_
    refine w_iconst dX12_is_37 ?_
    refine w_istore_n [some (aR 12 0), some (aR 50 s), some (aI 0), some (aI 0)] dX12_is_38 rfl (by decide) ?_
    have hsl := fwSb_l2 s (by omega)
    refine w_iload_n dX12_is_39 rfl ?_
    refine w_aload_n dX12_is_40 rfl ?_
    refine w_callT (d := d + 3) (S := [aI 0]) [] dX12_is_41 ml_X12_124 ok_J0_length_8abf5 vi_J0_length_8abf5 rfl (by omega) rfl (Nat.le_of_ble_eq_true rfl) ?_
    refine c_length (d := (d + 2)) s (by omega) ?_
    show fwWP mX12_is (d + 4) 44 [some (aR 12 0), some (aR 50 s), some (aI 0), some (aI 0)] [aI ((fwSb s).length : Int), aI 0] h Q
    refine w_icmp_ge 82 dX12_is_44 (by decide) (by omega) (by omega) (fun c44 => ?_) (fun c44 => ?_)
    · refine w_iload_n dX12_is_82 rfl ?_
      exact w_zret dX12_is_83 rfl (Or.inl rfl) k
    · refine w_iload_n dX12_is_47 rfl ?_
      refine w_if_eq 82 dX12_is_48 (by decide) (by omega) (fun c48 => ?_) (fun c48 => ?_)
      · refine w_iload_n dX12_is_82 rfl ?_
        exact w_zret dX12_is_83 rfl (Or.inl rfl) k
      · (exfalso; omega)
  · (exfalso; omega)
theorem fwB_c {P R : Prop} [Decidable P] [Decidable R] (h : P ↔ R) : fwB P = fwB R := by
  unfold fwB
  by_cases p : P
  · rw [if_pos p, if_pos (h.mp p)]
  · rw [if_neg p, if_neg (fun z => p (h.mpr z))]
theorem and255_n : ∀ n : Nat, n < 256 → fwAnd ((n : Int) - 128) 255 = if 128 ≤ n then (n : Int) - 128 else (n : Int) + 128 := by decide +kernel
theorem and255 {x : Int} (h : -128 ≤ x ∧ x < 128) : fwAnd x 255 = if 0 ≤ x then x else x + 256 := by
  obtain ⟨n, rfl⟩ : ∃ n : Nat, x = (n : Int) - 128 := ⟨(x + 128).toNat, by omega⟩
  rw [and255_n n (by omega)]
  split <;> split <;> omega
theorem mdT_1 {b : Nat → Int} {p : Nat} (h : mdT b p = 1) : b p ≠ -1 ∧ mLet (b p) = true := by
  unfold mdT at h
  split at h
  · omega
  · rename_i q
    split at h
    · rename_i q2
      exact ⟨q, q2⟩
    · split at h
      · omega
      · split at h <;> omega
/-- where the model stands behind a word -/
theorem mTk_at1 {gg : fwH} {p : Nat} {A : Nat → Int} (h : mTk gg p A) (h1 : mdT (mBy gg) p = 1) : A 8 = (mLetEnd (mBy gg) p : Int) ∧ (mLetEnd (mBy gg) p : Int) ≤ gg 1 0 1 := by
  obtain ⟨e1, e2⟩ := mdT_1 h1
  refine ⟨?_, mRun_le (q := mLet) (by decide) h.1⟩
  rw [h.2.2.1, if_neg e1]
  unfold mNxt
  rw [if_pos e2]
theorem mBy_in {h : fwH} {p : Nat} (hp : (p : Int) < h 1 0 1) : mBy h p = fwAnd (h 13 0 p) 255 := if_pos hp
theorem mTk_8 {gg : fwH} {p : Nat} {A : Nat → Int} (h : mTk gg p A) (hT : tOk gg) : 0 ≤ A 8 ∧ A 8 ≤ 900 := by
  have h1 := h.1
  have h2 := hT.2
  rw [h.2.2.1]
  split
  · omega
  · rename_i q
    rcases Int.lt_or_le (p : Int) (gg 1 0 1) with z | z
    · have := mNxt_le (h := gg) z
      omega
    · exact absurd (mBy_m1.mpr z) q
theorem mAll_le {p : Nat → Bool} {a b : Nat} (h : mAll p b = true) (hab : a ≤ b) : mAll p a = true := (mAll_iff _ _).mpr (fun j hj => (mAll_iff _ _).mp h j (by omega))
set_option maxRecDepth 100000 in
set_option maxHeartbeats 4000000 in
theorem c_r_is {d : Nat} {h gg : fwH} {Q : Option fwV → fwH → Prop} (s : Nat) (i : Nat) (W : Nat → Int) (S : mSt gg (.inr (i, W)) h) (hs : s < 13) (k : Q (some (aI (fwB (cutH gg 14 0 i = (s : Int) + 4)))) h) : fwCt mX12_is (d + 4) [aR 12 0, aR 50 (s + 13)] h Q := by
  refine fwCt_of [some (aR 12 0), some (aR 50 (s + 13)), none, none] rfl rfl rfl ?_
  obtain ⟨hz1, hz2⟩ := S.1.1
  obtain ⟨hr1, hr2, hr3, hr4, hr5⟩ := mSt_r S
  obtain ⟨hk1, hk2, hk3, hk4, hk5, hk6, hk7⟩ := tk_kind S.1.1 hr1
  have hsl := fwSb_l2 (s + 13) (by omega)
  have hpz := hr2.1
  have hp0 := S.1.1
  have hpr := mTk_8 hr2 hp0
  refine w_aload_n dX12_is_0 rfl ?_
  refine w_callV (d := d + 3) (S := []) [] dX12_is_1 ml_X12_121 ok_X12_good vi_X12_good rfl rfl (by decide) rfl (Nat.le_of_ble_eq_true rfl) ?_
  refine c_r_good (d := (d + 3)) _ _ S ?_
  show fwWP mX12_is (d + 4) 4 [some (aR 12 0), some (aR 50 (s + 13)), none, none] [aI 1] h Q
  refine w_if_eq 35 dX12_is_4 (by decide) (by omega) (fun c4 => ?_) (fun c4 => ?_)
  · (exfalso; omega)
  · have J36 : ∀ v : Int, v = fwB (mdT (mBy gg) (tokP (mBy gg) i) = 1 ∧ h 12 0 8 - ((tokP (mBy gg) i) : Int) = ((fwSb (s + 13)).length : Int)) → fwWP mX12_is (d + 4) 36 [some (aR 12 0), some (aR 50 (s + 13)), none, none] [aI v] h Q := by
      intro v ev
      subst ev
      refine w_istore_n [some (aR 12 0), some (aR 50 (s + 13)), some (aI (fwB (mdT (mBy gg) (tokP (mBy gg) i) = 1 ∧ h 12 0 8 - ((tokP (mBy gg) i) : Int) = ((fwSb (s + 13)).length : Int)))), none] dX12_is_36 rfl (by decide) ?_
      refine w_iconst dX12_is_37 ?_
      refine w_istore_n [some (aR 12 0), some (aR 50 (s + 13)), some (aI (fwB (mdT (mBy gg) (tokP (mBy gg) i) = 1 ∧ h 12 0 8 - ((tokP (mBy gg) i) : Int) = ((fwSb (s + 13)).length : Int)))), some (aI 0)] dX12_is_38 rfl (by decide) ?_
      have lp39 : ∀ c : Nat, c ≤ (fwSb (s + 13)).length → ∀ (y39 iz : Int), y39 = (c : Int) → iz = fwB ((mdT (mBy gg) (tokP (mBy gg) i) = 1 ∧ h 12 0 8 - ((tokP (mBy gg) i) : Int) = ((fwSb (s + 13)).length : Int)) ∧ mAll (mTxB (mBy gg) (tokP (mBy gg) i) s) c = true) → fwWP mX12_is (d + 4) 39 [some (aR 12 0), some (aR 50 (s + 13)), some (aI iz), some (aI y39)] [] h Q := by
        refine fw_up (fun c hc39 ih39 => ?_)
        intro y39 iz ey39 e_iz
        subst ey39
        subst e_iz
        have hfr := fwB_rng ((mdT (mBy gg) (tokP (mBy gg) i) = 1 ∧ h 12 0 8 - ((tokP (mBy gg) i) : Int) = ((fwSb (s + 13)).length : Int)) ∧ mAll (mTxB (mBy gg) (tokP (mBy gg) i) s) c = true)
        show fwWP mX12_is (d + 4) 39 [some (aR 12 0), some (aR 50 (s + 13)), some (aI (fwB ((mdT (mBy gg) (tokP (mBy gg) i) = 1 ∧ h 12 0 8 - ((tokP (mBy gg) i) : Int) = ((fwSb (s + 13)).length : Int)) ∧ mAll (mTxB (mBy gg) (tokP (mBy gg) i) s) c = true))), some (aI (c : Int))] [] h Q
        refine w_iload_n dX12_is_39 rfl ?_
        refine w_aload_n dX12_is_40 rfl ?_
        refine w_callT (d := d + 3) (S := [aI (c : Int)]) [] dX12_is_41 ml_X12_124 ok_J0_length_8abf5 vi_J0_length_8abf5 rfl (by omega) rfl (Nat.le_of_ble_eq_true rfl) ?_
        refine c_length (d := (d + 2)) (s + 13) (by omega) ?_
        show fwWP mX12_is (d + 4) 44 [some (aR 12 0), some (aR 50 (s + 13)), some (aI (fwB ((mdT (mBy gg) (tokP (mBy gg) i) = 1 ∧ h 12 0 8 - ((tokP (mBy gg) i) : Int) = ((fwSb (s + 13)).length : Int)) ∧ mAll (mTxB (mBy gg) (tokP (mBy gg) i) s) c = true))), some (aI (c : Int))] [aI ((fwSb (s + 13)).length : Int), aI (c : Int)] h Q
        refine w_icmp_ge 82 dX12_is_44 (by decide) (by omega) (by omega) (fun c44 => ?_) (fun c44 => ?_)
        · refine w_iload_n dX12_is_82 rfl ?_
          have hmp : ∀ z : mdT (mBy gg) (tokP (mBy gg) i) = 1, h 12 0 8 = (mLetEnd (mBy gg) (tokP (mBy gg) i) : Int) := fun z => (mTk_at1 hr2 z).1
          have e13 := wk_13 s hs
          have ecl : c = (fwSb s).length := by rw [← e13]; omega
          exact w_zretE (P := cutH gg 14 0 i = (s : Int) + 4) dX12_is_83 rfl (fwB_c ⟨fun z => (hk6 s hs).mpr ⟨z.1.1, by have := hmp z.1.1; have := z.1.2; rw [e13] at this; omega, by rw [← ecl]; exact z.2⟩, fun z => by have z1 := (hk6 s hs).mp z; have z2 := hmp z1.1; have z3 := z1.2.1; exact ⟨⟨z1.1, by rw [e13]; omega⟩, by rw [ecl]; exact z1.2.2⟩⟩) k
        · refine w_iload_n dX12_is_47 rfl ?_
          refine w_if_eq 82 dX12_is_48 (by decide) (by omega) (fun c48 => ?_) (fun c48 => ?_)
          · refine w_iload_n dX12_is_82 rfl ?_
            have hmp : ∀ z : mdT (mBy gg) (tokP (mBy gg) i) = 1, h 12 0 8 = (mLetEnd (mBy gg) (tokP (mBy gg) i) : Int) := fun z => (mTk_at1 hr2 z).1
            have e13 := wk_13 s hs
            exact w_zretE (P := cutH gg 14 0 i = (s : Int) + 4) dX12_is_83 rfl (by rw [c48, fwB_f (fun z => by have z1 := (hk6 s hs).mp z; have z2 := hmp z1.1; have z3 := z1.2.1; have z4 : fwB _ = 1 := fwB_t (P := (mdT (mBy gg) (tokP (mBy gg) i) = 1 ∧ h 12 0 8 - ((tokP (mBy gg) i) : Int) = ((fwSb (s + 13)).length : Int)) ∧ mAll (mTxB (mBy gg) (tokP (mBy gg) i) s) c = true) ⟨⟨z1.1, by rw [e13]; omega⟩, mAll_le z1.2.2 (by rw [← e13]; omega)⟩; omega)]) k
          · have q9 : (mdT (mBy gg) (tokP (mBy gg) i) = 1 ∧ h 12 0 8 - ((tokP (mBy gg) i) : Int) = ((fwSb (s + 13)).length : Int)) ∧ mAll (mTxB (mBy gg) (tokP (mBy gg) i) s) c = true := Decidable.byContradiction (fun z => c48 (fwB_f z))
            have hat := mTk_at1 hr2 q9.1.1
            have hq92 := q9.1.2
            have hsz := S.1.1.2
            have hbr := S.1.2.2.2 ((tokP (mBy gg) i) + c) (by omega)
            have hby : mBy gg ((tokP (mBy gg) i) + c) = fwAnd (h 39 0 ((tokP (mBy gg) i) + c)) 255 := by rw [mBy_in (by omega), S.1.2.2.1 _ (by omega)]
            rw [and255 hbr] at hby
            have hch := (wk_let s hs).2 c (by rw [← wk_13 s hs]; omega)
            refine w_aload_n dX12_is_51 rfl ?_
            refine w_getr 39 0 dX12_is_52 fl_X12_20 rfl (by decide) ?_
            refine w_aload_n dX12_is_55 rfl ?_
            refine w_getiE (v := (tokP (mBy gg) i : Int)) dX12_is_56 fl_X12_94 rfl (by decide) (mSt_r S).2.1.2.1 ?_
            refine w_iload_n dX12_is_59 rfl ?_
            refine w_iadd dX12_is_60 ?_
            refine w_baldE (v := h 39 0 (tokP (mBy gg) i + c)) dX12_is_61 rfl (by decide) (by omega) (by omega) (by rw [show (((tokP (mBy gg) i : Int) + (c : Int)).toNat) = tokP (mBy gg) i + c by omega]) ?_
            refine w_aload_n dX12_is_62 rfl ?_
            refine w_iload_n dX12_is_63 rfl ?_
            refine w_callT (d := d + 3) (S := [aI (h 39 0 (tokP (mBy gg) i + c))]) [aI (c : Int)] dX12_is_64 ml_X12_129 ok_J0_charAt_5068e vi_J0_charAt_5068e rfl (by omega) rfl (Nat.le_of_ble_eq_true rfl) ?_
            refine c_charAt (d := d) (s + 13) (c : Int) (by omega) (by omega) (by omega) ?_
            show fwWP mX12_is (d + 4) 67 [some (aR 12 0), some (aR 50 (s + 13)), some (aI (fwB ((mdT (mBy gg) (tokP (mBy gg) i) = 1 ∧ h 12 0 8 - ((tokP (mBy gg) i) : Int) = ((fwSb (s + 13)).length : Int)) ∧ mAll (mTxB (mBy gg) (tokP (mBy gg) i) s) c = true))), some (aI (c : Int))] [aI ((fwSb (s + 13)).getD ((c : Int)).toNat 0), aI (h 39 0 (tokP (mBy gg) i + c))] h Q
            rw [Int.toNat_natCast, wk_13 s hs]
            refine w_icmp_ne 74 dX12_is_67 (by decide) (by omega) (by omega) (fun c67 => ?_) (fun c67 => ?_)
            · refine w_iconst dX12_is_74 ?_
              refine w_istore_n [some (aR 12 0), some (aR 50 (s + 13)), some (aI 0), some (aI (c : Int))] dX12_is_75 rfl (by decide) ?_
              refine w_iinc [some (aR 12 0), some (aR 50 (s + 13)), some (aI 0), some (aI ((c : Int) + 1))] dX12_is_76 rfl rfl (by decide) ?_
              refine w_goto 39 dX12_is_79 (by decide) ?_
              refine ih39 (by omega) _ _ ?_ ?_
              · exact (by omega)
              · exact (by rw [fwB_f (fun z => by have z2 := z.2; rw [mAll, q9.2, Bool.true_and] at z2; have z3 := of_decide_eq_true z2; split at hby <;> omega)])
            · refine w_iconst dX12_is_70 ?_
              refine w_goto 75 dX12_is_71 (by decide) ?_
              refine w_istore_n [some (aR 12 0), some (aR 50 (s + 13)), some (aI 1), some (aI (c : Int))] dX12_is_75 rfl (by decide) ?_
              refine w_iinc [some (aR 12 0), some (aR 50 (s + 13)), some (aI 1), some (aI ((c : Int) + 1))] dX12_is_76 rfl rfl (by decide) ?_
              refine w_goto 39 dX12_is_79 (by decide) ?_
              refine ih39 (by omega) _ _ ?_ ?_
              · exact (by omega)
              · exact (by rw [fwB_t ⟨q9.1, by rw [mAll, q9.2, Bool.true_and]; exact decide_eq_true (by split at hby <;> omega)⟩])
      refine lp39 0 (Nat.zero_le _) _ _ ?_ ?_
      · exact (by omega)
      · exact (fwB_c ⟨fun z => ⟨z, rfl⟩, fun z => z.1⟩)
    refine w_aload_n dX12_is_7 rfl ?_
    refine w_getiE (v := mdT (mBy gg) (tokP (mBy gg) i)) dX12_is_8 fl_X12_97 rfl (by decide) (mSt_r S).2.1.2.2.2.1 ?_
    refine w_iconst dX12_is_11 ?_
    refine w_icmp_ne 35 dX12_is_12 (by decide) (by omega) (by omega) (fun c12 => ?_) (fun c12 => ?_)
    · refine w_iconst dX12_is_35 ?_
      exact J36 _ (by first | omega | (rw [fwB_t (by omega)]) | (rw [fwB_f (by omega)]))
    · refine w_aload_n dX12_is_15 rfl ?_
      refine w_getiE (v := h 12 0 8) dX12_is_16 fl_X12_87 rfl (by decide) rfl ?_
      refine w_aload_n dX12_is_19 rfl ?_
      refine w_getiE (v := (tokP (mBy gg) i : Int)) dX12_is_20 fl_X12_94 rfl (by decide) (mSt_r S).2.1.2.1 ?_
      refine w_isub dX12_is_23 ?_
      refine w_aload_n dX12_is_24 rfl ?_
      refine w_callT (d := d + 3) (S := [aI ((h 12 0 8) - (tokP (mBy gg) i : Int))]) [] dX12_is_25 ml_X12_124 ok_J0_length_8abf5 vi_J0_length_8abf5 rfl (by omega) rfl (Nat.le_of_ble_eq_true rfl) ?_
      refine c_length (d := (d + 2)) (s + 13) (by omega) ?_
      show fwWP mX12_is (d + 4) 28 [some (aR 12 0), some (aR 50 (s + 13)), none, none] [aI ((fwSb (s + 13)).length : Int), aI ((h 12 0 8) - (tokP (mBy gg) i : Int))] h Q
      refine w_icmp_ne 35 dX12_is_28 (by decide) (by omega) (by omega) (fun c28 => ?_) (fun c28 => ?_)
      · refine w_iconst dX12_is_35 ?_
        exact J36 _ (by first | omega | (rw [fwB_t (by omega)]) | (rw [fwB_f (by omega)]))
      · refine w_iconst dX12_is_31 ?_
        refine w_goto 36 dX12_is_32 (by decide) ?_
        exact J36 _ (by first | omega | (rw [fwB_t (by omega)]) | (rw [fwB_f (by omega)]))
end
section
theorem c_r_adv {d : Nat} {h gg : fwH} {Q : Option fwV → fwH → Prop} (i : Nat) (W : Nat → Int) (S : mSt gg (.inr (i, W)) h) (hK : cutH gg 14 0 i ≠ 0) (k : ∀ g, mSt gg (.inr (i + 1, W)) g → mFr h g → Q none g) : fwCt mX12_advance (d + 1) [aR 12 0] h Q := by
  have hr := mSt_r S
  have hi := (tk_kind S.1.1 hr.1).2.2.2.2.1 hK
  have hlt := ((cut_at S.1.1).1 i hi).2.2.2
  have hb : mBy gg (tokP (mBy gg) i) ≠ -1 := fun z => by have := mBy_m1.mp z; omega
  have h8 := hr.2.1.2.2.1
  rw [if_neg hb] at h8
  exact c_md_advance (mNxt (mBy gg) (tokP (mBy gg) i)) S.1 (mNxt_le hlt) h8 (fun A hA hk => k _ (mSt_adv S hi hA hk) (mFr_12 (mFr_rf h) A))
set_option maxRecDepth 100000 in
set_option maxHeartbeats 4000000 in
theorem c_f_takes {d : Nat} {h gg : fwH} {Q : Option fwV → fwH → Prop} (s : Nat) (e : Int × Nat) (S : mSt gg (.inl e) h) (hs : s < 26) (k : Q (some (aI 0)) h) : fwCt mX12_takes (d + 5) [aR 12 0, aR 50 s] h Q := by
  refine fwCt_of [some (aR 12 0), some (aR 50 s), none] rfl rfl rfl ?_
  obtain ⟨hl1, hl2, hl3, hl4⟩ := mSt_l S
  refine w_aload_n dX12_takes_0 rfl ?_
  refine w_aload_n dX12_takes_1 rfl ?_
  refine w_callV (d := d + 4) (S := []) [aR 50 s] dX12_takes_2 ml_X12_133 ok_X12_is vi_X12_is rfl rfl (by decide) rfl (Nat.le_of_ble_eq_true rfl) ?_
  refine c_f_is (d := d) s _ S (by omega) ?_
  show fwWP mX12_takes (d + 5) 5 [some (aR 12 0), some (aR 50 s), none] [aI 0] h Q
  refine w_istore_n [some (aR 12 0), some (aR 50 s), some (aI 0)] dX12_takes_5 rfl (by decide) ?_
  refine w_iload_n dX12_takes_6 rfl ?_
  refine w_if_eq 14 dX12_takes_7 (by decide) (by omega) (fun c7 => ?_) (fun c7 => ?_)
  · refine w_iload_n dX12_takes_14 rfl ?_
    exact w_zret dX12_takes_15 rfl (Or.inl rfl) k
  · (exfalso; omega)
set_option maxRecDepth 100000 in
set_option maxHeartbeats 4000000 in
theorem c_r_takes {d : Nat} {h gg : fwH} {Q : Option fwV → fwH → Prop} (s : Nat) (i : Nat) (W : Nat → Int) (S : mSt gg (.inr (i, W)) h) (hs : s < 13) (k : (cutH gg 14 0 i = (s : Int) + 4 → ∀ g, mSt gg (.inr (i + 1, W)) g → mFr h g → Q (some (aI 1)) g) ∧ (¬ (cutH gg 14 0 i = (s : Int) + 4) → Q (some (aI 0)) h)) : fwCt mX12_takes (d + 5) [aR 12 0, aR 50 (s + 13)] h Q := by
  refine fwCt_of [some (aR 12 0), some (aR 50 (s + 13)), none] rfl rfl rfl ?_
  obtain ⟨hz1, hz2⟩ := S.1.1
  obtain ⟨hr1, hr2, hr3, hr4, hr5⟩ := mSt_r S
  obtain ⟨hk1, hk2, hk3, hk4, hk5, hk6, hk7⟩ := tk_kind S.1.1 hr1
  refine w_aload_n dX12_takes_0 rfl ?_
  refine w_aload_n dX12_takes_1 rfl ?_
  refine w_callV (d := d + 4) (S := []) [aR 50 (s + 13)] dX12_takes_2 ml_X12_133 ok_X12_is vi_X12_is rfl rfl (by decide) rfl (Nat.le_of_ble_eq_true rfl) ?_
  refine c_r_is (d := d) s _ _ S (by omega) ?_
  show fwWP mX12_takes (d + 5) 5 [some (aR 12 0), some (aR 50 (s + 13)), none] [aI (fwB (cutH gg 14 0 i = ((s : Nat) : Int) + 4))] h Q
  refine w_istore_n [some (aR 12 0), some (aR 50 (s + 13)), some (aI (fwB (cutH gg 14 0 i = ((s : Nat) : Int) + 4)))] dX12_takes_5 rfl (by decide) ?_
  refine w_iload_n dX12_takes_6 rfl ?_
  refine w_ifB_eq 14 dX12_takes_7 (by decide) (fun c7 => ?_) (fun c7 => ?_)
  · refine w_iload_n dX12_takes_14 rfl ?_
    exact w_zretE (P := cutH gg 14 0 i = (s : Int) + 4) dX12_takes_15 rfl rfl (by rw [fwB_f c7]; exact k.2 c7)
  · refine w_aload_n dX12_takes_10 rfl ?_
    refine w_callV (d := d + 4) (S := []) [] dX12_takes_11 ml_X12_137 ok_X12_advance vi_X12_advance rfl rfl (by decide) rfl (Nat.le_of_ble_eq_true rfl) ?_
    refine c_r_adv (d := (d + 3)) _ _ S (by omega) ?_
    intro g1 S1 F1
    show fwWP mX12_takes (d + 5) 14 [some (aR 12 0), some (aR 50 (s + 13)), some (aI (fwB (cutH gg 14 0 i = ((s : Nat) : Int) + 4)))] [] g1 Q
    refine w_iload_n dX12_takes_14 rfl ?_
    exact w_zretE (P := cutH gg 14 0 i = (s : Int) + 4) dX12_takes_15 rfl rfl (by rw [fwB_t c7]; exact k.1 c7 _ S1 F1)
set_option maxRecDepth 100000 in
set_option maxHeartbeats 4000000 in
theorem c_f_needs {d : Nat} {h gg : fwH} {Q : Option fwV → fwH → Prop} (s : Nat) (e : Int × Nat) (S : mSt gg (.inl e) h) (hs : s < 26) (k : Q none h) : fwCt mX12_needs (d + 6) [aR 12 0, aR 50 s] h Q := by
  refine fwCt_of [some (aR 12 0), some (aR 50 s)] rfl rfl rfl ?_
  obtain ⟨hl1, hl2, hl3, hl4⟩ := mSt_l S
  refine w_aload_n dX12_needs_0 rfl ?_
  refine w_aload_n dX12_needs_1 rfl ?_
  refine w_callV (d := d + 5) (S := []) [aR 50 s] dX12_needs_2 ml_X12_140 ok_X12_takes vi_X12_takes rfl rfl (by decide) rfl (Nat.le_of_ble_eq_true rfl) ?_
  refine c_f_takes (d := d) s _ S (by omega) ?_
  show fwWP mX12_needs (d + 6) 5 [some (aR 12 0), some (aR 50 s)] [aI 0] h Q
  refine w_if_ne 13 dX12_needs_5 (by decide) (by omega) (fun c5 => ?_) (fun c5 => ?_)
  · (exfalso; omega)
  · refine w_aload_n dX12_needs_8 rfl ?_
    refine w_iconst dX12_needs_9 ?_
    refine w_callV (d := d + 5) (S := []) [aI 1] dX12_needs_10 ml_X12_143 ok_X12_errs vi_X12_errs rfl rfl (by decide) rfl (Nat.le_of_ble_eq_true rfl) ?_
    refine c_f_errs (d := (d + 4)) 1 _ S ?_
    show fwWP mX12_needs (d + 6) 13 [some (aR 12 0), some (aR 50 s)] [] h Q
    exact w_vret dX12_needs_13 rfl k
set_option maxRecDepth 100000 in
set_option maxHeartbeats 4000000 in
theorem c_r_needs {d : Nat} {h gg : fwH} {Q : Option fwV → fwH → Prop} (s : Nat) (i : Nat) (W : Nat → Int) (S : mSt gg (.inr (i, W)) h) (hs : s < 13) (k : (cutH gg 14 0 i = (s : Int) + 4 → ∀ g, mSt gg (.inr (i + 1, W)) g → mFr h g → Q none g) ∧ (¬ (cutH gg 14 0 i = (s : Int) + 4) → ∀ g, mSt gg (.inl (1, i)) g → mFr h g → Q none g)) : fwCt mX12_needs (d + 6) [aR 12 0, aR 50 (s + 13)] h Q := by
  refine fwCt_of [some (aR 12 0), some (aR 50 (s + 13))] rfl rfl rfl ?_
  obtain ⟨hz1, hz2⟩ := S.1.1
  obtain ⟨hr1, hr2, hr3, hr4, hr5⟩ := mSt_r S
  obtain ⟨hk1, hk2, hk3, hk4, hk5, hk6, hk7⟩ := tk_kind S.1.1 hr1
  refine w_aload_n dX12_needs_0 rfl ?_
  refine w_aload_n dX12_needs_1 rfl ?_
  refine w_callV (d := d + 5) (S := []) [aR 50 (s + 13)] dX12_needs_2 ml_X12_140 ok_X12_takes vi_X12_takes rfl rfl (by decide) rfl (Nat.le_of_ble_eq_true rfl) ?_
  refine c_r_takes (d := d) s _ _ S (by omega) ⟨?_, ?_⟩
  · intro cw2 g2 S2 F2
    show fwWP mX12_needs (d + 6) 5 [some (aR 12 0), some (aR 50 (s + 13))] [aI 1] g2 Q
    refine w_if_ne 13 dX12_needs_5 (by decide) (by omega) (fun c5 => ?_) (fun c5 => ?_)
    · exact w_vret dX12_needs_13 rfl (k.1 (by omega) _ S2 F2)
    · (exfalso; omega)
  · intro cw2
    show fwWP mX12_needs (d + 6) 5 [some (aR 12 0), some (aR 50 (s + 13))] [aI 0] h Q
    refine w_if_ne 13 dX12_needs_5 (by decide) (by omega) (fun c5 => ?_) (fun c5 => ?_)
    · (exfalso; omega)
    · refine w_aload_n dX12_needs_8 rfl ?_
      refine w_iconst dX12_needs_9 ?_
      refine w_callV (d := d + 5) (S := []) [aI 1] dX12_needs_10 ml_X12_143 ok_X12_errs vi_X12_errs rfl rfl (by decide) rfl (Nat.le_of_ble_eq_true rfl) ?_
      refine c_r_errs (d := (d + 4)) 1 _ _ S (by omega) ?_
      intro g3 S3 F3
      show fwWP mX12_needs (d + 6) 13 [some (aR 12 0), some (aR 50 (s + 13))] [] g3 Q
      exact w_vret dX12_needs_13 rfl (k.2 (by omega) _ S3 F3)
set_option maxRecDepth 100000 in
set_option maxHeartbeats 4000000 in
theorem c_f_number {d : Nat} {h gg : fwH} {Q : Option fwV → fwH → Prop} (lo hi : Int) (e : Int × Nat) (S : mSt gg (.inl e) h) (k : Q (some (aI 0)) h) : fwCt mX12_number (d + 2) [aR 12 0, aI lo, aI hi] h Q := by
  refine fwCt_of [some (aR 12 0), some (aI lo), some (aI hi), none] rfl rfl rfl ?_
  obtain ⟨hl1, hl2, hl3, hl4⟩ := mSt_l S
  refine w_aload_n dX12_number_0 rfl ?_
  refine w_callV (d := d + 1) (S := []) [] dX12_number_1 ml_X12_121 ok_X12_good vi_X12_good rfl rfl (by decide) rfl (Nat.le_of_ble_eq_true rfl) ?_
  refine c_f_good (d := (d + 1)) _ S ?_
  show fwWP mX12_number (d + 2) 4 [some (aR 12 0), some (aI lo), some (aI hi), none] [aI 0] h Q
  refine w_if_eq 20 dX12_number_4 (by decide) (by omega) (fun c4 => ?_) (fun c4 => ?_)
  · refine w_aload_n dX12_number_20 rfl ?_
    refine w_callV (d := d + 1) (S := []) [] dX12_number_21 ml_X12_121 ok_X12_good vi_X12_good rfl rfl (by decide) rfl (Nat.le_of_ble_eq_true rfl) ?_
    refine c_f_good (d := (d + 1)) _ S ?_
    show fwWP mX12_number (d + 2) 24 [some (aR 12 0), some (aI lo), some (aI hi), none] [aI 0] h Q
    refine w_if_eq 47 dX12_number_24 (by decide) (by omega) (fun c24 => ?_) (fun c24 => ?_)
    · refine w_aload_n dX12_number_47 rfl ?_
      refine w_callV (d := d + 1) (S := []) [] dX12_number_48 ml_X12_121 ok_X12_good vi_X12_good rfl rfl (by decide) rfl (Nat.le_of_ble_eq_true rfl) ?_
      refine c_f_good (d := (d + 1)) _ S ?_
      show fwWP mX12_number (d + 2) 51 [some (aR 12 0), some (aI lo), some (aI hi), none] [aI 0] h Q
      refine w_if_ne 56 dX12_number_51 (by decide) (by omega) (fun c51 => ?_) (fun c51 => ?_)
      · (exfalso; omega)
      · refine w_iconst dX12_number_54 ?_
        exact w_iret dX12_number_55 rfl k
    · (exfalso; omega)
  · (exfalso; omega)
set_option maxRecDepth 100000 in
set_option maxHeartbeats 4000000 in
theorem c_r_number {d : Nat} {h gg : fwH} {Q : Option fwV → fwH → Prop} (lo hi : Int) (i : Nat) (W : Nat → Int) (S : mSt gg (.inr (i, W)) h) (hlo : -1000 ≤ lo ∧ lo ≤ 1000) (hhi : -1000 ≤ hi ∧ hi ≤ 1000) (k : (cutH gg 14 0 i = 3 → (lo ≤ cutH gg 16 0 i ∧ cutH gg 16 0 i ≤ hi) → ∀ g, mSt gg (.inr (i + 1, W)) g → mFr h g → Q (some (aI (cutH gg 16 0 i))) g) ∧ (cutH gg 14 0 i = 3 → ¬ (lo ≤ cutH gg 16 0 i ∧ cutH gg 16 0 i ≤ hi) → ∀ g, mSt gg (.inl (2, i)) g → mFr h g → Q (some (aI 0)) g) ∧ (¬ cutH gg 14 0 i = 3 → ∀ g, mSt gg (.inl (1, i)) g → mFr h g → Q (some (aI 0)) g)) : fwCt mX12_number (d + 2) [aR 12 0, aI lo, aI hi] h Q := by
  refine fwCt_of [some (aR 12 0), some (aI lo), some (aI hi), none] rfl rfl rfl ?_
  obtain ⟨hz1, hz2⟩ := S.1.1
  obtain ⟨hr1, hr2, hr3, hr4, hr5⟩ := mSt_r S
  obtain ⟨hk1, hk2, hk3, hk4, hk5, hk6, hk7⟩ := tk_kind S.1.1 hr1
  refine w_aload_n dX12_number_0 rfl ?_
  refine w_callV (d := d + 1) (S := []) [] dX12_number_1 ml_X12_121 ok_X12_good vi_X12_good rfl rfl (by decide) rfl (Nat.le_of_ble_eq_true rfl) ?_
  refine c_r_good (d := (d + 1)) _ _ S ?_
  show fwWP mX12_number (d + 2) 4 [some (aR 12 0), some (aI lo), some (aI hi), none] [aI 1] h Q
  refine w_if_eq 20 dX12_number_4 (by decide) (by omega) (fun c4 => ?_) (fun c4 => ?_)
  · (exfalso; omega)
  · refine w_aload_n dX12_number_7 rfl ?_
    refine w_getiE (v := mdT (mBy gg) (tokP (mBy gg) i)) dX12_number_8 fl_X12_97 rfl (by decide) (mSt_r S).2.1.2.2.2.1 ?_
    refine w_iconst dX12_number_11 ?_
    refine w_icmp_eq 20 dX12_number_12 (by decide) (by omega) (by omega) (fun c12 => ?_) (fun c12 => ?_)
    · refine w_aload_n dX12_number_20 rfl ?_
      refine w_callV (d := d + 1) (S := []) [] dX12_number_21 ml_X12_121 ok_X12_good vi_X12_good rfl rfl (by decide) rfl (Nat.le_of_ble_eq_true rfl) ?_
      refine c_r_good (d := (d + 1)) _ _ S ?_
      show fwWP mX12_number (d + 2) 24 [some (aR 12 0), some (aI lo), some (aI hi), none] [aI 1] h Q
      refine w_if_eq 47 dX12_number_24 (by decide) (by omega) (fun c24 => ?_) (fun c24 => ?_)
      · (exfalso; omega)
      · have hvr := (tk_cut S.1.1).2.2.2 i hr1
        refine w_aload_n dX12_number_27 rfl ?_
        refine w_getiE (v := min 99999 (cutH gg 16 0 i)) dX12_number_28 fl_X12_108 rfl (by decide) (by rw [hk4 (by omega)]; exact hr2.2.2.2.2 (by omega)) ?_
        refine w_i2l dX12_number_31 (by omega) ?_
        refine w_iload_n dX12_number_32 rfl ?_
        refine w_i2l dX12_number_33 (by omega) ?_
        refine w_iload_n dX12_number_34 rfl ?_
        refine w_i2l dX12_number_35 (by omega) ?_
        refine w_callS (d := d + 1) (S := []) [aJ (min 99999 (cutH gg 16 0 i)), aJ lo, aJ hi] dX12_number_36 ml_X12_65 ok_X12_in st_X12_in rfl (Nat.le_of_ble_eq_true rfl) ?_
        refine c_X12_in (d := (d + 1)) (min 99999 (cutH gg 16 0 i)) lo hi (by omega) (by omega) (by omega) ?_
        show fwWP mX12_number (d + 2) 39 [some (aR 12 0), some (aI lo), some (aI hi), none] [aI (fwB (lo ≤ (min 99999 (cutH gg 16 0 i)) ∧ (min 99999 (cutH gg 16 0 i)) ≤ hi))] h Q
        refine w_ifB_ne 47 dX12_number_39 (by decide) (fun c39 => ?_) (fun c39 => ?_)
        · refine w_aload_n dX12_number_47 rfl ?_
          refine w_callV (d := d + 1) (S := []) [] dX12_number_48 ml_X12_121 ok_X12_good vi_X12_good rfl rfl (by decide) rfl (Nat.le_of_ble_eq_true rfl) ?_
          refine c_r_good (d := (d + 1)) _ _ S ?_
          show fwWP mX12_number (d + 2) 51 [some (aR 12 0), some (aI lo), some (aI hi), none] [aI 1] h Q
          refine w_if_ne 56 dX12_number_51 (by decide) (by omega) (fun c51 => ?_) (fun c51 => ?_)
          · refine w_aload_n dX12_number_56 rfl ?_
            refine w_getiE (v := min 99999 (cutH gg 16 0 i)) dX12_number_57 fl_X12_108 rfl (by decide) (by rw [hk4 (by omega)]; exact hr2.2.2.2.2 (by omega)) ?_
            refine w_istore_n [some (aR 12 0), some (aI lo), some (aI hi), some (aI (min 99999 (cutH gg 16 0 i)))] dX12_number_60 rfl (by decide) ?_
            refine w_aload_n dX12_number_61 rfl ?_
            refine w_callV (d := d + 1) (S := []) [] dX12_number_62 ml_X12_137 ok_X12_advance vi_X12_advance rfl rfl (by decide) rfl (Nat.le_of_ble_eq_true rfl) ?_
            refine c_r_adv (d := d) _ _ S (by omega) ?_
            intro g4 S4 F4
            show fwWP mX12_number (d + 2) 65 [some (aR 12 0), some (aI lo), some (aI hi), some (aI (min 99999 (cutH gg 16 0 i)))] [] g4 Q
            refine w_iload_n dX12_number_65 rfl ?_
            exact w_iretE dX12_number_66 rfl (show min 99999 (cutH gg 16 0 i) = cutH gg 16 0 i by omega) (k.1 (by omega) (by omega) _ S4 F4)
          · (exfalso; omega)
        · refine w_aload_n dX12_number_42 rfl ?_
          refine w_iconst dX12_number_43 ?_
          refine w_callV (d := d + 1) (S := []) [aI 2] dX12_number_44 ml_X12_143 ok_X12_errs vi_X12_errs rfl rfl (by decide) rfl (Nat.le_of_ble_eq_true rfl) ?_
          refine c_r_errs (d := d) 2 _ _ S (by omega) ?_
          intro g5 S5 F5
          show fwWP mX12_number (d + 2) 47 [some (aR 12 0), some (aI lo), some (aI hi), none] [] g5 Q
          refine w_aload_n dX12_number_47 rfl ?_
          refine w_callV (d := d + 1) (S := []) [] dX12_number_48 ml_X12_121 ok_X12_good vi_X12_good rfl rfl (by decide) rfl (Nat.le_of_ble_eq_true rfl) ?_
          refine c_f_good (d := (d + 1)) _ S5 ?_
          show fwWP mX12_number (d + 2) 51 [some (aR 12 0), some (aI lo), some (aI hi), none] [aI 0] g5 Q
          refine w_if_ne 56 dX12_number_51 (by decide) (by omega) (fun c51 => ?_) (fun c51 => ?_)
          · (exfalso; omega)
          · refine w_iconst dX12_number_54 ?_
            exact w_iret dX12_number_55 rfl (k.2.1 (by omega) (by omega) _ S5 F5)
    · refine w_aload_n dX12_number_15 rfl ?_
      refine w_iconst dX12_number_16 ?_
      refine w_callV (d := d + 1) (S := []) [aI 1] dX12_number_17 ml_X12_143 ok_X12_errs vi_X12_errs rfl rfl (by decide) rfl (Nat.le_of_ble_eq_true rfl) ?_
      refine c_r_errs (d := d) 1 _ _ S (by omega) ?_
      intro g6 S6 F6
      show fwWP mX12_number (d + 2) 20 [some (aR 12 0), some (aI lo), some (aI hi), none] [] g6 Q
      refine w_aload_n dX12_number_20 rfl ?_
      refine w_callV (d := d + 1) (S := []) [] dX12_number_21 ml_X12_121 ok_X12_good vi_X12_good rfl rfl (by decide) rfl (Nat.le_of_ble_eq_true rfl) ?_
      refine c_f_good (d := (d + 1)) _ S6 ?_
      show fwWP mX12_number (d + 2) 24 [some (aR 12 0), some (aI lo), some (aI hi), none] [aI 0] g6 Q
      refine w_if_eq 47 dX12_number_24 (by decide) (by omega) (fun c24 => ?_) (fun c24 => ?_)
      · refine w_aload_n dX12_number_47 rfl ?_
        refine w_callV (d := d + 1) (S := []) [] dX12_number_48 ml_X12_121 ok_X12_good vi_X12_good rfl rfl (by decide) rfl (Nat.le_of_ble_eq_true rfl) ?_
        refine c_f_good (d := (d + 1)) _ S6 ?_
        show fwWP mX12_number (d + 2) 51 [some (aR 12 0), some (aI lo), some (aI hi), none] [aI 0] g6 Q
        refine w_if_ne 56 dX12_number_51 (by decide) (by omega) (fun c51 => ?_) (fun c51 => ?_)
        · (exfalso; omega)
        · refine w_iconst dX12_number_54 ?_
          exact w_iret dX12_number_55 rfl (k.2.2 (by omega) _ S6 F6)
      · (exfalso; omega)
set_option maxRecDepth 100000 in
set_option maxHeartbeats 4000000 in
theorem c_f_told {d : Nat} {h gg : fwH} {Q : Option fwV → fwH → Prop} (s : Nat) (lo hi : Int) (e : Int × Nat) (S : mSt gg (.inl e) h) (hs : s < 26) (k : Q (some (aI 0)) h) : fwCt mX12_told (d + 7) [aR 12 0, aR 50 s, aI lo, aI hi] h Q := by
  refine fwCt_of [some (aR 12 0), some (aR 50 s), some (aI lo), some (aI hi)] rfl rfl rfl ?_
  obtain ⟨hl1, hl2, hl3, hl4⟩ := mSt_l S
  refine w_aload_n dX12_told_0 rfl ?_
  refine w_aload_n dX12_told_1 rfl ?_
  refine w_callV (d := d + 6) (S := []) [aR 50 s] dX12_told_2 ml_X12_147 ok_X12_needs vi_X12_needs rfl rfl (by decide) rfl (Nat.le_of_ble_eq_true rfl) ?_
  refine c_f_needs (d := d) s _ S (by omega) ?_
  show fwWP mX12_told (d + 7) 5 [some (aR 12 0), some (aR 50 s), some (aI lo), some (aI hi)] [] h Q
  refine w_aload_n dX12_told_5 rfl ?_
  refine w_iload_n dX12_told_6 rfl ?_
  refine w_iload_n dX12_told_7 rfl ?_
  refine w_callV (d := d + 6) (S := []) [aI lo, aI hi] dX12_told_8 ml_X12_151 ok_X12_number vi_X12_number rfl rfl (by decide) rfl (Nat.le_of_ble_eq_true rfl) ?_
  refine c_f_number (d := (d + 4)) lo hi _ S ?_
  show fwWP mX12_told (d + 7) 11 [some (aR 12 0), some (aR 50 s), some (aI lo), some (aI hi)] [aI 0] h Q
  exact w_iret dX12_told_11 rfl k
set_option maxRecDepth 100000 in
set_option maxHeartbeats 4000000 in
theorem c_r_told {d : Nat} {h gg : fwH} {Q : Option fwV → fwH → Prop} (s : Nat) (lo hi : Int) (i : Nat) (W : Nat → Int) (S : mSt gg (.inr (i, W)) h) (hs : s < 13) (hlo : -1000 ≤ lo ∧ lo ≤ 1000) (hhi : -1000 ≤ hi ∧ hi ≤ 1000) (k : (cutH gg 14 0 i = (s : Int) + 4 → cutH gg 14 0 (i + 1) = 3 → (lo ≤ cutH gg 16 0 (i + 1) ∧ cutH gg 16 0 (i + 1) ≤ hi) → ∀ g, mSt gg (.inr (i + 1 + 1, W)) g → mFr h g → Q (some (aI (cutH gg 16 0 (i + 1)))) g) ∧ (cutH gg 14 0 i = (s : Int) + 4 → cutH gg 14 0 (i + 1) = 3 → ¬ (lo ≤ cutH gg 16 0 (i + 1) ∧ cutH gg 16 0 (i + 1) ≤ hi) → ∀ g, mSt gg (.inl (2, i + 1)) g → mFr h g → Q (some (aI 0)) g) ∧ (cutH gg 14 0 i = (s : Int) + 4 → ¬ cutH gg 14 0 (i + 1) = 3 → ∀ g, mSt gg (.inl (1, i + 1)) g → mFr h g → Q (some (aI 0)) g) ∧ (¬ (cutH gg 14 0 i = (s : Int) + 4) → ∀ g, mSt gg (.inl (1, i)) g → mFr h g → Q (some (aI 0)) g)) : fwCt mX12_told (d + 7) [aR 12 0, aR 50 (s + 13), aI lo, aI hi] h Q := by
  refine fwCt_of [some (aR 12 0), some (aR 50 (s + 13)), some (aI lo), some (aI hi)] rfl rfl rfl ?_
  obtain ⟨hz1, hz2⟩ := S.1.1
  obtain ⟨hr1, hr2, hr3, hr4, hr5⟩ := mSt_r S
  obtain ⟨hk1, hk2, hk3, hk4, hk5, hk6, hk7⟩ := tk_kind S.1.1 hr1
  refine w_aload_n dX12_told_0 rfl ?_
  refine w_aload_n dX12_told_1 rfl ?_
  refine w_callV (d := d + 6) (S := []) [aR 50 (s + 13)] dX12_told_2 ml_X12_147 ok_X12_needs vi_X12_needs rfl rfl (by decide) rfl (Nat.le_of_ble_eq_true rfl) ?_
  refine c_r_needs (d := d) s _ _ S (by omega) ⟨?_, ?_⟩
  · intro cw7 g7 S7 F7
    show fwWP mX12_told (d + 7) 5 [some (aR 12 0), some (aR 50 (s + 13)), some (aI lo), some (aI hi)] [] g7 Q
    refine w_aload_n dX12_told_5 rfl ?_
    refine w_iload_n dX12_told_6 rfl ?_
    refine w_iload_n dX12_told_7 rfl ?_
    refine w_callV (d := d + 6) (S := []) [aI lo, aI hi] dX12_told_8 ml_X12_151 ok_X12_number vi_X12_number rfl rfl (by decide) rfl (Nat.le_of_ble_eq_true rfl) ?_
    refine c_r_number (d := (d + 4)) lo hi _ _ S7 (by omega) (by omega) ⟨?_, ?_, ?_⟩
    · intro cn9 cv9 g9 S9 F9
      have hvr9 := (tk_cut S.1.1).2.2.2 (i + 1) (mSt_r S7).1
      show fwWP mX12_told (d + 7) 11 [some (aR 12 0), some (aR 50 (s + 13)), some (aI lo), some (aI hi)] [aI (cutH gg 16 0 (i + 1))] g9 Q
      have G9 := mFr_tr F7 F9
      exact w_iret dX12_told_11 rfl (k.1 (by omega) (by omega) (by omega) _ S9 G9)
    · intro cn9 cv9 g10 S10 F10
      show fwWP mX12_told (d + 7) 11 [some (aR 12 0), some (aR 50 (s + 13)), some (aI lo), some (aI hi)] [aI 0] g10 Q
      have G10 := mFr_tr F7 F10
      exact w_iret dX12_told_11 rfl (k.2.1 (by omega) (by omega) (by omega) _ S10 G10)
    · intro cn9 g11 S11 F11
      show fwWP mX12_told (d + 7) 11 [some (aR 12 0), some (aR 50 (s + 13)), some (aI lo), some (aI hi)] [aI 0] g11 Q
      have G11 := mFr_tr F7 F11
      exact w_iret dX12_told_11 rfl (k.2.2.1 (by omega) (by omega) _ S11 G11)
  · intro cw7 g8 S8 F8
    show fwWP mX12_told (d + 7) 5 [some (aR 12 0), some (aR 50 (s + 13)), some (aI lo), some (aI hi)] [] g8 Q
    refine w_aload_n dX12_told_5 rfl ?_
    refine w_iload_n dX12_told_6 rfl ?_
    refine w_iload_n dX12_told_7 rfl ?_
    refine w_callV (d := d + 6) (S := []) [aI lo, aI hi] dX12_told_8 ml_X12_151 ok_X12_number vi_X12_number rfl rfl (by decide) rfl (Nat.le_of_ble_eq_true rfl) ?_
    refine c_f_number (d := (d + 4)) lo hi _ S8 ?_
    show fwWP mX12_told (d + 7) 11 [some (aR 12 0), some (aR 50 (s + 13)), some (aI lo), some (aI hi)] [aI 0] g8 Q
    exact w_iret dX12_told_11 rfl (k.2.2.2 (by omega) _ S8 F8)
end
section
section QEQ
variable {K V : Nat → Int} {i : Nat} {W : Nat → Int}
theorem qWord_t {x : Int} (h : K i = x) : qWord K x i W = .inr (i + 1, W) := if_pos h
theorem qWord_f {x : Int} (h : ¬ K i = x) : qWord K x i W = .inl (1, i) := if_neg h
theorem qNum_t {lo hi : Int} {f : Int → Nat → (Nat → Int)} (h : K i = 3) (hv : lo ≤ V i ∧ V i ≤ hi) : qNum K V lo hi f i = .inr (i + 1, f (V i) i) := by unfold qNum; rw [if_pos h, if_pos hv]
theorem qNum_2 {lo hi : Int} {f : Int → Nat → (Nat → Int)} (h : K i = 3) (hv : ¬ (lo ≤ V i ∧ V i ≤ hi)) : qNum K V lo hi f i = .inl (2, i) := by unfold qNum; rw [if_pos h, if_neg hv]
theorem qNum_1 {lo hi : Int} {f : Int → Nat → (Nat → Int)} (h : ¬ K i = 3) : qNum K V lo hi f i = .inl (1, i) := by unfold qNum; rw [if_neg h]
theorem qFact_t {x lo hi : Int} {s : Nat} (h : K i = x) (h3 : K (i + 1) = 3) (hv : lo ≤ V (i + 1) ∧ V (i + 1) ≤ hi) : qFact K V x lo hi s i W = .inr (i + 1 + 1, fwFu W s (V (i + 1))) := by
  unfold qFact
  rw [qWord_t h]
  show qNum K V lo hi (fun v _ => fwFu W s v) (i + 1) = _
  exact qNum_t h3 hv
theorem qFact_2 {x lo hi : Int} {s : Nat} (h : K i = x) (h3 : K (i + 1) = 3) (hv : ¬ (lo ≤ V (i + 1) ∧ V (i + 1) ≤ hi)) : qFact K V x lo hi s i W = .inl (2, i + 1) := by
  unfold qFact
  rw [qWord_t h]
  show qNum K V lo hi (fun v _ => fwFu W s v) (i + 1) = _
  exact qNum_2 h3 hv
theorem qFact_1 {x lo hi : Int} {s : Nat} (h : K i = x) (h3 : ¬ K (i + 1) = 3) : qFact K V x lo hi s i W = .inl (1, i + 1) := by
  unfold qFact
  rw [qWord_t h]
  show qNum K V lo hi (fun v _ => fwFu W s v) (i + 1) = _
  exact qNum_1 h3
theorem qFact_0 {x lo hi : Int} {s : Nat} (h : ¬ K i = x) : qFact K V x lo hi s i W = .inl (1, i) := by
  unfold qFact
  rw [qWord_f h]
  rfl
theorem qHts_s {c : Nat} (hc : c < 10) (h0 : W 0 = (c : Int)) (h3 : K i = 3) (hv : 0 ≤ V i ∧ V i ≤ 40) : qHts K V (11 - c) i W = qHts K V (11 - (c + 1)) (i + 1) (fwFu (fwFu W (9 + c) (V i)) 0 ((c : Int) + 1)) := by
  obtain ⟨n, hn⟩ : ∃ n, 11 - c = n + 1 := ⟨10 - c, by omega⟩
  rw [hn, qHts, if_pos h3, if_pos hv, if_neg (by omega), show 11 - (c + 1) = n by omega, show 10 - n = c by omega]
theorem qHts_3 {c : Nat} (hc : c = 10) (h3 : K i = 3) (hv : 0 ≤ V i ∧ V i ≤ 40) : qHts K V (11 - c) i W = .inl (3, i) := by
  subst hc
  rw [show 11 - 10 = 0 + 1 from rfl, qHts, if_pos h3, if_pos hv, if_pos rfl]
theorem qHts_2 {c : Nat} (hc : c ≤ 10) (h3 : K i = 3) (hv : ¬ (0 ≤ V i ∧ V i ≤ 40)) : qHts K V (11 - c) i W = .inl (2, i) := by
  obtain ⟨n, hn⟩ : ∃ n, 11 - c = n + 1 := ⟨10 - c, by omega⟩
  rw [hn, qHts, if_pos h3, if_neg hv]
theorem qHts_1 {c : Nat} (hc : c ≤ 10) (h3 : ¬ K i = 3) (hv : ¬ 3 ≤ W 0) : qHts K V (11 - c) i W = .inl (1, i) := by
  obtain ⟨n, hn⟩ : ∃ n, 11 - c = n + 1 := ⟨10 - c, by omega⟩
  rw [hn, qHts, if_neg h3, if_neg hv]
theorem qHts_t {c : Nat} (hc : c ≤ 10) (h3 : ¬ K i = 3) (hv : 3 ≤ W 0) : qHts K V (11 - c) i W = .inr (i, W) := by
  obtain ⟨n, hn⟩ : ∃ n, 11 - c = n + 1 := ⟨10 - c, by omega⟩
  rw [hn, qHts, if_neg h3, if_pos hv]
end QEQ
theorem fwFu_id {g : Nat → Int} {j : Nat} {x : Int} (h : g j = x) : fwFu g j x = g := by
  funext z
  unfold fwFu
  split
  · rename_i e
    rw [e, h]
  · rfl
theorem mSt_eq {gg h : fwH} {q q' : fwPq} (S : mSt gg q h) (e : q' = q) : mSt gg q' h := e ▸ S
set_option maxRecDepth 100000 in
set_option maxHeartbeats 4000000 in
theorem c_r_readFirst {d : Nat} {h gg : fwH} {Q : Option fwV → fwH → Prop}  (i : Nat) (S : mSt gg (.inr (i, fun _ => 0)) h) (k : ∀ g, mSt gg (qFirst (cutH gg 14 0) (cutH gg 16 0) i (fun _ => 0)) g → mFr h g → Q none g) : fwCt mX12_readFirst (d + 8) [aR 12 0] h Q := by
  refine fwCt_of [some (aR 12 0), none] rfl rfl rfl ?_
  obtain ⟨hz1, hz2⟩ := S.1.1
  obtain ⟨hr1, hr2, hr3, hr4, hr5⟩ := mSt_r S
  obtain ⟨hk1, hk2, hk3, hk4, hk5, hk6, hk7⟩ := tk_kind S.1.1 hr1
  refine w_aload_n dX12_readFirst_0 rfl ?_
  refine w_ldcS (n := 13) dX12_readFirst_1 rfl ?_
  refine w_callV (d := d + 7) (S := []) [aR 50 13] dX12_readFirst_3 ml_X12_147 ok_X12_needs vi_X12_needs rfl rfl (by decide) rfl (Nat.le_of_ble_eq_true rfl) ?_
  refine c_r_needs (d := (d + 1)) 0 _ _ S (by omega) ⟨?_, ?_⟩
  · intro cw12 g12 S12 F12
    show fwWP mX12_readFirst (d + 8) 6 [some (aR 12 0), none] [] g12 Q
    have q14 : qWord (cutH gg 14 0) 4 i (fun _ => (0 : Int)) = .inr (i + 1, (fun _ => (0 : Int))) := qWord_t (by omega)
    have lp6 : ∀ c : Nat, c ≤ 10 → ∀ (Wc : Nat → Int) (gc : fwH), mSt gg (.inr (i + 1 + c, Wc)) gc → mFr h gc → Wc 0 = (c : Int) → qHts (cutH gg 14 0) (cutH gg 16 0) 11 (i + 1) (fun _ => 0) = qHts (cutH gg 14 0) (cutH gg 16 0) (11 - c) (i + 1 + c) Wc → fwWP mX12_readFirst (d + 8) 6 [some (aR 12 0), none] [] gc Q := by
      refine fw_up (fun c hc6 ih6 => ?_)
      intro Wc gc Sc Fc hw0 he6
      have hkc := tk_kind S.1.1 (mSt_r Sc).1
      obtain ⟨hc1, hc2, hc3, hc4, hc5, hc6b, hc7⟩ := hkc
      refine w_aload_n dX12_readFirst_6 rfl ?_
      refine w_callV (d := d + 7) (S := []) [] dX12_readFirst_7 ml_X12_121 ok_X12_good vi_X12_good rfl rfl (by decide) rfl (Nat.le_of_ble_eq_true rfl) ?_
      refine c_r_good (d := (d + 7)) _ _ Sc ?_
      show fwWP mX12_readFirst (d + 8) 10 [some (aR 12 0), none] [aI 1] gc Q
      refine w_if_eq 114 dX12_readFirst_10 (by decide) (by omega) (fun c10 => ?_) (fun c10 => ?_)
      · (exfalso; omega)
      · refine w_aload_n dX12_readFirst_13 rfl ?_
        refine w_getiE (v := mdT (mBy gg) (tokP (mBy gg) (i + 1 + c))) dX12_readFirst_14 fl_X12_97 rfl (by decide) (mSt_r Sc).2.1.2.2.2.1 ?_
        refine w_iconst dX12_readFirst_17 ?_
        refine w_icmp_eq 31 dX12_readFirst_18 (by decide) (by omega) (by omega) (fun c18 => ?_) (fun c18 => ?_)
        · refine w_aload_n dX12_readFirst_31 rfl ?_
          refine w_getiE (v := mdT (mBy gg) (tokP (mBy gg) (i + 1 + c))) dX12_readFirst_32 fl_X12_97 rfl (by decide) (mSt_r Sc).2.1.2.2.2.1 ?_
          refine w_iconst dX12_readFirst_35 ?_
          refine w_icmp_ne 70 dX12_readFirst_36 (by decide) (by omega) (by omega) (fun c36 => ?_) (fun c36 => ?_)
          · (exfalso; omega)
          · have hvc := (tk_cut S.1.1).2.2.2 (i + 1 + c) (mSt_r Sc).1
            refine w_aload_n dX12_readFirst_39 rfl ?_
            refine w_getiE (v := min 99999 (cutH gg 16 0 (i + 1 + c))) dX12_readFirst_40 fl_X12_108 rfl (by decide) (by rw [hc4 (by omega)]; exact (mSt_r Sc).2.1.2.2.2.2 (by omega)) ?_
            refine w_i2l dX12_readFirst_43 (by omega) ?_
            refine w_lconst (z := 0) dX12_readFirst_44 rfl ?_
            refine w_ldc2 (n := 40) dX12_readFirst_45 cs_X12_156 ?_
            refine w_callS (d := d + 7) (S := []) [aJ (min 99999 (cutH gg 16 0 (i + 1 + c))), aJ 0, aJ 40] dX12_readFirst_48 ml_X12_65 ok_X12_in st_X12_in rfl (Nat.le_of_ble_eq_true rfl) ?_
            refine c_X12_in (d := (d + 7)) (min 99999 (cutH gg 16 0 (i + 1 + c))) 0 40 (by omega) (by omega) (by omega) ?_
            show fwWP mX12_readFirst (d + 8) 51 [some (aR 12 0), none] [aI (fwB (0 ≤ (min 99999 (cutH gg 16 0 (i + 1 + c))) ∧ (min 99999 (cutH gg 16 0 (i + 1 + c))) ≤ 40))] gc Q
            refine w_ifB_eq 70 dX12_readFirst_51 (by decide) (fun c51 => ?_) (fun c51 => ?_)
            · refine w_aload_n dX12_readFirst_70 rfl ?_
              refine w_iconst dX12_readFirst_71 ?_
              refine w_bipush dX12_readFirst_72 rfl ?_
              refine w_callV (d := d + 7) (S := []) [aI 0, aI 40] dX12_readFirst_74 ml_X12_151 ok_X12_number vi_X12_number rfl rfl (by decide) rfl (Nat.le_of_ble_eq_true rfl) ?_
              refine c_r_number (d := (d + 5)) 0 40 _ _ Sc (by omega) (by omega) ⟨?_, ?_, ?_⟩
              · (intros; exfalso; omega)
              · intro cn16 cv16 g17 S17 F17
                show fwWP mX12_readFirst (d + 8) 77 [some (aR 12 0), none] [aI 0] g17 Q
                have G17 := mFr_tr Fc F17
                refine w_istore_n [some (aR 12 0), some (aI 0)] dX12_readFirst_77 rfl (by decide) ?_
                refine w_aload_n dX12_readFirst_78 rfl ?_
                refine w_callV (d := d + 7) (S := []) [] dX12_readFirst_79 ml_X12_121 ok_X12_good vi_X12_good rfl rfl (by decide) rfl (Nat.le_of_ble_eq_true rfl) ?_
                refine c_f_good (d := (d + 7)) _ S17 ?_
                show fwWP mX12_readFirst (d + 8) 82 [some (aR 12 0), some (aI 0)] [aI 0] g17 Q
                refine w_if_ne 86 dX12_readFirst_82 (by decide) (by omega) (fun c82 => ?_) (fun c82 => ?_)
                · (exfalso; omega)
                · have qh : qHts (cutH gg 14 0) (cutH gg 16 0) 11 (i + 1) (fun _ => 0) = .inl (2, i + 1 + c) := (by rw [he6]; exact qHts_2 hc6 (by omega) (by omega))
                  have eF : qFirst (cutH gg 14 0) (cutH gg 16 0) i (fun _ => 0) = .inl ((2 : Int), (i + 1 + c)) := by simp only [qFirst, qThen, q14, qh]
                  exact w_vret dX12_readFirst_85 rfl (k _ (mSt_eq S17 eF) G17)
              · (intros; exfalso; omega)
            · refine w_aload_n dX12_readFirst_54 rfl ?_
              refine w_getr 41 0 dX12_readFirst_55 fl_X12_31 rfl (by decide) ?_
              refine w_iconst dX12_readFirst_58 ?_
              refine w_ialdE (v := (c : Int)) dX12_readFirst_59 rfl (by decide) (by omega) (by omega) (by rw [show (0 : Int).toNat = 0 by omega]; exact ((mSt_r Sc).2.2.2.2 0 (by omega)).trans (by first | exact hw0 | (rw [fwFu_ne (by omega)]; exact hw0))) ?_
              refine w_bipush dX12_readFirst_60 rfl ?_
              refine w_icmp_ne 70 dX12_readFirst_62 (by decide) (by omega) (by omega) (fun c62 => ?_) (fun c62 => ?_)
              · refine w_aload_n dX12_readFirst_70 rfl ?_
                refine w_iconst dX12_readFirst_71 ?_
                refine w_bipush dX12_readFirst_72 rfl ?_
                refine w_callV (d := d + 7) (S := []) [aI 0, aI 40] dX12_readFirst_74 ml_X12_151 ok_X12_number vi_X12_number rfl rfl (by decide) rfl (Nat.le_of_ble_eq_true rfl) ?_
                refine c_r_number (d := (d + 5)) 0 40 _ _ Sc (by omega) (by omega) ⟨?_, ?_, ?_⟩
                · intro cn19 cv19 g19 S19 F19
                  have hvr19 := (tk_cut S.1.1).2.2.2 (i + 1 + c) (mSt_r Sc).1
                  show fwWP mX12_readFirst (d + 8) 77 [some (aR 12 0), none] [aI (cutH gg 16 0 (i + 1 + c))] g19 Q
                  have G19 := mFr_tr Fc F19
                  refine w_istore_n [some (aR 12 0), some (aI (cutH gg 16 0 (i + 1 + c)))] dX12_readFirst_77 rfl (by decide) ?_
                  refine w_aload_n dX12_readFirst_78 rfl ?_
                  refine w_callV (d := d + 7) (S := []) [] dX12_readFirst_79 ml_X12_121 ok_X12_good vi_X12_good rfl rfl (by decide) rfl (Nat.le_of_ble_eq_true rfl) ?_
                  refine c_r_good (d := (d + 7)) _ _ S19 ?_
                  show fwWP mX12_readFirst (d + 8) 82 [some (aR 12 0), some (aI (cutH gg 16 0 (i + 1 + c)))] [aI 1] g19 Q
                  refine w_if_ne 86 dX12_readFirst_82 (by decide) (by omega) (fun c82 => ?_) (fun c82 => ?_)
                  · refine w_aload_n dX12_readFirst_86 rfl ?_
                    refine w_getr 41 0 dX12_readFirst_87 fl_X12_31 rfl (by decide) ?_
                    refine w_bipush dX12_readFirst_90 rfl ?_
                    refine w_aload_n dX12_readFirst_92 rfl ?_
                    refine w_getr 41 0 dX12_readFirst_93 fl_X12_31 rfl (by decide) ?_
                    refine w_iconst dX12_readFirst_96 ?_
                    refine w_ialdE (v := (c : Int)) dX12_readFirst_97 rfl (by decide) (by omega) (by omega) (by rw [show (0 : Int).toNat = 0 by omega]; exact ((mSt_r S19).2.2.2.2 0 (by omega)).trans (by first | exact hw0 | (rw [fwFu_ne (by omega)]; exact hw0))) ?_
                    refine w_iadd dX12_readFirst_98 ?_
                    refine w_iload_n dX12_readFirst_99 rfl ?_
                    refine w_iast dX12_readFirst_100 rfl (by decide) (by omega) (by omega) ?_
                    rw [show (9 + (c : Int) : Int).toNat = (9 + c) from by omega]
                    have S22 : mSt gg (.inr (((i + 1 + c) + 1), fwFu Wc (9 + c) (cutH gg 16 0 (i + 1 + c)))) (fwUp g19 41 0 (9 + c) (cutH gg 16 0 (i + 1 + c))) := mSt_put S19 (9 + c) (cutH gg 16 0 (i + 1 + c))
                    have F22 := mFr_41 G19 (9 + c) (cutH gg 16 0 (i + 1 + c))
                    generalize fwUp g19 41 0 (9 + c) (cutH gg 16 0 (i + 1 + c)) = g22 at S22 F22 ⊢
                    refine w_aload_n dX12_readFirst_101 rfl ?_
                    refine w_getr 41 0 dX12_readFirst_102 fl_X12_31 rfl (by decide) ?_
                    refine w_iconst dX12_readFirst_105 ?_
                    refine w_dup2 dX12_readFirst_106 rfl rfl ?_
                    refine w_ialdE (v := (c : Int)) dX12_readFirst_107 rfl (by decide) (by omega) (by omega) (by rw [show (0 : Int).toNat = 0 by omega]; exact ((mSt_r S22).2.2.2.2 0 (by omega)).trans (by first | exact hw0 | (rw [fwFu_ne (by omega)]; exact hw0))) ?_
                    refine w_iconst dX12_readFirst_108 ?_
                    refine w_iadd dX12_readFirst_109 ?_
                    refine w_iast dX12_readFirst_110 rfl (by decide) (by omega) (by omega) ?_
                    rw [show (0 : Int).toNat = 0 from by omega]
                    have S23 : mSt gg (.inr (((i + 1 + c) + 1), fwFu (fwFu Wc (9 + c) (cutH gg 16 0 (i + 1 + c))) 0 ((c : Int) + 1))) (fwUp g22 41 0 0 ((c : Int) + 1)) := mSt_put S22 0 ((c : Int) + 1)
                    have F23 := mFr_41 F22 0 ((c : Int) + 1)
                    generalize fwUp g22 41 0 0 ((c : Int) + 1) = g23 at S23 F23 ⊢
                    refine w_goto 6 dX12_readFirst_111 (by decide) ?_
                    refine w_drop [1] [some (aR 12 0), none] rfl ?_
                    exact ih6 (by omega) _ _ (mSt_eq S23 (by rw [show i + 1 + (c + 1) = i + 1 + c + 1 by omega])) F23 (by rw [fwFu_at]; omega) (by rw [he6]; exact qHts_s (by omega) hw0 (by omega) (by omega))
                  · (exfalso; omega)
                · (intros; exfalso; omega)
                · (intros; exfalso; omega)
              · refine w_aload_n dX12_readFirst_65 rfl ?_
                refine w_iconst dX12_readFirst_66 ?_
                refine w_callV (d := d + 7) (S := []) [aI 3] dX12_readFirst_67 ml_X12_143 ok_X12_errs vi_X12_errs rfl rfl (by decide) rfl (Nat.le_of_ble_eq_true rfl) ?_
                refine c_r_errs (d := (d + 6)) 3 _ _ Sc (by omega) ?_
                intro g24 S24 F24
                show fwWP mX12_readFirst (d + 8) 70 [some (aR 12 0), none] [] g24 Q
                have G24 := mFr_tr Fc F24
                refine w_aload_n dX12_readFirst_70 rfl ?_
                refine w_iconst dX12_readFirst_71 ?_
                refine w_bipush dX12_readFirst_72 rfl ?_
                refine w_callV (d := d + 7) (S := []) [aI 0, aI 40] dX12_readFirst_74 ml_X12_151 ok_X12_number vi_X12_number rfl rfl (by decide) rfl (Nat.le_of_ble_eq_true rfl) ?_
                refine c_f_number (d := (d + 5)) 0 40 _ S24 ?_
                show fwWP mX12_readFirst (d + 8) 77 [some (aR 12 0), none] [aI 0] g24 Q
                refine w_istore_n [some (aR 12 0), some (aI 0)] dX12_readFirst_77 rfl (by decide) ?_
                refine w_aload_n dX12_readFirst_78 rfl ?_
                refine w_callV (d := d + 7) (S := []) [] dX12_readFirst_79 ml_X12_121 ok_X12_good vi_X12_good rfl rfl (by decide) rfl (Nat.le_of_ble_eq_true rfl) ?_
                refine c_f_good (d := (d + 7)) _ S24 ?_
                show fwWP mX12_readFirst (d + 8) 82 [some (aR 12 0), some (aI 0)] [aI 0] g24 Q
                refine w_if_ne 86 dX12_readFirst_82 (by decide) (by omega) (fun c82 => ?_) (fun c82 => ?_)
                · (exfalso; omega)
                · have qh : qHts (cutH gg 14 0) (cutH gg 16 0) 11 (i + 1) (fun _ => 0) = .inl (3, i + 1 + c) := (by rw [he6]; exact qHts_3 (by omega) (by omega) (by omega))
                  have eF : qFirst (cutH gg 14 0) (cutH gg 16 0) i (fun _ => 0) = .inl ((3 : Int), (i + 1 + c)) := by simp only [qFirst, qThen, q14, qh]
                  exact w_vret dX12_readFirst_85 rfl (k _ (mSt_eq S24 eF) G24)
        · refine w_aload_n dX12_readFirst_21 rfl ?_
          refine w_getr 41 0 dX12_readFirst_22 fl_X12_31 rfl (by decide) ?_
          refine w_iconst dX12_readFirst_25 ?_
          refine w_ialdE (v := (c : Int)) dX12_readFirst_26 rfl (by decide) (by omega) (by omega) (by rw [show (0 : Int).toNat = 0 by omega]; exact ((mSt_r Sc).2.2.2.2 0 (by omega)).trans (by first | exact hw0 | (rw [fwFu_ne (by omega)]; exact hw0))) ?_
          refine w_iconst dX12_readFirst_27 ?_
          refine w_icmp_ge 114 dX12_readFirst_28 (by decide) (by omega) (by omega) (fun c28 => ?_) (fun c28 => ?_)
          · have q25 : qHts (cutH gg 14 0) (cutH gg 16 0) 11 (i + 1) (fun _ => 0) = .inr (i + 1 + c, Wc) := (by rw [he6]; exact qHts_t hc6 (by omega) (by omega))
            refine w_aload_n dX12_readFirst_114 rfl ?_
            refine w_getr 41 0 dX12_readFirst_115 fl_X12_31 rfl (by decide) ?_
            refine w_iconst dX12_readFirst_118 ?_
            refine w_aload_n dX12_readFirst_119 rfl ?_
            refine w_ldcS (n := 14) dX12_readFirst_120 rfl ?_
            refine w_iconst dX12_readFirst_122 ?_
            refine w_bipush dX12_readFirst_123 rfl ?_
            refine w_callV (d := d + 7) (S := [aI 1, aR 41 0]) [aR 50 14, aI 0, aI 40] dX12_readFirst_125 ml_X12_160 ok_X12_told vi_X12_told rfl rfl (by decide) rfl (Nat.le_of_ble_eq_true rfl) ?_
            refine c_r_told (d := d) 1 0 40 _ _ Sc (by omega) (by omega) (by omega) ⟨?_, ?_, ?_, ?_⟩
            · intro cw26 cn26 cv26 g26 S26 F26
              have hvr26 := (tk_cut S.1.1).2.2.2 ((i + 1 + c) + 1) (by have := (mSt_r S26).1; omega)
              show fwWP mX12_readFirst (d + 8) 128 [some (aR 12 0), none] [aI (cutH gg 16 0 ((i + 1 + c) + 1)), aI 1, aR 41 0] g26 Q
              have G26 := mFr_tr Fc F26
              have q30 : qFact (cutH gg 14 0) (cutH gg 16 0) 5 0 40 1 (i + 1 + c) Wc = .inr (((i + 1 + c) + 1) + 1, fwFu Wc 1 (cutH gg 16 0 ((i + 1 + c) + 1))) := qFact_t (by omega) cn26 cv26
              refine w_iast dX12_readFirst_128 rfl (by decide) (by omega) (by omega) ?_
              rw [show (1 : Int).toNat = 1 from by omega]
              have S34 : mSt gg (.inr ((((i + 1 + c) + 1) + 1), fwFu Wc 1 (cutH gg 16 0 ((i + 1 + c) + 1)))) (fwUp g26 41 0 1 (cutH gg 16 0 ((i + 1 + c) + 1))) := mSt_put S26 1 (cutH gg 16 0 ((i + 1 + c) + 1))
              have F34 := mFr_41 G26 1 (cutH gg 16 0 ((i + 1 + c) + 1))
              generalize fwUp g26 41 0 1 (cutH gg 16 0 ((i + 1 + c) + 1)) = g34 at S34 F34 ⊢
              refine w_aload_n dX12_readFirst_129 rfl ?_
              refine w_getr 41 0 dX12_readFirst_130 fl_X12_31 rfl (by decide) ?_
              refine w_iconst dX12_readFirst_133 ?_
              refine w_aload_n dX12_readFirst_134 rfl ?_
              refine w_ldcS (n := 15) dX12_readFirst_135 rfl ?_
              refine w_iconst dX12_readFirst_137 ?_
              refine w_bipush dX12_readFirst_138 rfl ?_
              refine w_callV (d := d + 7) (S := [aI 2, aR 41 0]) [aR 50 15, aI 1, aI 40] dX12_readFirst_140 ml_X12_160 ok_X12_told vi_X12_told rfl rfl (by decide) rfl (Nat.le_of_ble_eq_true rfl) ?_
              refine c_r_told (d := d) 2 1 40 _ _ S34 (by omega) (by omega) (by omega) ⟨?_, ?_, ?_, ?_⟩
              · intro cw35 cn35 cv35 g35 S35 F35
                have hvr35 := (tk_cut S.1.1).2.2.2 ((((i + 1 + c) + 1) + 1) + 1) (by have := (mSt_r S35).1; omega)
                show fwWP mX12_readFirst (d + 8) 143 [some (aR 12 0), none] [aI (cutH gg 16 0 ((((i + 1 + c) + 1) + 1) + 1)), aI 2, aR 41 0] g35 Q
                have G35 := mFr_tr F34 F35
                have q39 : qFact (cutH gg 14 0) (cutH gg 16 0) 6 1 40 2 (((i + 1 + c) + 1) + 1) (fwFu Wc 1 (cutH gg 16 0 ((i + 1 + c) + 1))) = .inr (((((i + 1 + c) + 1) + 1) + 1) + 1, fwFu (fwFu Wc 1 (cutH gg 16 0 ((i + 1 + c) + 1))) 2 (cutH gg 16 0 ((((i + 1 + c) + 1) + 1) + 1))) := qFact_t (by omega) cn35 cv35
                refine w_iast dX12_readFirst_143 rfl (by decide) (by omega) (by omega) ?_
                rw [show (2 : Int).toNat = 2 from by omega]
                have S43 : mSt gg (.inr ((((((i + 1 + c) + 1) + 1) + 1) + 1), fwFu (fwFu Wc 1 (cutH gg 16 0 ((i + 1 + c) + 1))) 2 (cutH gg 16 0 ((((i + 1 + c) + 1) + 1) + 1)))) (fwUp g35 41 0 2 (cutH gg 16 0 ((((i + 1 + c) + 1) + 1) + 1))) := mSt_put S35 2 (cutH gg 16 0 ((((i + 1 + c) + 1) + 1) + 1))
                have F43 := mFr_41 G35 2 (cutH gg 16 0 ((((i + 1 + c) + 1) + 1) + 1))
                generalize fwUp g35 41 0 2 (cutH gg 16 0 ((((i + 1 + c) + 1) + 1) + 1)) = g43 at S43 F43 ⊢
                refine w_aload_n dX12_readFirst_144 rfl ?_
                refine w_getr 41 0 dX12_readFirst_145 fl_X12_31 rfl (by decide) ?_
                refine w_iconst dX12_readFirst_148 ?_
                refine w_aload_n dX12_readFirst_149 rfl ?_
                refine w_ldcS (n := 16) dX12_readFirst_150 rfl ?_
                refine w_iconst dX12_readFirst_152 ?_
                refine w_sipush dX12_readFirst_153 rfl ?_
                refine w_callV (d := d + 7) (S := [aI 3, aR 41 0]) [aR 50 16, aI 1, aI 999] dX12_readFirst_156 ml_X12_160 ok_X12_told vi_X12_told rfl rfl (by decide) rfl (Nat.le_of_ble_eq_true rfl) ?_
                refine c_r_told (d := d) 3 1 999 _ _ S43 (by omega) (by omega) (by omega) ⟨?_, ?_, ?_, ?_⟩
                · intro cw44 cn44 cv44 g44 S44 F44
                  have hvr44 := (tk_cut S.1.1).2.2.2 ((((((i + 1 + c) + 1) + 1) + 1) + 1) + 1) (by have := (mSt_r S44).1; omega)
                  show fwWP mX12_readFirst (d + 8) 159 [some (aR 12 0), none] [aI (cutH gg 16 0 ((((((i + 1 + c) + 1) + 1) + 1) + 1) + 1)), aI 3, aR 41 0] g44 Q
                  have G44 := mFr_tr F43 F44
                  have q48 : qFact (cutH gg 14 0) (cutH gg 16 0) 7 1 999 3 (((((i + 1 + c) + 1) + 1) + 1) + 1) (fwFu (fwFu Wc 1 (cutH gg 16 0 ((i + 1 + c) + 1))) 2 (cutH gg 16 0 ((((i + 1 + c) + 1) + 1) + 1))) = .inr (((((((i + 1 + c) + 1) + 1) + 1) + 1) + 1) + 1, fwFu (fwFu (fwFu Wc 1 (cutH gg 16 0 ((i + 1 + c) + 1))) 2 (cutH gg 16 0 ((((i + 1 + c) + 1) + 1) + 1))) 3 (cutH gg 16 0 ((((((i + 1 + c) + 1) + 1) + 1) + 1) + 1))) := qFact_t (by omega) cn44 cv44
                  refine w_iast dX12_readFirst_159 rfl (by decide) (by omega) (by omega) ?_
                  rw [show (3 : Int).toNat = 3 from by omega]
                  have S52 : mSt gg (.inr ((((((((i + 1 + c) + 1) + 1) + 1) + 1) + 1) + 1), fwFu (fwFu (fwFu Wc 1 (cutH gg 16 0 ((i + 1 + c) + 1))) 2 (cutH gg 16 0 ((((i + 1 + c) + 1) + 1) + 1))) 3 (cutH gg 16 0 ((((((i + 1 + c) + 1) + 1) + 1) + 1) + 1)))) (fwUp g44 41 0 3 (cutH gg 16 0 ((((((i + 1 + c) + 1) + 1) + 1) + 1) + 1))) := mSt_put S44 3 (cutH gg 16 0 ((((((i + 1 + c) + 1) + 1) + 1) + 1) + 1))
                  have F52 := mFr_41 G44 3 (cutH gg 16 0 ((((((i + 1 + c) + 1) + 1) + 1) + 1) + 1))
                  generalize fwUp g44 41 0 3 (cutH gg 16 0 ((((((i + 1 + c) + 1) + 1) + 1) + 1) + 1)) = g52 at S52 F52 ⊢
                  refine w_aload_n dX12_readFirst_160 rfl ?_
                  refine w_getr 41 0 dX12_readFirst_161 fl_X12_31 rfl (by decide) ?_
                  refine w_iconst dX12_readFirst_164 ?_
                  refine w_aload_n dX12_readFirst_165 rfl ?_
                  refine w_ldcS (n := 25) dX12_readFirst_166 rfl ?_
                  refine w_callV (d := d + 7) (S := [aI 4, aR 41 0]) [aR 50 25] dX12_readFirst_168 ml_X12_140 ok_X12_takes vi_X12_takes rfl rfl (by decide) rfl (Nat.le_of_ble_eq_true rfl) ?_
                  refine c_r_takes (d := (d + 2)) 12 _ _ S52 (by omega) ⟨?_, ?_⟩
                  · intro cw53 g53 S53 F53
                    show fwWP mX12_readFirst (d + 8) 171 [some (aR 12 0), none] [aI 1, aI 4, aR 41 0] g53 Q
                    have G53 := mFr_tr F52 F53
                    have q54 : qSide (cutH gg 14 0) (((((((i + 1 + c) + 1) + 1) + 1) + 1) + 1) + 1) (fwFu (fwFu (fwFu Wc 1 (cutH gg 16 0 ((i + 1 + c) + 1))) 2 (cutH gg 16 0 ((((i + 1 + c) + 1) + 1) + 1))) 3 (cutH gg 16 0 ((((((i + 1 + c) + 1) + 1) + 1) + 1) + 1))) = .inr ((((((((i + 1 + c) + 1) + 1) + 1) + 1) + 1) + 1) + 1, fwFu (fwFu (fwFu (fwFu Wc 1 (cutH gg 16 0 ((i + 1 + c) + 1))) 2 (cutH gg 16 0 ((((i + 1 + c) + 1) + 1) + 1))) 3 (cutH gg 16 0 ((((((i + 1 + c) + 1) + 1) + 1) + 1) + 1))) 4 1) := (by unfold qSide; rw [if_pos (by omega)])
                    refine w_if_eq 178 dX12_readFirst_171 (by decide) (by omega) (fun c171 => ?_) (fun c171 => ?_)
                    · (exfalso; omega)
                    · refine w_iconst dX12_readFirst_174 ?_
                      refine w_goto 179 dX12_readFirst_175 (by decide) ?_
                      refine w_iast dX12_readFirst_179 rfl (by decide) (by omega) (by omega) ?_
                      rw [show (4 : Int).toNat = 4 from by omega]
                      have S55 : mSt gg (.inr (((((((((i + 1 + c) + 1) + 1) + 1) + 1) + 1) + 1) + 1), fwFu (fwFu (fwFu (fwFu Wc 1 (cutH gg 16 0 ((i + 1 + c) + 1))) 2 (cutH gg 16 0 ((((i + 1 + c) + 1) + 1) + 1))) 3 (cutH gg 16 0 ((((((i + 1 + c) + 1) + 1) + 1) + 1) + 1))) 4 1)) (fwUp g53 41 0 4 1) := mSt_put S53 4 1
                      have F55 := mFr_41 G53 4 1
                      generalize fwUp g53 41 0 4 1 = g55 at S55 F55 ⊢
                      refine w_aload_n dX12_readFirst_180 rfl ?_
                      refine w_getr 41 0 dX12_readFirst_181 fl_X12_31 rfl (by decide) ?_
                      refine w_iconst dX12_readFirst_184 ?_
                      refine w_ialdE (v := 1) dX12_readFirst_185 rfl (by decide) (by omega) (by omega) (by rw [show (4 : Int).toNat = 4 by omega]; exact ((mSt_r S55).2.2.2.2 4 (by omega)).trans (fwFu_at _ _ _)) ?_
                      refine w_if_ne 195 dX12_readFirst_186 (by decide) (by omega) (fun c186 => ?_) (fun c186 => ?_)
                      · have eF : qFirst (cutH gg 14 0) (cutH gg 16 0) i (fun _ => 0) = .inr (((((((((i + 1 + c) + 1) + 1) + 1) + 1) + 1) + 1) + 1), (fwFu (fwFu (fwFu (fwFu Wc 1 (cutH gg 16 0 ((i + 1 + c) + 1))) 2 (cutH gg 16 0 ((((i + 1 + c) + 1) + 1) + 1))) 3 (cutH gg 16 0 ((((((i + 1 + c) + 1) + 1) + 1) + 1) + 1))) 4 1)) := by simp only [qFirst, qThen, q14, q25, q30, q39, q48, q54]
                        exact w_vret dX12_readFirst_195 rfl (k _ (mSt_eq S55 eF) F55)
                      · (exfalso; omega)
                  · intro cw53
                    show fwWP mX12_readFirst (d + 8) 171 [some (aR 12 0), none] [aI 0, aI 4, aR 41 0] g52 Q
                    refine w_if_eq 178 dX12_readFirst_171 (by decide) (by omega) (fun c171 => ?_) (fun c171 => ?_)
                    · refine w_iconst dX12_readFirst_178 ?_
                      refine w_iast dX12_readFirst_179 rfl (by decide) (by omega) (by omega) ?_
                      rw [show (4 : Int).toNat = 4 from by omega]
                      have S56 : mSt gg (.inr ((((((((i + 1 + c) + 1) + 1) + 1) + 1) + 1) + 1), fwFu (fwFu (fwFu (fwFu Wc 1 (cutH gg 16 0 ((i + 1 + c) + 1))) 2 (cutH gg 16 0 ((((i + 1 + c) + 1) + 1) + 1))) 3 (cutH gg 16 0 ((((((i + 1 + c) + 1) + 1) + 1) + 1) + 1))) 4 0)) (fwUp g52 41 0 4 0) := mSt_put S52 4 0
                      have F56 := mFr_41 F52 4 0
                      generalize fwUp g52 41 0 4 0 = g56 at S56 F56 ⊢
                      refine w_aload_n dX12_readFirst_180 rfl ?_
                      refine w_getr 41 0 dX12_readFirst_181 fl_X12_31 rfl (by decide) ?_
                      refine w_iconst dX12_readFirst_184 ?_
                      refine w_ialdE (v := 0) dX12_readFirst_185 rfl (by decide) (by omega) (by omega) (by rw [show (4 : Int).toNat = 4 by omega]; exact ((mSt_r S56).2.2.2.2 4 (by omega)).trans (fwFu_at _ _ _)) ?_
                      refine w_if_ne 195 dX12_readFirst_186 (by decide) (by omega) (fun c186 => ?_) (fun c186 => ?_)
                      · (exfalso; omega)
                      · refine w_aload_n dX12_readFirst_189 rfl ?_
                        refine w_ldcS (n := 24) dX12_readFirst_190 rfl ?_
                        refine w_callV (d := d + 7) (S := []) [aR 50 24] dX12_readFirst_192 ml_X12_147 ok_X12_needs vi_X12_needs rfl rfl (by decide) rfl (Nat.le_of_ble_eq_true rfl) ?_
                        refine c_r_needs (d := (d + 1)) 11 _ _ S56 (by omega) ⟨?_, ?_⟩
                        · intro cw57 g57 S57 F57
                          show fwWP mX12_readFirst (d + 8) 195 [some (aR 12 0), none] [] g57 Q
                          have G57 := mFr_tr F56 F57
                          have q59 : qSide (cutH gg 14 0) (((((((i + 1 + c) + 1) + 1) + 1) + 1) + 1) + 1) (fwFu (fwFu (fwFu Wc 1 (cutH gg 16 0 ((i + 1 + c) + 1))) 2 (cutH gg 16 0 ((((i + 1 + c) + 1) + 1) + 1))) 3 (cutH gg 16 0 ((((((i + 1 + c) + 1) + 1) + 1) + 1) + 1))) = .inr ((((((((i + 1 + c) + 1) + 1) + 1) + 1) + 1) + 1) + 1, (fwFu (fwFu (fwFu (fwFu Wc 1 (cutH gg 16 0 ((i + 1 + c) + 1))) 2 (cutH gg 16 0 ((((i + 1 + c) + 1) + 1) + 1))) 3 (cutH gg 16 0 ((((((i + 1 + c) + 1) + 1) + 1) + 1) + 1))) 4 0)) := (by unfold qSide; rw [if_neg (by omega), if_pos (by omega)])
                          have eF : qFirst (cutH gg 14 0) (cutH gg 16 0) i (fun _ => 0) = .inr (((((((((i + 1 + c) + 1) + 1) + 1) + 1) + 1) + 1) + 1), (fwFu (fwFu (fwFu (fwFu Wc 1 (cutH gg 16 0 ((i + 1 + c) + 1))) 2 (cutH gg 16 0 ((((i + 1 + c) + 1) + 1) + 1))) 3 (cutH gg 16 0 ((((((i + 1 + c) + 1) + 1) + 1) + 1) + 1))) 4 0)) := by simp only [qFirst, qThen, q14, q25, q30, q39, q48, q59]
                          exact w_vret dX12_readFirst_195 rfl (k _ (mSt_eq S57 eF) G57)
                        · intro cw57 g58 S58 F58
                          show fwWP mX12_readFirst (d + 8) 195 [some (aR 12 0), none] [] g58 Q
                          have G58 := mFr_tr F56 F58
                          have q60 : qSide (cutH gg 14 0) (((((((i + 1 + c) + 1) + 1) + 1) + 1) + 1) + 1) (fwFu (fwFu (fwFu Wc 1 (cutH gg 16 0 ((i + 1 + c) + 1))) 2 (cutH gg 16 0 ((((i + 1 + c) + 1) + 1) + 1))) 3 (cutH gg 16 0 ((((((i + 1 + c) + 1) + 1) + 1) + 1) + 1))) = .inl (1, (((((((i + 1 + c) + 1) + 1) + 1) + 1) + 1) + 1)) := (by unfold qSide; rw [if_neg (by omega), if_neg (by omega)])
                          have eF : qFirst (cutH gg 14 0) (cutH gg 16 0) i (fun _ => 0) = .inl ((1 : Int), (((((((i + 1 + c) + 1) + 1) + 1) + 1) + 1) + 1)) := by simp only [qFirst, qThen, q14, q25, q30, q39, q48, q60]
                          exact w_vret dX12_readFirst_195 rfl (k _ (mSt_eq S58 eF) G58)
                    · (exfalso; omega)
                · intro cw44 cn44 cv44 g45 S45 F45
                  show fwWP mX12_readFirst (d + 8) 159 [some (aR 12 0), none] [aI 0, aI 3, aR 41 0] g45 Q
                  have G45 := mFr_tr F43 F45
                  have q49 : qFact (cutH gg 14 0) (cutH gg 16 0) 7 1 999 3 (((((i + 1 + c) + 1) + 1) + 1) + 1) (fwFu (fwFu Wc 1 (cutH gg 16 0 ((i + 1 + c) + 1))) 2 (cutH gg 16 0 ((((i + 1 + c) + 1) + 1) + 1))) = .inl (2, ((((((i + 1 + c) + 1) + 1) + 1) + 1) + 1)) := qFact_2 (by omega) cn44 cv44
                  refine w_iast dX12_readFirst_159 rfl (by decide) (by omega) (by omega) ?_
                  rw [show (3 : Int).toNat = 3 from by omega]
                  have S61 : mSt gg (.inl ((2 : Int), ((((((i + 1 + c) + 1) + 1) + 1) + 1) + 1))) (fwUp g45 41 0 3 0) := mSt_put S45 3 0
                  have F61 := mFr_41 G45 3 0
                  generalize fwUp g45 41 0 3 0 = g61 at S61 F61 ⊢
                  refine w_aload_n dX12_readFirst_160 rfl ?_
                  refine w_getr 41 0 dX12_readFirst_161 fl_X12_31 rfl (by decide) ?_
                  refine w_iconst dX12_readFirst_164 ?_
                  refine w_aload_n dX12_readFirst_165 rfl ?_
                  refine w_ldcS (n := 25) dX12_readFirst_166 rfl ?_
                  refine w_callV (d := d + 7) (S := [aI 4, aR 41 0]) [aR 50 25] dX12_readFirst_168 ml_X12_140 ok_X12_takes vi_X12_takes rfl rfl (by decide) rfl (Nat.le_of_ble_eq_true rfl) ?_
                  refine c_f_takes (d := (d + 2)) 25 _ S61 (by omega) ?_
                  show fwWP mX12_readFirst (d + 8) 171 [some (aR 12 0), none] [aI 0, aI 4, aR 41 0] g61 Q
                  refine w_if_eq 178 dX12_readFirst_171 (by decide) (by omega) (fun c171 => ?_) (fun c171 => ?_)
                  · refine w_iconst dX12_readFirst_178 ?_
                    refine w_iast dX12_readFirst_179 rfl (by decide) (by omega) (by omega) ?_
                    rw [show (4 : Int).toNat = 4 from by omega]
                    have S62 : mSt gg (.inl ((2 : Int), ((((((i + 1 + c) + 1) + 1) + 1) + 1) + 1))) (fwUp g61 41 0 4 0) := mSt_put S61 4 0
                    have F62 := mFr_41 F61 4 0
                    have e4_62 : (fwUp g61 41 0 4 0) 41 0 4 = 0 := rfl
                    generalize fwUp g61 41 0 4 0 = g62 at S62 F62 e4_62 ⊢
                    refine w_aload_n dX12_readFirst_180 rfl ?_
                    refine w_getr 41 0 dX12_readFirst_181 fl_X12_31 rfl (by decide) ?_
                    refine w_iconst dX12_readFirst_184 ?_
                    refine w_ialdE (v := 0) dX12_readFirst_185 rfl (by decide) (by omega) (by omega) (by rw [show (4 : Int).toNat = 4 by omega]; exact e4_62) ?_
                    refine w_if_ne 195 dX12_readFirst_186 (by decide) (by omega) (fun c186 => ?_) (fun c186 => ?_)
                    · (exfalso; omega)
                    · refine w_aload_n dX12_readFirst_189 rfl ?_
                      refine w_ldcS (n := 24) dX12_readFirst_190 rfl ?_
                      refine w_callV (d := d + 7) (S := []) [aR 50 24] dX12_readFirst_192 ml_X12_147 ok_X12_needs vi_X12_needs rfl rfl (by decide) rfl (Nat.le_of_ble_eq_true rfl) ?_
                      refine c_f_needs (d := (d + 1)) 24 _ S62 (by omega) ?_
                      show fwWP mX12_readFirst (d + 8) 195 [some (aR 12 0), none] [] g62 Q
                      have eF : qFirst (cutH gg 14 0) (cutH gg 16 0) i (fun _ => 0) = .inl ((2 : Int), ((((((i + 1 + c) + 1) + 1) + 1) + 1) + 1)) := by simp only [qFirst, qThen, q14, q25, q30, q39, q49]
                      exact w_vret dX12_readFirst_195 rfl (k _ (mSt_eq S62 eF) F62)
                  · (exfalso; omega)
                · intro cw44 cn44 g46 S46 F46
                  show fwWP mX12_readFirst (d + 8) 159 [some (aR 12 0), none] [aI 0, aI 3, aR 41 0] g46 Q
                  have G46 := mFr_tr F43 F46
                  have q50 : qFact (cutH gg 14 0) (cutH gg 16 0) 7 1 999 3 (((((i + 1 + c) + 1) + 1) + 1) + 1) (fwFu (fwFu Wc 1 (cutH gg 16 0 ((i + 1 + c) + 1))) 2 (cutH gg 16 0 ((((i + 1 + c) + 1) + 1) + 1))) = .inl (1, ((((((i + 1 + c) + 1) + 1) + 1) + 1) + 1)) := qFact_1 (by omega) cn44
                  refine w_iast dX12_readFirst_159 rfl (by decide) (by omega) (by omega) ?_
                  rw [show (3 : Int).toNat = 3 from by omega]
                  have S63 : mSt gg (.inl ((1 : Int), ((((((i + 1 + c) + 1) + 1) + 1) + 1) + 1))) (fwUp g46 41 0 3 0) := mSt_put S46 3 0
                  have F63 := mFr_41 G46 3 0
                  generalize fwUp g46 41 0 3 0 = g63 at S63 F63 ⊢
                  refine w_aload_n dX12_readFirst_160 rfl ?_
                  refine w_getr 41 0 dX12_readFirst_161 fl_X12_31 rfl (by decide) ?_
                  refine w_iconst dX12_readFirst_164 ?_
                  refine w_aload_n dX12_readFirst_165 rfl ?_
                  refine w_ldcS (n := 25) dX12_readFirst_166 rfl ?_
                  refine w_callV (d := d + 7) (S := [aI 4, aR 41 0]) [aR 50 25] dX12_readFirst_168 ml_X12_140 ok_X12_takes vi_X12_takes rfl rfl (by decide) rfl (Nat.le_of_ble_eq_true rfl) ?_
                  refine c_f_takes (d := (d + 2)) 25 _ S63 (by omega) ?_
                  show fwWP mX12_readFirst (d + 8) 171 [some (aR 12 0), none] [aI 0, aI 4, aR 41 0] g63 Q
                  refine w_if_eq 178 dX12_readFirst_171 (by decide) (by omega) (fun c171 => ?_) (fun c171 => ?_)
                  · refine w_iconst dX12_readFirst_178 ?_
                    refine w_iast dX12_readFirst_179 rfl (by decide) (by omega) (by omega) ?_
                    rw [show (4 : Int).toNat = 4 from by omega]
                    have S64 : mSt gg (.inl ((1 : Int), ((((((i + 1 + c) + 1) + 1) + 1) + 1) + 1))) (fwUp g63 41 0 4 0) := mSt_put S63 4 0
                    have F64 := mFr_41 F63 4 0
                    have e4_64 : (fwUp g63 41 0 4 0) 41 0 4 = 0 := rfl
                    generalize fwUp g63 41 0 4 0 = g64 at S64 F64 e4_64 ⊢
                    refine w_aload_n dX12_readFirst_180 rfl ?_
                    refine w_getr 41 0 dX12_readFirst_181 fl_X12_31 rfl (by decide) ?_
                    refine w_iconst dX12_readFirst_184 ?_
                    refine w_ialdE (v := 0) dX12_readFirst_185 rfl (by decide) (by omega) (by omega) (by rw [show (4 : Int).toNat = 4 by omega]; exact e4_64) ?_
                    refine w_if_ne 195 dX12_readFirst_186 (by decide) (by omega) (fun c186 => ?_) (fun c186 => ?_)
                    · (exfalso; omega)
                    · refine w_aload_n dX12_readFirst_189 rfl ?_
                      refine w_ldcS (n := 24) dX12_readFirst_190 rfl ?_
                      refine w_callV (d := d + 7) (S := []) [aR 50 24] dX12_readFirst_192 ml_X12_147 ok_X12_needs vi_X12_needs rfl rfl (by decide) rfl (Nat.le_of_ble_eq_true rfl) ?_
                      refine c_f_needs (d := (d + 1)) 24 _ S64 (by omega) ?_
                      show fwWP mX12_readFirst (d + 8) 195 [some (aR 12 0), none] [] g64 Q
                      have eF : qFirst (cutH gg 14 0) (cutH gg 16 0) i (fun _ => 0) = .inl ((1 : Int), ((((((i + 1 + c) + 1) + 1) + 1) + 1) + 1)) := by simp only [qFirst, qThen, q14, q25, q30, q39, q50]
                      exact w_vret dX12_readFirst_195 rfl (k _ (mSt_eq S64 eF) F64)
                  · (exfalso; omega)
                · intro cw44 g47 S47 F47
                  show fwWP mX12_readFirst (d + 8) 159 [some (aR 12 0), none] [aI 0, aI 3, aR 41 0] g47 Q
                  have G47 := mFr_tr F43 F47
                  have q51 : qFact (cutH gg 14 0) (cutH gg 16 0) 7 1 999 3 (((((i + 1 + c) + 1) + 1) + 1) + 1) (fwFu (fwFu Wc 1 (cutH gg 16 0 ((i + 1 + c) + 1))) 2 (cutH gg 16 0 ((((i + 1 + c) + 1) + 1) + 1))) = .inl (1, (((((i + 1 + c) + 1) + 1) + 1) + 1)) := qFact_0 (by omega)
                  refine w_iast dX12_readFirst_159 rfl (by decide) (by omega) (by omega) ?_
                  rw [show (3 : Int).toNat = 3 from by omega]
                  have S65 : mSt gg (.inl ((1 : Int), (((((i + 1 + c) + 1) + 1) + 1) + 1))) (fwUp g47 41 0 3 0) := mSt_put S47 3 0
                  have F65 := mFr_41 G47 3 0
                  generalize fwUp g47 41 0 3 0 = g65 at S65 F65 ⊢
                  refine w_aload_n dX12_readFirst_160 rfl ?_
                  refine w_getr 41 0 dX12_readFirst_161 fl_X12_31 rfl (by decide) ?_
                  refine w_iconst dX12_readFirst_164 ?_
                  refine w_aload_n dX12_readFirst_165 rfl ?_
                  refine w_ldcS (n := 25) dX12_readFirst_166 rfl ?_
                  refine w_callV (d := d + 7) (S := [aI 4, aR 41 0]) [aR 50 25] dX12_readFirst_168 ml_X12_140 ok_X12_takes vi_X12_takes rfl rfl (by decide) rfl (Nat.le_of_ble_eq_true rfl) ?_
                  refine c_f_takes (d := (d + 2)) 25 _ S65 (by omega) ?_
                  show fwWP mX12_readFirst (d + 8) 171 [some (aR 12 0), none] [aI 0, aI 4, aR 41 0] g65 Q
                  refine w_if_eq 178 dX12_readFirst_171 (by decide) (by omega) (fun c171 => ?_) (fun c171 => ?_)
                  · refine w_iconst dX12_readFirst_178 ?_
                    refine w_iast dX12_readFirst_179 rfl (by decide) (by omega) (by omega) ?_
                    rw [show (4 : Int).toNat = 4 from by omega]
                    have S66 : mSt gg (.inl ((1 : Int), (((((i + 1 + c) + 1) + 1) + 1) + 1))) (fwUp g65 41 0 4 0) := mSt_put S65 4 0
                    have F66 := mFr_41 F65 4 0
                    have e4_66 : (fwUp g65 41 0 4 0) 41 0 4 = 0 := rfl
                    generalize fwUp g65 41 0 4 0 = g66 at S66 F66 e4_66 ⊢
                    refine w_aload_n dX12_readFirst_180 rfl ?_
                    refine w_getr 41 0 dX12_readFirst_181 fl_X12_31 rfl (by decide) ?_
                    refine w_iconst dX12_readFirst_184 ?_
                    refine w_ialdE (v := 0) dX12_readFirst_185 rfl (by decide) (by omega) (by omega) (by rw [show (4 : Int).toNat = 4 by omega]; exact e4_66) ?_
                    refine w_if_ne 195 dX12_readFirst_186 (by decide) (by omega) (fun c186 => ?_) (fun c186 => ?_)
                    · (exfalso; omega)
                    · refine w_aload_n dX12_readFirst_189 rfl ?_
                      refine w_ldcS (n := 24) dX12_readFirst_190 rfl ?_
                      refine w_callV (d := d + 7) (S := []) [aR 50 24] dX12_readFirst_192 ml_X12_147 ok_X12_needs vi_X12_needs rfl rfl (by decide) rfl (Nat.le_of_ble_eq_true rfl) ?_
                      refine c_f_needs (d := (d + 1)) 24 _ S66 (by omega) ?_
                      show fwWP mX12_readFirst (d + 8) 195 [some (aR 12 0), none] [] g66 Q
                      have eF : qFirst (cutH gg 14 0) (cutH gg 16 0) i (fun _ => 0) = .inl ((1 : Int), (((((i + 1 + c) + 1) + 1) + 1) + 1)) := by simp only [qFirst, qThen, q14, q25, q30, q39, q51]
                      exact w_vret dX12_readFirst_195 rfl (k _ (mSt_eq S66 eF) F66)
                  · (exfalso; omega)
              · intro cw35 cn35 cv35 g36 S36 F36
                show fwWP mX12_readFirst (d + 8) 143 [some (aR 12 0), none] [aI 0, aI 2, aR 41 0] g36 Q
                have G36 := mFr_tr F34 F36
                have q40 : qFact (cutH gg 14 0) (cutH gg 16 0) 6 1 40 2 (((i + 1 + c) + 1) + 1) (fwFu Wc 1 (cutH gg 16 0 ((i + 1 + c) + 1))) = .inl (2, ((((i + 1 + c) + 1) + 1) + 1)) := qFact_2 (by omega) cn35 cv35
                refine w_iast dX12_readFirst_143 rfl (by decide) (by omega) (by omega) ?_
                rw [show (2 : Int).toNat = 2 from by omega]
                have S67 : mSt gg (.inl ((2 : Int), ((((i + 1 + c) + 1) + 1) + 1))) (fwUp g36 41 0 2 0) := mSt_put S36 2 0
                have F67 := mFr_41 G36 2 0
                generalize fwUp g36 41 0 2 0 = g67 at S67 F67 ⊢
                refine w_aload_n dX12_readFirst_144 rfl ?_
                refine w_getr 41 0 dX12_readFirst_145 fl_X12_31 rfl (by decide) ?_
                refine w_iconst dX12_readFirst_148 ?_
                refine w_aload_n dX12_readFirst_149 rfl ?_
                refine w_ldcS (n := 16) dX12_readFirst_150 rfl ?_
                refine w_iconst dX12_readFirst_152 ?_
                refine w_sipush dX12_readFirst_153 rfl ?_
                refine w_callV (d := d + 7) (S := [aI 3, aR 41 0]) [aR 50 16, aI 1, aI 999] dX12_readFirst_156 ml_X12_160 ok_X12_told vi_X12_told rfl rfl (by decide) rfl (Nat.le_of_ble_eq_true rfl) ?_
                refine c_f_told (d := d) 16 1 999 _ S67 (by omega) ?_
                show fwWP mX12_readFirst (d + 8) 159 [some (aR 12 0), none] [aI 0, aI 3, aR 41 0] g67 Q
                refine w_iast dX12_readFirst_159 rfl (by decide) (by omega) (by omega) ?_
                rw [show (3 : Int).toNat = 3 from by omega]
                have S68 : mSt gg (.inl ((2 : Int), ((((i + 1 + c) + 1) + 1) + 1))) (fwUp g67 41 0 3 0) := mSt_put S67 3 0
                have F68 := mFr_41 F67 3 0
                generalize fwUp g67 41 0 3 0 = g68 at S68 F68 ⊢
                refine w_aload_n dX12_readFirst_160 rfl ?_
                refine w_getr 41 0 dX12_readFirst_161 fl_X12_31 rfl (by decide) ?_
                refine w_iconst dX12_readFirst_164 ?_
                refine w_aload_n dX12_readFirst_165 rfl ?_
                refine w_ldcS (n := 25) dX12_readFirst_166 rfl ?_
                refine w_callV (d := d + 7) (S := [aI 4, aR 41 0]) [aR 50 25] dX12_readFirst_168 ml_X12_140 ok_X12_takes vi_X12_takes rfl rfl (by decide) rfl (Nat.le_of_ble_eq_true rfl) ?_
                refine c_f_takes (d := (d + 2)) 25 _ S68 (by omega) ?_
                show fwWP mX12_readFirst (d + 8) 171 [some (aR 12 0), none] [aI 0, aI 4, aR 41 0] g68 Q
                refine w_if_eq 178 dX12_readFirst_171 (by decide) (by omega) (fun c171 => ?_) (fun c171 => ?_)
                · refine w_iconst dX12_readFirst_178 ?_
                  refine w_iast dX12_readFirst_179 rfl (by decide) (by omega) (by omega) ?_
                  rw [show (4 : Int).toNat = 4 from by omega]
                  have S69 : mSt gg (.inl ((2 : Int), ((((i + 1 + c) + 1) + 1) + 1))) (fwUp g68 41 0 4 0) := mSt_put S68 4 0
                  have F69 := mFr_41 F68 4 0
                  have e4_69 : (fwUp g68 41 0 4 0) 41 0 4 = 0 := rfl
                  generalize fwUp g68 41 0 4 0 = g69 at S69 F69 e4_69 ⊢
                  refine w_aload_n dX12_readFirst_180 rfl ?_
                  refine w_getr 41 0 dX12_readFirst_181 fl_X12_31 rfl (by decide) ?_
                  refine w_iconst dX12_readFirst_184 ?_
                  refine w_ialdE (v := 0) dX12_readFirst_185 rfl (by decide) (by omega) (by omega) (by rw [show (4 : Int).toNat = 4 by omega]; exact e4_69) ?_
                  refine w_if_ne 195 dX12_readFirst_186 (by decide) (by omega) (fun c186 => ?_) (fun c186 => ?_)
                  · (exfalso; omega)
                  · refine w_aload_n dX12_readFirst_189 rfl ?_
                    refine w_ldcS (n := 24) dX12_readFirst_190 rfl ?_
                    refine w_callV (d := d + 7) (S := []) [aR 50 24] dX12_readFirst_192 ml_X12_147 ok_X12_needs vi_X12_needs rfl rfl (by decide) rfl (Nat.le_of_ble_eq_true rfl) ?_
                    refine c_f_needs (d := (d + 1)) 24 _ S69 (by omega) ?_
                    show fwWP mX12_readFirst (d + 8) 195 [some (aR 12 0), none] [] g69 Q
                    have eF : qFirst (cutH gg 14 0) (cutH gg 16 0) i (fun _ => 0) = .inl ((2 : Int), ((((i + 1 + c) + 1) + 1) + 1)) := by simp only [qFirst, qThen, q14, q25, q30, q40]
                    exact w_vret dX12_readFirst_195 rfl (k _ (mSt_eq S69 eF) F69)
                · (exfalso; omega)
              · intro cw35 cn35 g37 S37 F37
                show fwWP mX12_readFirst (d + 8) 143 [some (aR 12 0), none] [aI 0, aI 2, aR 41 0] g37 Q
                have G37 := mFr_tr F34 F37
                have q41 : qFact (cutH gg 14 0) (cutH gg 16 0) 6 1 40 2 (((i + 1 + c) + 1) + 1) (fwFu Wc 1 (cutH gg 16 0 ((i + 1 + c) + 1))) = .inl (1, ((((i + 1 + c) + 1) + 1) + 1)) := qFact_1 (by omega) cn35
                refine w_iast dX12_readFirst_143 rfl (by decide) (by omega) (by omega) ?_
                rw [show (2 : Int).toNat = 2 from by omega]
                have S70 : mSt gg (.inl ((1 : Int), ((((i + 1 + c) + 1) + 1) + 1))) (fwUp g37 41 0 2 0) := mSt_put S37 2 0
                have F70 := mFr_41 G37 2 0
                generalize fwUp g37 41 0 2 0 = g70 at S70 F70 ⊢
                refine w_aload_n dX12_readFirst_144 rfl ?_
                refine w_getr 41 0 dX12_readFirst_145 fl_X12_31 rfl (by decide) ?_
                refine w_iconst dX12_readFirst_148 ?_
                refine w_aload_n dX12_readFirst_149 rfl ?_
                refine w_ldcS (n := 16) dX12_readFirst_150 rfl ?_
                refine w_iconst dX12_readFirst_152 ?_
                refine w_sipush dX12_readFirst_153 rfl ?_
                refine w_callV (d := d + 7) (S := [aI 3, aR 41 0]) [aR 50 16, aI 1, aI 999] dX12_readFirst_156 ml_X12_160 ok_X12_told vi_X12_told rfl rfl (by decide) rfl (Nat.le_of_ble_eq_true rfl) ?_
                refine c_f_told (d := d) 16 1 999 _ S70 (by omega) ?_
                show fwWP mX12_readFirst (d + 8) 159 [some (aR 12 0), none] [aI 0, aI 3, aR 41 0] g70 Q
                refine w_iast dX12_readFirst_159 rfl (by decide) (by omega) (by omega) ?_
                rw [show (3 : Int).toNat = 3 from by omega]
                have S71 : mSt gg (.inl ((1 : Int), ((((i + 1 + c) + 1) + 1) + 1))) (fwUp g70 41 0 3 0) := mSt_put S70 3 0
                have F71 := mFr_41 F70 3 0
                generalize fwUp g70 41 0 3 0 = g71 at S71 F71 ⊢
                refine w_aload_n dX12_readFirst_160 rfl ?_
                refine w_getr 41 0 dX12_readFirst_161 fl_X12_31 rfl (by decide) ?_
                refine w_iconst dX12_readFirst_164 ?_
                refine w_aload_n dX12_readFirst_165 rfl ?_
                refine w_ldcS (n := 25) dX12_readFirst_166 rfl ?_
                refine w_callV (d := d + 7) (S := [aI 4, aR 41 0]) [aR 50 25] dX12_readFirst_168 ml_X12_140 ok_X12_takes vi_X12_takes rfl rfl (by decide) rfl (Nat.le_of_ble_eq_true rfl) ?_
                refine c_f_takes (d := (d + 2)) 25 _ S71 (by omega) ?_
                show fwWP mX12_readFirst (d + 8) 171 [some (aR 12 0), none] [aI 0, aI 4, aR 41 0] g71 Q
                refine w_if_eq 178 dX12_readFirst_171 (by decide) (by omega) (fun c171 => ?_) (fun c171 => ?_)
                · refine w_iconst dX12_readFirst_178 ?_
                  refine w_iast dX12_readFirst_179 rfl (by decide) (by omega) (by omega) ?_
                  rw [show (4 : Int).toNat = 4 from by omega]
                  have S72 : mSt gg (.inl ((1 : Int), ((((i + 1 + c) + 1) + 1) + 1))) (fwUp g71 41 0 4 0) := mSt_put S71 4 0
                  have F72 := mFr_41 F71 4 0
                  have e4_72 : (fwUp g71 41 0 4 0) 41 0 4 = 0 := rfl
                  generalize fwUp g71 41 0 4 0 = g72 at S72 F72 e4_72 ⊢
                  refine w_aload_n dX12_readFirst_180 rfl ?_
                  refine w_getr 41 0 dX12_readFirst_181 fl_X12_31 rfl (by decide) ?_
                  refine w_iconst dX12_readFirst_184 ?_
                  refine w_ialdE (v := 0) dX12_readFirst_185 rfl (by decide) (by omega) (by omega) (by rw [show (4 : Int).toNat = 4 by omega]; exact e4_72) ?_
                  refine w_if_ne 195 dX12_readFirst_186 (by decide) (by omega) (fun c186 => ?_) (fun c186 => ?_)
                  · (exfalso; omega)
                  · refine w_aload_n dX12_readFirst_189 rfl ?_
                    refine w_ldcS (n := 24) dX12_readFirst_190 rfl ?_
                    refine w_callV (d := d + 7) (S := []) [aR 50 24] dX12_readFirst_192 ml_X12_147 ok_X12_needs vi_X12_needs rfl rfl (by decide) rfl (Nat.le_of_ble_eq_true rfl) ?_
                    refine c_f_needs (d := (d + 1)) 24 _ S72 (by omega) ?_
                    show fwWP mX12_readFirst (d + 8) 195 [some (aR 12 0), none] [] g72 Q
                    have eF : qFirst (cutH gg 14 0) (cutH gg 16 0) i (fun _ => 0) = .inl ((1 : Int), ((((i + 1 + c) + 1) + 1) + 1)) := by simp only [qFirst, qThen, q14, q25, q30, q41]
                    exact w_vret dX12_readFirst_195 rfl (k _ (mSt_eq S72 eF) F72)
                · (exfalso; omega)
              · intro cw35 g38 S38 F38
                show fwWP mX12_readFirst (d + 8) 143 [some (aR 12 0), none] [aI 0, aI 2, aR 41 0] g38 Q
                have G38 := mFr_tr F34 F38
                have q42 : qFact (cutH gg 14 0) (cutH gg 16 0) 6 1 40 2 (((i + 1 + c) + 1) + 1) (fwFu Wc 1 (cutH gg 16 0 ((i + 1 + c) + 1))) = .inl (1, (((i + 1 + c) + 1) + 1)) := qFact_0 (by omega)
                refine w_iast dX12_readFirst_143 rfl (by decide) (by omega) (by omega) ?_
                rw [show (2 : Int).toNat = 2 from by omega]
                have S73 : mSt gg (.inl ((1 : Int), (((i + 1 + c) + 1) + 1))) (fwUp g38 41 0 2 0) := mSt_put S38 2 0
                have F73 := mFr_41 G38 2 0
                generalize fwUp g38 41 0 2 0 = g73 at S73 F73 ⊢
                refine w_aload_n dX12_readFirst_144 rfl ?_
                refine w_getr 41 0 dX12_readFirst_145 fl_X12_31 rfl (by decide) ?_
                refine w_iconst dX12_readFirst_148 ?_
                refine w_aload_n dX12_readFirst_149 rfl ?_
                refine w_ldcS (n := 16) dX12_readFirst_150 rfl ?_
                refine w_iconst dX12_readFirst_152 ?_
                refine w_sipush dX12_readFirst_153 rfl ?_
                refine w_callV (d := d + 7) (S := [aI 3, aR 41 0]) [aR 50 16, aI 1, aI 999] dX12_readFirst_156 ml_X12_160 ok_X12_told vi_X12_told rfl rfl (by decide) rfl (Nat.le_of_ble_eq_true rfl) ?_
                refine c_f_told (d := d) 16 1 999 _ S73 (by omega) ?_
                show fwWP mX12_readFirst (d + 8) 159 [some (aR 12 0), none] [aI 0, aI 3, aR 41 0] g73 Q
                refine w_iast dX12_readFirst_159 rfl (by decide) (by omega) (by omega) ?_
                rw [show (3 : Int).toNat = 3 from by omega]
                have S74 : mSt gg (.inl ((1 : Int), (((i + 1 + c) + 1) + 1))) (fwUp g73 41 0 3 0) := mSt_put S73 3 0
                have F74 := mFr_41 F73 3 0
                generalize fwUp g73 41 0 3 0 = g74 at S74 F74 ⊢
                refine w_aload_n dX12_readFirst_160 rfl ?_
                refine w_getr 41 0 dX12_readFirst_161 fl_X12_31 rfl (by decide) ?_
                refine w_iconst dX12_readFirst_164 ?_
                refine w_aload_n dX12_readFirst_165 rfl ?_
                refine w_ldcS (n := 25) dX12_readFirst_166 rfl ?_
                refine w_callV (d := d + 7) (S := [aI 4, aR 41 0]) [aR 50 25] dX12_readFirst_168 ml_X12_140 ok_X12_takes vi_X12_takes rfl rfl (by decide) rfl (Nat.le_of_ble_eq_true rfl) ?_
                refine c_f_takes (d := (d + 2)) 25 _ S74 (by omega) ?_
                show fwWP mX12_readFirst (d + 8) 171 [some (aR 12 0), none] [aI 0, aI 4, aR 41 0] g74 Q
                refine w_if_eq 178 dX12_readFirst_171 (by decide) (by omega) (fun c171 => ?_) (fun c171 => ?_)
                · refine w_iconst dX12_readFirst_178 ?_
                  refine w_iast dX12_readFirst_179 rfl (by decide) (by omega) (by omega) ?_
                  rw [show (4 : Int).toNat = 4 from by omega]
                  have S75 : mSt gg (.inl ((1 : Int), (((i + 1 + c) + 1) + 1))) (fwUp g74 41 0 4 0) := mSt_put S74 4 0
                  have F75 := mFr_41 F74 4 0
                  have e4_75 : (fwUp g74 41 0 4 0) 41 0 4 = 0 := rfl
                  generalize fwUp g74 41 0 4 0 = g75 at S75 F75 e4_75 ⊢
                  refine w_aload_n dX12_readFirst_180 rfl ?_
                  refine w_getr 41 0 dX12_readFirst_181 fl_X12_31 rfl (by decide) ?_
                  refine w_iconst dX12_readFirst_184 ?_
                  refine w_ialdE (v := 0) dX12_readFirst_185 rfl (by decide) (by omega) (by omega) (by rw [show (4 : Int).toNat = 4 by omega]; exact e4_75) ?_
                  refine w_if_ne 195 dX12_readFirst_186 (by decide) (by omega) (fun c186 => ?_) (fun c186 => ?_)
                  · (exfalso; omega)
                  · refine w_aload_n dX12_readFirst_189 rfl ?_
                    refine w_ldcS (n := 24) dX12_readFirst_190 rfl ?_
                    refine w_callV (d := d + 7) (S := []) [aR 50 24] dX12_readFirst_192 ml_X12_147 ok_X12_needs vi_X12_needs rfl rfl (by decide) rfl (Nat.le_of_ble_eq_true rfl) ?_
                    refine c_f_needs (d := (d + 1)) 24 _ S75 (by omega) ?_
                    show fwWP mX12_readFirst (d + 8) 195 [some (aR 12 0), none] [] g75 Q
                    have eF : qFirst (cutH gg 14 0) (cutH gg 16 0) i (fun _ => 0) = .inl ((1 : Int), (((i + 1 + c) + 1) + 1)) := by simp only [qFirst, qThen, q14, q25, q30, q42]
                    exact w_vret dX12_readFirst_195 rfl (k _ (mSt_eq S75 eF) F75)
                · (exfalso; omega)
            · intro cw26 cn26 cv26 g27 S27 F27
              show fwWP mX12_readFirst (d + 8) 128 [some (aR 12 0), none] [aI 0, aI 1, aR 41 0] g27 Q
              have G27 := mFr_tr Fc F27
              have q31 : qFact (cutH gg 14 0) (cutH gg 16 0) 5 0 40 1 (i + 1 + c) Wc = .inl (2, ((i + 1 + c) + 1)) := qFact_2 (by omega) cn26 cv26
              refine w_iast dX12_readFirst_128 rfl (by decide) (by omega) (by omega) ?_
              rw [show (1 : Int).toNat = 1 from by omega]
              have S76 : mSt gg (.inl ((2 : Int), ((i + 1 + c) + 1))) (fwUp g27 41 0 1 0) := mSt_put S27 1 0
              have F76 := mFr_41 G27 1 0
              generalize fwUp g27 41 0 1 0 = g76 at S76 F76 ⊢
              refine w_aload_n dX12_readFirst_129 rfl ?_
              refine w_getr 41 0 dX12_readFirst_130 fl_X12_31 rfl (by decide) ?_
              refine w_iconst dX12_readFirst_133 ?_
              refine w_aload_n dX12_readFirst_134 rfl ?_
              refine w_ldcS (n := 15) dX12_readFirst_135 rfl ?_
              refine w_iconst dX12_readFirst_137 ?_
              refine w_bipush dX12_readFirst_138 rfl ?_
              refine w_callV (d := d + 7) (S := [aI 2, aR 41 0]) [aR 50 15, aI 1, aI 40] dX12_readFirst_140 ml_X12_160 ok_X12_told vi_X12_told rfl rfl (by decide) rfl (Nat.le_of_ble_eq_true rfl) ?_
              refine c_f_told (d := d) 15 1 40 _ S76 (by omega) ?_
              show fwWP mX12_readFirst (d + 8) 143 [some (aR 12 0), none] [aI 0, aI 2, aR 41 0] g76 Q
              refine w_iast dX12_readFirst_143 rfl (by decide) (by omega) (by omega) ?_
              rw [show (2 : Int).toNat = 2 from by omega]
              have S77 : mSt gg (.inl ((2 : Int), ((i + 1 + c) + 1))) (fwUp g76 41 0 2 0) := mSt_put S76 2 0
              have F77 := mFr_41 F76 2 0
              generalize fwUp g76 41 0 2 0 = g77 at S77 F77 ⊢
              refine w_aload_n dX12_readFirst_144 rfl ?_
              refine w_getr 41 0 dX12_readFirst_145 fl_X12_31 rfl (by decide) ?_
              refine w_iconst dX12_readFirst_148 ?_
              refine w_aload_n dX12_readFirst_149 rfl ?_
              refine w_ldcS (n := 16) dX12_readFirst_150 rfl ?_
              refine w_iconst dX12_readFirst_152 ?_
              refine w_sipush dX12_readFirst_153 rfl ?_
              refine w_callV (d := d + 7) (S := [aI 3, aR 41 0]) [aR 50 16, aI 1, aI 999] dX12_readFirst_156 ml_X12_160 ok_X12_told vi_X12_told rfl rfl (by decide) rfl (Nat.le_of_ble_eq_true rfl) ?_
              refine c_f_told (d := d) 16 1 999 _ S77 (by omega) ?_
              show fwWP mX12_readFirst (d + 8) 159 [some (aR 12 0), none] [aI 0, aI 3, aR 41 0] g77 Q
              refine w_iast dX12_readFirst_159 rfl (by decide) (by omega) (by omega) ?_
              rw [show (3 : Int).toNat = 3 from by omega]
              have S78 : mSt gg (.inl ((2 : Int), ((i + 1 + c) + 1))) (fwUp g77 41 0 3 0) := mSt_put S77 3 0
              have F78 := mFr_41 F77 3 0
              generalize fwUp g77 41 0 3 0 = g78 at S78 F78 ⊢
              refine w_aload_n dX12_readFirst_160 rfl ?_
              refine w_getr 41 0 dX12_readFirst_161 fl_X12_31 rfl (by decide) ?_
              refine w_iconst dX12_readFirst_164 ?_
              refine w_aload_n dX12_readFirst_165 rfl ?_
              refine w_ldcS (n := 25) dX12_readFirst_166 rfl ?_
              refine w_callV (d := d + 7) (S := [aI 4, aR 41 0]) [aR 50 25] dX12_readFirst_168 ml_X12_140 ok_X12_takes vi_X12_takes rfl rfl (by decide) rfl (Nat.le_of_ble_eq_true rfl) ?_
              refine c_f_takes (d := (d + 2)) 25 _ S78 (by omega) ?_
              show fwWP mX12_readFirst (d + 8) 171 [some (aR 12 0), none] [aI 0, aI 4, aR 41 0] g78 Q
              refine w_if_eq 178 dX12_readFirst_171 (by decide) (by omega) (fun c171 => ?_) (fun c171 => ?_)
              · refine w_iconst dX12_readFirst_178 ?_
                refine w_iast dX12_readFirst_179 rfl (by decide) (by omega) (by omega) ?_
                rw [show (4 : Int).toNat = 4 from by omega]
                have S79 : mSt gg (.inl ((2 : Int), ((i + 1 + c) + 1))) (fwUp g78 41 0 4 0) := mSt_put S78 4 0
                have F79 := mFr_41 F78 4 0
                have e4_79 : (fwUp g78 41 0 4 0) 41 0 4 = 0 := rfl
                generalize fwUp g78 41 0 4 0 = g79 at S79 F79 e4_79 ⊢
                refine w_aload_n dX12_readFirst_180 rfl ?_
                refine w_getr 41 0 dX12_readFirst_181 fl_X12_31 rfl (by decide) ?_
                refine w_iconst dX12_readFirst_184 ?_
                refine w_ialdE (v := 0) dX12_readFirst_185 rfl (by decide) (by omega) (by omega) (by rw [show (4 : Int).toNat = 4 by omega]; exact e4_79) ?_
                refine w_if_ne 195 dX12_readFirst_186 (by decide) (by omega) (fun c186 => ?_) (fun c186 => ?_)
                · (exfalso; omega)
                · refine w_aload_n dX12_readFirst_189 rfl ?_
                  refine w_ldcS (n := 24) dX12_readFirst_190 rfl ?_
                  refine w_callV (d := d + 7) (S := []) [aR 50 24] dX12_readFirst_192 ml_X12_147 ok_X12_needs vi_X12_needs rfl rfl (by decide) rfl (Nat.le_of_ble_eq_true rfl) ?_
                  refine c_f_needs (d := (d + 1)) 24 _ S79 (by omega) ?_
                  show fwWP mX12_readFirst (d + 8) 195 [some (aR 12 0), none] [] g79 Q
                  have eF : qFirst (cutH gg 14 0) (cutH gg 16 0) i (fun _ => 0) = .inl ((2 : Int), ((i + 1 + c) + 1)) := by simp only [qFirst, qThen, q14, q25, q31]
                  exact w_vret dX12_readFirst_195 rfl (k _ (mSt_eq S79 eF) F79)
              · (exfalso; omega)
            · intro cw26 cn26 g28 S28 F28
              show fwWP mX12_readFirst (d + 8) 128 [some (aR 12 0), none] [aI 0, aI 1, aR 41 0] g28 Q
              have G28 := mFr_tr Fc F28
              have q32 : qFact (cutH gg 14 0) (cutH gg 16 0) 5 0 40 1 (i + 1 + c) Wc = .inl (1, ((i + 1 + c) + 1)) := qFact_1 (by omega) cn26
              refine w_iast dX12_readFirst_128 rfl (by decide) (by omega) (by omega) ?_
              rw [show (1 : Int).toNat = 1 from by omega]
              have S80 : mSt gg (.inl ((1 : Int), ((i + 1 + c) + 1))) (fwUp g28 41 0 1 0) := mSt_put S28 1 0
              have F80 := mFr_41 G28 1 0
              generalize fwUp g28 41 0 1 0 = g80 at S80 F80 ⊢
              refine w_aload_n dX12_readFirst_129 rfl ?_
              refine w_getr 41 0 dX12_readFirst_130 fl_X12_31 rfl (by decide) ?_
              refine w_iconst dX12_readFirst_133 ?_
              refine w_aload_n dX12_readFirst_134 rfl ?_
              refine w_ldcS (n := 15) dX12_readFirst_135 rfl ?_
              refine w_iconst dX12_readFirst_137 ?_
              refine w_bipush dX12_readFirst_138 rfl ?_
              refine w_callV (d := d + 7) (S := [aI 2, aR 41 0]) [aR 50 15, aI 1, aI 40] dX12_readFirst_140 ml_X12_160 ok_X12_told vi_X12_told rfl rfl (by decide) rfl (Nat.le_of_ble_eq_true rfl) ?_
              refine c_f_told (d := d) 15 1 40 _ S80 (by omega) ?_
              show fwWP mX12_readFirst (d + 8) 143 [some (aR 12 0), none] [aI 0, aI 2, aR 41 0] g80 Q
              refine w_iast dX12_readFirst_143 rfl (by decide) (by omega) (by omega) ?_
              rw [show (2 : Int).toNat = 2 from by omega]
              have S81 : mSt gg (.inl ((1 : Int), ((i + 1 + c) + 1))) (fwUp g80 41 0 2 0) := mSt_put S80 2 0
              have F81 := mFr_41 F80 2 0
              generalize fwUp g80 41 0 2 0 = g81 at S81 F81 ⊢
              refine w_aload_n dX12_readFirst_144 rfl ?_
              refine w_getr 41 0 dX12_readFirst_145 fl_X12_31 rfl (by decide) ?_
              refine w_iconst dX12_readFirst_148 ?_
              refine w_aload_n dX12_readFirst_149 rfl ?_
              refine w_ldcS (n := 16) dX12_readFirst_150 rfl ?_
              refine w_iconst dX12_readFirst_152 ?_
              refine w_sipush dX12_readFirst_153 rfl ?_
              refine w_callV (d := d + 7) (S := [aI 3, aR 41 0]) [aR 50 16, aI 1, aI 999] dX12_readFirst_156 ml_X12_160 ok_X12_told vi_X12_told rfl rfl (by decide) rfl (Nat.le_of_ble_eq_true rfl) ?_
              refine c_f_told (d := d) 16 1 999 _ S81 (by omega) ?_
              show fwWP mX12_readFirst (d + 8) 159 [some (aR 12 0), none] [aI 0, aI 3, aR 41 0] g81 Q
              refine w_iast dX12_readFirst_159 rfl (by decide) (by omega) (by omega) ?_
              rw [show (3 : Int).toNat = 3 from by omega]
              have S82 : mSt gg (.inl ((1 : Int), ((i + 1 + c) + 1))) (fwUp g81 41 0 3 0) := mSt_put S81 3 0
              have F82 := mFr_41 F81 3 0
              generalize fwUp g81 41 0 3 0 = g82 at S82 F82 ⊢
              refine w_aload_n dX12_readFirst_160 rfl ?_
              refine w_getr 41 0 dX12_readFirst_161 fl_X12_31 rfl (by decide) ?_
              refine w_iconst dX12_readFirst_164 ?_
              refine w_aload_n dX12_readFirst_165 rfl ?_
              refine w_ldcS (n := 25) dX12_readFirst_166 rfl ?_
              refine w_callV (d := d + 7) (S := [aI 4, aR 41 0]) [aR 50 25] dX12_readFirst_168 ml_X12_140 ok_X12_takes vi_X12_takes rfl rfl (by decide) rfl (Nat.le_of_ble_eq_true rfl) ?_
              refine c_f_takes (d := (d + 2)) 25 _ S82 (by omega) ?_
              show fwWP mX12_readFirst (d + 8) 171 [some (aR 12 0), none] [aI 0, aI 4, aR 41 0] g82 Q
              refine w_if_eq 178 dX12_readFirst_171 (by decide) (by omega) (fun c171 => ?_) (fun c171 => ?_)
              · refine w_iconst dX12_readFirst_178 ?_
                refine w_iast dX12_readFirst_179 rfl (by decide) (by omega) (by omega) ?_
                rw [show (4 : Int).toNat = 4 from by omega]
                have S83 : mSt gg (.inl ((1 : Int), ((i + 1 + c) + 1))) (fwUp g82 41 0 4 0) := mSt_put S82 4 0
                have F83 := mFr_41 F82 4 0
                have e4_83 : (fwUp g82 41 0 4 0) 41 0 4 = 0 := rfl
                generalize fwUp g82 41 0 4 0 = g83 at S83 F83 e4_83 ⊢
                refine w_aload_n dX12_readFirst_180 rfl ?_
                refine w_getr 41 0 dX12_readFirst_181 fl_X12_31 rfl (by decide) ?_
                refine w_iconst dX12_readFirst_184 ?_
                refine w_ialdE (v := 0) dX12_readFirst_185 rfl (by decide) (by omega) (by omega) (by rw [show (4 : Int).toNat = 4 by omega]; exact e4_83) ?_
                refine w_if_ne 195 dX12_readFirst_186 (by decide) (by omega) (fun c186 => ?_) (fun c186 => ?_)
                · (exfalso; omega)
                · refine w_aload_n dX12_readFirst_189 rfl ?_
                  refine w_ldcS (n := 24) dX12_readFirst_190 rfl ?_
                  refine w_callV (d := d + 7) (S := []) [aR 50 24] dX12_readFirst_192 ml_X12_147 ok_X12_needs vi_X12_needs rfl rfl (by decide) rfl (Nat.le_of_ble_eq_true rfl) ?_
                  refine c_f_needs (d := (d + 1)) 24 _ S83 (by omega) ?_
                  show fwWP mX12_readFirst (d + 8) 195 [some (aR 12 0), none] [] g83 Q
                  have eF : qFirst (cutH gg 14 0) (cutH gg 16 0) i (fun _ => 0) = .inl ((1 : Int), ((i + 1 + c) + 1)) := by simp only [qFirst, qThen, q14, q25, q32]
                  exact w_vret dX12_readFirst_195 rfl (k _ (mSt_eq S83 eF) F83)
              · (exfalso; omega)
            · intro cw26 g29 S29 F29
              show fwWP mX12_readFirst (d + 8) 128 [some (aR 12 0), none] [aI 0, aI 1, aR 41 0] g29 Q
              have G29 := mFr_tr Fc F29
              have q33 : qFact (cutH gg 14 0) (cutH gg 16 0) 5 0 40 1 (i + 1 + c) Wc = .inl (1, (i + 1 + c)) := qFact_0 (by omega)
              refine w_iast dX12_readFirst_128 rfl (by decide) (by omega) (by omega) ?_
              rw [show (1 : Int).toNat = 1 from by omega]
              have S84 : mSt gg (.inl ((1 : Int), (i + 1 + c))) (fwUp g29 41 0 1 0) := mSt_put S29 1 0
              have F84 := mFr_41 G29 1 0
              generalize fwUp g29 41 0 1 0 = g84 at S84 F84 ⊢
              refine w_aload_n dX12_readFirst_129 rfl ?_
              refine w_getr 41 0 dX12_readFirst_130 fl_X12_31 rfl (by decide) ?_
              refine w_iconst dX12_readFirst_133 ?_
              refine w_aload_n dX12_readFirst_134 rfl ?_
              refine w_ldcS (n := 15) dX12_readFirst_135 rfl ?_
              refine w_iconst dX12_readFirst_137 ?_
              refine w_bipush dX12_readFirst_138 rfl ?_
              refine w_callV (d := d + 7) (S := [aI 2, aR 41 0]) [aR 50 15, aI 1, aI 40] dX12_readFirst_140 ml_X12_160 ok_X12_told vi_X12_told rfl rfl (by decide) rfl (Nat.le_of_ble_eq_true rfl) ?_
              refine c_f_told (d := d) 15 1 40 _ S84 (by omega) ?_
              show fwWP mX12_readFirst (d + 8) 143 [some (aR 12 0), none] [aI 0, aI 2, aR 41 0] g84 Q
              refine w_iast dX12_readFirst_143 rfl (by decide) (by omega) (by omega) ?_
              rw [show (2 : Int).toNat = 2 from by omega]
              have S85 : mSt gg (.inl ((1 : Int), (i + 1 + c))) (fwUp g84 41 0 2 0) := mSt_put S84 2 0
              have F85 := mFr_41 F84 2 0
              generalize fwUp g84 41 0 2 0 = g85 at S85 F85 ⊢
              refine w_aload_n dX12_readFirst_144 rfl ?_
              refine w_getr 41 0 dX12_readFirst_145 fl_X12_31 rfl (by decide) ?_
              refine w_iconst dX12_readFirst_148 ?_
              refine w_aload_n dX12_readFirst_149 rfl ?_
              refine w_ldcS (n := 16) dX12_readFirst_150 rfl ?_
              refine w_iconst dX12_readFirst_152 ?_
              refine w_sipush dX12_readFirst_153 rfl ?_
              refine w_callV (d := d + 7) (S := [aI 3, aR 41 0]) [aR 50 16, aI 1, aI 999] dX12_readFirst_156 ml_X12_160 ok_X12_told vi_X12_told rfl rfl (by decide) rfl (Nat.le_of_ble_eq_true rfl) ?_
              refine c_f_told (d := d) 16 1 999 _ S85 (by omega) ?_
              show fwWP mX12_readFirst (d + 8) 159 [some (aR 12 0), none] [aI 0, aI 3, aR 41 0] g85 Q
              refine w_iast dX12_readFirst_159 rfl (by decide) (by omega) (by omega) ?_
              rw [show (3 : Int).toNat = 3 from by omega]
              have S86 : mSt gg (.inl ((1 : Int), (i + 1 + c))) (fwUp g85 41 0 3 0) := mSt_put S85 3 0
              have F86 := mFr_41 F85 3 0
              generalize fwUp g85 41 0 3 0 = g86 at S86 F86 ⊢
              refine w_aload_n dX12_readFirst_160 rfl ?_
              refine w_getr 41 0 dX12_readFirst_161 fl_X12_31 rfl (by decide) ?_
              refine w_iconst dX12_readFirst_164 ?_
              refine w_aload_n dX12_readFirst_165 rfl ?_
              refine w_ldcS (n := 25) dX12_readFirst_166 rfl ?_
              refine w_callV (d := d + 7) (S := [aI 4, aR 41 0]) [aR 50 25] dX12_readFirst_168 ml_X12_140 ok_X12_takes vi_X12_takes rfl rfl (by decide) rfl (Nat.le_of_ble_eq_true rfl) ?_
              refine c_f_takes (d := (d + 2)) 25 _ S86 (by omega) ?_
              show fwWP mX12_readFirst (d + 8) 171 [some (aR 12 0), none] [aI 0, aI 4, aR 41 0] g86 Q
              refine w_if_eq 178 dX12_readFirst_171 (by decide) (by omega) (fun c171 => ?_) (fun c171 => ?_)
              · refine w_iconst dX12_readFirst_178 ?_
                refine w_iast dX12_readFirst_179 rfl (by decide) (by omega) (by omega) ?_
                rw [show (4 : Int).toNat = 4 from by omega]
                have S87 : mSt gg (.inl ((1 : Int), (i + 1 + c))) (fwUp g86 41 0 4 0) := mSt_put S86 4 0
                have F87 := mFr_41 F86 4 0
                have e4_87 : (fwUp g86 41 0 4 0) 41 0 4 = 0 := rfl
                generalize fwUp g86 41 0 4 0 = g87 at S87 F87 e4_87 ⊢
                refine w_aload_n dX12_readFirst_180 rfl ?_
                refine w_getr 41 0 dX12_readFirst_181 fl_X12_31 rfl (by decide) ?_
                refine w_iconst dX12_readFirst_184 ?_
                refine w_ialdE (v := 0) dX12_readFirst_185 rfl (by decide) (by omega) (by omega) (by rw [show (4 : Int).toNat = 4 by omega]; exact e4_87) ?_
                refine w_if_ne 195 dX12_readFirst_186 (by decide) (by omega) (fun c186 => ?_) (fun c186 => ?_)
                · (exfalso; omega)
                · refine w_aload_n dX12_readFirst_189 rfl ?_
                  refine w_ldcS (n := 24) dX12_readFirst_190 rfl ?_
                  refine w_callV (d := d + 7) (S := []) [aR 50 24] dX12_readFirst_192 ml_X12_147 ok_X12_needs vi_X12_needs rfl rfl (by decide) rfl (Nat.le_of_ble_eq_true rfl) ?_
                  refine c_f_needs (d := (d + 1)) 24 _ S87 (by omega) ?_
                  show fwWP mX12_readFirst (d + 8) 195 [some (aR 12 0), none] [] g87 Q
                  have eF : qFirst (cutH gg 14 0) (cutH gg 16 0) i (fun _ => 0) = .inl ((1 : Int), (i + 1 + c)) := by simp only [qFirst, qThen, q14, q25, q33]
                  exact w_vret dX12_readFirst_195 rfl (k _ (mSt_eq S87 eF) F87)
              · (exfalso; omega)
          · refine w_aload_n dX12_readFirst_31 rfl ?_
            refine w_getiE (v := mdT (mBy gg) (tokP (mBy gg) (i + 1 + c))) dX12_readFirst_32 fl_X12_97 rfl (by decide) (mSt_r Sc).2.1.2.2.2.1 ?_
            refine w_iconst dX12_readFirst_35 ?_
            refine w_icmp_ne 70 dX12_readFirst_36 (by decide) (by omega) (by omega) (fun c36 => ?_) (fun c36 => ?_)
            · refine w_aload_n dX12_readFirst_70 rfl ?_
              refine w_iconst dX12_readFirst_71 ?_
              refine w_bipush dX12_readFirst_72 rfl ?_
              refine w_callV (d := d + 7) (S := []) [aI 0, aI 40] dX12_readFirst_74 ml_X12_151 ok_X12_number vi_X12_number rfl rfl (by decide) rfl (Nat.le_of_ble_eq_true rfl) ?_
              refine c_r_number (d := (d + 5)) 0 40 _ _ Sc (by omega) (by omega) ⟨?_, ?_, ?_⟩
              · (intros; exfalso; omega)
              · (intros; exfalso; omega)
              · intro cn88 g90 S90 F90
                show fwWP mX12_readFirst (d + 8) 77 [some (aR 12 0), none] [aI 0] g90 Q
                have G90 := mFr_tr Fc F90
                refine w_istore_n [some (aR 12 0), some (aI 0)] dX12_readFirst_77 rfl (by decide) ?_
                refine w_aload_n dX12_readFirst_78 rfl ?_
                refine w_callV (d := d + 7) (S := []) [] dX12_readFirst_79 ml_X12_121 ok_X12_good vi_X12_good rfl rfl (by decide) rfl (Nat.le_of_ble_eq_true rfl) ?_
                refine c_f_good (d := (d + 7)) _ S90 ?_
                show fwWP mX12_readFirst (d + 8) 82 [some (aR 12 0), some (aI 0)] [aI 0] g90 Q
                refine w_if_ne 86 dX12_readFirst_82 (by decide) (by omega) (fun c82 => ?_) (fun c82 => ?_)
                · (exfalso; omega)
                · have qh : qHts (cutH gg 14 0) (cutH gg 16 0) 11 (i + 1) (fun _ => 0) = .inl (1, i + 1 + c) := (by rw [he6]; exact qHts_1 hc6 (by omega) (by omega))
                  have eF : qFirst (cutH gg 14 0) (cutH gg 16 0) i (fun _ => 0) = .inl ((1 : Int), (i + 1 + c)) := by simp only [qFirst, qThen, q14, qh]
                  exact w_vret dX12_readFirst_85 rfl (k _ (mSt_eq S90 eF) G90)
            · (exfalso; omega)
    exact lp6 0 (by omega) _ _ S12 F12 rfl rfl
  · intro cw12 g13 S13 F13
    show fwWP mX12_readFirst (d + 8) 6 [some (aR 12 0), none] [] g13 Q
    have q15 : qWord (cutH gg 14 0) 4 i (fun _ => (0 : Int)) = .inl (1, i) := qWord_f (by omega)
    refine w_aload_n dX12_readFirst_6 rfl ?_
    refine w_callV (d := d + 7) (S := []) [] dX12_readFirst_7 ml_X12_121 ok_X12_good vi_X12_good rfl rfl (by decide) rfl (Nat.le_of_ble_eq_true rfl) ?_
    refine c_f_good (d := (d + 7)) _ S13 ?_
    show fwWP mX12_readFirst (d + 8) 10 [some (aR 12 0), none] [aI 0] g13 Q
    refine w_if_eq 114 dX12_readFirst_10 (by decide) (by omega) (fun c10 => ?_) (fun c10 => ?_)
    · refine w_aload_n dX12_readFirst_114 rfl ?_
      refine w_getr 41 0 dX12_readFirst_115 fl_X12_31 rfl (by decide) ?_
      refine w_iconst dX12_readFirst_118 ?_
      refine w_aload_n dX12_readFirst_119 rfl ?_
      refine w_ldcS (n := 14) dX12_readFirst_120 rfl ?_
      refine w_iconst dX12_readFirst_122 ?_
      refine w_bipush dX12_readFirst_123 rfl ?_
      refine w_callV (d := d + 7) (S := [aI 1, aR 41 0]) [aR 50 14, aI 0, aI 40] dX12_readFirst_125 ml_X12_160 ok_X12_told vi_X12_told rfl rfl (by decide) rfl (Nat.le_of_ble_eq_true rfl) ?_
      refine c_f_told (d := d) 14 0 40 _ S13 (by omega) ?_
      show fwWP mX12_readFirst (d + 8) 128 [some (aR 12 0), none] [aI 0, aI 1, aR 41 0] g13 Q
      refine w_iast dX12_readFirst_128 rfl (by decide) (by omega) (by omega) ?_
      rw [show (1 : Int).toNat = 1 from by omega]
      have S91 : mSt gg (.inl ((1 : Int), i)) (fwUp g13 41 0 1 0) := mSt_put S13 1 0
      have F91 := mFr_41 F13 1 0
      generalize fwUp g13 41 0 1 0 = g91 at S91 F91 ⊢
      refine w_aload_n dX12_readFirst_129 rfl ?_
      refine w_getr 41 0 dX12_readFirst_130 fl_X12_31 rfl (by decide) ?_
      refine w_iconst dX12_readFirst_133 ?_
      refine w_aload_n dX12_readFirst_134 rfl ?_
      refine w_ldcS (n := 15) dX12_readFirst_135 rfl ?_
      refine w_iconst dX12_readFirst_137 ?_
      refine w_bipush dX12_readFirst_138 rfl ?_
      refine w_callV (d := d + 7) (S := [aI 2, aR 41 0]) [aR 50 15, aI 1, aI 40] dX12_readFirst_140 ml_X12_160 ok_X12_told vi_X12_told rfl rfl (by decide) rfl (Nat.le_of_ble_eq_true rfl) ?_
      refine c_f_told (d := d) 15 1 40 _ S91 (by omega) ?_
      show fwWP mX12_readFirst (d + 8) 143 [some (aR 12 0), none] [aI 0, aI 2, aR 41 0] g91 Q
      refine w_iast dX12_readFirst_143 rfl (by decide) (by omega) (by omega) ?_
      rw [show (2 : Int).toNat = 2 from by omega]
      have S92 : mSt gg (.inl ((1 : Int), i)) (fwUp g91 41 0 2 0) := mSt_put S91 2 0
      have F92 := mFr_41 F91 2 0
      generalize fwUp g91 41 0 2 0 = g92 at S92 F92 ⊢
      refine w_aload_n dX12_readFirst_144 rfl ?_
      refine w_getr 41 0 dX12_readFirst_145 fl_X12_31 rfl (by decide) ?_
      refine w_iconst dX12_readFirst_148 ?_
      refine w_aload_n dX12_readFirst_149 rfl ?_
      refine w_ldcS (n := 16) dX12_readFirst_150 rfl ?_
      refine w_iconst dX12_readFirst_152 ?_
      refine w_sipush dX12_readFirst_153 rfl ?_
      refine w_callV (d := d + 7) (S := [aI 3, aR 41 0]) [aR 50 16, aI 1, aI 999] dX12_readFirst_156 ml_X12_160 ok_X12_told vi_X12_told rfl rfl (by decide) rfl (Nat.le_of_ble_eq_true rfl) ?_
      refine c_f_told (d := d) 16 1 999 _ S92 (by omega) ?_
      show fwWP mX12_readFirst (d + 8) 159 [some (aR 12 0), none] [aI 0, aI 3, aR 41 0] g92 Q
      refine w_iast dX12_readFirst_159 rfl (by decide) (by omega) (by omega) ?_
      rw [show (3 : Int).toNat = 3 from by omega]
      have S93 : mSt gg (.inl ((1 : Int), i)) (fwUp g92 41 0 3 0) := mSt_put S92 3 0
      have F93 := mFr_41 F92 3 0
      generalize fwUp g92 41 0 3 0 = g93 at S93 F93 ⊢
      refine w_aload_n dX12_readFirst_160 rfl ?_
      refine w_getr 41 0 dX12_readFirst_161 fl_X12_31 rfl (by decide) ?_
      refine w_iconst dX12_readFirst_164 ?_
      refine w_aload_n dX12_readFirst_165 rfl ?_
      refine w_ldcS (n := 25) dX12_readFirst_166 rfl ?_
      refine w_callV (d := d + 7) (S := [aI 4, aR 41 0]) [aR 50 25] dX12_readFirst_168 ml_X12_140 ok_X12_takes vi_X12_takes rfl rfl (by decide) rfl (Nat.le_of_ble_eq_true rfl) ?_
      refine c_f_takes (d := (d + 2)) 25 _ S93 (by omega) ?_
      show fwWP mX12_readFirst (d + 8) 171 [some (aR 12 0), none] [aI 0, aI 4, aR 41 0] g93 Q
      refine w_if_eq 178 dX12_readFirst_171 (by decide) (by omega) (fun c171 => ?_) (fun c171 => ?_)
      · refine w_iconst dX12_readFirst_178 ?_
        refine w_iast dX12_readFirst_179 rfl (by decide) (by omega) (by omega) ?_
        rw [show (4 : Int).toNat = 4 from by omega]
        have S94 : mSt gg (.inl ((1 : Int), i)) (fwUp g93 41 0 4 0) := mSt_put S93 4 0
        have F94 := mFr_41 F93 4 0
        have e4_94 : (fwUp g93 41 0 4 0) 41 0 4 = 0 := rfl
        generalize fwUp g93 41 0 4 0 = g94 at S94 F94 e4_94 ⊢
        refine w_aload_n dX12_readFirst_180 rfl ?_
        refine w_getr 41 0 dX12_readFirst_181 fl_X12_31 rfl (by decide) ?_
        refine w_iconst dX12_readFirst_184 ?_
        refine w_ialdE (v := 0) dX12_readFirst_185 rfl (by decide) (by omega) (by omega) (by rw [show (4 : Int).toNat = 4 by omega]; exact e4_94) ?_
        refine w_if_ne 195 dX12_readFirst_186 (by decide) (by omega) (fun c186 => ?_) (fun c186 => ?_)
        · (exfalso; omega)
        · refine w_aload_n dX12_readFirst_189 rfl ?_
          refine w_ldcS (n := 24) dX12_readFirst_190 rfl ?_
          refine w_callV (d := d + 7) (S := []) [aR 50 24] dX12_readFirst_192 ml_X12_147 ok_X12_needs vi_X12_needs rfl rfl (by decide) rfl (Nat.le_of_ble_eq_true rfl) ?_
          refine c_f_needs (d := (d + 1)) 24 _ S94 (by omega) ?_
          show fwWP mX12_readFirst (d + 8) 195 [some (aR 12 0), none] [] g94 Q
          have eF : qFirst (cutH gg 14 0) (cutH gg 16 0) i (fun _ => 0) = .inl ((1 : Int), i) := by simp only [qFirst, qThen, q15]
          exact w_vret dX12_readFirst_195 rfl (k _ (mSt_eq S94 eF) F94)
      · (exfalso; omega)
    · (exfalso; omega)
end
section
theorem qThen_r {a : fwPq} {i : Nat} {W : Nat → Int} {f : Nat → (Nat → Int) → fwPq} (h : a = .inr (i, W)) : qThen a f = f i W := by rw [h]; rfl
theorem qThen_l {a : fwPq} {e : Int × Nat} {f : Nat → (Nat → Int) → fwPq} (h : a = .inl e) : qThen a f = .inl e := by rw [h]; rfl
section Q6
variable {K V : Nat → Int} {i : Nat} {W : Nat → Int} {X : Int}
theorem q6_t {x lo hi : Int} {s : Nat} (hs : s ≠ 6) (h : K i = x) (h3 : K (i + 1) = 3) (hv : lo ≤ V (i + 1) ∧ V (i + 1) ≤ hi) : qFact K V x lo hi s i (fwFu W 6 X) = .inr (i + 1 + 1, fwFu (fwFu W s (V (i + 1))) 6 X) := by
  rw [qFact_t h h3 hv, fwFu_comm W X _ (Ne.symm hs)]
theorem qBef6 {f g : Nat} : qBef (fwFu W 6 X) f g = fwFu (qBef W f g) 6 X := by
  unfold qBef
  rw [fwFu_ne (g := W) (j := 6) (s := 19 + (7 * f + 6)) (by omega), fwFu_comm W X _ (show 6 ≠ 19 + (7 * f + 6) by omega), fwFu_ne (j := 6) (s := 19 + (7 * g + 6)) (by omega), fwFu_comm _ X _ (show 6 ≠ 19 + (7 * g + 6) by omega)]
def qW2 (K : Nat → Int) : Nat → (Nat → Int) → fwPq := fun i W => qWord K 2 i W
def qDo (K V : Nat → Int) (f n i : Nat) (W : Nat → Int) : fwPq := qThen (qThen (qNum K V 0 ((f : Int) - 1) (fun v _ => qBef W f v.toNat) i) (fun i W => qTl K V f n i W)) (qW2 K)
theorem tl_step {f m : Nat} (h3 : K i = 3) (hv : 0 ≤ V i ∧ V i ≤ (f : Int) - 1) (h2 : K (i + 1) ≠ 2) : qDo K V f (m + 1) i W = qDo K V f m (i + 1) (qBef W f (V i).toNat) := by
  unfold qDo
  rw [qThen_r (qNum_t h3 hv)]
  by_cases a : K (i + 1) = 3
  · by_cases b : 0 ≤ V (i + 1) ∧ V (i + 1) ≤ (f : Int) - 1
    · rw [qThen_r (qNum_t a b), qTl, if_pos a, if_pos b]
    · rw [qThen_l (qNum_2 a b), qTl, if_pos a, if_neg b]
  · rw [qThen_l (qNum_1 a), qTl, if_neg a]
    exact qWord_f h2
theorem tl_end {f m : Nat} (h3 : K i = 3) (hv : 0 ≤ V i ∧ V i ≤ (f : Int) - 1) (h2 : K (i + 1) = 2) : qDo K V f (m + 1) i W = qThen (.inr (i + 1, qBef W f (V i).toNat)) (qW2 K) := by
  unfold qDo
  rw [qThen_r (qNum_t h3 hv), qTl, if_neg (by omega)]
theorem tl_2 {f n : Nat} (h3 : K i = 3) (hv : ¬ (0 ≤ V i ∧ V i ≤ (f : Int) - 1)) : qDo K V f n i W = qThen (.inl (2, i)) (qW2 K) := by
  unfold qDo
  rw [qThen_l (qNum_2 h3 hv)]
theorem tl_1 {f n : Nat} (h3 : ¬ K i = 3) : qDo K V f n i W = qThen (.inl (1, i)) (qW2 K) := by
  unfold qDo
  rw [qThen_l (qNum_1 h3)]
end Q6
theorem ix_lo {f : Nat} (k : Int) (hk : 0 ≤ k ∧ k ≤ 6) : 0 ≤ 19 + (7 * (f : Int)) + k := by omega
theorem ix_hi {f : Nat} (hf : f < 8) (k : Int) (hk : 0 ≤ k ∧ k ≤ 6) : 19 + (7 * (f : Int)) + k < 135 := by omega
theorem ix_nat (f : Nat) (k : Nat) : (19 + (7 * (f : Int)) + (k : Int)).toNat = 19 + (7 * f + k) := by omega
theorem f_readFolk_154 {d : Nat} {h gg g : fwH} {Q : Option fwV → fwH → Prop} (f : Nat) (hf : f < 8) (e : Int × Nat) (S : mSt gg (.inl e) g) (F : mFr h g) (k : ∀ g, mSt gg (.inl e) g → mFr h g → Q none g) : fwWP mX12_readFolk (d + 8) 154 [some (aR 12 0), some (aI (f : Int)), some (aI (19 + (7 * (f : Int)))), none] [] g Q := by
  obtain ⟨hl1, hl2, hl3, hl4⟩ := mSt_l S
  refine w_aload_n dX12_readFolk_154 rfl ?_
  refine w_ldcS (n := 22) dX12_readFolk_155 rfl ?_
  refine w_callV (d := d + 7) (S := []) [aR 50 22] dX12_readFolk_157 ml_X12_147 ok_X12_needs vi_X12_needs rfl rfl (by decide) rfl (Nat.le_of_ble_eq_true rfl) ?_
  refine c_f_needs (d := (d + 1)) 22 _ S (by omega) ?_
  show fwWP mX12_readFolk (d + 8) 160 [some (aR 12 0), some (aI (f : Int)), some (aI (19 + (7 * (f : Int)))), none] [] g Q
  refine w_aload_n dX12_readFolk_160 rfl ?_
  refine w_iconst dX12_readFolk_161 ?_
  refine w_iload_n dX12_readFolk_162 rfl ?_
  refine w_iconst dX12_readFolk_163 ?_
  refine w_isub dX12_readFolk_164 ?_
  refine w_callV (d := d + 7) (S := []) [aI 0, aI ((f : Int) - 1)] dX12_readFolk_165 ml_X12_151 ok_X12_number vi_X12_number rfl rfl (by decide) rfl (Nat.le_of_ble_eq_true rfl) ?_
  refine c_f_number (d := (d + 5)) 0 ((f : Int) - 1) _ S ?_
  show fwWP mX12_readFolk (d + 8) 168 [some (aR 12 0), some (aI (f : Int)), some (aI (19 + (7 * (f : Int)))), none] [aI 0] g Q
  refine w_istore_n [some (aR 12 0), some (aI (f : Int)), some (aI (19 + (7 * (f : Int)))), some (aI 0)] dX12_readFolk_168 rfl (by decide) ?_
  refine w_aload_n dX12_readFolk_169 rfl ?_
  refine w_callV (d := d + 7) (S := []) [] dX12_readFolk_170 ml_X12_121 ok_X12_good vi_X12_good rfl rfl (by decide) rfl (Nat.le_of_ble_eq_true rfl) ?_
  refine c_f_good (d := (d + 7)) _ S ?_
  show fwWP mX12_readFolk (d + 8) 173 [some (aR 12 0), some (aI (f : Int)), some (aI (19 + (7 * (f : Int)))), some (aI 0)] [aI 0] g Q
  refine w_if_ne 177 dX12_readFolk_173 (by decide) (by omega) (fun c173 => ?_) (fun c173 => ?_)
  · (exfalso; omega)
  · exact w_vret dX12_readFolk_176 rfl (k _ S F)
theorem f_readFolk_111 {d : Nat} {h gg g : fwH} {Q : Option fwV → fwH → Prop} (f : Nat) (hf : f < 8) (e : Int × Nat) (S : mSt gg (.inl e) g) (F : mFr h g) (k : ∀ g, mSt gg (.inl e) g → mFr h g → Q none g) : fwWP mX12_readFolk (d + 8) 111 [some (aR 12 0), some (aI (f : Int)), some (aI (19 + (7 * (f : Int)))), none] [] g Q := by
  obtain ⟨hl1, hl2, hl3, hl4⟩ := mSt_l S
  refine w_aload_n dX12_readFolk_111 rfl ?_
  refine w_getr 41 0 dX12_readFolk_112 fl_X12_31 rfl (by decide) ?_
  refine w_iload_n dX12_readFolk_115 rfl ?_
  refine w_iconst dX12_readFolk_116 ?_
  refine w_iadd dX12_readFolk_117 ?_
  refine w_iconst dX12_readFolk_118 ?_
  refine w_iast dX12_readFolk_119 rfl (by decide) (ix_lo _ (by decide)) (ix_hi hf _ (by decide)) ?_
  rw [show ((19 + (7 * (f : Int))) + 5 : Int).toNat = (19 + (7 * f + 5)) from (ix_nat f 5)]
  have S95 : mSt gg (.inl e) (fwUp g 41 0 (19 + (7 * f + 5)) 0) := mSt_put S (19 + (7 * f + 5)) 0
  have F95 := mFr_41 F (19 + (7 * f + 5)) 0
  generalize fwUp g 41 0 (19 + (7 * f + 5)) 0 = g95 at S95 F95 ⊢
  refine w_aload_n dX12_readFolk_120 rfl ?_
  refine w_getr 41 0 dX12_readFolk_121 fl_X12_31 rfl (by decide) ?_
  refine w_iload_n dX12_readFolk_124 rfl ?_
  refine w_bipush dX12_readFolk_125 rfl ?_
  refine w_iadd dX12_readFolk_127 ?_
  refine w_iconst dX12_readFolk_128 ?_
  refine w_iast dX12_readFolk_129 rfl (by decide) (ix_lo _ (by decide)) (ix_hi hf _ (by decide)) ?_
  rw [show ((19 + (7 * (f : Int))) + 6 : Int).toNat = (19 + (7 * f + 6)) from (ix_nat f 6)]
  have S96 : mSt gg (.inl e) (fwUp g95 41 0 (19 + (7 * f + 6)) 0) := mSt_put S95 (19 + (7 * f + 6)) 0
  have F96 := mFr_41 F95 (19 + (7 * f + 6)) 0
  generalize fwUp g95 41 0 (19 + (7 * f + 6)) 0 = g96 at S96 F96 ⊢
  refine w_aload_n dX12_readFolk_130 rfl ?_
  refine w_ldcS (n := 21) dX12_readFolk_131 rfl ?_
  refine w_callV (d := d + 7) (S := []) [aR 50 21] dX12_readFolk_133 ml_X12_140 ok_X12_takes vi_X12_takes rfl rfl (by decide) rfl (Nat.le_of_ble_eq_true rfl) ?_
  refine c_f_takes (d := (d + 2)) 21 _ S96 (by omega) ?_
  show fwWP mX12_readFolk (d + 8) 136 [some (aR 12 0), some (aI (f : Int)), some (aI (19 + (7 * (f : Int)))), none] [aI 0] g96 Q
  refine w_if_eq 221 dX12_readFolk_136 (by decide) (by omega) (fun c136 => ?_) (fun c136 => ?_)
  · refine w_aload_n dX12_readFolk_221 rfl ?_
    refine w_getr 41 0 dX12_readFolk_222 fl_X12_31 rfl (by decide) ?_
    refine w_bipush dX12_readFolk_225 rfl ?_
    refine w_dup2 dX12_readFolk_227 rfl rfl ?_
    refine w_ialdE (v := g96 41 0 6) dX12_readFolk_228 rfl (by decide) (by omega) (by omega) (by rw [show (6 : Int).toNat = 6 by omega]) ?_
    refine w_iconst dX12_readFolk_229 ?_
    refine w_iadd dX12_readFolk_230 ?_
    refine w_iast dX12_readFolk_231 rfl (by decide) (by omega) (by omega) ?_
    rw [show (6 : Int).toNat = 6 from by omega]
    have S97 : mSt gg (.inl e) (fwUp g96 41 0 6 ((g96 41 0 6) + 1)) := mSt_put S96 6 ((g96 41 0 6) + 1)
    have F97 := mFr_41 F96 6 ((g96 41 0 6) + 1)
    generalize fwUp g96 41 0 6 ((g96 41 0 6) + 1) = g97 at S97 F97 ⊢
    exact w_vret dX12_readFolk_232 rfl (k _ S97 F97)
  · (exfalso; omega)
theorem f_readFolk_94 {d : Nat} {h gg g : fwH} {Q : Option fwV → fwH → Prop} (f : Nat) (hf : f < 8) (e : Int × Nat) (S : mSt gg (.inl e) g) (F : mFr h g) (k : ∀ g, mSt gg (.inl e) g → mFr h g → Q none g) : fwWP mX12_readFolk (d + 8) 94 [some (aR 12 0), some (aI (f : Int)), some (aI (19 + (7 * (f : Int)))), none] [] g Q := by
  obtain ⟨hl1, hl2, hl3, hl4⟩ := mSt_l S
  refine w_aload_n dX12_readFolk_94 rfl ?_
  refine w_getr 41 0 dX12_readFolk_95 fl_X12_31 rfl (by decide) ?_
  refine w_iload_n dX12_readFolk_98 rfl ?_
  refine w_iconst dX12_readFolk_99 ?_
  refine w_iadd dX12_readFolk_100 ?_
  refine w_aload_n dX12_readFolk_101 rfl ?_
  refine w_ldcS (n := 20) dX12_readFolk_102 rfl ?_
  refine w_iconst dX12_readFolk_104 ?_
  refine w_bipush dX12_readFolk_105 rfl ?_
  refine w_callV (d := d + 7) (S := [aI ((19 + (7 * (f : Int))) + 4), aR 41 0]) [aR 50 20, aI 0, aI 9] dX12_readFolk_107 ml_X12_160 ok_X12_told vi_X12_told rfl rfl (by decide) rfl (Nat.le_of_ble_eq_true rfl) ?_
  refine c_f_told (d := d) 20 0 9 _ S (by omega) ?_
  show fwWP mX12_readFolk (d + 8) 110 [some (aR 12 0), some (aI (f : Int)), some (aI (19 + (7 * (f : Int)))), none] [aI 0, aI ((19 + (7 * (f : Int))) + 4), aR 41 0] g Q
  refine w_iast dX12_readFolk_110 rfl (by decide) (ix_lo _ (by decide)) (ix_hi hf _ (by decide)) ?_
  rw [show ((19 + (7 * (f : Int))) + 4 : Int).toNat = (19 + (7 * f + 4)) from (ix_nat f 4)]
  have S98 : mSt gg (.inl e) (fwUp g 41 0 (19 + (7 * f + 4)) 0) := mSt_put S (19 + (7 * f + 4)) 0
  have F98 := mFr_41 F (19 + (7 * f + 4)) 0
  generalize fwUp g 41 0 (19 + (7 * f + 4)) 0 = g98 at S98 F98 ⊢
  exact f_readFolk_111 f hf _ S98 F98 (fun g9 S9 F9 => k g9 S9 F9)
theorem f_readFolk_77 {d : Nat} {h gg g : fwH} {Q : Option fwV → fwH → Prop} (f : Nat) (hf : f < 8) (e : Int × Nat) (S : mSt gg (.inl e) g) (F : mFr h g) (k : ∀ g, mSt gg (.inl e) g → mFr h g → Q none g) : fwWP mX12_readFolk (d + 8) 77 [some (aR 12 0), some (aI (f : Int)), some (aI (19 + (7 * (f : Int)))), none] [] g Q := by
  obtain ⟨hl1, hl2, hl3, hl4⟩ := mSt_l S
  refine w_aload_n dX12_readFolk_77 rfl ?_
  refine w_getr 41 0 dX12_readFolk_78 fl_X12_31 rfl (by decide) ?_
  refine w_iload_n dX12_readFolk_81 rfl ?_
  refine w_iconst dX12_readFolk_82 ?_
  refine w_iadd dX12_readFolk_83 ?_
  refine w_aload_n dX12_readFolk_84 rfl ?_
  refine w_ldcS (n := 14) dX12_readFolk_85 rfl ?_
  refine w_iconst dX12_readFolk_87 ?_
  refine w_bipush dX12_readFolk_88 rfl ?_
  refine w_callV (d := d + 7) (S := [aI ((19 + (7 * (f : Int))) + 3), aR 41 0]) [aR 50 14, aI 0, aI 9] dX12_readFolk_90 ml_X12_160 ok_X12_told vi_X12_told rfl rfl (by decide) rfl (Nat.le_of_ble_eq_true rfl) ?_
  refine c_f_told (d := d) 14 0 9 _ S (by omega) ?_
  show fwWP mX12_readFolk (d + 8) 93 [some (aR 12 0), some (aI (f : Int)), some (aI (19 + (7 * (f : Int)))), none] [aI 0, aI ((19 + (7 * (f : Int))) + 3), aR 41 0] g Q
  refine w_iast dX12_readFolk_93 rfl (by decide) (ix_lo _ (by decide)) (ix_hi hf _ (by decide)) ?_
  rw [show ((19 + (7 * (f : Int))) + 3 : Int).toNat = (19 + (7 * f + 3)) from (ix_nat f 3)]
  have S99 : mSt gg (.inl e) (fwUp g 41 0 (19 + (7 * f + 3)) 0) := mSt_put S (19 + (7 * f + 3)) 0
  have F99 := mFr_41 F (19 + (7 * f + 3)) 0
  generalize fwUp g 41 0 (19 + (7 * f + 3)) 0 = g99 at S99 F99 ⊢
  exact f_readFolk_94 f hf _ S99 F99 (fun g9 S9 F9 => k g9 S9 F9)
theorem f_readFolk_60 {d : Nat} {h gg g : fwH} {Q : Option fwV → fwH → Prop} (f : Nat) (hf : f < 8) (e : Int × Nat) (S : mSt gg (.inl e) g) (F : mFr h g) (k : ∀ g, mSt gg (.inl e) g → mFr h g → Q none g) : fwWP mX12_readFolk (d + 8) 60 [some (aR 12 0), some (aI (f : Int)), some (aI (19 + (7 * (f : Int)))), none] [] g Q := by
  obtain ⟨hl1, hl2, hl3, hl4⟩ := mSt_l S
  refine w_aload_n dX12_readFolk_60 rfl ?_
  refine w_getr 41 0 dX12_readFolk_61 fl_X12_31 rfl (by decide) ?_
  refine w_iload_n dX12_readFolk_64 rfl ?_
  refine w_iconst dX12_readFolk_65 ?_
  refine w_iadd dX12_readFolk_66 ?_
  refine w_aload_n dX12_readFolk_67 rfl ?_
  refine w_ldcS (n := 19) dX12_readFolk_68 rfl ?_
  refine w_iconst dX12_readFolk_70 ?_
  refine w_bipush dX12_readFolk_71 rfl ?_
  refine w_callV (d := d + 7) (S := [aI ((19 + (7 * (f : Int))) + 2), aR 41 0]) [aR 50 19, aI 0, aI 9] dX12_readFolk_73 ml_X12_160 ok_X12_told vi_X12_told rfl rfl (by decide) rfl (Nat.le_of_ble_eq_true rfl) ?_
  refine c_f_told (d := d) 19 0 9 _ S (by omega) ?_
  show fwWP mX12_readFolk (d + 8) 76 [some (aR 12 0), some (aI (f : Int)), some (aI (19 + (7 * (f : Int)))), none] [aI 0, aI ((19 + (7 * (f : Int))) + 2), aR 41 0] g Q
  refine w_iast dX12_readFolk_76 rfl (by decide) (ix_lo _ (by decide)) (ix_hi hf _ (by decide)) ?_
  rw [show ((19 + (7 * (f : Int))) + 2 : Int).toNat = (19 + (7 * f + 2)) from (ix_nat f 2)]
  have S100 : mSt gg (.inl e) (fwUp g 41 0 (19 + (7 * f + 2)) 0) := mSt_put S (19 + (7 * f + 2)) 0
  have F100 := mFr_41 F (19 + (7 * f + 2)) 0
  generalize fwUp g 41 0 (19 + (7 * f + 2)) 0 = g100 at S100 F100 ⊢
  exact f_readFolk_77 f hf _ S100 F100 (fun g9 S9 F9 => k g9 S9 F9)
theorem f_readFolk_43 {d : Nat} {h gg g : fwH} {Q : Option fwV → fwH → Prop} (f : Nat) (hf : f < 8) (e : Int × Nat) (S : mSt gg (.inl e) g) (F : mFr h g) (k : ∀ g, mSt gg (.inl e) g → mFr h g → Q none g) : fwWP mX12_readFolk (d + 8) 43 [some (aR 12 0), some (aI (f : Int)), some (aI (19 + (7 * (f : Int)))), none] [] g Q := by
  obtain ⟨hl1, hl2, hl3, hl4⟩ := mSt_l S
  refine w_aload_n dX12_readFolk_43 rfl ?_
  refine w_getr 41 0 dX12_readFolk_44 fl_X12_31 rfl (by decide) ?_
  refine w_iload_n dX12_readFolk_47 rfl ?_
  refine w_iconst dX12_readFolk_48 ?_
  refine w_iadd dX12_readFolk_49 ?_
  refine w_aload_n dX12_readFolk_50 rfl ?_
  refine w_ldcS (n := 16) dX12_readFolk_51 rfl ?_
  refine w_iconst dX12_readFolk_53 ?_
  refine w_bipush dX12_readFolk_54 rfl ?_
  refine w_callV (d := d + 7) (S := [aI ((19 + (7 * (f : Int))) + 1), aR 41 0]) [aR 50 16, aI 1, aI 99] dX12_readFolk_56 ml_X12_160 ok_X12_told vi_X12_told rfl rfl (by decide) rfl (Nat.le_of_ble_eq_true rfl) ?_
  refine c_f_told (d := d) 16 1 99 _ S (by omega) ?_
  show fwWP mX12_readFolk (d + 8) 59 [some (aR 12 0), some (aI (f : Int)), some (aI (19 + (7 * (f : Int)))), none] [aI 0, aI ((19 + (7 * (f : Int))) + 1), aR 41 0] g Q
  refine w_iast dX12_readFolk_59 rfl (by decide) (ix_lo _ (by decide)) (ix_hi hf _ (by decide)) ?_
  rw [show ((19 + (7 * (f : Int))) + 1 : Int).toNat = (19 + (7 * f + 1)) from (ix_nat f 1)]
  have S101 : mSt gg (.inl e) (fwUp g 41 0 (19 + (7 * f + 1)) 0) := mSt_put S (19 + (7 * f + 1)) 0
  have F101 := mFr_41 F (19 + (7 * f + 1)) 0
  generalize fwUp g 41 0 (19 + (7 * f + 1)) 0 = g101 at S101 F101 ⊢
  exact f_readFolk_60 f hf _ S101 F101 (fun g9 S9 F9 => k g9 S9 F9)
theorem lp_readFolk {d : Nat} {h gg : fwH} {Q : Option fwV → fwH → Prop} (f : Nat) (i : Nat) (W : Nat → Int) (S : mSt gg (.inr (i + 1, W)) h) (hf : f < 8) (i0 : Nat) (k : ∀ q g, mSt gg q g → mFr h g → qThen q (qW2 (cutH gg 14 0)) = qThen (qFolk (cutH gg 14 0) (cutH gg 16 0) f i W) (qW2 (cutH gg 14 0)) → Q none g) : ∀ c : Nat, c ≤ 900 → ∀ (Wc : Nat → Int) (gc : fwH), mSt gg (.inr (i0 + c, Wc)) gc → mFr h gc → Wc 6 = (f : Int) → qThen (qFolk (cutH gg 14 0) (cutH gg 16 0) f i W) (qW2 (cutH gg 14 0)) = qDo (cutH gg 14 0) (cutH gg 16 0) f (900 - c) (i0 + c) (fwFu Wc 6 ((f : Int) + 1)) → fwWP mX12_readFolk (d + 8) 160 [some (aR 12 0), some (aI (f : Int)), some (aI (19 + (7 * (f : Int)))), none] [] gc Q := by
  have hTN := (tk_cut S.1.1).2.1
  refine fw_up (fun c hc160 ih160 => ?_)
  intro Wc gc Sc Fc hw6 he160
  have hkc := tk_kind S.1.1 (mSt_r Sc).1
  obtain ⟨hc1, hc2, hc3, hc4, hc5, hc6b, hc7⟩ := hkc
  clear hc1 hc2 hc3 hc5 hc6b
  refine w_aload_n dX12_readFolk_160 rfl ?_
  refine w_iconst dX12_readFolk_161 ?_
  refine w_iload_n dX12_readFolk_162 rfl ?_
  refine w_iconst dX12_readFolk_163 ?_
  refine w_isub dX12_readFolk_164 ?_
  refine w_callV (d := d + 7) (S := []) [aI 0, aI ((f : Int) - 1)] dX12_readFolk_165 ml_X12_151 ok_X12_number vi_X12_number rfl rfl (by decide) rfl (Nat.le_of_ble_eq_true rfl) ?_
  refine c_r_number (d := (d + 5)) 0 ((f : Int) - 1) _ _ Sc (by omega) (by omega) ⟨?_, ?_, ?_⟩
  · intro cn163 cv163 g163 S163 F163
    have hvr163 := (tk_cut S.1.1).2.2.2 (i0 + c) (mSt_r Sc).1
    show fwWP mX12_readFolk (d + 8) 168 [some (aR 12 0), some (aI (f : Int)), some (aI (19 + (7 * (f : Int)))), none] [aI (cutH gg 16 0 (i0 + c))] g163 Q
    have G163 := mFr_tr Fc F163
    obtain ⟨o, ho⟩ : ∃ o : Nat, cutH gg 16 0 (i0 + c) = (o : Int) := ⟨(cutH gg 16 0 (i0 + c)).toNat, by omega⟩
    rw [ho]
    rw [ho] at cv163 hvr163
    refine w_istore_n [some (aR 12 0), some (aI (f : Int)), some (aI (19 + (7 * (f : Int)))), some (aI (o : Int))] dX12_readFolk_168 rfl (by decide) ?_
    refine w_aload_n dX12_readFolk_169 rfl ?_
    refine w_callV (d := d + 7) (S := []) [] dX12_readFolk_170 ml_X12_121 ok_X12_good vi_X12_good rfl rfl (by decide) rfl (Nat.le_of_ble_eq_true rfl) ?_
    refine c_r_good (d := (d + 7)) _ _ S163 ?_
    show fwWP mX12_readFolk (d + 8) 173 [some (aR 12 0), some (aI (f : Int)), some (aI (19 + (7 * (f : Int)))), some (aI (o : Int))] [aI 1] g163 Q
    refine w_if_ne 177 dX12_readFolk_173 (by decide) (by omega) (fun c173 => ?_) (fun c173 => ?_)
    · refine w_aload_n dX12_readFolk_177 rfl ?_
      refine w_getr 41 0 dX12_readFolk_178 fl_X12_31 rfl (by decide) ?_
      refine w_iload_n dX12_readFolk_181 rfl ?_
      refine w_bipush dX12_readFolk_182 rfl ?_
      refine w_iadd dX12_readFolk_184 ?_
      refine w_dup2 dX12_readFolk_185 rfl rfl ?_
      refine w_ialdE (v := Wc (19 + (7 * f + 6))) dX12_readFolk_186 rfl (by decide) (ix_lo _ (by decide)) (ix_hi hf _ (by decide)) (by rw [show ((19 + (7 * (f : Int))) + 6 : Int).toNat = (19 + (7 * f + 6)) by omega]; exact (mSt_r S163).2.2.2.2 _ (by omega)) ?_
      refine w_iconst dX12_readFolk_187 ?_
      refine w_iload_n dX12_readFolk_188 rfl ?_
      refine w_ishl dX12_readFolk_189 ?_
      refine w_ior dX12_readFolk_190 ?_
      refine w_iast dX12_readFolk_191 rfl (by decide) (ix_lo _ (by decide)) (ix_hi hf _ (by decide)) ?_
      rw [show ((19 + (7 * (f : Int))) + 6 : Int).toNat = (19 + (7 * f + 6)) from (ix_nat f 6)]
      have S166 : mSt gg (.inr (((i0 + c) + 1), fwFu Wc (19 + (7 * f + 6)) (fwOr (Wc (19 + (7 * f + 6))) (fwShl 1 (o : Int))))) (fwUp g163 41 0 (19 + (7 * f + 6)) (fwOr (Wc (19 + (7 * f + 6))) (fwShl 1 (o : Int)))) := mSt_put S163 (19 + (7 * f + 6)) (fwOr (Wc (19 + (7 * f + 6))) (fwShl 1 (o : Int)))
      have F166 := mFr_41 G163 (19 + (7 * f + 6)) (fwOr (Wc (19 + (7 * f + 6))) (fwShl 1 (o : Int)))
      generalize fwUp g163 41 0 (19 + (7 * f + 6)) (fwOr (Wc (19 + (7 * f + 6))) (fwShl 1 (o : Int))) = g166 at S166 F166 ⊢
      refine w_aload_n dX12_readFolk_192 rfl ?_
      refine w_getr 41 0 dX12_readFolk_193 fl_X12_31 rfl (by decide) ?_
      refine w_bipush dX12_readFolk_196 rfl ?_
      refine w_bipush dX12_readFolk_198 rfl ?_
      refine w_iload_n dX12_readFolk_200 rfl ?_
      refine w_imul dX12_readFolk_201 ?_
      refine w_iadd dX12_readFolk_202 ?_
      refine w_bipush dX12_readFolk_203 rfl ?_
      refine w_iadd dX12_readFolk_205 ?_
      refine w_dup2 dX12_readFolk_206 rfl rfl ?_
      refine w_ialdE (v := (fwFu Wc (19 + (7 * f + 6)) (fwOr (Wc (19 + (7 * f + 6))) (fwShl 1 (o : Int)))) (19 + (7 * o + 6))) dX12_readFolk_207 rfl (by decide) (by omega) (by omega) (by rw [show ((19 + (7 * (o : Int))) + 6 : Int).toNat = (19 + (7 * o + 6)) by omega]; exact (mSt_r S166).2.2.2.2 _ (by omega)) ?_
      refine w_iconst dX12_readFolk_208 ?_
      refine w_iload_n dX12_readFolk_209 rfl ?_
      refine w_ishl dX12_readFolk_210 ?_
      refine w_ior dX12_readFolk_211 ?_
      refine w_iast dX12_readFolk_212 rfl (by decide) (by omega) (by omega) ?_
      rw [show ((19 + (7 * (o : Int))) + 6 : Int).toNat = (19 + (7 * o + 6)) from by omega]
      have S167 : mSt gg (.inr (((i0 + c) + 1), fwFu (fwFu Wc (19 + (7 * f + 6)) (fwOr (Wc (19 + (7 * f + 6))) (fwShl 1 (o : Int)))) (19 + (7 * o + 6)) (fwOr ((fwFu Wc (19 + (7 * f + 6)) (fwOr (Wc (19 + (7 * f + 6))) (fwShl 1 (o : Int)))) (19 + (7 * o + 6))) (fwShl 1 (f : Int))))) (fwUp g166 41 0 (19 + (7 * o + 6)) (fwOr ((fwFu Wc (19 + (7 * f + 6)) (fwOr (Wc (19 + (7 * f + 6))) (fwShl 1 (o : Int)))) (19 + (7 * o + 6))) (fwShl 1 (f : Int)))) := mSt_put S166 (19 + (7 * o + 6)) (fwOr ((fwFu Wc (19 + (7 * f + 6)) (fwOr (Wc (19 + (7 * f + 6))) (fwShl 1 (o : Int)))) (19 + (7 * o + 6))) (fwShl 1 (f : Int)))
      have F167 := mFr_41 F166 (19 + (7 * o + 6)) (fwOr ((fwFu Wc (19 + (7 * f + 6)) (fwOr (Wc (19 + (7 * f + 6))) (fwShl 1 (o : Int)))) (19 + (7 * o + 6))) (fwShl 1 (f : Int)))
      generalize fwUp g166 41 0 (19 + (7 * o + 6)) (fwOr ((fwFu Wc (19 + (7 * f + 6)) (fwOr (Wc (19 + (7 * f + 6))) (fwShl 1 (o : Int)))) (19 + (7 * o + 6))) (fwShl 1 (f : Int))) = g167 at S167 F167 ⊢
      obtain ⟨hn1, hn2, hn3, hn4, hn5, hn6, hn7⟩ := tk_kind S.1.1 (mSt_r S167).1
      refine w_aload_n dX12_readFolk_213 rfl ?_
      refine w_getiE (v := mdT (mBy gg) (tokP (mBy gg) ((i0 + c) + 1))) dX12_readFolk_214 fl_X12_97 rfl (by decide) (mSt_r S167).2.1.2.2.2.1 ?_
      refine w_iconst dX12_readFolk_217 ?_
      refine w_icmp_ne 160 dX12_readFolk_218 (by decide) (by omega) (by omega) (fun c218 => ?_) (fun c218 => ?_)
      · refine w_drop [3] [some (aR 12 0), some (aI (f : Int)), some (aI (19 + (7 * (f : Int)))), none] rfl ?_
        exact ih160 (by have := (mSt_r S167).1; omega) _ _ (mSt_eq S167 (by rw [← Nat.add_assoc])) F167 ((fwFu_ne (by omega)).trans ((fwFu_ne (by omega)).trans hw6)) (by rw [he160, show 900 - c = (900 - (c + 1)) + 1 by have := (mSt_r S167).1; omega, tl_step cn163 (by rw [ho]; exact cv163) (by omega), ho, Int.toNat_natCast, qBef6, ← Nat.add_assoc]; rfl)
      · refine w_aload_n dX12_readFolk_221 rfl ?_
        refine w_getr 41 0 dX12_readFolk_222 fl_X12_31 rfl (by decide) ?_
        refine w_bipush dX12_readFolk_225 rfl ?_
        refine w_dup2 dX12_readFolk_227 rfl rfl ?_
        refine w_ialdE (v := (f : Int)) dX12_readFolk_228 rfl (by decide) (by omega) (by omega) (by rw [show (6 : Int).toNat = 6 by omega]; exact ((mSt_r S167).2.2.2.2 6 (by omega)).trans ((fwFu_ne (by omega)).trans ((fwFu_ne (by omega)).trans hw6))) ?_
        refine w_iconst dX12_readFolk_229 ?_
        refine w_iadd dX12_readFolk_230 ?_
        refine w_iast dX12_readFolk_231 rfl (by decide) (by omega) (by omega) ?_
        rw [show (6 : Int).toNat = 6 from by omega]
        have S168 : mSt gg (.inr (((i0 + c) + 1), fwFu (fwFu (fwFu Wc (19 + (7 * f + 6)) (fwOr (Wc (19 + (7 * f + 6))) (fwShl 1 (o : Int)))) (19 + (7 * o + 6)) (fwOr ((fwFu Wc (19 + (7 * f + 6)) (fwOr (Wc (19 + (7 * f + 6))) (fwShl 1 (o : Int)))) (19 + (7 * o + 6))) (fwShl 1 (f : Int)))) 6 ((f : Int) + 1))) (fwUp g167 41 0 6 ((f : Int) + 1)) := mSt_put S167 6 ((f : Int) + 1)
        have F168 := mFr_41 F167 6 ((f : Int) + 1)
        generalize fwUp g167 41 0 6 ((f : Int) + 1) = g168 at S168 F168 ⊢
        exact w_vret dX12_readFolk_232 rfl (k _ _ S168 F168 (by symm; rw [he160, show 900 - c = (900 - (c + 1)) + 1 by have := (mSt_r S168).1; omega, tl_end cn163 (by rw [ho]; exact cv163) (by omega), ho, Int.toNat_natCast, qBef6]; rfl))
    · (exfalso; omega)
  · intro cn163 cv163 g164 S164 F164
    show fwWP mX12_readFolk (d + 8) 168 [some (aR 12 0), some (aI (f : Int)), some (aI (19 + (7 * (f : Int)))), none] [aI 0] g164 Q
    have G164 := mFr_tr Fc F164
    refine w_istore_n [some (aR 12 0), some (aI (f : Int)), some (aI (19 + (7 * (f : Int)))), some (aI 0)] dX12_readFolk_168 rfl (by decide) ?_
    refine w_aload_n dX12_readFolk_169 rfl ?_
    refine w_callV (d := d + 7) (S := []) [] dX12_readFolk_170 ml_X12_121 ok_X12_good vi_X12_good rfl rfl (by decide) rfl (Nat.le_of_ble_eq_true rfl) ?_
    refine c_f_good (d := (d + 7)) _ S164 ?_
    show fwWP mX12_readFolk (d + 8) 173 [some (aR 12 0), some (aI (f : Int)), some (aI (19 + (7 * (f : Int)))), some (aI 0)] [aI 0] g164 Q
    refine w_if_ne 177 dX12_readFolk_173 (by decide) (by omega) (fun c173 => ?_) (fun c173 => ?_)
    · (exfalso; omega)
    · exact w_vret dX12_readFolk_176 rfl (k _ _ S164 G164 (by rw [he160]; exact (tl_2 cn163 cv163).symm))
  · intro cn163 g165 S165 F165
    show fwWP mX12_readFolk (d + 8) 168 [some (aR 12 0), some (aI (f : Int)), some (aI (19 + (7 * (f : Int)))), none] [aI 0] g165 Q
    have G165 := mFr_tr Fc F165
    refine w_istore_n [some (aR 12 0), some (aI (f : Int)), some (aI (19 + (7 * (f : Int)))), some (aI 0)] dX12_readFolk_168 rfl (by decide) ?_
    refine w_aload_n dX12_readFolk_169 rfl ?_
    refine w_callV (d := d + 7) (S := []) [] dX12_readFolk_170 ml_X12_121 ok_X12_good vi_X12_good rfl rfl (by decide) rfl (Nat.le_of_ble_eq_true rfl) ?_
    refine c_f_good (d := (d + 7)) _ S165 ?_
    show fwWP mX12_readFolk (d + 8) 173 [some (aR 12 0), some (aI (f : Int)), some (aI (19 + (7 * (f : Int)))), some (aI 0)] [aI 0] g165 Q
    refine w_if_ne 177 dX12_readFolk_173 (by decide) (by omega) (fun c173 => ?_) (fun c173 => ?_)
    · (exfalso; omega)
    · exact w_vret dX12_readFolk_176 rfl (k _ _ S165 G165 (by rw [he160]; exact (tl_1 cn163).symm))
set_option maxRecDepth 100000 in
set_option maxHeartbeats 4000000 in
theorem c_r_readFolk {d : Nat} {h gg : fwH} {Q : Option fwV → fwH → Prop} (f : Nat) (i : Nat) (W : Nat → Int) (S : mSt gg (.inr (i + 1, W)) h) (hW : wG W) (h6 : W 6 = (f : Int)) (hf : f < 8) (hK : cutH gg 14 0 i = 8) (k : ∀ q g, mSt gg q g → mFr h g → qThen q (qW2 (cutH gg 14 0)) = qThen (qFolk (cutH gg 14 0) (cutH gg 16 0) f i W) (qW2 (cutH gg 14 0)) → Q none g) : fwCt mX12_readFolk (d + 8) [aR 12 0] h Q := by
  refine fwCt_of [some (aR 12 0), none, none, none] rfl rfl rfl ?_
  obtain ⟨hz1, hz2⟩ := S.1.1
  obtain ⟨hr1, hr2, hr3, hr4, hr5⟩ := mSt_r S
  have hW0 := hW.1
  have hz5 := hW.2.2.2.2.2.2.2.2.2 (7 * f + 5) (by omega) (by omega)
  have hz6 := hW.2.2.2.2.2.2.2.2.2 (7 * f + 6) (by omega) (by omega)
  have hTN := (tk_cut S.1.1).2.1
  have q0 : qWord (cutH gg 14 0) 8 i (fwFu W 6 ((f : Int) + 1)) = .inr (i + 1, fwFu W 6 ((f : Int) + 1)) := qWord_t hK
  refine w_aload_n dX12_readFolk_0 rfl ?_
  refine w_getr 41 0 dX12_readFolk_1 fl_X12_31 rfl (by decide) ?_
  refine w_bipush dX12_readFolk_4 rfl ?_
  refine w_ialdE (v := (f : Int)) dX12_readFolk_6 rfl (by decide) (by omega) (by omega) (by rw [show (6 : Int).toNat = 6 by omega]; exact ((mSt_r S).2.2.2.2 6 (by omega)).trans h6) ?_
  refine w_istore_n [some (aR 12 0), some (aI (f : Int)), none, none] dX12_readFolk_7 rfl (by decide) ?_
  refine w_bipush dX12_readFolk_8 rfl ?_
  refine w_bipush dX12_readFolk_10 rfl ?_
  refine w_iload_n dX12_readFolk_12 rfl ?_
  refine w_imul dX12_readFolk_13 ?_
  refine w_iadd dX12_readFolk_14 ?_
  refine w_istore_n [some (aR 12 0), some (aI (f : Int)), some (aI (19 + (7 * (f : Int)))), none] dX12_readFolk_15 rfl (by decide) ?_
  refine w_aload_n dX12_readFolk_16 rfl ?_
  refine w_ldcS (n := 18) dX12_readFolk_17 rfl ?_
  refine w_callV (d := d + 7) (S := []) [aR 50 18] dX12_readFolk_19 ml_X12_147 ok_X12_needs vi_X12_needs rfl rfl (by decide) rfl (Nat.le_of_ble_eq_true rfl) ?_
  refine c_r_needs (d := (d + 1)) 5 _ _ S (by omega) ⟨?_, ?_⟩
  · intro cw102 g102 S102 F102
    show fwWP mX12_readFolk (d + 8) 22 [some (aR 12 0), some (aI (f : Int)), some (aI (19 + (7 * (f : Int)))), none] [] g102 Q
    refine w_aload_n dX12_readFolk_22 rfl ?_
    refine w_getr 41 0 dX12_readFolk_23 fl_X12_31 rfl (by decide) ?_
    refine w_iload_n dX12_readFolk_26 rfl ?_
    refine w_iconst dX12_readFolk_27 ?_
    refine w_iadd dX12_readFolk_28 ?_
    refine w_aload_n dX12_readFolk_29 rfl ?_
    refine w_iconst dX12_readFolk_30 ?_
    refine w_aload_n dX12_readFolk_31 rfl ?_
    refine w_getr 41 0 dX12_readFolk_32 fl_X12_31 rfl (by decide) ?_
    refine w_iconst dX12_readFolk_35 ?_
    refine w_ialdE (v := W 0) dX12_readFolk_36 rfl (by decide) (by omega) (by omega) (by rw [show (0 : Int).toNat = 0 by omega]; exact (mSt_r S102).2.2.2.2 _ (by omega)) ?_
    refine w_iconst dX12_readFolk_37 ?_
    refine w_isub dX12_readFolk_38 ?_
    refine w_callV (d := d + 7) (S := [aI ((19 + (7 * (f : Int))) + 0), aR 41 0]) [aI 0, aI ((W 0) - 1)] dX12_readFolk_39 ml_X12_151 ok_X12_number vi_X12_number rfl rfl (by decide) rfl (Nat.le_of_ble_eq_true rfl) ?_
    refine c_r_number (d := (d + 5)) 0 ((W 0) - 1) _ _ S102 (by omega) (by omega) ⟨?_, ?_, ?_⟩
    · intro cn105 cv105 g105 S105 F105
      have hvr105 := (tk_cut S.1.1).2.2.2 ((i + 1) + 1) (mSt_r S102).1
      show fwWP mX12_readFolk (d + 8) 42 [some (aR 12 0), some (aI (f : Int)), some (aI (19 + (7 * (f : Int)))), none] [aI (cutH gg 16 0 ((i + 1) + 1)), aI ((19 + (7 * (f : Int))) + 0), aR 41 0] g105 Q
      have G105 := mFr_tr F102 F105
      have q108 : qFact (cutH gg 14 0) (cutH gg 16 0) 9 0 ((fwFu W 6 ((f : Int) + 1)) 0 - 1) (19 + (7 * f + 0)) (i + 1) (fwFu W 6 ((f : Int) + 1)) = .inr (((i + 1) + 1) + 1, fwFu (fwFu W (19 + (7 * f + 0)) (cutH gg 16 0 ((i + 1) + 1))) 6 ((f : Int) + 1)) := (by rw [show (fwFu W 6 ((f : Int) + 1)) 0 = W 0 from fwFu_ne (by omega)]; exact q6_t (by omega) (by omega) cn105 cv105)
      refine w_iast dX12_readFolk_42 rfl (by decide) (ix_lo _ (by decide)) (ix_hi hf _ (by decide)) ?_
      rw [show ((19 + (7 * (f : Int))) + 0 : Int).toNat = (19 + (7 * f + 0)) from (ix_nat f 0)]
      have S111 : mSt gg (.inr ((((i + 1) + 1) + 1), fwFu W (19 + (7 * f + 0)) (cutH gg 16 0 ((i + 1) + 1)))) (fwUp g105 41 0 (19 + (7 * f + 0)) (cutH gg 16 0 ((i + 1) + 1))) := mSt_put S105 (19 + (7 * f + 0)) (cutH gg 16 0 ((i + 1) + 1))
      have F111 := mFr_41 G105 (19 + (7 * f + 0)) (cutH gg 16 0 ((i + 1) + 1))
      generalize fwUp g105 41 0 (19 + (7 * f + 0)) (cutH gg 16 0 ((i + 1) + 1)) = g111 at S111 F111 ⊢
      refine w_aload_n dX12_readFolk_43 rfl ?_
      refine w_getr 41 0 dX12_readFolk_44 fl_X12_31 rfl (by decide) ?_
      refine w_iload_n dX12_readFolk_47 rfl ?_
      refine w_iconst dX12_readFolk_48 ?_
      refine w_iadd dX12_readFolk_49 ?_
      refine w_aload_n dX12_readFolk_50 rfl ?_
      refine w_ldcS (n := 16) dX12_readFolk_51 rfl ?_
      refine w_iconst dX12_readFolk_53 ?_
      refine w_bipush dX12_readFolk_54 rfl ?_
      refine w_callV (d := d + 7) (S := [aI ((19 + (7 * (f : Int))) + 1), aR 41 0]) [aR 50 16, aI 1, aI 99] dX12_readFolk_56 ml_X12_160 ok_X12_told vi_X12_told rfl rfl (by decide) rfl (Nat.le_of_ble_eq_true rfl) ?_
      refine c_r_told (d := d) 3 1 99 _ _ S111 (by omega) (by omega) (by omega) ⟨?_, ?_, ?_, ?_⟩
      · intro cw112 cn112 cv112 g112 S112 F112
        have hvr112 := (tk_cut S.1.1).2.2.2 ((((i + 1) + 1) + 1) + 1) (by have := (mSt_r S112).1; omega)
        show fwWP mX12_readFolk (d + 8) 59 [some (aR 12 0), some (aI (f : Int)), some (aI (19 + (7 * (f : Int)))), none] [aI (cutH gg 16 0 ((((i + 1) + 1) + 1) + 1)), aI ((19 + (7 * (f : Int))) + 1), aR 41 0] g112 Q
        have G112 := mFr_tr F111 F112
        have q116 : qFact (cutH gg 14 0) (cutH gg 16 0) 7 1 99 (19 + (7 * f + 1)) (((i + 1) + 1) + 1) (fwFu (fwFu W (19 + (7 * f + 0)) (cutH gg 16 0 ((i + 1) + 1))) 6 ((f : Int) + 1)) = .inr (((((i + 1) + 1) + 1) + 1) + 1, fwFu (fwFu (fwFu W (19 + (7 * f + 0)) (cutH gg 16 0 ((i + 1) + 1))) (19 + (7 * f + 1)) (cutH gg 16 0 ((((i + 1) + 1) + 1) + 1))) 6 ((f : Int) + 1)) := q6_t (by omega) (by omega) cn112 cv112
        refine w_iast dX12_readFolk_59 rfl (by decide) (ix_lo _ (by decide)) (ix_hi hf _ (by decide)) ?_
        rw [show ((19 + (7 * (f : Int))) + 1 : Int).toNat = (19 + (7 * f + 1)) from (ix_nat f 1)]
        have S120 : mSt gg (.inr ((((((i + 1) + 1) + 1) + 1) + 1), fwFu (fwFu W (19 + (7 * f + 0)) (cutH gg 16 0 ((i + 1) + 1))) (19 + (7 * f + 1)) (cutH gg 16 0 ((((i + 1) + 1) + 1) + 1)))) (fwUp g112 41 0 (19 + (7 * f + 1)) (cutH gg 16 0 ((((i + 1) + 1) + 1) + 1))) := mSt_put S112 (19 + (7 * f + 1)) (cutH gg 16 0 ((((i + 1) + 1) + 1) + 1))
        have F120 := mFr_41 G112 (19 + (7 * f + 1)) (cutH gg 16 0 ((((i + 1) + 1) + 1) + 1))
        generalize fwUp g112 41 0 (19 + (7 * f + 1)) (cutH gg 16 0 ((((i + 1) + 1) + 1) + 1)) = g120 at S120 F120 ⊢
        refine w_aload_n dX12_readFolk_60 rfl ?_
        refine w_getr 41 0 dX12_readFolk_61 fl_X12_31 rfl (by decide) ?_
        refine w_iload_n dX12_readFolk_64 rfl ?_
        refine w_iconst dX12_readFolk_65 ?_
        refine w_iadd dX12_readFolk_66 ?_
        refine w_aload_n dX12_readFolk_67 rfl ?_
        refine w_ldcS (n := 19) dX12_readFolk_68 rfl ?_
        refine w_iconst dX12_readFolk_70 ?_
        refine w_bipush dX12_readFolk_71 rfl ?_
        refine w_callV (d := d + 7) (S := [aI ((19 + (7 * (f : Int))) + 2), aR 41 0]) [aR 50 19, aI 0, aI 9] dX12_readFolk_73 ml_X12_160 ok_X12_told vi_X12_told rfl rfl (by decide) rfl (Nat.le_of_ble_eq_true rfl) ?_
        refine c_r_told (d := d) 6 0 9 _ _ S120 (by omega) (by omega) (by omega) ⟨?_, ?_, ?_, ?_⟩
        · intro cw121 cn121 cv121 g121 S121 F121
          have hvr121 := (tk_cut S.1.1).2.2.2 ((((((i + 1) + 1) + 1) + 1) + 1) + 1) (by have := (mSt_r S121).1; omega)
          show fwWP mX12_readFolk (d + 8) 76 [some (aR 12 0), some (aI (f : Int)), some (aI (19 + (7 * (f : Int)))), none] [aI (cutH gg 16 0 ((((((i + 1) + 1) + 1) + 1) + 1) + 1)), aI ((19 + (7 * (f : Int))) + 2), aR 41 0] g121 Q
          have G121 := mFr_tr F120 F121
          have q125 : qFact (cutH gg 14 0) (cutH gg 16 0) 10 0 9 (19 + (7 * f + 2)) (((((i + 1) + 1) + 1) + 1) + 1) (fwFu (fwFu (fwFu W (19 + (7 * f + 0)) (cutH gg 16 0 ((i + 1) + 1))) (19 + (7 * f + 1)) (cutH gg 16 0 ((((i + 1) + 1) + 1) + 1))) 6 ((f : Int) + 1)) = .inr (((((((i + 1) + 1) + 1) + 1) + 1) + 1) + 1, fwFu (fwFu (fwFu (fwFu W (19 + (7 * f + 0)) (cutH gg 16 0 ((i + 1) + 1))) (19 + (7 * f + 1)) (cutH gg 16 0 ((((i + 1) + 1) + 1) + 1))) (19 + (7 * f + 2)) (cutH gg 16 0 ((((((i + 1) + 1) + 1) + 1) + 1) + 1))) 6 ((f : Int) + 1)) := q6_t (by omega) (by omega) cn121 cv121
          refine w_iast dX12_readFolk_76 rfl (by decide) (ix_lo _ (by decide)) (ix_hi hf _ (by decide)) ?_
          rw [show ((19 + (7 * (f : Int))) + 2 : Int).toNat = (19 + (7 * f + 2)) from (ix_nat f 2)]
          have S129 : mSt gg (.inr ((((((((i + 1) + 1) + 1) + 1) + 1) + 1) + 1), fwFu (fwFu (fwFu W (19 + (7 * f + 0)) (cutH gg 16 0 ((i + 1) + 1))) (19 + (7 * f + 1)) (cutH gg 16 0 ((((i + 1) + 1) + 1) + 1))) (19 + (7 * f + 2)) (cutH gg 16 0 ((((((i + 1) + 1) + 1) + 1) + 1) + 1)))) (fwUp g121 41 0 (19 + (7 * f + 2)) (cutH gg 16 0 ((((((i + 1) + 1) + 1) + 1) + 1) + 1))) := mSt_put S121 (19 + (7 * f + 2)) (cutH gg 16 0 ((((((i + 1) + 1) + 1) + 1) + 1) + 1))
          have F129 := mFr_41 G121 (19 + (7 * f + 2)) (cutH gg 16 0 ((((((i + 1) + 1) + 1) + 1) + 1) + 1))
          generalize fwUp g121 41 0 (19 + (7 * f + 2)) (cutH gg 16 0 ((((((i + 1) + 1) + 1) + 1) + 1) + 1)) = g129 at S129 F129 ⊢
          refine w_aload_n dX12_readFolk_77 rfl ?_
          refine w_getr 41 0 dX12_readFolk_78 fl_X12_31 rfl (by decide) ?_
          refine w_iload_n dX12_readFolk_81 rfl ?_
          refine w_iconst dX12_readFolk_82 ?_
          refine w_iadd dX12_readFolk_83 ?_
          refine w_aload_n dX12_readFolk_84 rfl ?_
          refine w_ldcS (n := 14) dX12_readFolk_85 rfl ?_
          refine w_iconst dX12_readFolk_87 ?_
          refine w_bipush dX12_readFolk_88 rfl ?_
          refine w_callV (d := d + 7) (S := [aI ((19 + (7 * (f : Int))) + 3), aR 41 0]) [aR 50 14, aI 0, aI 9] dX12_readFolk_90 ml_X12_160 ok_X12_told vi_X12_told rfl rfl (by decide) rfl (Nat.le_of_ble_eq_true rfl) ?_
          refine c_r_told (d := d) 1 0 9 _ _ S129 (by omega) (by omega) (by omega) ⟨?_, ?_, ?_, ?_⟩
          · intro cw130 cn130 cv130 g130 S130 F130
            have hvr130 := (tk_cut S.1.1).2.2.2 ((((((((i + 1) + 1) + 1) + 1) + 1) + 1) + 1) + 1) (by have := (mSt_r S130).1; omega)
            show fwWP mX12_readFolk (d + 8) 93 [some (aR 12 0), some (aI (f : Int)), some (aI (19 + (7 * (f : Int)))), none] [aI (cutH gg 16 0 ((((((((i + 1) + 1) + 1) + 1) + 1) + 1) + 1) + 1)), aI ((19 + (7 * (f : Int))) + 3), aR 41 0] g130 Q
            have G130 := mFr_tr F129 F130
            have q134 : qFact (cutH gg 14 0) (cutH gg 16 0) 5 0 9 (19 + (7 * f + 3)) (((((((i + 1) + 1) + 1) + 1) + 1) + 1) + 1) (fwFu (fwFu (fwFu (fwFu W (19 + (7 * f + 0)) (cutH gg 16 0 ((i + 1) + 1))) (19 + (7 * f + 1)) (cutH gg 16 0 ((((i + 1) + 1) + 1) + 1))) (19 + (7 * f + 2)) (cutH gg 16 0 ((((((i + 1) + 1) + 1) + 1) + 1) + 1))) 6 ((f : Int) + 1)) = .inr (((((((((i + 1) + 1) + 1) + 1) + 1) + 1) + 1) + 1) + 1, fwFu (fwFu (fwFu (fwFu (fwFu W (19 + (7 * f + 0)) (cutH gg 16 0 ((i + 1) + 1))) (19 + (7 * f + 1)) (cutH gg 16 0 ((((i + 1) + 1) + 1) + 1))) (19 + (7 * f + 2)) (cutH gg 16 0 ((((((i + 1) + 1) + 1) + 1) + 1) + 1))) (19 + (7 * f + 3)) (cutH gg 16 0 ((((((((i + 1) + 1) + 1) + 1) + 1) + 1) + 1) + 1))) 6 ((f : Int) + 1)) := q6_t (by omega) (by omega) cn130 cv130
            refine w_iast dX12_readFolk_93 rfl (by decide) (ix_lo _ (by decide)) (ix_hi hf _ (by decide)) ?_
            rw [show ((19 + (7 * (f : Int))) + 3 : Int).toNat = (19 + (7 * f + 3)) from (ix_nat f 3)]
            have S138 : mSt gg (.inr ((((((((((i + 1) + 1) + 1) + 1) + 1) + 1) + 1) + 1) + 1), fwFu (fwFu (fwFu (fwFu W (19 + (7 * f + 0)) (cutH gg 16 0 ((i + 1) + 1))) (19 + (7 * f + 1)) (cutH gg 16 0 ((((i + 1) + 1) + 1) + 1))) (19 + (7 * f + 2)) (cutH gg 16 0 ((((((i + 1) + 1) + 1) + 1) + 1) + 1))) (19 + (7 * f + 3)) (cutH gg 16 0 ((((((((i + 1) + 1) + 1) + 1) + 1) + 1) + 1) + 1)))) (fwUp g130 41 0 (19 + (7 * f + 3)) (cutH gg 16 0 ((((((((i + 1) + 1) + 1) + 1) + 1) + 1) + 1) + 1))) := mSt_put S130 (19 + (7 * f + 3)) (cutH gg 16 0 ((((((((i + 1) + 1) + 1) + 1) + 1) + 1) + 1) + 1))
            have F138 := mFr_41 G130 (19 + (7 * f + 3)) (cutH gg 16 0 ((((((((i + 1) + 1) + 1) + 1) + 1) + 1) + 1) + 1))
            generalize fwUp g130 41 0 (19 + (7 * f + 3)) (cutH gg 16 0 ((((((((i + 1) + 1) + 1) + 1) + 1) + 1) + 1) + 1)) = g138 at S138 F138 ⊢
            refine w_aload_n dX12_readFolk_94 rfl ?_
            refine w_getr 41 0 dX12_readFolk_95 fl_X12_31 rfl (by decide) ?_
            refine w_iload_n dX12_readFolk_98 rfl ?_
            refine w_iconst dX12_readFolk_99 ?_
            refine w_iadd dX12_readFolk_100 ?_
            refine w_aload_n dX12_readFolk_101 rfl ?_
            refine w_ldcS (n := 20) dX12_readFolk_102 rfl ?_
            refine w_iconst dX12_readFolk_104 ?_
            refine w_bipush dX12_readFolk_105 rfl ?_
            refine w_callV (d := d + 7) (S := [aI ((19 + (7 * (f : Int))) + 4), aR 41 0]) [aR 50 20, aI 0, aI 9] dX12_readFolk_107 ml_X12_160 ok_X12_told vi_X12_told rfl rfl (by decide) rfl (Nat.le_of_ble_eq_true rfl) ?_
            refine c_r_told (d := d) 7 0 9 _ _ S138 (by omega) (by omega) (by omega) ⟨?_, ?_, ?_, ?_⟩
            · intro cw139 cn139 cv139 g139 S139 F139
              have hvr139 := (tk_cut S.1.1).2.2.2 ((((((((((i + 1) + 1) + 1) + 1) + 1) + 1) + 1) + 1) + 1) + 1) (by have := (mSt_r S139).1; omega)
              show fwWP mX12_readFolk (d + 8) 110 [some (aR 12 0), some (aI (f : Int)), some (aI (19 + (7 * (f : Int)))), none] [aI (cutH gg 16 0 ((((((((((i + 1) + 1) + 1) + 1) + 1) + 1) + 1) + 1) + 1) + 1)), aI ((19 + (7 * (f : Int))) + 4), aR 41 0] g139 Q
              have G139 := mFr_tr F138 F139
              have q143 : qFact (cutH gg 14 0) (cutH gg 16 0) 11 0 9 (19 + (7 * f + 4)) (((((((((i + 1) + 1) + 1) + 1) + 1) + 1) + 1) + 1) + 1) (fwFu (fwFu (fwFu (fwFu (fwFu W (19 + (7 * f + 0)) (cutH gg 16 0 ((i + 1) + 1))) (19 + (7 * f + 1)) (cutH gg 16 0 ((((i + 1) + 1) + 1) + 1))) (19 + (7 * f + 2)) (cutH gg 16 0 ((((((i + 1) + 1) + 1) + 1) + 1) + 1))) (19 + (7 * f + 3)) (cutH gg 16 0 ((((((((i + 1) + 1) + 1) + 1) + 1) + 1) + 1) + 1))) 6 ((f : Int) + 1)) = .inr (((((((((((i + 1) + 1) + 1) + 1) + 1) + 1) + 1) + 1) + 1) + 1) + 1, fwFu (fwFu (fwFu (fwFu (fwFu (fwFu W (19 + (7 * f + 0)) (cutH gg 16 0 ((i + 1) + 1))) (19 + (7 * f + 1)) (cutH gg 16 0 ((((i + 1) + 1) + 1) + 1))) (19 + (7 * f + 2)) (cutH gg 16 0 ((((((i + 1) + 1) + 1) + 1) + 1) + 1))) (19 + (7 * f + 3)) (cutH gg 16 0 ((((((((i + 1) + 1) + 1) + 1) + 1) + 1) + 1) + 1))) (19 + (7 * f + 4)) (cutH gg 16 0 ((((((((((i + 1) + 1) + 1) + 1) + 1) + 1) + 1) + 1) + 1) + 1))) 6 ((f : Int) + 1)) := q6_t (by omega) (by omega) cn139 cv139
              refine w_iast dX12_readFolk_110 rfl (by decide) (ix_lo _ (by decide)) (ix_hi hf _ (by decide)) ?_
              rw [show ((19 + (7 * (f : Int))) + 4 : Int).toNat = (19 + (7 * f + 4)) from (ix_nat f 4)]
              have S147 : mSt gg (.inr ((((((((((((i + 1) + 1) + 1) + 1) + 1) + 1) + 1) + 1) + 1) + 1) + 1), fwFu (fwFu (fwFu (fwFu (fwFu W (19 + (7 * f + 0)) (cutH gg 16 0 ((i + 1) + 1))) (19 + (7 * f + 1)) (cutH gg 16 0 ((((i + 1) + 1) + 1) + 1))) (19 + (7 * f + 2)) (cutH gg 16 0 ((((((i + 1) + 1) + 1) + 1) + 1) + 1))) (19 + (7 * f + 3)) (cutH gg 16 0 ((((((((i + 1) + 1) + 1) + 1) + 1) + 1) + 1) + 1))) (19 + (7 * f + 4)) (cutH gg 16 0 ((((((((((i + 1) + 1) + 1) + 1) + 1) + 1) + 1) + 1) + 1) + 1)))) (fwUp g139 41 0 (19 + (7 * f + 4)) (cutH gg 16 0 ((((((((((i + 1) + 1) + 1) + 1) + 1) + 1) + 1) + 1) + 1) + 1))) := mSt_put S139 (19 + (7 * f + 4)) (cutH gg 16 0 ((((((((((i + 1) + 1) + 1) + 1) + 1) + 1) + 1) + 1) + 1) + 1))
              have F147 := mFr_41 G139 (19 + (7 * f + 4)) (cutH gg 16 0 ((((((((((i + 1) + 1) + 1) + 1) + 1) + 1) + 1) + 1) + 1) + 1))
              generalize fwUp g139 41 0 (19 + (7 * f + 4)) (cutH gg 16 0 ((((((((((i + 1) + 1) + 1) + 1) + 1) + 1) + 1) + 1) + 1) + 1)) = g147 at S147 F147 ⊢
              refine w_aload_n dX12_readFolk_111 rfl ?_
              refine w_getr 41 0 dX12_readFolk_112 fl_X12_31 rfl (by decide) ?_
              refine w_iload_n dX12_readFolk_115 rfl ?_
              refine w_iconst dX12_readFolk_116 ?_
              refine w_iadd dX12_readFolk_117 ?_
              refine w_iconst dX12_readFolk_118 ?_
              refine w_iast dX12_readFolk_119 rfl (by decide) (ix_lo _ (by decide)) (ix_hi hf _ (by decide)) ?_
              rw [show ((19 + (7 * (f : Int))) + 5 : Int).toNat = (19 + (7 * f + 5)) from (ix_nat f 5)]
              have z148 : (fwFu (fwFu (fwFu (fwFu (fwFu W (19 + (7 * f + 0)) (cutH gg 16 0 ((i + 1) + 1))) (19 + (7 * f + 1)) (cutH gg 16 0 ((((i + 1) + 1) + 1) + 1))) (19 + (7 * f + 2)) (cutH gg 16 0 ((((((i + 1) + 1) + 1) + 1) + 1) + 1))) (19 + (7 * f + 3)) (cutH gg 16 0 ((((((((i + 1) + 1) + 1) + 1) + 1) + 1) + 1) + 1))) (19 + (7 * f + 4)) (cutH gg 16 0 ((((((((((i + 1) + 1) + 1) + 1) + 1) + 1) + 1) + 1) + 1) + 1))) (19 + (7 * f + 5)) = 0 := ((fwFu_ne (by omega)).trans ((fwFu_ne (by omega)).trans ((fwFu_ne (by omega)).trans ((fwFu_ne (by omega)).trans ((fwFu_ne (by omega)).trans (hz5))))))
              have S148 : mSt gg (.inr ((((((((((((i + 1) + 1) + 1) + 1) + 1) + 1) + 1) + 1) + 1) + 1) + 1), (fwFu (fwFu (fwFu (fwFu (fwFu W (19 + (7 * f + 0)) (cutH gg 16 0 ((i + 1) + 1))) (19 + (7 * f + 1)) (cutH gg 16 0 ((((i + 1) + 1) + 1) + 1))) (19 + (7 * f + 2)) (cutH gg 16 0 ((((((i + 1) + 1) + 1) + 1) + 1) + 1))) (19 + (7 * f + 3)) (cutH gg 16 0 ((((((((i + 1) + 1) + 1) + 1) + 1) + 1) + 1) + 1))) (19 + (7 * f + 4)) (cutH gg 16 0 ((((((((((i + 1) + 1) + 1) + 1) + 1) + 1) + 1) + 1) + 1) + 1))))) (fwUp g147 41 0 (19 + (7 * f + 5)) 0) := mSt_eq (mSt_put S147 (19 + (7 * f + 5)) 0) (by rw [qPut]; show Sum.inr (_, (fwFu (fwFu (fwFu (fwFu (fwFu W (19 + (7 * f + 0)) (cutH gg 16 0 ((i + 1) + 1))) (19 + (7 * f + 1)) (cutH gg 16 0 ((((i + 1) + 1) + 1) + 1))) (19 + (7 * f + 2)) (cutH gg 16 0 ((((((i + 1) + 1) + 1) + 1) + 1) + 1))) (19 + (7 * f + 3)) (cutH gg 16 0 ((((((((i + 1) + 1) + 1) + 1) + 1) + 1) + 1) + 1))) (19 + (7 * f + 4)) (cutH gg 16 0 ((((((((((i + 1) + 1) + 1) + 1) + 1) + 1) + 1) + 1) + 1) + 1)))) = Sum.inr (_, fwFu (fwFu (fwFu (fwFu (fwFu (fwFu W (19 + (7 * f + 0)) (cutH gg 16 0 ((i + 1) + 1))) (19 + (7 * f + 1)) (cutH gg 16 0 ((((i + 1) + 1) + 1) + 1))) (19 + (7 * f + 2)) (cutH gg 16 0 ((((((i + 1) + 1) + 1) + 1) + 1) + 1))) (19 + (7 * f + 3)) (cutH gg 16 0 ((((((((i + 1) + 1) + 1) + 1) + 1) + 1) + 1) + 1))) (19 + (7 * f + 4)) (cutH gg 16 0 ((((((((((i + 1) + 1) + 1) + 1) + 1) + 1) + 1) + 1) + 1) + 1))) (19 + (7 * f + 5)) 0); rw [fwFu_id (g := (fwFu (fwFu (fwFu (fwFu (fwFu W (19 + (7 * f + 0)) (cutH gg 16 0 ((i + 1) + 1))) (19 + (7 * f + 1)) (cutH gg 16 0 ((((i + 1) + 1) + 1) + 1))) (19 + (7 * f + 2)) (cutH gg 16 0 ((((((i + 1) + 1) + 1) + 1) + 1) + 1))) (19 + (7 * f + 3)) (cutH gg 16 0 ((((((((i + 1) + 1) + 1) + 1) + 1) + 1) + 1) + 1))) (19 + (7 * f + 4)) (cutH gg 16 0 ((((((((((i + 1) + 1) + 1) + 1) + 1) + 1) + 1) + 1) + 1) + 1)))) (j := (19 + (7 * f + 5))) (x := 0) z148])
              have F148 := mFr_41 F147 (19 + (7 * f + 5)) 0
              generalize fwUp g147 41 0 (19 + (7 * f + 5)) 0 = g148 at S148 F148 ⊢
              refine w_aload_n dX12_readFolk_120 rfl ?_
              refine w_getr 41 0 dX12_readFolk_121 fl_X12_31 rfl (by decide) ?_
              refine w_iload_n dX12_readFolk_124 rfl ?_
              refine w_bipush dX12_readFolk_125 rfl ?_
              refine w_iadd dX12_readFolk_127 ?_
              refine w_iconst dX12_readFolk_128 ?_
              refine w_iast dX12_readFolk_129 rfl (by decide) (ix_lo _ (by decide)) (ix_hi hf _ (by decide)) ?_
              rw [show ((19 + (7 * (f : Int))) + 6 : Int).toNat = (19 + (7 * f + 6)) from (ix_nat f 6)]
              have z149 : (fwFu (fwFu (fwFu (fwFu (fwFu W (19 + (7 * f + 0)) (cutH gg 16 0 ((i + 1) + 1))) (19 + (7 * f + 1)) (cutH gg 16 0 ((((i + 1) + 1) + 1) + 1))) (19 + (7 * f + 2)) (cutH gg 16 0 ((((((i + 1) + 1) + 1) + 1) + 1) + 1))) (19 + (7 * f + 3)) (cutH gg 16 0 ((((((((i + 1) + 1) + 1) + 1) + 1) + 1) + 1) + 1))) (19 + (7 * f + 4)) (cutH gg 16 0 ((((((((((i + 1) + 1) + 1) + 1) + 1) + 1) + 1) + 1) + 1) + 1))) (19 + (7 * f + 6)) = 0 := ((fwFu_ne (by omega)).trans ((fwFu_ne (by omega)).trans ((fwFu_ne (by omega)).trans ((fwFu_ne (by omega)).trans ((fwFu_ne (by omega)).trans (hz6))))))
              have S149 : mSt gg (.inr ((((((((((((i + 1) + 1) + 1) + 1) + 1) + 1) + 1) + 1) + 1) + 1) + 1), (fwFu (fwFu (fwFu (fwFu (fwFu W (19 + (7 * f + 0)) (cutH gg 16 0 ((i + 1) + 1))) (19 + (7 * f + 1)) (cutH gg 16 0 ((((i + 1) + 1) + 1) + 1))) (19 + (7 * f + 2)) (cutH gg 16 0 ((((((i + 1) + 1) + 1) + 1) + 1) + 1))) (19 + (7 * f + 3)) (cutH gg 16 0 ((((((((i + 1) + 1) + 1) + 1) + 1) + 1) + 1) + 1))) (19 + (7 * f + 4)) (cutH gg 16 0 ((((((((((i + 1) + 1) + 1) + 1) + 1) + 1) + 1) + 1) + 1) + 1))))) (fwUp g148 41 0 (19 + (7 * f + 6)) 0) := mSt_eq (mSt_put S148 (19 + (7 * f + 6)) 0) (by rw [qPut]; show Sum.inr (_, (fwFu (fwFu (fwFu (fwFu (fwFu W (19 + (7 * f + 0)) (cutH gg 16 0 ((i + 1) + 1))) (19 + (7 * f + 1)) (cutH gg 16 0 ((((i + 1) + 1) + 1) + 1))) (19 + (7 * f + 2)) (cutH gg 16 0 ((((((i + 1) + 1) + 1) + 1) + 1) + 1))) (19 + (7 * f + 3)) (cutH gg 16 0 ((((((((i + 1) + 1) + 1) + 1) + 1) + 1) + 1) + 1))) (19 + (7 * f + 4)) (cutH gg 16 0 ((((((((((i + 1) + 1) + 1) + 1) + 1) + 1) + 1) + 1) + 1) + 1)))) = Sum.inr (_, fwFu (fwFu (fwFu (fwFu (fwFu (fwFu W (19 + (7 * f + 0)) (cutH gg 16 0 ((i + 1) + 1))) (19 + (7 * f + 1)) (cutH gg 16 0 ((((i + 1) + 1) + 1) + 1))) (19 + (7 * f + 2)) (cutH gg 16 0 ((((((i + 1) + 1) + 1) + 1) + 1) + 1))) (19 + (7 * f + 3)) (cutH gg 16 0 ((((((((i + 1) + 1) + 1) + 1) + 1) + 1) + 1) + 1))) (19 + (7 * f + 4)) (cutH gg 16 0 ((((((((((i + 1) + 1) + 1) + 1) + 1) + 1) + 1) + 1) + 1) + 1))) (19 + (7 * f + 6)) 0); rw [fwFu_id (g := (fwFu (fwFu (fwFu (fwFu (fwFu W (19 + (7 * f + 0)) (cutH gg 16 0 ((i + 1) + 1))) (19 + (7 * f + 1)) (cutH gg 16 0 ((((i + 1) + 1) + 1) + 1))) (19 + (7 * f + 2)) (cutH gg 16 0 ((((((i + 1) + 1) + 1) + 1) + 1) + 1))) (19 + (7 * f + 3)) (cutH gg 16 0 ((((((((i + 1) + 1) + 1) + 1) + 1) + 1) + 1) + 1))) (19 + (7 * f + 4)) (cutH gg 16 0 ((((((((((i + 1) + 1) + 1) + 1) + 1) + 1) + 1) + 1) + 1) + 1)))) (j := (19 + (7 * f + 6))) (x := 0) z149])
              have F149 := mFr_41 F148 (19 + (7 * f + 6)) 0
              generalize fwUp g148 41 0 (19 + (7 * f + 6)) 0 = g149 at S149 F149 ⊢
              refine w_aload_n dX12_readFolk_130 rfl ?_
              refine w_ldcS (n := 21) dX12_readFolk_131 rfl ?_
              refine w_callV (d := d + 7) (S := []) [aR 50 21] dX12_readFolk_133 ml_X12_140 ok_X12_takes vi_X12_takes rfl rfl (by decide) rfl (Nat.le_of_ble_eq_true rfl) ?_
              refine c_r_takes (d := (d + 2)) 8 _ _ S149 (by omega) ⟨?_, ?_⟩
              · intro cw150 g150 S150 F150
                show fwWP mX12_readFolk (d + 8) 136 [some (aR 12 0), some (aI (f : Int)), some (aI (19 + (7 * (f : Int)))), none] [aI 1] g150 Q
                have G150 := mFr_tr F149 F150
                have q151 : (cutH gg 14 0) (((((((((((i + 1) + 1) + 1) + 1) + 1) + 1) + 1) + 1) + 1) + 1) + 1) = 12 := by omega
                refine w_if_eq 221 dX12_readFolk_136 (by decide) (by omega) (fun c136 => ?_) (fun c136 => ?_)
                · (exfalso; omega)
                · refine w_aload_n dX12_readFolk_139 rfl ?_
                  refine w_getr 41 0 dX12_readFolk_140 fl_X12_31 rfl (by decide) ?_
                  refine w_iload_n dX12_readFolk_143 rfl ?_
                  refine w_iconst dX12_readFolk_144 ?_
                  refine w_iadd dX12_readFolk_145 ?_
                  refine w_aload_n dX12_readFolk_146 rfl ?_
                  refine w_iconst dX12_readFolk_147 ?_
                  refine w_bipush dX12_readFolk_148 rfl ?_
                  refine w_callV (d := d + 7) (S := [aI ((19 + (7 * (f : Int))) + 5), aR 41 0]) [aI 1, aI 7] dX12_readFolk_150 ml_X12_151 ok_X12_number vi_X12_number rfl rfl (by decide) rfl (Nat.le_of_ble_eq_true rfl) ?_
                  refine c_r_number (d := (d + 5)) 1 7 _ _ S150 (by omega) (by omega) ⟨?_, ?_, ?_⟩
                  · intro cn152 cv152 g152 S152 F152
                    have hvr152 := (tk_cut S.1.1).2.2.2 ((((((((((((i + 1) + 1) + 1) + 1) + 1) + 1) + 1) + 1) + 1) + 1) + 1) + 1) (mSt_r S150).1
                    show fwWP mX12_readFolk (d + 8) 153 [some (aR 12 0), some (aI (f : Int)), some (aI (19 + (7 * (f : Int)))), none] [aI (cutH gg 16 0 ((((((((((((i + 1) + 1) + 1) + 1) + 1) + 1) + 1) + 1) + 1) + 1) + 1) + 1)), aI ((19 + (7 * (f : Int))) + 5), aR 41 0] g152 Q
                    have G152 := mFr_tr G150 F152
                    have q155 : qFact (cutH gg 14 0) (cutH gg 16 0) 12 1 7 (19 + (7 * f + 5)) (((((((((((i + 1) + 1) + 1) + 1) + 1) + 1) + 1) + 1) + 1) + 1) + 1) (fwFu (fwFu (fwFu (fwFu (fwFu (fwFu W (19 + (7 * f + 0)) (cutH gg 16 0 ((i + 1) + 1))) (19 + (7 * f + 1)) (cutH gg 16 0 ((((i + 1) + 1) + 1) + 1))) (19 + (7 * f + 2)) (cutH gg 16 0 ((((((i + 1) + 1) + 1) + 1) + 1) + 1))) (19 + (7 * f + 3)) (cutH gg 16 0 ((((((((i + 1) + 1) + 1) + 1) + 1) + 1) + 1) + 1))) (19 + (7 * f + 4)) (cutH gg 16 0 ((((((((((i + 1) + 1) + 1) + 1) + 1) + 1) + 1) + 1) + 1) + 1))) 6 ((f : Int) + 1)) = .inr (((((((((((((i + 1) + 1) + 1) + 1) + 1) + 1) + 1) + 1) + 1) + 1) + 1) + 1) + 1, fwFu (fwFu (fwFu (fwFu (fwFu (fwFu (fwFu W (19 + (7 * f + 0)) (cutH gg 16 0 ((i + 1) + 1))) (19 + (7 * f + 1)) (cutH gg 16 0 ((((i + 1) + 1) + 1) + 1))) (19 + (7 * f + 2)) (cutH gg 16 0 ((((((i + 1) + 1) + 1) + 1) + 1) + 1))) (19 + (7 * f + 3)) (cutH gg 16 0 ((((((((i + 1) + 1) + 1) + 1) + 1) + 1) + 1) + 1))) (19 + (7 * f + 4)) (cutH gg 16 0 ((((((((((i + 1) + 1) + 1) + 1) + 1) + 1) + 1) + 1) + 1) + 1))) (19 + (7 * f + 5)) (cutH gg 16 0 ((((((((((((i + 1) + 1) + 1) + 1) + 1) + 1) + 1) + 1) + 1) + 1) + 1) + 1))) 6 ((f : Int) + 1)) := (by exact q6_t (by omega) (by omega) cn152 cv152)
                    refine w_iast dX12_readFolk_153 rfl (by decide) (ix_lo _ (by decide)) (ix_hi hf _ (by decide)) ?_
                    rw [show ((19 + (7 * (f : Int))) + 5 : Int).toNat = (19 + (7 * f + 5)) from (ix_nat f 5)]
                    have S158 : mSt gg (.inr ((((((((((((((i + 1) + 1) + 1) + 1) + 1) + 1) + 1) + 1) + 1) + 1) + 1) + 1) + 1), fwFu (fwFu (fwFu (fwFu (fwFu (fwFu W (19 + (7 * f + 0)) (cutH gg 16 0 ((i + 1) + 1))) (19 + (7 * f + 1)) (cutH gg 16 0 ((((i + 1) + 1) + 1) + 1))) (19 + (7 * f + 2)) (cutH gg 16 0 ((((((i + 1) + 1) + 1) + 1) + 1) + 1))) (19 + (7 * f + 3)) (cutH gg 16 0 ((((((((i + 1) + 1) + 1) + 1) + 1) + 1) + 1) + 1))) (19 + (7 * f + 4)) (cutH gg 16 0 ((((((((((i + 1) + 1) + 1) + 1) + 1) + 1) + 1) + 1) + 1) + 1))) (19 + (7 * f + 5)) (cutH gg 16 0 ((((((((((((i + 1) + 1) + 1) + 1) + 1) + 1) + 1) + 1) + 1) + 1) + 1) + 1)))) (fwUp g152 41 0 (19 + (7 * f + 5)) (cutH gg 16 0 ((((((((((((i + 1) + 1) + 1) + 1) + 1) + 1) + 1) + 1) + 1) + 1) + 1) + 1))) := mSt_put S152 (19 + (7 * f + 5)) (cutH gg 16 0 ((((((((((((i + 1) + 1) + 1) + 1) + 1) + 1) + 1) + 1) + 1) + 1) + 1) + 1))
                    have F158 := mFr_41 G152 (19 + (7 * f + 5)) (cutH gg 16 0 ((((((((((((i + 1) + 1) + 1) + 1) + 1) + 1) + 1) + 1) + 1) + 1) + 1) + 1))
                    generalize fwUp g152 41 0 (19 + (7 * f + 5)) (cutH gg 16 0 ((((((((((((i + 1) + 1) + 1) + 1) + 1) + 1) + 1) + 1) + 1) + 1) + 1) + 1)) = g158 at S158 F158 ⊢
                    refine w_aload_n dX12_readFolk_154 rfl ?_
                    refine w_ldcS (n := 22) dX12_readFolk_155 rfl ?_
                    refine w_callV (d := d + 7) (S := []) [aR 50 22] dX12_readFolk_157 ml_X12_147 ok_X12_needs vi_X12_needs rfl rfl (by decide) rfl (Nat.le_of_ble_eq_true rfl) ?_
                    refine c_r_needs (d := (d + 1)) 9 _ _ S158 (by omega) ⟨?_, ?_⟩
                    · intro cw159 g159 S159 F159
                      show fwWP mX12_readFolk (d + 8) 160 [some (aR 12 0), some (aI (f : Int)), some (aI (19 + (7 * (f : Int)))), none] [] g159 Q
                      have G159 := mFr_tr F158 F159
                      have q161 : qWord (cutH gg 14 0) 13 (((((((((((((i + 1) + 1) + 1) + 1) + 1) + 1) + 1) + 1) + 1) + 1) + 1) + 1) + 1) (fwFu (fwFu (fwFu (fwFu (fwFu (fwFu (fwFu W (19 + (7 * f + 0)) (cutH gg 16 0 ((i + 1) + 1))) (19 + (7 * f + 1)) (cutH gg 16 0 ((((i + 1) + 1) + 1) + 1))) (19 + (7 * f + 2)) (cutH gg 16 0 ((((((i + 1) + 1) + 1) + 1) + 1) + 1))) (19 + (7 * f + 3)) (cutH gg 16 0 ((((((((i + 1) + 1) + 1) + 1) + 1) + 1) + 1) + 1))) (19 + (7 * f + 4)) (cutH gg 16 0 ((((((((((i + 1) + 1) + 1) + 1) + 1) + 1) + 1) + 1) + 1) + 1))) (19 + (7 * f + 5)) (cutH gg 16 0 ((((((((((((i + 1) + 1) + 1) + 1) + 1) + 1) + 1) + 1) + 1) + 1) + 1) + 1))) 6 ((f : Int) + 1)) = .inr ((((((((((((((i + 1) + 1) + 1) + 1) + 1) + 1) + 1) + 1) + 1) + 1) + 1) + 1) + 1) + 1, (fwFu (fwFu (fwFu (fwFu (fwFu (fwFu (fwFu W (19 + (7 * f + 0)) (cutH gg 16 0 ((i + 1) + 1))) (19 + (7 * f + 1)) (cutH gg 16 0 ((((i + 1) + 1) + 1) + 1))) (19 + (7 * f + 2)) (cutH gg 16 0 ((((((i + 1) + 1) + 1) + 1) + 1) + 1))) (19 + (7 * f + 3)) (cutH gg 16 0 ((((((((i + 1) + 1) + 1) + 1) + 1) + 1) + 1) + 1))) (19 + (7 * f + 4)) (cutH gg 16 0 ((((((((((i + 1) + 1) + 1) + 1) + 1) + 1) + 1) + 1) + 1) + 1))) (19 + (7 * f + 5)) (cutH gg 16 0 ((((((((((((i + 1) + 1) + 1) + 1) + 1) + 1) + 1) + 1) + 1) + 1) + 1) + 1))) 6 ((f : Int) + 1))) := qWord_t (by omega)
                      exact lp_readFolk f i W S hf ((((((((((((((i + 1) + 1) + 1) + 1) + 1) + 1) + 1) + 1) + 1) + 1) + 1) + 1) + 1) + 1) k 0 (by omega) _ _ S159 G159 ((fwFu_ne (by omega)).trans ((fwFu_ne (by omega)).trans ((fwFu_ne (by omega)).trans ((fwFu_ne (by omega)).trans ((fwFu_ne (by omega)).trans ((fwFu_ne (by omega)).trans (h6))))))) (by rw [qFolk, if_neg (show ¬ 8 ≤ f by omega), qThen_r q0, qThen_r q108, qThen_r q116, qThen_r q125, qThen_r q134, qThen_r q143, if_pos q151, qTalk, qThen_r q155, qThen_r q161]; rfl)
                    · intro cw159 g160 S160 F160
                      show fwWP mX12_readFolk (d + 8) 160 [some (aR 12 0), some (aI (f : Int)), some (aI (19 + (7 * (f : Int)))), none] [] g160 Q
                      have G160 := mFr_tr F158 F160
                      have q162 : qWord (cutH gg 14 0) 13 (((((((((((((i + 1) + 1) + 1) + 1) + 1) + 1) + 1) + 1) + 1) + 1) + 1) + 1) + 1) (fwFu (fwFu (fwFu (fwFu (fwFu (fwFu (fwFu W (19 + (7 * f + 0)) (cutH gg 16 0 ((i + 1) + 1))) (19 + (7 * f + 1)) (cutH gg 16 0 ((((i + 1) + 1) + 1) + 1))) (19 + (7 * f + 2)) (cutH gg 16 0 ((((((i + 1) + 1) + 1) + 1) + 1) + 1))) (19 + (7 * f + 3)) (cutH gg 16 0 ((((((((i + 1) + 1) + 1) + 1) + 1) + 1) + 1) + 1))) (19 + (7 * f + 4)) (cutH gg 16 0 ((((((((((i + 1) + 1) + 1) + 1) + 1) + 1) + 1) + 1) + 1) + 1))) (19 + (7 * f + 5)) (cutH gg 16 0 ((((((((((((i + 1) + 1) + 1) + 1) + 1) + 1) + 1) + 1) + 1) + 1) + 1) + 1))) 6 ((f : Int) + 1)) = .inl (1, (((((((((((((i + 1) + 1) + 1) + 1) + 1) + 1) + 1) + 1) + 1) + 1) + 1) + 1) + 1)) := qWord_f (by omega)
                      refine w_aload_n dX12_readFolk_160 rfl ?_
                      refine w_iconst dX12_readFolk_161 ?_
                      refine w_iload_n dX12_readFolk_162 rfl ?_
                      refine w_iconst dX12_readFolk_163 ?_
                      refine w_isub dX12_readFolk_164 ?_
                      refine w_callV (d := d + 7) (S := []) [aI 0, aI ((f : Int) - 1)] dX12_readFolk_165 ml_X12_151 ok_X12_number vi_X12_number rfl rfl (by decide) rfl (Nat.le_of_ble_eq_true rfl) ?_
                      refine c_f_number (d := (d + 5)) 0 ((f : Int) - 1) _ S160 ?_
                      show fwWP mX12_readFolk (d + 8) 168 [some (aR 12 0), some (aI (f : Int)), some (aI (19 + (7 * (f : Int)))), none] [aI 0] g160 Q
                      refine w_istore_n [some (aR 12 0), some (aI (f : Int)), some (aI (19 + (7 * (f : Int)))), some (aI 0)] dX12_readFolk_168 rfl (by decide) ?_
                      refine w_aload_n dX12_readFolk_169 rfl ?_
                      refine w_callV (d := d + 7) (S := []) [] dX12_readFolk_170 ml_X12_121 ok_X12_good vi_X12_good rfl rfl (by decide) rfl (Nat.le_of_ble_eq_true rfl) ?_
                      refine c_f_good (d := (d + 7)) _ S160 ?_
                      show fwWP mX12_readFolk (d + 8) 173 [some (aR 12 0), some (aI (f : Int)), some (aI (19 + (7 * (f : Int)))), some (aI 0)] [aI 0] g160 Q
                      refine w_if_ne 177 dX12_readFolk_173 (by decide) (by omega) (fun c173 => ?_) (fun c173 => ?_)
                      · (exfalso; omega)
                      · exact w_vret dX12_readFolk_176 rfl (k _ _ S160 G160 (by rw [qFolk, if_neg (show ¬ 8 ≤ f by omega), qThen_r q0, qThen_r q108, qThen_r q116, qThen_r q125, qThen_r q134, qThen_r q143, if_pos q151, qTalk, qThen_r q155, qThen_l q162]))
                  · intro cn152 cv152 g153 S153 F153
                    show fwWP mX12_readFolk (d + 8) 153 [some (aR 12 0), some (aI (f : Int)), some (aI (19 + (7 * (f : Int)))), none] [aI 0, aI ((19 + (7 * (f : Int))) + 5), aR 41 0] g153 Q
                    have G153 := mFr_tr G150 F153
                    have q156 : qFact (cutH gg 14 0) (cutH gg 16 0) 12 1 7 (19 + (7 * f + 5)) (((((((((((i + 1) + 1) + 1) + 1) + 1) + 1) + 1) + 1) + 1) + 1) + 1) (fwFu (fwFu (fwFu (fwFu (fwFu (fwFu W (19 + (7 * f + 0)) (cutH gg 16 0 ((i + 1) + 1))) (19 + (7 * f + 1)) (cutH gg 16 0 ((((i + 1) + 1) + 1) + 1))) (19 + (7 * f + 2)) (cutH gg 16 0 ((((((i + 1) + 1) + 1) + 1) + 1) + 1))) (19 + (7 * f + 3)) (cutH gg 16 0 ((((((((i + 1) + 1) + 1) + 1) + 1) + 1) + 1) + 1))) (19 + (7 * f + 4)) (cutH gg 16 0 ((((((((((i + 1) + 1) + 1) + 1) + 1) + 1) + 1) + 1) + 1) + 1))) 6 ((f : Int) + 1)) = .inl (2, ((((((((((((i + 1) + 1) + 1) + 1) + 1) + 1) + 1) + 1) + 1) + 1) + 1) + 1)) := (by exact qFact_2 (by omega) cn152 cv152)
                    refine w_iast dX12_readFolk_153 rfl (by decide) (ix_lo _ (by decide)) (ix_hi hf _ (by decide)) ?_
                    rw [show ((19 + (7 * (f : Int))) + 5 : Int).toNat = (19 + (7 * f + 5)) from (ix_nat f 5)]
                    have S169 : mSt gg (.inl ((2 : Int), ((((((((((((i + 1) + 1) + 1) + 1) + 1) + 1) + 1) + 1) + 1) + 1) + 1) + 1))) (fwUp g153 41 0 (19 + (7 * f + 5)) 0) := mSt_put S153 (19 + (7 * f + 5)) 0
                    have F169 := mFr_41 G153 (19 + (7 * f + 5)) 0
                    generalize fwUp g153 41 0 (19 + (7 * f + 5)) 0 = g169 at S169 F169 ⊢
                    exact f_readFolk_154 f hf _ S169 F169 (fun g9 S9 F9 => k _ _ S9 F9 (by rw [qFolk, if_neg (show ¬ 8 ≤ f by omega), qThen_r q0, qThen_r q108, qThen_r q116, qThen_r q125, qThen_r q134, qThen_r q143, if_pos q151, qTalk, qThen_l q156]))
                  · intro cn152 g154 S154 F154
                    show fwWP mX12_readFolk (d + 8) 153 [some (aR 12 0), some (aI (f : Int)), some (aI (19 + (7 * (f : Int)))), none] [aI 0, aI ((19 + (7 * (f : Int))) + 5), aR 41 0] g154 Q
                    have G154 := mFr_tr G150 F154
                    have q157 : qFact (cutH gg 14 0) (cutH gg 16 0) 12 1 7 (19 + (7 * f + 5)) (((((((((((i + 1) + 1) + 1) + 1) + 1) + 1) + 1) + 1) + 1) + 1) + 1) (fwFu (fwFu (fwFu (fwFu (fwFu (fwFu W (19 + (7 * f + 0)) (cutH gg 16 0 ((i + 1) + 1))) (19 + (7 * f + 1)) (cutH gg 16 0 ((((i + 1) + 1) + 1) + 1))) (19 + (7 * f + 2)) (cutH gg 16 0 ((((((i + 1) + 1) + 1) + 1) + 1) + 1))) (19 + (7 * f + 3)) (cutH gg 16 0 ((((((((i + 1) + 1) + 1) + 1) + 1) + 1) + 1) + 1))) (19 + (7 * f + 4)) (cutH gg 16 0 ((((((((((i + 1) + 1) + 1) + 1) + 1) + 1) + 1) + 1) + 1) + 1))) 6 ((f : Int) + 1)) = .inl (1, ((((((((((((i + 1) + 1) + 1) + 1) + 1) + 1) + 1) + 1) + 1) + 1) + 1) + 1)) := (by exact qFact_1 (by omega) cn152)
                    refine w_iast dX12_readFolk_153 rfl (by decide) (ix_lo _ (by decide)) (ix_hi hf _ (by decide)) ?_
                    rw [show ((19 + (7 * (f : Int))) + 5 : Int).toNat = (19 + (7 * f + 5)) from (ix_nat f 5)]
                    have S170 : mSt gg (.inl ((1 : Int), ((((((((((((i + 1) + 1) + 1) + 1) + 1) + 1) + 1) + 1) + 1) + 1) + 1) + 1))) (fwUp g154 41 0 (19 + (7 * f + 5)) 0) := mSt_put S154 (19 + (7 * f + 5)) 0
                    have F170 := mFr_41 G154 (19 + (7 * f + 5)) 0
                    generalize fwUp g154 41 0 (19 + (7 * f + 5)) 0 = g170 at S170 F170 ⊢
                    exact f_readFolk_154 f hf _ S170 F170 (fun g9 S9 F9 => k _ _ S9 F9 (by rw [qFolk, if_neg (show ¬ 8 ≤ f by omega), qThen_r q0, qThen_r q108, qThen_r q116, qThen_r q125, qThen_r q134, qThen_r q143, if_pos q151, qTalk, qThen_l q157]))
              · intro cw150
                show fwWP mX12_readFolk (d + 8) 136 [some (aR 12 0), some (aI (f : Int)), some (aI (19 + (7 * (f : Int)))), none] [aI 0] g149 Q
                have q151 : ¬ (cutH gg 14 0) (((((((((((i + 1) + 1) + 1) + 1) + 1) + 1) + 1) + 1) + 1) + 1) + 1) = 12 := by omega
                refine w_if_eq 221 dX12_readFolk_136 (by decide) (by omega) (fun c136 => ?_) (fun c136 => ?_)
                · refine w_aload_n dX12_readFolk_221 rfl ?_
                  refine w_getr 41 0 dX12_readFolk_222 fl_X12_31 rfl (by decide) ?_
                  refine w_bipush dX12_readFolk_225 rfl ?_
                  refine w_dup2 dX12_readFolk_227 rfl rfl ?_
                  refine w_ialdE (v := (f : Int)) dX12_readFolk_228 rfl (by decide) (by omega) (by omega) (by rw [show (6 : Int).toNat = 6 by omega]; exact ((mSt_r S149).2.2.2.2 6 (by omega)).trans ((fwFu_ne (by omega)).trans ((fwFu_ne (by omega)).trans ((fwFu_ne (by omega)).trans ((fwFu_ne (by omega)).trans ((fwFu_ne (by omega)).trans (h6))))))) ?_
                  refine w_iconst dX12_readFolk_229 ?_
                  refine w_iadd dX12_readFolk_230 ?_
                  refine w_iast dX12_readFolk_231 rfl (by decide) (by omega) (by omega) ?_
                  rw [show (6 : Int).toNat = 6 from by omega]
                  have S171 : mSt gg (.inr ((((((((((((i + 1) + 1) + 1) + 1) + 1) + 1) + 1) + 1) + 1) + 1) + 1), fwFu (fwFu (fwFu (fwFu (fwFu (fwFu W (19 + (7 * f + 0)) (cutH gg 16 0 ((i + 1) + 1))) (19 + (7 * f + 1)) (cutH gg 16 0 ((((i + 1) + 1) + 1) + 1))) (19 + (7 * f + 2)) (cutH gg 16 0 ((((((i + 1) + 1) + 1) + 1) + 1) + 1))) (19 + (7 * f + 3)) (cutH gg 16 0 ((((((((i + 1) + 1) + 1) + 1) + 1) + 1) + 1) + 1))) (19 + (7 * f + 4)) (cutH gg 16 0 ((((((((((i + 1) + 1) + 1) + 1) + 1) + 1) + 1) + 1) + 1) + 1))) 6 ((f : Int) + 1))) (fwUp g149 41 0 6 ((f : Int) + 1)) := mSt_put S149 6 ((f : Int) + 1)
                  have F171 := mFr_41 F149 6 ((f : Int) + 1)
                  generalize fwUp g149 41 0 6 ((f : Int) + 1) = g171 at S171 F171 ⊢
                  exact w_vret dX12_readFolk_232 rfl (k _ _ S171 F171 (by rw [qFolk, if_neg (show ¬ 8 ≤ f by omega), qThen_r q0, qThen_r q108, qThen_r q116, qThen_r q125, qThen_r q134, qThen_r q143, if_neg q151]))
                · (exfalso; omega)
            · intro cw139 cn139 cv139 g140 S140 F140
              show fwWP mX12_readFolk (d + 8) 110 [some (aR 12 0), some (aI (f : Int)), some (aI (19 + (7 * (f : Int)))), none] [aI 0, aI ((19 + (7 * (f : Int))) + 4), aR 41 0] g140 Q
              have G140 := mFr_tr F138 F140
              have q144 : qFact (cutH gg 14 0) (cutH gg 16 0) 11 0 9 (19 + (7 * f + 4)) (((((((((i + 1) + 1) + 1) + 1) + 1) + 1) + 1) + 1) + 1) (fwFu (fwFu (fwFu (fwFu (fwFu W (19 + (7 * f + 0)) (cutH gg 16 0 ((i + 1) + 1))) (19 + (7 * f + 1)) (cutH gg 16 0 ((((i + 1) + 1) + 1) + 1))) (19 + (7 * f + 2)) (cutH gg 16 0 ((((((i + 1) + 1) + 1) + 1) + 1) + 1))) (19 + (7 * f + 3)) (cutH gg 16 0 ((((((((i + 1) + 1) + 1) + 1) + 1) + 1) + 1) + 1))) 6 ((f : Int) + 1)) = .inl (2, ((((((((((i + 1) + 1) + 1) + 1) + 1) + 1) + 1) + 1) + 1) + 1)) := qFact_2 (by omega) cn139 cv139
              refine w_iast dX12_readFolk_110 rfl (by decide) (ix_lo _ (by decide)) (ix_hi hf _ (by decide)) ?_
              rw [show ((19 + (7 * (f : Int))) + 4 : Int).toNat = (19 + (7 * f + 4)) from (ix_nat f 4)]
              have S172 : mSt gg (.inl ((2 : Int), ((((((((((i + 1) + 1) + 1) + 1) + 1) + 1) + 1) + 1) + 1) + 1))) (fwUp g140 41 0 (19 + (7 * f + 4)) 0) := mSt_put S140 (19 + (7 * f + 4)) 0
              have F172 := mFr_41 G140 (19 + (7 * f + 4)) 0
              generalize fwUp g140 41 0 (19 + (7 * f + 4)) 0 = g172 at S172 F172 ⊢
              exact f_readFolk_111 f hf _ S172 F172 (fun g9 S9 F9 => k _ _ S9 F9 (by rw [qFolk, if_neg (show ¬ 8 ≤ f by omega), qThen_r q0, qThen_r q108, qThen_r q116, qThen_r q125, qThen_r q134, qThen_l q144]))
            · intro cw139 cn139 g141 S141 F141
              show fwWP mX12_readFolk (d + 8) 110 [some (aR 12 0), some (aI (f : Int)), some (aI (19 + (7 * (f : Int)))), none] [aI 0, aI ((19 + (7 * (f : Int))) + 4), aR 41 0] g141 Q
              have G141 := mFr_tr F138 F141
              have q145 : qFact (cutH gg 14 0) (cutH gg 16 0) 11 0 9 (19 + (7 * f + 4)) (((((((((i + 1) + 1) + 1) + 1) + 1) + 1) + 1) + 1) + 1) (fwFu (fwFu (fwFu (fwFu (fwFu W (19 + (7 * f + 0)) (cutH gg 16 0 ((i + 1) + 1))) (19 + (7 * f + 1)) (cutH gg 16 0 ((((i + 1) + 1) + 1) + 1))) (19 + (7 * f + 2)) (cutH gg 16 0 ((((((i + 1) + 1) + 1) + 1) + 1) + 1))) (19 + (7 * f + 3)) (cutH gg 16 0 ((((((((i + 1) + 1) + 1) + 1) + 1) + 1) + 1) + 1))) 6 ((f : Int) + 1)) = .inl (1, ((((((((((i + 1) + 1) + 1) + 1) + 1) + 1) + 1) + 1) + 1) + 1)) := qFact_1 (by omega) cn139
              refine w_iast dX12_readFolk_110 rfl (by decide) (ix_lo _ (by decide)) (ix_hi hf _ (by decide)) ?_
              rw [show ((19 + (7 * (f : Int))) + 4 : Int).toNat = (19 + (7 * f + 4)) from (ix_nat f 4)]
              have S173 : mSt gg (.inl ((1 : Int), ((((((((((i + 1) + 1) + 1) + 1) + 1) + 1) + 1) + 1) + 1) + 1))) (fwUp g141 41 0 (19 + (7 * f + 4)) 0) := mSt_put S141 (19 + (7 * f + 4)) 0
              have F173 := mFr_41 G141 (19 + (7 * f + 4)) 0
              generalize fwUp g141 41 0 (19 + (7 * f + 4)) 0 = g173 at S173 F173 ⊢
              exact f_readFolk_111 f hf _ S173 F173 (fun g9 S9 F9 => k _ _ S9 F9 (by rw [qFolk, if_neg (show ¬ 8 ≤ f by omega), qThen_r q0, qThen_r q108, qThen_r q116, qThen_r q125, qThen_r q134, qThen_l q145]))
            · intro cw139 g142 S142 F142
              show fwWP mX12_readFolk (d + 8) 110 [some (aR 12 0), some (aI (f : Int)), some (aI (19 + (7 * (f : Int)))), none] [aI 0, aI ((19 + (7 * (f : Int))) + 4), aR 41 0] g142 Q
              have G142 := mFr_tr F138 F142
              have q146 : qFact (cutH gg 14 0) (cutH gg 16 0) 11 0 9 (19 + (7 * f + 4)) (((((((((i + 1) + 1) + 1) + 1) + 1) + 1) + 1) + 1) + 1) (fwFu (fwFu (fwFu (fwFu (fwFu W (19 + (7 * f + 0)) (cutH gg 16 0 ((i + 1) + 1))) (19 + (7 * f + 1)) (cutH gg 16 0 ((((i + 1) + 1) + 1) + 1))) (19 + (7 * f + 2)) (cutH gg 16 0 ((((((i + 1) + 1) + 1) + 1) + 1) + 1))) (19 + (7 * f + 3)) (cutH gg 16 0 ((((((((i + 1) + 1) + 1) + 1) + 1) + 1) + 1) + 1))) 6 ((f : Int) + 1)) = .inl (1, (((((((((i + 1) + 1) + 1) + 1) + 1) + 1) + 1) + 1) + 1)) := qFact_0 (by omega)
              refine w_iast dX12_readFolk_110 rfl (by decide) (ix_lo _ (by decide)) (ix_hi hf _ (by decide)) ?_
              rw [show ((19 + (7 * (f : Int))) + 4 : Int).toNat = (19 + (7 * f + 4)) from (ix_nat f 4)]
              have S174 : mSt gg (.inl ((1 : Int), (((((((((i + 1) + 1) + 1) + 1) + 1) + 1) + 1) + 1) + 1))) (fwUp g142 41 0 (19 + (7 * f + 4)) 0) := mSt_put S142 (19 + (7 * f + 4)) 0
              have F174 := mFr_41 G142 (19 + (7 * f + 4)) 0
              generalize fwUp g142 41 0 (19 + (7 * f + 4)) 0 = g174 at S174 F174 ⊢
              exact f_readFolk_111 f hf _ S174 F174 (fun g9 S9 F9 => k _ _ S9 F9 (by rw [qFolk, if_neg (show ¬ 8 ≤ f by omega), qThen_r q0, qThen_r q108, qThen_r q116, qThen_r q125, qThen_r q134, qThen_l q146]))
          · intro cw130 cn130 cv130 g131 S131 F131
            show fwWP mX12_readFolk (d + 8) 93 [some (aR 12 0), some (aI (f : Int)), some (aI (19 + (7 * (f : Int)))), none] [aI 0, aI ((19 + (7 * (f : Int))) + 3), aR 41 0] g131 Q
            have G131 := mFr_tr F129 F131
            have q135 : qFact (cutH gg 14 0) (cutH gg 16 0) 5 0 9 (19 + (7 * f + 3)) (((((((i + 1) + 1) + 1) + 1) + 1) + 1) + 1) (fwFu (fwFu (fwFu (fwFu W (19 + (7 * f + 0)) (cutH gg 16 0 ((i + 1) + 1))) (19 + (7 * f + 1)) (cutH gg 16 0 ((((i + 1) + 1) + 1) + 1))) (19 + (7 * f + 2)) (cutH gg 16 0 ((((((i + 1) + 1) + 1) + 1) + 1) + 1))) 6 ((f : Int) + 1)) = .inl (2, ((((((((i + 1) + 1) + 1) + 1) + 1) + 1) + 1) + 1)) := qFact_2 (by omega) cn130 cv130
            refine w_iast dX12_readFolk_93 rfl (by decide) (ix_lo _ (by decide)) (ix_hi hf _ (by decide)) ?_
            rw [show ((19 + (7 * (f : Int))) + 3 : Int).toNat = (19 + (7 * f + 3)) from (ix_nat f 3)]
            have S175 : mSt gg (.inl ((2 : Int), ((((((((i + 1) + 1) + 1) + 1) + 1) + 1) + 1) + 1))) (fwUp g131 41 0 (19 + (7 * f + 3)) 0) := mSt_put S131 (19 + (7 * f + 3)) 0
            have F175 := mFr_41 G131 (19 + (7 * f + 3)) 0
            generalize fwUp g131 41 0 (19 + (7 * f + 3)) 0 = g175 at S175 F175 ⊢
            exact f_readFolk_94 f hf _ S175 F175 (fun g9 S9 F9 => k _ _ S9 F9 (by rw [qFolk, if_neg (show ¬ 8 ≤ f by omega), qThen_r q0, qThen_r q108, qThen_r q116, qThen_r q125, qThen_l q135]))
          · intro cw130 cn130 g132 S132 F132
            show fwWP mX12_readFolk (d + 8) 93 [some (aR 12 0), some (aI (f : Int)), some (aI (19 + (7 * (f : Int)))), none] [aI 0, aI ((19 + (7 * (f : Int))) + 3), aR 41 0] g132 Q
            have G132 := mFr_tr F129 F132
            have q136 : qFact (cutH gg 14 0) (cutH gg 16 0) 5 0 9 (19 + (7 * f + 3)) (((((((i + 1) + 1) + 1) + 1) + 1) + 1) + 1) (fwFu (fwFu (fwFu (fwFu W (19 + (7 * f + 0)) (cutH gg 16 0 ((i + 1) + 1))) (19 + (7 * f + 1)) (cutH gg 16 0 ((((i + 1) + 1) + 1) + 1))) (19 + (7 * f + 2)) (cutH gg 16 0 ((((((i + 1) + 1) + 1) + 1) + 1) + 1))) 6 ((f : Int) + 1)) = .inl (1, ((((((((i + 1) + 1) + 1) + 1) + 1) + 1) + 1) + 1)) := qFact_1 (by omega) cn130
            refine w_iast dX12_readFolk_93 rfl (by decide) (ix_lo _ (by decide)) (ix_hi hf _ (by decide)) ?_
            rw [show ((19 + (7 * (f : Int))) + 3 : Int).toNat = (19 + (7 * f + 3)) from (ix_nat f 3)]
            have S176 : mSt gg (.inl ((1 : Int), ((((((((i + 1) + 1) + 1) + 1) + 1) + 1) + 1) + 1))) (fwUp g132 41 0 (19 + (7 * f + 3)) 0) := mSt_put S132 (19 + (7 * f + 3)) 0
            have F176 := mFr_41 G132 (19 + (7 * f + 3)) 0
            generalize fwUp g132 41 0 (19 + (7 * f + 3)) 0 = g176 at S176 F176 ⊢
            exact f_readFolk_94 f hf _ S176 F176 (fun g9 S9 F9 => k _ _ S9 F9 (by rw [qFolk, if_neg (show ¬ 8 ≤ f by omega), qThen_r q0, qThen_r q108, qThen_r q116, qThen_r q125, qThen_l q136]))
          · intro cw130 g133 S133 F133
            show fwWP mX12_readFolk (d + 8) 93 [some (aR 12 0), some (aI (f : Int)), some (aI (19 + (7 * (f : Int)))), none] [aI 0, aI ((19 + (7 * (f : Int))) + 3), aR 41 0] g133 Q
            have G133 := mFr_tr F129 F133
            have q137 : qFact (cutH gg 14 0) (cutH gg 16 0) 5 0 9 (19 + (7 * f + 3)) (((((((i + 1) + 1) + 1) + 1) + 1) + 1) + 1) (fwFu (fwFu (fwFu (fwFu W (19 + (7 * f + 0)) (cutH gg 16 0 ((i + 1) + 1))) (19 + (7 * f + 1)) (cutH gg 16 0 ((((i + 1) + 1) + 1) + 1))) (19 + (7 * f + 2)) (cutH gg 16 0 ((((((i + 1) + 1) + 1) + 1) + 1) + 1))) 6 ((f : Int) + 1)) = .inl (1, (((((((i + 1) + 1) + 1) + 1) + 1) + 1) + 1)) := qFact_0 (by omega)
            refine w_iast dX12_readFolk_93 rfl (by decide) (ix_lo _ (by decide)) (ix_hi hf _ (by decide)) ?_
            rw [show ((19 + (7 * (f : Int))) + 3 : Int).toNat = (19 + (7 * f + 3)) from (ix_nat f 3)]
            have S177 : mSt gg (.inl ((1 : Int), (((((((i + 1) + 1) + 1) + 1) + 1) + 1) + 1))) (fwUp g133 41 0 (19 + (7 * f + 3)) 0) := mSt_put S133 (19 + (7 * f + 3)) 0
            have F177 := mFr_41 G133 (19 + (7 * f + 3)) 0
            generalize fwUp g133 41 0 (19 + (7 * f + 3)) 0 = g177 at S177 F177 ⊢
            exact f_readFolk_94 f hf _ S177 F177 (fun g9 S9 F9 => k _ _ S9 F9 (by rw [qFolk, if_neg (show ¬ 8 ≤ f by omega), qThen_r q0, qThen_r q108, qThen_r q116, qThen_r q125, qThen_l q137]))
        · intro cw121 cn121 cv121 g122 S122 F122
          show fwWP mX12_readFolk (d + 8) 76 [some (aR 12 0), some (aI (f : Int)), some (aI (19 + (7 * (f : Int)))), none] [aI 0, aI ((19 + (7 * (f : Int))) + 2), aR 41 0] g122 Q
          have G122 := mFr_tr F120 F122
          have q126 : qFact (cutH gg 14 0) (cutH gg 16 0) 10 0 9 (19 + (7 * f + 2)) (((((i + 1) + 1) + 1) + 1) + 1) (fwFu (fwFu (fwFu W (19 + (7 * f + 0)) (cutH gg 16 0 ((i + 1) + 1))) (19 + (7 * f + 1)) (cutH gg 16 0 ((((i + 1) + 1) + 1) + 1))) 6 ((f : Int) + 1)) = .inl (2, ((((((i + 1) + 1) + 1) + 1) + 1) + 1)) := qFact_2 (by omega) cn121 cv121
          refine w_iast dX12_readFolk_76 rfl (by decide) (ix_lo _ (by decide)) (ix_hi hf _ (by decide)) ?_
          rw [show ((19 + (7 * (f : Int))) + 2 : Int).toNat = (19 + (7 * f + 2)) from (ix_nat f 2)]
          have S178 : mSt gg (.inl ((2 : Int), ((((((i + 1) + 1) + 1) + 1) + 1) + 1))) (fwUp g122 41 0 (19 + (7 * f + 2)) 0) := mSt_put S122 (19 + (7 * f + 2)) 0
          have F178 := mFr_41 G122 (19 + (7 * f + 2)) 0
          generalize fwUp g122 41 0 (19 + (7 * f + 2)) 0 = g178 at S178 F178 ⊢
          exact f_readFolk_77 f hf _ S178 F178 (fun g9 S9 F9 => k _ _ S9 F9 (by rw [qFolk, if_neg (show ¬ 8 ≤ f by omega), qThen_r q0, qThen_r q108, qThen_r q116, qThen_l q126]))
        · intro cw121 cn121 g123 S123 F123
          show fwWP mX12_readFolk (d + 8) 76 [some (aR 12 0), some (aI (f : Int)), some (aI (19 + (7 * (f : Int)))), none] [aI 0, aI ((19 + (7 * (f : Int))) + 2), aR 41 0] g123 Q
          have G123 := mFr_tr F120 F123
          have q127 : qFact (cutH gg 14 0) (cutH gg 16 0) 10 0 9 (19 + (7 * f + 2)) (((((i + 1) + 1) + 1) + 1) + 1) (fwFu (fwFu (fwFu W (19 + (7 * f + 0)) (cutH gg 16 0 ((i + 1) + 1))) (19 + (7 * f + 1)) (cutH gg 16 0 ((((i + 1) + 1) + 1) + 1))) 6 ((f : Int) + 1)) = .inl (1, ((((((i + 1) + 1) + 1) + 1) + 1) + 1)) := qFact_1 (by omega) cn121
          refine w_iast dX12_readFolk_76 rfl (by decide) (ix_lo _ (by decide)) (ix_hi hf _ (by decide)) ?_
          rw [show ((19 + (7 * (f : Int))) + 2 : Int).toNat = (19 + (7 * f + 2)) from (ix_nat f 2)]
          have S179 : mSt gg (.inl ((1 : Int), ((((((i + 1) + 1) + 1) + 1) + 1) + 1))) (fwUp g123 41 0 (19 + (7 * f + 2)) 0) := mSt_put S123 (19 + (7 * f + 2)) 0
          have F179 := mFr_41 G123 (19 + (7 * f + 2)) 0
          generalize fwUp g123 41 0 (19 + (7 * f + 2)) 0 = g179 at S179 F179 ⊢
          exact f_readFolk_77 f hf _ S179 F179 (fun g9 S9 F9 => k _ _ S9 F9 (by rw [qFolk, if_neg (show ¬ 8 ≤ f by omega), qThen_r q0, qThen_r q108, qThen_r q116, qThen_l q127]))
        · intro cw121 g124 S124 F124
          show fwWP mX12_readFolk (d + 8) 76 [some (aR 12 0), some (aI (f : Int)), some (aI (19 + (7 * (f : Int)))), none] [aI 0, aI ((19 + (7 * (f : Int))) + 2), aR 41 0] g124 Q
          have G124 := mFr_tr F120 F124
          have q128 : qFact (cutH gg 14 0) (cutH gg 16 0) 10 0 9 (19 + (7 * f + 2)) (((((i + 1) + 1) + 1) + 1) + 1) (fwFu (fwFu (fwFu W (19 + (7 * f + 0)) (cutH gg 16 0 ((i + 1) + 1))) (19 + (7 * f + 1)) (cutH gg 16 0 ((((i + 1) + 1) + 1) + 1))) 6 ((f : Int) + 1)) = .inl (1, (((((i + 1) + 1) + 1) + 1) + 1)) := qFact_0 (by omega)
          refine w_iast dX12_readFolk_76 rfl (by decide) (ix_lo _ (by decide)) (ix_hi hf _ (by decide)) ?_
          rw [show ((19 + (7 * (f : Int))) + 2 : Int).toNat = (19 + (7 * f + 2)) from (ix_nat f 2)]
          have S180 : mSt gg (.inl ((1 : Int), (((((i + 1) + 1) + 1) + 1) + 1))) (fwUp g124 41 0 (19 + (7 * f + 2)) 0) := mSt_put S124 (19 + (7 * f + 2)) 0
          have F180 := mFr_41 G124 (19 + (7 * f + 2)) 0
          generalize fwUp g124 41 0 (19 + (7 * f + 2)) 0 = g180 at S180 F180 ⊢
          exact f_readFolk_77 f hf _ S180 F180 (fun g9 S9 F9 => k _ _ S9 F9 (by rw [qFolk, if_neg (show ¬ 8 ≤ f by omega), qThen_r q0, qThen_r q108, qThen_r q116, qThen_l q128]))
      · intro cw112 cn112 cv112 g113 S113 F113
        show fwWP mX12_readFolk (d + 8) 59 [some (aR 12 0), some (aI (f : Int)), some (aI (19 + (7 * (f : Int)))), none] [aI 0, aI ((19 + (7 * (f : Int))) + 1), aR 41 0] g113 Q
        have G113 := mFr_tr F111 F113
        have q117 : qFact (cutH gg 14 0) (cutH gg 16 0) 7 1 99 (19 + (7 * f + 1)) (((i + 1) + 1) + 1) (fwFu (fwFu W (19 + (7 * f + 0)) (cutH gg 16 0 ((i + 1) + 1))) 6 ((f : Int) + 1)) = .inl (2, ((((i + 1) + 1) + 1) + 1)) := qFact_2 (by omega) cn112 cv112
        refine w_iast dX12_readFolk_59 rfl (by decide) (ix_lo _ (by decide)) (ix_hi hf _ (by decide)) ?_
        rw [show ((19 + (7 * (f : Int))) + 1 : Int).toNat = (19 + (7 * f + 1)) from (ix_nat f 1)]
        have S181 : mSt gg (.inl ((2 : Int), ((((i + 1) + 1) + 1) + 1))) (fwUp g113 41 0 (19 + (7 * f + 1)) 0) := mSt_put S113 (19 + (7 * f + 1)) 0
        have F181 := mFr_41 G113 (19 + (7 * f + 1)) 0
        generalize fwUp g113 41 0 (19 + (7 * f + 1)) 0 = g181 at S181 F181 ⊢
        exact f_readFolk_60 f hf _ S181 F181 (fun g9 S9 F9 => k _ _ S9 F9 (by rw [qFolk, if_neg (show ¬ 8 ≤ f by omega), qThen_r q0, qThen_r q108, qThen_l q117]))
      · intro cw112 cn112 g114 S114 F114
        show fwWP mX12_readFolk (d + 8) 59 [some (aR 12 0), some (aI (f : Int)), some (aI (19 + (7 * (f : Int)))), none] [aI 0, aI ((19 + (7 * (f : Int))) + 1), aR 41 0] g114 Q
        have G114 := mFr_tr F111 F114
        have q118 : qFact (cutH gg 14 0) (cutH gg 16 0) 7 1 99 (19 + (7 * f + 1)) (((i + 1) + 1) + 1) (fwFu (fwFu W (19 + (7 * f + 0)) (cutH gg 16 0 ((i + 1) + 1))) 6 ((f : Int) + 1)) = .inl (1, ((((i + 1) + 1) + 1) + 1)) := qFact_1 (by omega) cn112
        refine w_iast dX12_readFolk_59 rfl (by decide) (ix_lo _ (by decide)) (ix_hi hf _ (by decide)) ?_
        rw [show ((19 + (7 * (f : Int))) + 1 : Int).toNat = (19 + (7 * f + 1)) from (ix_nat f 1)]
        have S182 : mSt gg (.inl ((1 : Int), ((((i + 1) + 1) + 1) + 1))) (fwUp g114 41 0 (19 + (7 * f + 1)) 0) := mSt_put S114 (19 + (7 * f + 1)) 0
        have F182 := mFr_41 G114 (19 + (7 * f + 1)) 0
        generalize fwUp g114 41 0 (19 + (7 * f + 1)) 0 = g182 at S182 F182 ⊢
        exact f_readFolk_60 f hf _ S182 F182 (fun g9 S9 F9 => k _ _ S9 F9 (by rw [qFolk, if_neg (show ¬ 8 ≤ f by omega), qThen_r q0, qThen_r q108, qThen_l q118]))
      · intro cw112 g115 S115 F115
        show fwWP mX12_readFolk (d + 8) 59 [some (aR 12 0), some (aI (f : Int)), some (aI (19 + (7 * (f : Int)))), none] [aI 0, aI ((19 + (7 * (f : Int))) + 1), aR 41 0] g115 Q
        have G115 := mFr_tr F111 F115
        have q119 : qFact (cutH gg 14 0) (cutH gg 16 0) 7 1 99 (19 + (7 * f + 1)) (((i + 1) + 1) + 1) (fwFu (fwFu W (19 + (7 * f + 0)) (cutH gg 16 0 ((i + 1) + 1))) 6 ((f : Int) + 1)) = .inl (1, (((i + 1) + 1) + 1)) := qFact_0 (by omega)
        refine w_iast dX12_readFolk_59 rfl (by decide) (ix_lo _ (by decide)) (ix_hi hf _ (by decide)) ?_
        rw [show ((19 + (7 * (f : Int))) + 1 : Int).toNat = (19 + (7 * f + 1)) from (ix_nat f 1)]
        have S183 : mSt gg (.inl ((1 : Int), (((i + 1) + 1) + 1))) (fwUp g115 41 0 (19 + (7 * f + 1)) 0) := mSt_put S115 (19 + (7 * f + 1)) 0
        have F183 := mFr_41 G115 (19 + (7 * f + 1)) 0
        generalize fwUp g115 41 0 (19 + (7 * f + 1)) 0 = g183 at S183 F183 ⊢
        exact f_readFolk_60 f hf _ S183 F183 (fun g9 S9 F9 => k _ _ S9 F9 (by rw [qFolk, if_neg (show ¬ 8 ≤ f by omega), qThen_r q0, qThen_r q108, qThen_l q119]))
    · intro cn105 cv105 g106 S106 F106
      show fwWP mX12_readFolk (d + 8) 42 [some (aR 12 0), some (aI (f : Int)), some (aI (19 + (7 * (f : Int)))), none] [aI 0, aI ((19 + (7 * (f : Int))) + 0), aR 41 0] g106 Q
      have G106 := mFr_tr F102 F106
      have q109 : qFact (cutH gg 14 0) (cutH gg 16 0) 9 0 ((fwFu W 6 ((f : Int) + 1)) 0 - 1) (19 + (7 * f + 0)) (i + 1) (fwFu W 6 ((f : Int) + 1)) = .inl (2, ((i + 1) + 1)) := (by rw [show (fwFu W 6 ((f : Int) + 1)) 0 = W 0 from fwFu_ne (by omega)]; exact qFact_2 (by omega) cn105 cv105)
      refine w_iast dX12_readFolk_42 rfl (by decide) (ix_lo _ (by decide)) (ix_hi hf _ (by decide)) ?_
      rw [show ((19 + (7 * (f : Int))) + 0 : Int).toNat = (19 + (7 * f + 0)) from (ix_nat f 0)]
      have S184 : mSt gg (.inl ((2 : Int), ((i + 1) + 1))) (fwUp g106 41 0 (19 + (7 * f + 0)) 0) := mSt_put S106 (19 + (7 * f + 0)) 0
      have F184 := mFr_41 G106 (19 + (7 * f + 0)) 0
      generalize fwUp g106 41 0 (19 + (7 * f + 0)) 0 = g184 at S184 F184 ⊢
      exact f_readFolk_43 f hf _ S184 F184 (fun g9 S9 F9 => k _ _ S9 F9 (by rw [qFolk, if_neg (show ¬ 8 ≤ f by omega), qThen_r q0, qThen_l q109]))
    · intro cn105 g107 S107 F107
      show fwWP mX12_readFolk (d + 8) 42 [some (aR 12 0), some (aI (f : Int)), some (aI (19 + (7 * (f : Int)))), none] [aI 0, aI ((19 + (7 * (f : Int))) + 0), aR 41 0] g107 Q
      have G107 := mFr_tr F102 F107
      have q110 : qFact (cutH gg 14 0) (cutH gg 16 0) 9 0 ((fwFu W 6 ((f : Int) + 1)) 0 - 1) (19 + (7 * f + 0)) (i + 1) (fwFu W 6 ((f : Int) + 1)) = .inl (1, ((i + 1) + 1)) := (by rw [show (fwFu W 6 ((f : Int) + 1)) 0 = W 0 from fwFu_ne (by omega)]; exact qFact_1 (by omega) cn105)
      refine w_iast dX12_readFolk_42 rfl (by decide) (ix_lo _ (by decide)) (ix_hi hf _ (by decide)) ?_
      rw [show ((19 + (7 * (f : Int))) + 0 : Int).toNat = (19 + (7 * f + 0)) from (ix_nat f 0)]
      have S185 : mSt gg (.inl ((1 : Int), ((i + 1) + 1))) (fwUp g107 41 0 (19 + (7 * f + 0)) 0) := mSt_put S107 (19 + (7 * f + 0)) 0
      have F185 := mFr_41 G107 (19 + (7 * f + 0)) 0
      generalize fwUp g107 41 0 (19 + (7 * f + 0)) 0 = g185 at S185 F185 ⊢
      exact f_readFolk_43 f hf _ S185 F185 (fun g9 S9 F9 => k _ _ S9 F9 (by rw [qFolk, if_neg (show ¬ 8 ≤ f by omega), qThen_r q0, qThen_l q110]))
  · intro cw102 g103 S103 F103
    show fwWP mX12_readFolk (d + 8) 22 [some (aR 12 0), some (aI (f : Int)), some (aI (19 + (7 * (f : Int)))), none] [] g103 Q
    have q104 : qFact (cutH gg 14 0) (cutH gg 16 0) 9 0 ((fwFu W 6 ((f : Int) + 1)) 0 - 1) (19 + (7 * f + 0)) (i + 1) (fwFu W 6 ((f : Int) + 1)) = .inl (1, (i + 1)) := qFact_0 (by omega)
    refine w_aload_n dX12_readFolk_22 rfl ?_
    refine w_getr 41 0 dX12_readFolk_23 fl_X12_31 rfl (by decide) ?_
    refine w_iload_n dX12_readFolk_26 rfl ?_
    refine w_iconst dX12_readFolk_27 ?_
    refine w_iadd dX12_readFolk_28 ?_
    refine w_aload_n dX12_readFolk_29 rfl ?_
    refine w_iconst dX12_readFolk_30 ?_
    refine w_aload_n dX12_readFolk_31 rfl ?_
    refine w_getr 41 0 dX12_readFolk_32 fl_X12_31 rfl (by decide) ?_
    refine w_iconst dX12_readFolk_35 ?_
    refine w_ialdE (v := g103 41 0 0) dX12_readFolk_36 rfl (by decide) (by omega) (by omega) (by rw [show (0 : Int).toNat = 0 by omega]) ?_
    refine w_iconst dX12_readFolk_37 ?_
    refine w_isub dX12_readFolk_38 ?_
    refine w_callV (d := d + 7) (S := [aI ((19 + (7 * (f : Int))) + 0), aR 41 0]) [aI 0, aI ((g103 41 0 0) - 1)] dX12_readFolk_39 ml_X12_151 ok_X12_number vi_X12_number rfl rfl (by decide) rfl (Nat.le_of_ble_eq_true rfl) ?_
    refine c_f_number (d := (d + 5)) 0 ((g103 41 0 0) - 1) _ S103 ?_
    show fwWP mX12_readFolk (d + 8) 42 [some (aR 12 0), some (aI (f : Int)), some (aI (19 + (7 * (f : Int)))), none] [aI 0, aI ((19 + (7 * (f : Int))) + 0), aR 41 0] g103 Q
    refine w_iast dX12_readFolk_42 rfl (by decide) (ix_lo _ (by decide)) (ix_hi hf _ (by decide)) ?_
    rw [show ((19 + (7 * (f : Int))) + 0 : Int).toNat = (19 + (7 * f + 0)) from (ix_nat f 0)]
    have S186 : mSt gg (.inl ((1 : Int), (i + 1))) (fwUp g103 41 0 (19 + (7 * f + 0)) 0) := mSt_put S103 (19 + (7 * f + 0)) 0
    have F186 := mFr_41 F103 (19 + (7 * f + 0)) 0
    generalize fwUp g103 41 0 (19 + (7 * f + 0)) 0 = g186 at S186 F186 ⊢
    exact f_readFolk_43 f hf _ S186 F186 (fun g9 S9 F9 => k _ _ S9 F9 (by rw [qFolk, if_neg (show ¬ 8 ≤ f by omega), qThen_r q0, qThen_l q104]))
end
section
set_option maxRecDepth 100000 in
set_option maxHeartbeats 4000000 in
theorem c_r_readNext {d : Nat} {h gg : fwH} {Q : Option fwV → fwH → Prop} (f : Nat) (i : Nat) (W : Nat → Int) (S : mSt gg (.inr (i, W)) h) (hW : wG W) (h6 : W 6 = (f : Int)) (k : ∀ q g, mSt gg q g → mFr h g → qThen q (qW2 (cutH gg 14 0)) = qThen (if cutH gg 14 0 i = 8 then qFolk (cutH gg 14 0) (cutH gg 16 0) f i W else qHeap (cutH gg 14 0) (cutH gg 16 0) i W) (qW2 (cutH gg 14 0)) → Q none g) : fwCt mX12_readNext (d + 10) [aR 12 0] h Q := by
  refine fwCt_of [some (aR 12 0), none] rfl rfl rfl ?_
  obtain ⟨hz1, hz2⟩ := S.1.1
  obtain ⟨hr1, hr2, hr3, hr4, hr5⟩ := mSt_r S
  have hW0 := hW.1
  have hW6 := hW.2.2.2.2.2.2.2.1
  refine w_aload_n dX12_readNext_0 rfl ?_
  refine w_ldcS (n := 17) dX12_readNext_1 rfl ?_
  refine w_callV (d := d + 9) (S := []) [aR 50 17] dX12_readNext_3 ml_X12_133 ok_X12_is vi_X12_is rfl rfl (by decide) rfl (Nat.le_of_ble_eq_true rfl) ?_
  refine c_r_is (d := (d + 5)) 4 _ _ S (by omega) ?_
  show fwWP mX12_readNext (d + 10) 6 [some (aR 12 0), none] [aI (fwB (cutH gg 14 0 i = ((4 : Nat) : Int) + 4))] h Q
  refine w_ifB_ne 23 dX12_readNext_6 (by decide) (fun c6 => ?_) (fun c6 => ?_)
  · refine w_aload_n dX12_readNext_23 rfl ?_
    refine w_ldcS (n := 17) dX12_readNext_24 rfl ?_
    refine w_callV (d := d + 9) (S := []) [aR 50 17] dX12_readNext_26 ml_X12_133 ok_X12_is vi_X12_is rfl rfl (by decide) rfl (Nat.le_of_ble_eq_true rfl) ?_
    refine c_r_is (d := (d + 5)) 4 _ _ S (by omega) ?_
    show fwWP mX12_readNext (d + 10) 29 [some (aR 12 0), none] [aI (fwB (cutH gg 14 0 i = ((4 : Nat) : Int) + 4))] h Q
    refine w_ifB_eq 49 dX12_readNext_29 (by decide) (fun c29 => ?_) (fun c29 => ?_)
    · (exfalso; omega)
    · refine w_aload_n dX12_readNext_32 rfl ?_
      refine w_getr 41 0 dX12_readNext_33 fl_X12_31 rfl (by decide) ?_
      refine w_bipush dX12_readNext_36 rfl ?_
      refine w_ialdE (v := (f : Int)) dX12_readNext_38 rfl (by decide) (by omega) (by omega) (by rw [show (6 : Int).toNat = 6 by omega]; exact ((mSt_r S).2.2.2.2 6 (by omega)).trans h6) ?_
      refine w_bipush dX12_readNext_39 rfl ?_
      refine w_icmp_ne 49 dX12_readNext_41 (by decide) (by omega) (by omega) (fun c41 => ?_) (fun c41 => ?_)
      · refine w_aload_n dX12_readNext_49 rfl ?_
        refine w_callV (d := d + 9) (S := []) [] dX12_readNext_50 ml_X12_121 ok_X12_good vi_X12_good rfl rfl (by decide) rfl (Nat.le_of_ble_eq_true rfl) ?_
        refine c_r_good (d := (d + 9)) _ _ S ?_
        show fwWP mX12_readNext (d + 10) 53 [some (aR 12 0), none] [aI 1] h Q
        refine w_if_ne 57 dX12_readNext_53 (by decide) (by omega) (fun c53 => ?_) (fun c53 => ?_)
        · refine w_aload_n dX12_readNext_57 rfl ?_
          refine w_ldcS (n := 17) dX12_readNext_58 rfl ?_
          refine w_callV (d := d + 9) (S := []) [aR 50 17] dX12_readNext_60 ml_X12_140 ok_X12_takes vi_X12_takes rfl rfl (by decide) rfl (Nat.le_of_ble_eq_true rfl) ?_
          refine c_r_takes (d := (d + 4)) 4 _ _ S (by omega) ⟨?_, ?_⟩
          · intro cw187 g187 S187 F187
            show fwWP mX12_readNext (d + 10) 63 [some (aR 12 0), none] [aI 1] g187 Q
            refine w_if_eq 73 dX12_readNext_63 (by decide) (by omega) (fun c63 => ?_) (fun c63 => ?_)
            · (exfalso; omega)
            · refine w_aload_n dX12_readNext_66 rfl ?_
              refine w_callV (d := d + 9) (S := []) [] dX12_readNext_67 ml_X12_185 ok_X12_readFolk vi_X12_readFolk rfl rfl (by decide) rfl (Nat.le_of_ble_eq_true rfl) ?_
              refine c_r_readFolk (d := (d + 1)) f _ _ S187 hW h6 (by omega) (by omega) ?_
              intro q188 g188 S188 F188 E188
              show fwWP mX12_readNext (d + 10) 70 [some (aR 12 0), none] [] g188 Q
              have G188 := mFr_tr F187 F188
              refine w_goto 105 dX12_readNext_70 (by decide) ?_
              exact w_vret dX12_readNext_105 rfl (k _ _ S188 G188 (by rw [if_pos (show cutH gg 14 0 i = 8 by omega)]; exact E188))
          · (intros; exfalso; omega)
        · (exfalso; omega)
      · refine w_aload_n dX12_readNext_44 rfl ?_
        refine w_iconst dX12_readNext_45 ?_
        refine w_callV (d := d + 9) (S := []) [aI 3] dX12_readNext_46 ml_X12_143 ok_X12_errs vi_X12_errs rfl rfl (by decide) rfl (Nat.le_of_ble_eq_true rfl) ?_
        refine c_r_errs (d := (d + 8)) 3 _ _ S (by omega) ?_
        intro g189 S189 F189
        show fwWP mX12_readNext (d + 10) 49 [some (aR 12 0), none] [] g189 Q
        refine w_aload_n dX12_readNext_49 rfl ?_
        refine w_callV (d := d + 9) (S := []) [] dX12_readNext_50 ml_X12_121 ok_X12_good vi_X12_good rfl rfl (by decide) rfl (Nat.le_of_ble_eq_true rfl) ?_
        refine c_f_good (d := (d + 9)) _ S189 ?_
        show fwWP mX12_readNext (d + 10) 53 [some (aR 12 0), none] [aI 0] g189 Q
        refine w_if_ne 57 dX12_readNext_53 (by decide) (by omega) (fun c53 => ?_) (fun c53 => ?_)
        · (exfalso; omega)
        · exact w_vret dX12_readNext_56 rfl (k _ _ S189 F189 (by rw [if_pos (show cutH gg 14 0 i = 8 by omega), qFolk, if_pos (show 8 ≤ f by omega)]))
  · refine w_aload_n dX12_readNext_9 rfl ?_
    refine w_ldcS (n := 23) dX12_readNext_10 rfl ?_
    refine w_callV (d := d + 9) (S := []) [aR 50 23] dX12_readNext_12 ml_X12_133 ok_X12_is vi_X12_is rfl rfl (by decide) rfl (Nat.le_of_ble_eq_true rfl) ?_
    refine c_r_is (d := (d + 5)) 10 _ _ S (by omega) ?_
    show fwWP mX12_readNext (d + 10) 15 [some (aR 12 0), none] [aI (fwB (cutH gg 14 0 i = ((10 : Nat) : Int) + 4))] h Q
    refine w_ifB_ne 23 dX12_readNext_15 (by decide) (fun c15 => ?_) (fun c15 => ?_)
    · refine w_aload_n dX12_readNext_23 rfl ?_
      refine w_ldcS (n := 17) dX12_readNext_24 rfl ?_
      refine w_callV (d := d + 9) (S := []) [aR 50 17] dX12_readNext_26 ml_X12_133 ok_X12_is vi_X12_is rfl rfl (by decide) rfl (Nat.le_of_ble_eq_true rfl) ?_
      refine c_r_is (d := (d + 5)) 4 _ _ S (by omega) ?_
      show fwWP mX12_readNext (d + 10) 29 [some (aR 12 0), none] [aI (fwB (cutH gg 14 0 i = ((4 : Nat) : Int) + 4))] h Q
      refine w_ifB_eq 49 dX12_readNext_29 (by decide) (fun c29 => ?_) (fun c29 => ?_)
      · refine w_aload_n dX12_readNext_49 rfl ?_
        refine w_callV (d := d + 9) (S := []) [] dX12_readNext_50 ml_X12_121 ok_X12_good vi_X12_good rfl rfl (by decide) rfl (Nat.le_of_ble_eq_true rfl) ?_
        refine c_r_good (d := (d + 9)) _ _ S ?_
        show fwWP mX12_readNext (d + 10) 53 [some (aR 12 0), none] [aI 1] h Q
        refine w_if_ne 57 dX12_readNext_53 (by decide) (by omega) (fun c53 => ?_) (fun c53 => ?_)
        · refine w_aload_n dX12_readNext_57 rfl ?_
          refine w_ldcS (n := 17) dX12_readNext_58 rfl ?_
          refine w_callV (d := d + 9) (S := []) [aR 50 17] dX12_readNext_60 ml_X12_140 ok_X12_takes vi_X12_takes rfl rfl (by decide) rfl (Nat.le_of_ble_eq_true rfl) ?_
          refine c_r_takes (d := (d + 4)) 4 _ _ S (by omega) ⟨?_, ?_⟩
          · (intros; exfalso; omega)
          · intro cw190
            show fwWP mX12_readNext (d + 10) 63 [some (aR 12 0), none] [aI 0] h Q
            refine w_if_eq 73 dX12_readNext_63 (by decide) (by omega) (fun c63 => ?_) (fun c63 => ?_)
            · refine w_aload_n dX12_readNext_73 rfl ?_
              refine w_callV (d := d + 9) (S := []) [] dX12_readNext_74 ml_X12_137 ok_X12_advance vi_X12_advance rfl rfl (by decide) rfl (Nat.le_of_ble_eq_true rfl) ?_
              refine c_r_adv (d := (d + 8)) _ _ S (by omega) ?_
              intro g191 S191 F191
              show fwWP mX12_readNext (d + 10) 77 [some (aR 12 0), none] [] g191 Q
              refine w_aload_n dX12_readNext_77 rfl ?_
              refine w_iconst dX12_readNext_78 ?_
              refine w_aload_n dX12_readNext_79 rfl ?_
              refine w_getr 41 0 dX12_readNext_80 fl_X12_31 rfl (by decide) ?_
              refine w_iconst dX12_readNext_83 ?_
              refine w_ialdE (v := W 0) dX12_readNext_84 rfl (by decide) (by omega) (by omega) (by rw [show (0 : Int).toNat = 0 by omega]; exact ((mSt_r S191).2.2.2.2 0 (by omega))) ?_
              refine w_iconst dX12_readNext_85 ?_
              refine w_isub dX12_readNext_86 ?_
              refine w_callV (d := d + 9) (S := []) [aI 0, aI ((W 0) - 1)] dX12_readNext_87 ml_X12_151 ok_X12_number vi_X12_number rfl rfl (by decide) rfl (Nat.le_of_ble_eq_true rfl) ?_
              refine c_r_number (d := (d + 7)) 0 ((W 0) - 1) _ _ S191 (by omega) (by omega) ⟨?_, ?_, ?_⟩
              · intro cn192 cv192 g192 S192 F192
                have hvr192 := (tk_cut S.1.1).2.2.2 (i + 1) (mSt_r S191).1
                show fwWP mX12_readNext (d + 10) 90 [some (aR 12 0), none] [aI (cutH gg 16 0 (i + 1))] g192 Q
                have G192 := mFr_tr F191 F192
                refine w_istore_n [some (aR 12 0), some (aI (cutH gg 16 0 (i + 1)))] dX12_readNext_90 rfl (by decide) ?_
                refine w_aload_n dX12_readNext_91 rfl ?_
                refine w_callV (d := d + 9) (S := []) [] dX12_readNext_92 ml_X12_121 ok_X12_good vi_X12_good rfl rfl (by decide) rfl (Nat.le_of_ble_eq_true rfl) ?_
                refine c_r_good (d := (d + 9)) _ _ S192 ?_
                show fwWP mX12_readNext (d + 10) 95 [some (aR 12 0), some (aI (cutH gg 16 0 (i + 1)))] [aI 1] g192 Q
                refine w_if_eq 105 dX12_readNext_95 (by decide) (by omega) (fun c95 => ?_) (fun c95 => ?_)
                · (exfalso; omega)
                · refine w_aload_n dX12_readNext_98 rfl ?_
                  refine w_getr 41 0 dX12_readNext_99 fl_X12_31 rfl (by decide) ?_
                  refine w_iconst dX12_readNext_102 ?_
                  refine w_iload_n dX12_readNext_103 rfl ?_
                  refine w_iast dX12_readNext_104 rfl (by decide) (by omega) (by omega) ?_
                  rw [show (5 : Int).toNat = 5 from by omega]
                  have S195 : mSt gg (.inr (((i + 1) + 1), fwFu W 5 (cutH gg 16 0 (i + 1)))) (fwUp g192 41 0 5 (cutH gg 16 0 (i + 1))) := mSt_put S192 5 (cutH gg 16 0 (i + 1))
                  have F195 := mFr_41 G192 5 (cutH gg 16 0 (i + 1))
                  generalize fwUp g192 41 0 5 (cutH gg 16 0 (i + 1)) = g195 at S195 F195 ⊢
                  exact w_vret dX12_readNext_105 rfl (k _ _ S195 F195 (by rw [if_neg (show ¬ cutH gg 14 0 i = 8 by omega), qHeap, qFact_t (by omega) cn192 cv192]))
              · intro cn192 cv192 g193 S193 F193
                show fwWP mX12_readNext (d + 10) 90 [some (aR 12 0), none] [aI 0] g193 Q
                have G193 := mFr_tr F191 F193
                refine w_istore_n [some (aR 12 0), some (aI 0)] dX12_readNext_90 rfl (by decide) ?_
                refine w_aload_n dX12_readNext_91 rfl ?_
                refine w_callV (d := d + 9) (S := []) [] dX12_readNext_92 ml_X12_121 ok_X12_good vi_X12_good rfl rfl (by decide) rfl (Nat.le_of_ble_eq_true rfl) ?_
                refine c_f_good (d := (d + 9)) _ S193 ?_
                show fwWP mX12_readNext (d + 10) 95 [some (aR 12 0), some (aI 0)] [aI 0] g193 Q
                refine w_if_eq 105 dX12_readNext_95 (by decide) (by omega) (fun c95 => ?_) (fun c95 => ?_)
                · exact w_vret dX12_readNext_105 rfl (k _ _ S193 G193 (by rw [if_neg (show ¬ cutH gg 14 0 i = 8 by omega), qHeap, qFact_2 (by omega) cn192 cv192]))
                · (exfalso; omega)
              · intro cn192 g194 S194 F194
                show fwWP mX12_readNext (d + 10) 90 [some (aR 12 0), none] [aI 0] g194 Q
                have G194 := mFr_tr F191 F194
                refine w_istore_n [some (aR 12 0), some (aI 0)] dX12_readNext_90 rfl (by decide) ?_
                refine w_aload_n dX12_readNext_91 rfl ?_
                refine w_callV (d := d + 9) (S := []) [] dX12_readNext_92 ml_X12_121 ok_X12_good vi_X12_good rfl rfl (by decide) rfl (Nat.le_of_ble_eq_true rfl) ?_
                refine c_f_good (d := (d + 9)) _ S194 ?_
                show fwWP mX12_readNext (d + 10) 95 [some (aR 12 0), some (aI 0)] [aI 0] g194 Q
                refine w_if_eq 105 dX12_readNext_95 (by decide) (by omega) (fun c95 => ?_) (fun c95 => ?_)
                · exact w_vret dX12_readNext_105 rfl (k _ _ S194 G194 (by rw [if_neg (show ¬ cutH gg 14 0 i = 8 by omega), qHeap, qFact_1 (by omega) cn192]))
                · (exfalso; omega)
            · (exfalso; omega)
        · (exfalso; omega)
      · (exfalso; omega)
    · refine w_aload_n dX12_readNext_18 rfl ?_
      refine w_iconst dX12_readNext_19 ?_
      refine w_callV (d := d + 9) (S := []) [aI 1] dX12_readNext_20 ml_X12_143 ok_X12_errs vi_X12_errs rfl rfl (by decide) rfl (Nat.le_of_ble_eq_true rfl) ?_
      refine c_r_errs (d := (d + 8)) 1 _ _ S (by omega) ?_
      intro g196 S196 F196
      show fwWP mX12_readNext (d + 10) 23 [some (aR 12 0), none] [] g196 Q
      refine w_aload_n dX12_readNext_23 rfl ?_
      refine w_ldcS (n := 17) dX12_readNext_24 rfl ?_
      refine w_callV (d := d + 9) (S := []) [aR 50 17] dX12_readNext_26 ml_X12_133 ok_X12_is vi_X12_is rfl rfl (by decide) rfl (Nat.le_of_ble_eq_true rfl) ?_
      refine c_f_is (d := (d + 5)) 17 _ S196 (by omega) ?_
      show fwWP mX12_readNext (d + 10) 29 [some (aR 12 0), none] [aI 0] g196 Q
      refine w_if_eq 49 dX12_readNext_29 (by decide) (by omega) (fun c29 => ?_) (fun c29 => ?_)
      · refine w_aload_n dX12_readNext_49 rfl ?_
        refine w_callV (d := d + 9) (S := []) [] dX12_readNext_50 ml_X12_121 ok_X12_good vi_X12_good rfl rfl (by decide) rfl (Nat.le_of_ble_eq_true rfl) ?_
        refine c_f_good (d := (d + 9)) _ S196 ?_
        show fwWP mX12_readNext (d + 10) 53 [some (aR 12 0), none] [aI 0] g196 Q
        refine w_if_ne 57 dX12_readNext_53 (by decide) (by omega) (fun c53 => ?_) (fun c53 => ?_)
        · (exfalso; omega)
        · exact w_vret dX12_readNext_56 rfl (k _ _ S196 F196 (by rw [if_neg (show ¬ cutH gg 14 0 i = 8 by omega), qHeap, qFact_0 (by omega)]))
      · (exfalso; omega)
end
section
/-- as the reading begins -/
def mIn (gg g : fwH) : Prop := jT gg g ∧ g 12 0 5 = 0 ∧ g 12 0 8 = 0 ∧ g 12 0 12 = 0 ∧ g 12 0 13 = -1
theorem mIn_41 {gg g : fwH} (I : mIn gg g) (s : Nat) (x : Int) : mIn gg (fwUp g 41 0 s x) := I
theorem mIn_of {gg h : fwH} (hT : tOk gg) (h5 : h 12 0 5 = gg 1 0 1) (hb : ∀ p : Nat, (p : Int) < gg 1 0 1 → h 39 0 p = gg 13 0 p) (hr : ∀ p : Nat, p < 900 → -128 ≤ h 39 0 p ∧ h 39 0 p < 128) : mIn gg (fwUp (fwUp (fwUp (fwUp (fwUp h 12 0 7 (h 12 0 5)) 12 0 5 0) 12 0 8 0) 12 0 12 0) 12 0 13 (-1)) := ⟨⟨hT, h5, hb, hr⟩, rfl, rfl, rfl, rfl⟩
theorem mFr_in (h : fwH) (a b c d e : Int) : mFr h (fwUp (fwUp (fwUp (fwUp (fwUp h 12 0 7 a) 12 0 5 b) 12 0 8 c) 12 0 12 d) 12 0 13 e) := fun x y p q => by
  funext j
  simp only [fwUp, p, false_and, if_false]
theorem mSt_in {gg g : fwH} (I : mIn gg g) (hz : ∀ z : Nat, z < 135 → g 41 0 z = 0) {A : Nat → Int} (hA : mTk gg (skB (mBy gg) 0) A) (hk : mKp (g 12 0) A) : mSt gg (.inr (0, fun _ => 0)) (fwUc g 12 0 A) := by
  obtain ⟨a, b, c, e, f⟩ := I
  exact ⟨jT_uc a (hk.2.1.trans a.2.1), hk.1.trans b, Nat.zero_le _, hA, hk.2.2.1.trans e, hk.2.2.2.trans f, hz⟩
theorem mSt_tr {gg g g2 : fwH} {q : fwPq} (S : mSt gg q g) (e : ∀ a b, a ≠ 36 → g2 a b = g a b) : mSt gg q g2 := by
  unfold mSt jT at S ⊢
  rw [e 12 0 (by decide), e 39 0 (by decide)]
  cases q with
  | inl x => exact S
  | inr x =>
    dsimp only at S ⊢
    rw [e 41 0 (by decide)]
    exact S
theorem qRun_900 {K V : Nat → Int} {c i : Nat} {W : Nat → Int} (h : qRun K V c = .inr (i, W)) (hk : K i = 0) (hc : c ≤ 900) : qRun K V 900 = .inr (i, W) := by
  have := qRun_stay h hk (900 - c)
  rwa [show c + (900 - c) = 900 by omega] at this
theorem qRun_900f {K V : Nat → Int} {c : Nat} {e : Int × Nat} (h : qRun K V c = .inl e) (hc : c ≤ 900) : qRun K V 900 = .inl e := by
  have := qRun_flt h (900 - c)
  rwa [show c + (900 - c) = 900 by omega] at this
theorem qLine_W {K V : Nat → Int} {i : Nat} {W : Nat → Int} {q : fwPq} (e : qThen q (qW2 K) = qLine K V i W) {i1 : Nat} {W1 : Nat → Int} (hq : q = .inr (i1, W1)) (h2 : K i1 = 2) : qLine K V i W = .inr (i1 + 1, W1) := by
  rw [← e, hq]
  exact qWord_t h2
theorem qLine_1 {K V : Nat → Int} {i : Nat} {W : Nat → Int} {q : fwPq} (e : qThen q (qW2 K) = qLine K V i W) {i1 : Nat} {W1 : Nat → Int} (hq : q = .inr (i1, W1)) (h2 : ¬ K i1 = 2) : qLine K V i W = .inl (1, i1) := by
  rw [← e, hq]
  exact qWord_f h2
theorem qLine_f {K V : Nat → Int} {i : Nat} {W : Nat → Int} {q : fwPq} (e : qThen q (qW2 K) = qLine K V i W) {x : Int × Nat} (hq : q = .inl x) : qLine K V i W = .inl x := by
  rw [← e, hq]
  rfl
theorem qLine_body {K V : Nat → Int} {i : Nat} {W : Nat → Int} : qLine K V i W = qThen (qBody K V i W) (qW2 K) := rfl
theorem t_mount_f {d : Nat} {h gg : fwH} {Q : Option fwV → fwH → Prop} (kl : ∀ e g, qRun (cutH gg 14 0) (cutH gg 16 0) 900 = .inl e → mSt gg (.inl e) g → mFr h g → Q (some (aI (-4))) g) {e : Int × Nat} {g : fwH} (he : qRun (cutH gg 14 0) (cutH gg 16 0) 900 = .inl e) (S : mSt gg (.inl e) g) (F : mFr h g) : fwWP mX12_mount (d + 11) 54 [some (aR 12 0), none] [] g Q := by
  refine w_aload_n dX12_mount_54 rfl ?_
  refine w_callV (d := d + 10) (S := []) [] dX12_mount_55 ml_X12_121 ok_X12_good vi_X12_good rfl rfl (by decide) rfl (Nat.le_of_ble_eq_true rfl) ?_
  refine c_f_good (d := (d + 10)) _ S ?_
  show fwWP mX12_mount (d + 11) 58 [some (aR 12 0), none] [aI 0] g Q
  refine w_if_eq 134 dX12_mount_58 (by decide) (by omega) (fun c58 => ?_) (fun c58 => ?_)
  · refine w_aload_n dX12_mount_134 rfl ?_
    refine w_callV (d := d + 10) (S := []) [] dX12_mount_135 ml_X12_121 ok_X12_good vi_X12_good rfl rfl (by decide) rfl (Nat.le_of_ble_eq_true rfl) ?_
    refine c_f_good (d := (d + 10)) _ S ?_
    show fwWP mX12_mount (d + 11) 138 [some (aR 12 0), none] [aI 0] g Q
    refine w_if_ne 144 dX12_mount_138 (by decide) (by omega) (fun c138 => ?_) (fun c138 => ?_)
    · (exfalso; omega)
    · refine w_bipush dX12_mount_141 rfl ?_
      exact w_iret dX12_mount_143 rfl (kl _ _ he S F)
  · (exfalso; omega)
theorem t_mount_g {d : Nat} {h gg : fwH} {Q : Option fwV → fwH → Prop} (kr : ∀ i W g, qRun (cutH gg 14 0) (cutH gg 16 0) 900 = .inr (i, W) → mSt gg (.inr (i, W)) g → (∀ a b, a ≠ 12 → a ≠ 41 → a ≠ 36 → g a b = h a b) → (∀ z : Nat, z < 135 → g 36 0 z = W z) → Q (some (aI (W 7))) g) {i : Nat} {W : Nat → Int} {g : fwH} (he : qRun (cutH gg 14 0) (cutH gg 16 0) 900 = .inr (i, W)) (S : mSt gg (.inr (i, W)) g) (F : mFr h g) : fwWP mX12_mount (d + 11) 134 [some (aR 12 0), none] [] g Q := by
  refine w_aload_n dX12_mount_134 rfl ?_
  refine w_callV (d := d + 10) (S := []) [] dX12_mount_135 ml_X12_121 ok_X12_good vi_X12_good rfl rfl (by decide) rfl (Nat.le_of_ble_eq_true rfl) ?_
  refine c_r_good (d := (d + 10)) _ _ S ?_
  show fwWP mX12_mount (d + 11) 138 [some (aR 12 0), none] [aI 1] g Q
  refine w_if_ne 144 dX12_mount_138 (by decide) (by omega) (fun c138 => ?_) (fun c138 => ?_)
  · refine w_iconst dX12_mount_144 ?_
    refine w_istore_n [some (aR 12 0), some (aI 0)] dX12_mount_145 rfl (by decide) ?_
    have lp146 : ∀ c : Nat, c ≤ 135 → ∀ gc : fwH, (∀ a b, a ≠ 36 → gc a b = g a b) → (∀ z : Nat, z < c → gc 36 0 z = W z) → fwWP mX12_mount (d + 11) 146 [some (aR 12 0), some (aI (c : Int))] [] gc Q := by
      refine fw_up (fun c hc ih146 => ?_)
      intro gc Fc hz0
      refine w_iload_n dX12_mount_146 rfl ?_
      refine w_sipush dX12_mount_147 rfl ?_
      refine w_icmp_ge 171 dX12_mount_150 (by decide) (by omega) (by omega) (fun c150 => ?_) (fun c150 => ?_)
      · refine w_aload_n dX12_mount_171 rfl ?_
        refine w_getr 36 0 dX12_mount_172 fl_X12_9 rfl (by decide) ?_
        refine w_bipush dX12_mount_175 rfl ?_
        refine w_ialdE (v := W 7) dX12_mount_177 rfl (by decide) (by omega) (by omega) (by rw [show (7 : Int).toNat = 7 by omega]; exact hz0 7 (by omega)) ?_
        exact w_iret dX12_mount_178 rfl (kr _ _ _ he (mSt_tr S Fc) (fun a b p q r => (Fc a b r).trans (F a b p q)) (fun z hz => hz0 z (by omega)))
      · refine w_aload_n dX12_mount_153 rfl ?_
        refine w_getr 36 0 dX12_mount_154 fl_X12_9 rfl (by decide) ?_
        refine w_iload_n dX12_mount_157 rfl ?_
        refine w_aload_n dX12_mount_158 rfl ?_
        refine w_getr 41 0 dX12_mount_159 fl_X12_31 rfl (by decide) ?_
        refine w_iload_n dX12_mount_162 rfl ?_
        refine w_ialdE (v := W c) dX12_mount_163 rfl (by decide) (by omega) (by omega) (by rw [show (c : Int).toNat = c by omega, Fc 41 0 (by decide)]; exact (mSt_r S).2.2.2.2 c (by omega)) ?_
        refine w_iast dX12_mount_164 rfl (by decide) (by omega) (by omega) ?_
        refine w_iinc [some (aR 12 0), some (aI ((c : Int) + 1))] dX12_mount_165 rfl rfl (by decide) ?_
        refine w_goto 146 dX12_mount_168 (by decide) ?_
        exact ih146 (by omega) _ (fun a b p => by rw [show ((c : Int).toNat) = c by omega]; funext j; show (if a = 36 ∧ b = 0 ∧ j = c then _ else gc a b j) = _; rw [if_neg (fun z => p z.1), Fc a b p]) (fun z hz => by rw [show ((c : Int).toNat) = c by omega]; show (if 36 = 36 ∧ 0 = 0 ∧ z = c then _ else gc 36 0 z) = _; exact (Decidable.em (z = c)).elim (fun e9 => by rw [if_pos ⟨rfl, rfl, e9⟩, e9]) (fun e9 => by rw [if_neg (fun q => e9 q.2.2)]; exact hz0 z (by omega)))
    exact lp146 0 (by omega) _ (fun _ _ _ => rfl) (fun z hz => absurd hz (by omega))
  · (exfalso; omega)
theorem t_mount_l {d : Nat} {h gg : fwH} {Q : Option fwV → fwH → Prop} (kl : ∀ e g, qRun (cutH gg 14 0) (cutH gg 16 0) 900 = .inl e → mSt gg (.inl e) g → mFr h g → Q (some (aI (-4))) g) {c i : Nat} {W : Nat → Int} {g : fwH} (hq : qRun (cutH gg 14 0) (cutH gg 16 0) c = .inr (i, W)) (hW : wL W) (hk : cutH gg 14 0 i ≠ 0) (hc : c < 900) (hci : c ≤ i) (h7 : W 7 = (c : Int))  (kb : ∀ i2 W2 g2, qRun (cutH gg 14 0) (cutH gg 16 0) (c + 1) = .inr (i2, W2) → wL W2 → c + 1 ≤ i2 → W2 7 = (c : Int) + 1 → mSt gg (.inr (i2, W2)) g2 → mFr h g2 → fwWP mX12_mount (d + 11) 54 [some (aR 12 0), none] [] g2 Q) {e1 : Int × Nat} (S : mSt gg (.inl e1) g) (F : mFr h g) (e : qThen (.inl e1) (qW2 (cutH gg 14 0)) = qLine (cutH gg 14 0) (cutH gg 16 0) i W) : fwWP mX12_mount (d + 11) 89 [some (aR 12 0), none] [] g Q := by
  obtain ⟨hl1, hl2, hl3, hl4⟩ := mSt_l S
  refine w_aload_n dX12_mount_89 rfl ?_
  refine w_callV (d := d + 10) (S := []) [] dX12_mount_90 ml_X12_121 ok_X12_good vi_X12_good rfl rfl (by decide) rfl (Nat.le_of_ble_eq_true rfl) ?_
  refine c_f_good (d := (d + 10)) _ S ?_
  show fwWP mX12_mount (d + 11) 93 [some (aR 12 0), none] [aI 0] g Q
  refine w_if_eq 109 dX12_mount_93 (by decide) (by omega) (fun c93 => ?_) (fun c93 => ?_)
  · refine w_aload_n dX12_mount_109 rfl ?_
    refine w_callV (d := d + 10) (S := []) [] dX12_mount_110 ml_X12_121 ok_X12_good vi_X12_good rfl rfl (by decide) rfl (Nat.le_of_ble_eq_true rfl) ?_
    refine c_f_good (d := (d + 10)) _ S ?_
    show fwWP mX12_mount (d + 11) 113 [some (aR 12 0), none] [aI 0] g Q
    refine w_if_eq 120 dX12_mount_113 (by decide) (by omega) (fun c113 => ?_) (fun c113 => ?_)
    · refine w_aload_n dX12_mount_120 rfl ?_
      refine w_getr 41 0 dX12_mount_121 fl_X12_31 rfl (by decide) ?_
      refine w_bipush dX12_mount_124 rfl ?_
      refine w_dup2 dX12_mount_126 rfl rfl ?_
      refine w_ialdE (v := g 41 0 7) dX12_mount_127 rfl (by decide) (by omega) (by omega) (by rw [show (7 : Int).toNat = 7 by omega]) ?_
      refine w_iconst dX12_mount_128 ?_
      refine w_iadd dX12_mount_129 ?_
      refine w_iast dX12_mount_130 rfl (by decide) (by omega) (by omega) ?_
      rw [show (7 : Int).toNat = 7 from by omega]
      have S197 : mSt gg (.inl e1) (fwUp g 41 0 7 ((g 41 0 7) + 1)) := mSt_put S 7 ((g 41 0 7) + 1)
      have F197 := mFr_41 F 7 ((g 41 0 7) + 1)
      generalize fwUp g 41 0 7 ((g 41 0 7) + 1) = g197 at S197 F197 ⊢
      refine w_goto 54 dX12_mount_131 (by decide) ?_
      have hl := qLine_f e rfl
      exact t_mount_f kl (qRun_900f (c := c + 1) (by rw [qRun_next hq hk, hl]; rfl) (by omega)) S197 F197
    · (exfalso; omega)
  · (exfalso; omega)
theorem t_mount_r {d : Nat} {h gg : fwH} {Q : Option fwV → fwH → Prop} (kl : ∀ e g, qRun (cutH gg 14 0) (cutH gg 16 0) 900 = .inl e → mSt gg (.inl e) g → mFr h g → Q (some (aI (-4))) g) {c i : Nat} {W : Nat → Int} {g : fwH} (hq : qRun (cutH gg 14 0) (cutH gg 16 0) c = .inr (i, W)) (hW : wL W) (hk : cutH gg 14 0 i ≠ 0) (hc : c < 900) (hci : c ≤ i) (h7 : W 7 = (c : Int))  (kb : ∀ i2 W2 g2, qRun (cutH gg 14 0) (cutH gg 16 0) (c + 1) = .inr (i2, W2) → wL W2 → c + 1 ≤ i2 → W2 7 = (c : Int) + 1 → mSt gg (.inr (i2, W2)) g2 → mFr h g2 → fwWP mX12_mount (d + 11) 54 [some (aR 12 0), none] [] g2 Q) {i1 : Nat} {W1 : Nat → Int} (S : mSt gg (.inr (i1, W1)) g) (F : mFr h g) (e : qThen (.inr (i1, W1)) (qW2 (cutH gg 14 0)) = qLine (cutH gg 14 0) (cutH gg 16 0) i W) : fwWP mX12_mount (d + 11) 89 [some (aR 12 0), none] [] g Q := by
  obtain ⟨hr1, hr2, hr3, hr4, hr5⟩ := mSt_r S
  obtain ⟨hk1, hk2, hk3, hk4, hk5, hk6, hk7⟩ := tk_kind S.1.1 hr1
  refine w_aload_n dX12_mount_89 rfl ?_
  refine w_callV (d := d + 10) (S := []) [] dX12_mount_90 ml_X12_121 ok_X12_good vi_X12_good rfl rfl (by decide) rfl (Nat.le_of_ble_eq_true rfl) ?_
  refine c_r_good (d := (d + 10)) _ _ S ?_
  show fwWP mX12_mount (d + 11) 93 [some (aR 12 0), none] [aI 1] g Q
  refine w_if_eq 109 dX12_mount_93 (by decide) (by omega) (fun c93 => ?_) (fun c93 => ?_)
  · (exfalso; omega)
  · refine w_aload_n dX12_mount_96 rfl ?_
    refine w_getiE (v := mdT (mBy gg) (tokP (mBy gg) i1)) dX12_mount_97 fl_X12_97 rfl (by decide) (mSt_r S).2.1.2.2.2.1 ?_
    refine w_iconst dX12_mount_100 ?_
    refine w_icmp_eq 109 dX12_mount_101 (by decide) (by omega) (by omega) (fun c101 => ?_) (fun c101 => ?_)
    · refine w_aload_n dX12_mount_109 rfl ?_
      refine w_callV (d := d + 10) (S := []) [] dX12_mount_110 ml_X12_121 ok_X12_good vi_X12_good rfl rfl (by decide) rfl (Nat.le_of_ble_eq_true rfl) ?_
      refine c_r_good (d := (d + 10)) _ _ S ?_
      show fwWP mX12_mount (d + 11) 113 [some (aR 12 0), none] [aI 1] g Q
      refine w_if_eq 120 dX12_mount_113 (by decide) (by omega) (fun c113 => ?_) (fun c113 => ?_)
      · (exfalso; omega)
      · refine w_aload_n dX12_mount_116 rfl ?_
        refine w_callV (d := d + 10) (S := []) [] dX12_mount_117 ml_X12_137 ok_X12_advance vi_X12_advance rfl rfl (by decide) rfl (Nat.le_of_ble_eq_true rfl) ?_
        refine c_r_adv (d := (d + 9)) _ _ S (by omega) ?_
        intro g198 S198 F198
        show fwWP mX12_mount (d + 11) 120 [some (aR 12 0), none] [] g198 Q
        have G198 := mFr_tr F F198
        refine w_aload_n dX12_mount_120 rfl ?_
        refine w_getr 41 0 dX12_mount_121 fl_X12_31 rfl (by decide) ?_
        refine w_bipush dX12_mount_124 rfl ?_
        refine w_dup2 dX12_mount_126 rfl rfl ?_
        refine w_ialdE (v := W1 7) dX12_mount_127 rfl (by decide) (by omega) (by omega) (by rw [show (7 : Int).toNat = 7 by omega]; exact (mSt_r S198).2.2.2.2 7 (by omega)) ?_
        refine w_iconst dX12_mount_128 ?_
        refine w_iadd dX12_mount_129 ?_
        refine w_iast dX12_mount_130 rfl (by decide) (by omega) (by omega) ?_
        rw [show (7 : Int).toNat = 7 from by omega]
        have S199 : mSt gg (.inr ((i1 + 1), fwFu W1 7 ((W1 7) + 1))) (fwUp g198 41 0 7 ((W1 7) + 1)) := mSt_put S198 7 ((W1 7) + 1)
        have F199 := mFr_41 G198 7 ((W1 7) + 1)
        generalize fwUp g198 41 0 7 ((W1 7) + 1) = g199 at S199 F199 ⊢
        refine w_goto 54 dX12_mount_131 (by decide) ?_
        have hl := qLine_W e rfl (show cutH gg 14 0 i1 = 2 by omega)
        have hw := qRun_wL hW hl
        exact kb _ _ _ (by rw [qRun_next hq hk, hl]; rfl) hw.2.1 (by omega) (by rw [fwFu_at]; omega) S199 F199
    · refine w_aload_n dX12_mount_104 rfl ?_
      refine w_iconst dX12_mount_105 ?_
      refine w_callV (d := d + 10) (S := []) [aI 1] dX12_mount_106 ml_X12_143 ok_X12_errs vi_X12_errs rfl rfl (by decide) rfl (Nat.le_of_ble_eq_true rfl) ?_
      refine c_r_errs (d := (d + 9)) 1 _ _ S (by omega) ?_
      intro g200 S200 F200
      show fwWP mX12_mount (d + 11) 109 [some (aR 12 0), none] [] g200 Q
      have G200 := mFr_tr F F200
      refine w_aload_n dX12_mount_109 rfl ?_
      refine w_callV (d := d + 10) (S := []) [] dX12_mount_110 ml_X12_121 ok_X12_good vi_X12_good rfl rfl (by decide) rfl (Nat.le_of_ble_eq_true rfl) ?_
      refine c_f_good (d := (d + 10)) _ S200 ?_
      show fwWP mX12_mount (d + 11) 113 [some (aR 12 0), none] [aI 0] g200 Q
      refine w_if_eq 120 dX12_mount_113 (by decide) (by omega) (fun c113 => ?_) (fun c113 => ?_)
      · refine w_aload_n dX12_mount_120 rfl ?_
        refine w_getr 41 0 dX12_mount_121 fl_X12_31 rfl (by decide) ?_
        refine w_bipush dX12_mount_124 rfl ?_
        refine w_dup2 dX12_mount_126 rfl rfl ?_
        refine w_ialdE (v := g200 41 0 7) dX12_mount_127 rfl (by decide) (by omega) (by omega) (by rw [show (7 : Int).toNat = 7 by omega]) ?_
        refine w_iconst dX12_mount_128 ?_
        refine w_iadd dX12_mount_129 ?_
        refine w_iast dX12_mount_130 rfl (by decide) (by omega) (by omega) ?_
        rw [show (7 : Int).toNat = 7 from by omega]
        have S201 : mSt gg (.inl ((1 : Int), i1)) (fwUp g200 41 0 7 ((g200 41 0 7) + 1)) := mSt_put S200 7 ((g200 41 0 7) + 1)
        have F201 := mFr_41 G200 7 ((g200 41 0 7) + 1)
        generalize fwUp g200 41 0 7 ((g200 41 0 7) + 1) = g201 at S201 F201 ⊢
        refine w_goto 54 dX12_mount_131 (by decide) ?_
        have hl := qLine_1 e rfl (show ¬ cutH gg 14 0 i1 = 2 by omega)
        exact t_mount_f kl (qRun_900f (c := c + 1) (by rw [qRun_next hq hk, hl]; rfl) (by omega)) S201 F201
      · (exfalso; omega)
theorem t_mount_89 {d : Nat} {h gg : fwH} {Q : Option fwV → fwH → Prop} (kl : ∀ e g, qRun (cutH gg 14 0) (cutH gg 16 0) 900 = .inl e → mSt gg (.inl e) g → mFr h g → Q (some (aI (-4))) g) {c i : Nat} {W : Nat → Int} {g : fwH} (hq : qRun (cutH gg 14 0) (cutH gg 16 0) c = .inr (i, W)) (hW : wL W) (hk : cutH gg 14 0 i ≠ 0) (hc : c < 900) (hci : c ≤ i) (h7 : W 7 = (c : Int))  (kb : ∀ i2 W2 g2, qRun (cutH gg 14 0) (cutH gg 16 0) (c + 1) = .inr (i2, W2) → wL W2 → c + 1 ≤ i2 → W2 7 = (c : Int) + 1 → mSt gg (.inr (i2, W2)) g2 → mFr h g2 → fwWP mX12_mount (d + 11) 54 [some (aR 12 0), none] [] g2 Q) {q : fwPq} (S : mSt gg q g) (F : mFr h g) (e : qThen q (qW2 (cutH gg 14 0)) = qLine (cutH gg 14 0) (cutH gg 16 0) i W) : fwWP mX12_mount (d + 11) 89 [some (aR 12 0), none] [] g Q := by
  cases q with
  | inl x => exact t_mount_l kl hq hW hk hc hci h7 kb S F e
  | inr x => exact t_mount_r kl hq hW hk hc hci h7 kb (i1 := x.1) (W1 := x.2) S F e
theorem t_mount_54 {d : Nat} {h gg : fwH} {Q : Option fwV → fwH → Prop} (kl : ∀ e g, qRun (cutH gg 14 0) (cutH gg 16 0) 900 = .inl e → mSt gg (.inl e) g → mFr h g → Q (some (aI (-4))) g) (kr : ∀ i W g, qRun (cutH gg 14 0) (cutH gg 16 0) 900 = .inr (i, W) → mSt gg (.inr (i, W)) g → (∀ a b, a ≠ 12 → a ≠ 41 → a ≠ 36 → g a b = h a b) → (∀ z : Nat, z < 135 → g 36 0 z = W z) → Q (some (aI (W 7))) g) : ∀ c : Nat, c ≤ 900 → ∀ i W g, qRun (cutH gg 14 0) (cutH gg 16 0) c = .inr (i, W) → wL W → c ≤ i → W 7 = (c : Int) → mSt gg (.inr (i, W)) g → mFr h g → fwWP mX12_mount (d + 11) 54 [some (aR 12 0), none] [] g Q := by
  refine fw_up (fun c hc ih54 => ?_)
  intro i W g he hW hci h7 S F
  have hTN := (tk_cut S.1.1).2.1
  obtain ⟨hr1, hr2, hr3, hr4, hr5⟩ := mSt_r S
  obtain ⟨hk1, hk2, hk3, hk4, hk5, hk6, hk7⟩ := tk_kind S.1.1 hr1
  refine w_aload_n dX12_mount_54 rfl ?_
  refine w_callV (d := d + 10) (S := []) [] dX12_mount_55 ml_X12_121 ok_X12_good vi_X12_good rfl rfl (by decide) rfl (Nat.le_of_ble_eq_true rfl) ?_
  refine c_r_good (d := (d + 10)) _ _ S ?_
  show fwWP mX12_mount (d + 11) 58 [some (aR 12 0), none] [aI 1] g Q
  refine w_if_eq 134 dX12_mount_58 (by decide) (by omega) (fun c58 => ?_) (fun c58 => ?_)
  · (exfalso; omega)
  · refine w_aload_n dX12_mount_61 rfl ?_
    refine w_getiE (v := mdT (mBy gg) (tokP (mBy gg) i)) dX12_mount_62 fl_X12_97 rfl (by decide) (mSt_r S).2.1.2.2.2.1 ?_
    refine w_if_eq 134 dX12_mount_65 (by decide) (by omega) (fun c65 => ?_) (fun c65 => ?_)
    · exact t_mount_g kr (qRun_900 he (by omega) (by omega)) S F
    · refine w_aload_n dX12_mount_68 rfl ?_
      refine w_getr 41 0 dX12_mount_69 fl_X12_31 rfl (by decide) ?_
      refine w_bipush dX12_mount_72 rfl ?_
      refine w_ialdE (v := (c : Int)) dX12_mount_74 rfl (by decide) (by omega) (by omega) (by rw [show (7 : Int).toNat = 7 by omega]; exact ((mSt_r S).2.2.2.2 7 (by omega)).trans h7) ?_
      refine w_if_ne 85 dX12_mount_75 (by decide) (by omega) (fun c75 => ?_) (fun c75 => ?_)
      · have hwG : wG W := by rcases hW with z | z; have := z.1; omega; exact z.2.1
        refine w_aload_n dX12_mount_85 rfl ?_
        refine w_callV (d := d + 10) (S := []) [] dX12_mount_86 ml_X12_191 ok_X12_readNext vi_X12_readNext rfl rfl (by decide) rfl (Nat.le_of_ble_eq_true rfl) ?_
        refine c_r_readNext (d := d) (W 6).toNat i W S hwG (by have := hwG.2.2.2.2.2.2.2.1; omega) ?_
        intro q202 g202 S202 F202 E202
        show fwWP mX12_mount (d + 11) 89 [some (aR 12 0), none] [] g202 Q
        have G202 := mFr_tr F F202
        exact t_mount_89 kl he hW (by omega) (by omega) hci h7 (fun i2 W2 g2 a1 a2 a3 a4 a5 a6 => ih54 (by omega) i2 W2 g2 a1 a2 a3 a4 a5 a6) S202 G202 (by rw [qLine_body, qBody, if_neg (by omega)]; exact E202)
      · have hw0 : W = fun _ => 0 := by rcases hW with z | z; exact z.2; have := z.1; omega
        refine w_aload_n dX12_mount_78 rfl ?_
        refine w_callV (d := d + 10) (S := []) [] dX12_mount_79 ml_X12_188 ok_X12_readFirst vi_X12_readFirst rfl rfl (by decide) rfl (Nat.le_of_ble_eq_true rfl) ?_
        refine c_r_readFirst (d := (d + 2)) i (mSt_eq S (by rw [hw0])) ?_
        intro g203 S203 F203
        show fwWP mX12_mount (d + 11) 82 [some (aR 12 0), none] [] g203 Q
        have G203 := mFr_tr F F203
        refine w_goto 89 dX12_mount_82 (by decide) ?_
        exact t_mount_89 kl he hW (by omega) (by omega) hci h7 (fun i2 W2 g2 a1 a2 a3 a4 a5 a6 => ih54 (by omega) i2 W2 g2 a1 a2 a3 a4 a5 a6) S203 G203 (by rw [qLine_body, qBody, if_pos (by omega), hw0])
theorem c_X12_mount {d : Nat} {h gg : fwH} {Q : Option fwV → fwH → Prop} (hT : tOk gg) (h5 : h 12 0 5 = gg 1 0 1) (hb : ∀ p : Nat, (p : Int) < gg 1 0 1 → h 39 0 p = gg 13 0 p) (hr : ∀ p : Nat, p < 900 → -128 ≤ h 39 0 p ∧ h 39 0 p < 128) (kl : ∀ e g, qRun (cutH gg 14 0) (cutH gg 16 0) 900 = .inl e → mSt gg (.inl e) g → mFr h g → Q (some (aI (-4))) g) (kr : ∀ i W g, qRun (cutH gg 14 0) (cutH gg 16 0) 900 = .inr (i, W) → mSt gg (.inr (i, W)) g → (∀ a b, a ≠ 12 → a ≠ 41 → a ≠ 36 → g a b = h a b) → (∀ z : Nat, z < 135 → g 36 0 z = W z) → Q (some (aI (W 7))) g) : fwCt mX12_mount (d + 11) [aR 12 0] h Q := by
  refine fwCt_of [some (aR 12 0), none] rfl rfl rfl ?_
  refine w_aload_n dX12_mount_0 rfl ?_
  refine w_aload_n dX12_mount_1 rfl ?_
  refine w_geti dX12_mount_2 fl_X12_81 rfl (by decide) ?_
  refine w_puti dX12_mount_5 fl_X12_84 fp_12_7 rfl (by decide) ?_
  refine w_aload_n dX12_mount_8 rfl ?_
  refine w_iconst dX12_mount_9 ?_
  refine w_puti dX12_mount_10 fl_X12_81 fp_12_5 rfl (by decide) ?_
  refine w_aload_n dX12_mount_13 rfl ?_
  refine w_iconst dX12_mount_14 ?_
  refine w_puti dX12_mount_15 fl_X12_87 fp_12_8 rfl (by decide) ?_
  refine w_aload_n dX12_mount_18 rfl ?_
  refine w_iconst dX12_mount_19 ?_
  refine w_puti dX12_mount_20 fl_X12_118 fp_12_12 rfl (by decide) ?_
  refine w_aload_n dX12_mount_23 rfl ?_
  refine w_iconst dX12_mount_24 ?_
  refine w_puti dX12_mount_25 fl_X12_27 fp_12_13 rfl (by decide) ?_
  refine w_iconst dX12_mount_28 ?_
  refine w_istore_n [some (aR 12 0), some (aI 0)] dX12_mount_29 rfl (by decide) ?_
  have lp30 : ∀ c : Nat, c ≤ 135 → ∀ gc : fwH, mIn gg gc → mFr h gc → (∀ z : Nat, z < c → gc 41 0 z = 0) → fwWP mX12_mount (d + 11) 30 [some (aR 12 0), some (aI (c : Int))] [] gc Q := by
    refine fw_up (fun c hc ih30 => ?_)
    intro gc Ic Fc hz0
    refine w_iload_n dX12_mount_30 rfl ?_
    refine w_sipush dX12_mount_31 rfl ?_
    refine w_icmp_ge 50 dX12_mount_34 (by decide) (by omega) (by omega) (fun c34 => ?_) (fun c34 => ?_)
    · refine w_aload_n dX12_mount_50 rfl ?_
      refine w_callV (d := d + 10) (S := []) [] dX12_mount_51 ml_X12_137 ok_X12_advance vi_X12_advance rfl rfl (by decide) rfl (Nat.le_of_ble_eq_true rfl) ?_
      refine c_md_advance (d := (d + 9)) 0 Ic.1 (by have := hT.1; omega) Ic.2.2.1 ?_
      intro A hA hAk
      show fwWP mX12_mount (d + 11) 54 [some (aR 12 0), some (aI (c : Int))] [] (fwUc gc 12 0 A) Q
      refine w_drop [1] [some (aR 12 0), none] rfl ?_
      exact t_mount_54 kl kr 0 (by omega) 0 (fun _ => 0) _ rfl wL_init (Nat.le_refl _) rfl (mSt_in Ic (fun z hz => hz0 z (by omega)) hA hAk) (mFr_12 Fc A)
    · refine w_aload_n dX12_mount_37 rfl ?_
      refine w_getr 41 0 dX12_mount_38 fl_X12_31 rfl (by decide) ?_
      refine w_iload_n dX12_mount_41 rfl ?_
      refine w_iconst dX12_mount_42 ?_
      refine w_iast dX12_mount_43 rfl (by decide) (by omega) (by omega) ?_
      refine w_iinc [some (aR 12 0), some (aI ((c : Int) + 1))] dX12_mount_44 rfl rfl (by decide) ?_
      refine w_goto 30 dX12_mount_47 (by decide) ?_
      exact ih30 (by omega) _ (mIn_41 Ic _ _) (mFr_41 Fc _ _) (fun z hz => by rw [show ((c : Int).toNat) = c by omega]; show (if 41 = 41 ∧ 0 = 0 ∧ z = c then _ else gc 41 0 z) = _; exact (Decidable.em (z = c)).elim (fun e9 => by rw [if_pos ⟨rfl, rfl, e9⟩]) (fun e9 => by rw [if_neg (fun q => e9 q.2.2)]; exact hz0 z (by omega)))
  exact lp30 0 (by omega) _ (mIn_of hT h5 hb hr) (mFr_in _ _ _ _ _ _) (fun z hz => absurd hz (by omega))
end
