section
/-! FootLowerModel reads the same TOKENS; gg: the heap whose TAPE it is -/
/-- the model's TAPE is the class's -/
def jT (gg h : fwH) : Prop := tOk gg ∧ h 12 0 7 = gg 1 0 1 ∧ (∀ p : Nat, (p : Int) < gg 1 0 1 → h 39 0 p = gg 13 0 p) ∧ ∀ p : Nat, p < 900 → -128 ≤ h 39 0 p ∧ h 39 0 p < 128
/-- the number that the model makes of so many digits -/
def mdV (b : Nat → Int) (p : Nat) : Nat → Int
  | 0 => 0
  | j + 1 => min 99999 (10 * mdV b p j + b (p + j) - 48)
theorem mdV_rng {b : Nat → Int} {p : Nat} : ∀ n : Nat, (∀ j, j < n → mDig (b (p + j)) = true) → 0 ≤ mdV b p n ∧ mdV b p n ≤ 99999 := by
  intro n
  induction n with
  | zero => intro _; simp [mdV]
  | succ n ih =>
    intro hd
    have h1 := ih (fun j hj => hd j (by omega))
    have h2 := of_decide_eq_true (hd n (by omega))
    rw [mdV]
    omega
theorem mdV_num {b : Nat → Int} {p : Nat} : ∀ n : Nat, (∀ j, j < n → mDig (b (p + j)) = true) → mdV b p n = min 99999 (mNum b p n) := by
  intro n
  induction n with
  | zero => intro _; rfl
  | succ n ih =>
    intro hd
    have h1 := ih (fun j hj => hd j (by omega))
    have h2 := of_decide_eq_true (hd n (by omega))
    have h3 := mNum_rng (b := b) (p := p) n (fun j hj => hd j (by omega))
    rw [mdV, mNum, h1]
    split <;> omega
/-- a TOKEN's kind, as the model has it -/
def mdT (b : Nat → Int) (p : Nat) : Int := if b p = -1 then 0 else if mLet (b p) = true then 1 else if mDig (b p) = true then 2 else if b p = 59 then 3 else 4
/-- the model stands at the TOKEN whose place is p -/
def mTk (gg : fwH) (p : Nat) (A : Nat → Int) : Prop := (p : Int) ≤ gg 1 0 1 ∧ A 9 = (p : Int) ∧ A 8 = (if mBy gg p = -1 then (p : Int) else (mNxt (mBy gg) p : Int)) ∧ A 10 = mdT (mBy gg) p ∧ (mdT (mBy gg) p = 2 → A 11 = min 99999 (mVl (mBy gg) p))
theorem mBy_m1 {gg : fwH} {p : Nat} : mBy gg p = -1 ↔ gg 1 0 1 ≤ p := by
  have := mBy_rng gg p
  constructor
  · intro e
    rcases Int.lt_or_le p (gg 1 0 1) with q | q
    · unfold mBy at e
      rw [if_pos q] at e
      have := fwAnd255 (gg 13 0 p)
      omega
    · exact q
  · intro e
    exact mBy_end e
theorem mRun_c {h : fwH} {q : Int → Bool} (hq : q (-1) = false) {p c : Nat} (hp : (p : Int) ≤ h 1 0 1) (hc : mFst (fun i => q (mBy h (p + i))) c = c) : (p : Int) + (c : Int) ≤ h 1 0 1 := by
  rcases Int.lt_or_le (h 1 0 1) ((p : Int) + (c : Int)) with e | e
  · exfalso
    have h1 := mFst_pre (p := fun i => q (mBy h (p + i))) c ((h 1 0 1).toNat - p) (by rw [hc]; omega)
    rw [show p + ((h 1 0 1).toNat - p) = (h 1 0 1).toNat by omega, mBy_end (by omega), hq] at h1
    exact Bool.noConfusion h1
  · exact e
set_option maxRecDepth 100000 in
set_option maxHeartbeats 4000000 in
theorem c_md_see {d : Nat} {h gg : fwH} {Q : Option fwV → fwH → Prop} (p : Nat) (TT : jT gg h) (hp : p ≤ 900) (k : Q (some (aI (mBy gg p))) h) : fwCt mX12_see (d + 0) [aR 12 0, aI (p : Int)] h Q := by
  refine fwCt_of [some (aR 12 0), some (aI (p : Int))] rfl rfl rfl ?_
  have htk := TT.1
  obtain ⟨ht1, ht2⟩ := htk
  refine w_iload_n dX12_see_0 rfl ?_
  refine w_aload_n dX12_see_1 rfl ?_
  refine w_getiE (v := gg 1 0 1) dX12_see_2 fl_X12_84 rfl (by decide) TT.2.1 ?_
  refine w_icmp_ge 21 dX12_see_5 (by decide) (by omega) (by omega) (fun c5 => ?_) (fun c5 => ?_)
  · refine w_iconst dX12_see_21 ?_
    exact w_iretE dX12_see_22 rfl (by unfold mBy; first | (rw [if_pos (by omega)]; done) | (rw [if_neg (by omega)]; done)) k
  · refine w_aload_n dX12_see_8 rfl ?_
    refine w_getr 39 0 dX12_see_9 fl_X12_20 rfl (by decide) ?_
    refine w_iload_n dX12_see_12 rfl ?_
    refine w_baldE (v := gg 13 0 p) dX12_see_13 rfl (by decide) (by omega) (by omega) (by rw [show (((p : Int)).toNat) = p by omega]; exact TT.2.2.1 p (by omega)) ?_
    refine w_sipush dX12_see_14 rfl ?_
    refine w_iand dX12_see_17 ?_
    refine w_goto 22 dX12_see_18 (by decide) ?_
    exact w_iretE dX12_see_22 rfl (by unfold mBy; first | (rw [if_pos (by omega)]; done) | (rw [if_neg (by omega)]; done)) k
theorem c_mdseeE {d : Nat} {h gg : fwH} {Q : Option fwV → fwH → Prop} (p : Nat) (x : Int) (ex : x = (p : Int)) (TT : jT gg h) (hp : p ≤ 900) (k : Q (some (aI (mBy gg p))) h) : fwCt mX12_see d [aR 12 0, aI x] h Q := by
  subst ex
  exact c_md_see p TT hp k
theorem jT_up {gg h : fwH} (TT : jT gg h) {j : Nat} {x : Int} (hj : j ≠ 7) : jT gg (fwUp h 12 0 j x) := by
  refine ⟨TT.1, ?_, TT.2.2⟩
  show (if (12 = 12 ∧ 0 = 0 ∧ 7 = j) then x else h 12 0 7) = gg 1 0 1
  rw [if_neg (by omega)]
  exact TT.2.1
theorem jT_uc {gg h : fwH} (TT : jT gg h) {A : Nat → Int} (hA : A 7 = gg 1 0 1) : jT gg (fwUc h 12 0 A) := ⟨TT.1, hA, TT.2.2⟩
theorem fwFu_same (g : Nat → Int) (j : Nat) {x : Int} (e : g j = x) : fwFu g j x = g := by
  funext s
  unfold fwFu
  split
  · rename_i q; rw [q, e]
  · rfl
theorem fwFu_comm (g : Nat → Int) {i j : Nat} (x y : Int) (hij : i ≠ j) : fwFu (fwFu g i x) j y = fwFu (fwFu g j y) i x := by
  funext s
  unfold fwFu
  by_cases e1 : s = j
  · subst e1; rw [if_pos rfl, if_neg (by omega), if_pos rfl]
  · rw [if_neg e1]
    by_cases e2 : s = i
    · rw [if_pos e2, if_pos e2]
    · rw [if_neg e2, if_neg e2, if_neg e1]
/-- what reading leaves alone of the model's own numbers -/
def mKp (A B : Nat → Int) : Prop := B 5 = A 5 ∧ B 7 = A 7 ∧ B 12 = A 12 ∧ B 13 = A 13
theorem mdT_m1 {b : Nat → Int} {p : Nat} (h : b p = -1) : mdT b p = 0 := if_pos h
theorem fw118 (B : Nat → Int) (v w a c : Int) : fwFu (fwFu (fwFu (fwFu B 11 v) 8 a) 11 w) 8 c = fwFu (fwFu B 11 w) 8 c := by
  rw [fwFu_comm (fwFu B 11 v) a w (show (8 : Nat) ≠ 11 by decide), fwFu_fu, fwFu_fu]
section MTK
variable {gg : fwH} {q : Nat} {A : Nat → Int}
theorem mTk_end (hq : (q : Int) ≤ gg 1 0 1) (e : mBy gg q = -1) (h9 : A 9 = (q : Int)) (h8 : A 8 = (q : Int)) (h10 : A 10 = 0) : mTk gg q A :=
  ⟨hq, h9, by rw [if_pos e]; exact h8, by rw [h10]; exact (mdT_m1 e).symm, fun z => by rw [mdT_m1 e] at z; omega⟩
theorem mTk_let (hq : (q : Int) ≤ gg 1 0 1) (e : 97 ≤ mBy gg q ∧ mBy gg q ≤ 122) (h9 : A 9 = (q : Int)) (h8 : A 8 = (mLetEnd (mBy gg) q : Int)) (h10 : A 10 = 1) : mTk gg q A := by
  have hl : mLet (mBy gg q) = true := decide_eq_true e
  have ht : mdT (mBy gg) q = 1 := by unfold mdT; rw [if_neg (by omega), if_pos hl]
  refine ⟨hq, h9, ?_, by rw [h10, ht], fun z => by omega⟩
  rw [if_neg (by omega), h8]
  unfold mNxt
  rw [if_pos hl]
theorem mTk_dig (hq : (q : Int) ≤ gg 1 0 1) (e : 48 ≤ mBy gg q ∧ mBy gg q ≤ 57) (h9 : A 9 = (q : Int)) (h8 : A 8 = (mDigEnd (mBy gg) q : Int)) (h10 : A 10 = 2) (h11 : A 11 = mdV (mBy gg) q (mFst (fun i => mDig (mBy gg (q + i))) 900)) : mTk gg q A := by
  have hl : ¬ mLet (mBy gg q) = true := fun z => by have := of_decide_eq_true z; omega
  have hd : mDig (mBy gg q) = true := decide_eq_true e
  have ht : mdT (mBy gg) q = 2 := by unfold mdT; rw [if_neg (by omega), if_neg hl, if_pos hd]
  refine ⟨hq, h9, ?_, by rw [h10, ht], fun _ => ?_⟩
  · rw [if_neg (by omega), h8]
    unfold mNxt
    rw [if_neg hl, if_pos hd]
  · rw [h11, mdV_num _ (fun j hj => mFst_pre (p := fun i => mDig (mBy gg (q + i))) 900 j hj)]
    unfold mVl
    rw [if_neg hl, if_pos hd]
theorem mTk_oth (hq : (q : Int) ≤ gg 1 0 1) (e0 : mBy gg q ≠ -1) (e1 : ¬ (97 ≤ mBy gg q ∧ mBy gg q ≤ 122)) (e2 : ¬ (48 ≤ mBy gg q ∧ mBy gg q ≤ 57)) (h9 : A 9 = (q : Int)) (h8 : A 8 = (q : Int) + 1) (h10 : A 10 = if mBy gg q = 59 then 3 else 4) : mTk gg q A := by
  have hl : ¬ mLet (mBy gg q) = true := fun z => e1 (of_decide_eq_true z)
  have hd : ¬ mDig (mBy gg q) = true := fun z => e2 (of_decide_eq_true z)
  have ht : mdT (mBy gg) q = if mBy gg q = 59 then 3 else 4 := by unfold mdT; rw [if_neg e0, if_neg hl, if_neg hd]
  refine ⟨hq, h9, ?_, by rw [h10, ht], fun z => ?_⟩
  · rw [if_neg e0, h8]
    unfold mNxt
    rw [if_neg hl, if_neg hd]
    omega
  · rw [ht] at z
    split at z <;> omega
end MTK
set_option maxRecDepth 100000 in
set_option maxHeartbeats 4000000 in
theorem c_md_advance {d : Nat} {h gg : fwH} {Q : Option fwV → fwH → Prop} (p : Nat) (TT : jT gg h) (hp : (p : Int) ≤ gg 1 0 1) (hat : h 12 0 8 = (p : Int)) (k : ∀ A, mTk gg (skB (mBy gg) p) A → mKp (h 12 0) A → Q none (fwUc h 12 0 A)) : fwCt mX12_advance (d + 1) [aR 12 0] h Q := by
  refine fwCt_of [some (aR 12 0), none] rfl rfl rfl ?_
  obtain ⟨ht1, ht2⟩ := TT.1
  have lp0 : ∀ c : Nat, c ≤ 900 → (mFst (fun i => mBlB (mBy gg (p + i))) c = c) → fwWP mX12_advance (d + 1) 0 [some (aR 12 0), none] [] (fwUc h 12 0 (fwFu (h 12 0) 8 ((p : Int) + (c : Int)))) Q := by
    refine fw_up (fun c hc0 ih0 => ?_)
    intro iv0
    have hcs : (p : Int) + (c : Int) ≤ gg 1 0 1 := by have := mRun_c (h := gg) (q := mBlB) (by decide) hp iv0; omega
    refine w_aload_n dX12_advance_0 rfl ?_
    refine w_aload_n dX12_advance_1 rfl ?_
    refine w_getiE (v := ((p : Int) + (c : Int))) dX12_advance_2 fl_X12_87 rfl (by decide) (by rfl) ?_
    refine w_callV (d := d + 0) (S := []) [aI ((p : Int) + (c : Int))] dX12_advance_5 ml_X12_90 ok_X12_see vi_X12_see rfl rfl (by decide) rfl (Nat.le_of_ble_eq_true rfl) ?_
    refine c_mdseeE (d := d) (p + c) ((p : Int) + (c : Int)) (by omega) (jT_uc TT (by exact TT.2.1)) (by omega) ?_
    show fwWP mX12_advance (d + 1) 8 [some (aR 12 0), none] [aI (mBy gg (p + c))] (fwUc h 12 0 (fwFu (h 12 0) 8 ((p : Int) + (c : Int)))) Q
    have hby1 := mBy_rng gg (p + c)
    refine w_bipush dX12_advance_8 rfl ?_
    refine w_icmp_eq 26 dX12_advance_10 (by decide) (by omega) (by omega) (fun c10 => ?_) (fun c10 => ?_)
    · refine w_aload_n dX12_advance_26 rfl ?_
      refine w_dup dX12_advance_27 rfl ?_
      refine w_getiE (v := ((p : Int) + (c : Int))) dX12_advance_28 fl_X12_87 rfl (by decide) (by rfl) ?_
      refine w_iconst dX12_advance_31 ?_
      refine w_iadd dX12_advance_32 ?_
      refine w_puti dX12_advance_33 fl_X12_87 fp_12_8 rfl (by decide) ?_
      rw [fwUp_uc]
      refine w_goto 0 dX12_advance_36 (by decide) ?_
      have hnb := mt (mBy_m1 (gg := gg) (p := p + c)).mpr (by omega)
      rw [show (fwUc h 12 0 (fwFu (fwFu (h 12 0) 8 ((p : Int) + (c : Int))) 8 (((p : Int) + (c : Int)) + 1))) = (fwUc h 12 0 (fwFu (h 12 0) 8 ((p : Int) + ((c + 1 : Nat) : Int)))) from ((congrArg (fwUc h 12 0) (fwFu_fu (h 12 0) 8 _ _)).trans (congrArg (fun z => fwUc h 12 0 (fwFu (h 12 0) 8 z)) (by omega)))]
      exact ih0 (by omega) (mFst_go iv0 (show mBlB (mBy gg (p + c)) = true from decide_eq_true (by omega)))
    · refine w_aload_n dX12_advance_13 rfl ?_
      refine w_aload_n dX12_advance_14 rfl ?_
      refine w_getiE (v := ((p : Int) + (c : Int))) dX12_advance_15 fl_X12_87 rfl (by decide) (by rfl) ?_
      refine w_callV (d := d + 0) (S := []) [aI ((p : Int) + (c : Int))] dX12_advance_18 ml_X12_90 ok_X12_see vi_X12_see rfl rfl (by decide) rfl (Nat.le_of_ble_eq_true rfl) ?_
      refine c_mdseeE (d := d) (p + c) ((p : Int) + (c : Int)) (by omega) (jT_uc TT (by exact TT.2.1)) (by omega) ?_
      show fwWP mX12_advance (d + 1) 21 [some (aR 12 0), none] [aI (mBy gg (p + c))] (fwUc h 12 0 (fwFu (h 12 0) 8 ((p : Int) + (c : Int)))) Q
      have hby3 := mBy_rng gg (p + c)
      refine w_bipush dX12_advance_21 rfl ?_
      refine w_icmp_ne 39 dX12_advance_23 (by decide) (by omega) (by omega) (fun c23 => ?_) (fun c23 => ?_)
      · have hsk : skB (mBy gg) p = p + c := by
          have e9 := mFst_stop iv0 (show ¬ mBlB (mBy gg (p + c)) = true from fun q => by have := of_decide_eq_true q; omega) (900 - c)
          rw [show c + (900 - c) = 900 by omega] at e9
          unfold skB
          rw [e9]
        rw [hsk] at k
        refine w_aload_n dX12_advance_39 rfl ?_
        refine w_aload_n dX12_advance_40 rfl ?_
        refine w_getiE (v := ((p : Int) + (c : Int))) dX12_advance_41 fl_X12_87 rfl (by decide) (by rfl) ?_
        refine w_puti dX12_advance_44 fl_X12_94 fp_12_9 rfl (by decide) ?_
        rw [fwUp_uc]
        refine w_aload_n dX12_advance_47 rfl ?_
        refine w_aload_n dX12_advance_48 rfl ?_
        refine w_getiE (v := ((p : Int) + (c : Int))) dX12_advance_49 fl_X12_87 rfl (by decide) (by rfl) ?_
        refine w_callV (d := d + 0) (S := []) [aI ((p : Int) + (c : Int))] dX12_advance_52 ml_X12_90 ok_X12_see vi_X12_see rfl rfl (by decide) rfl (Nat.le_of_ble_eq_true rfl) ?_
        refine c_mdseeE (d := d) (p + c) ((p : Int) + (c : Int)) (by omega) (jT_uc TT (by exact TT.2.1)) (by omega) ?_
        show fwWP mX12_advance (d + 1) 55 [some (aR 12 0), none] [aI (mBy gg (p + c))] (fwUc h 12 0 (fwFu (fwFu (h 12 0) 8 ((p : Int) + (c : Int))) 9 ((p : Int) + (c : Int)))) Q
        have hby5 := mBy_rng gg (p + c)
        refine w_istore_n [some (aR 12 0), some (aI (mBy gg (p + c)))] dX12_advance_55 rfl (by decide) ?_
        refine w_iload_n dX12_advance_56 rfl ?_
        refine w_iconst dX12_advance_57 ?_
        refine w_icmp_ne 69 dX12_advance_58 (by decide) (by omega) (by omega) (fun c58 => ?_) (fun c58 => ?_)
        · refine w_iload_n dX12_advance_69 rfl ?_
          refine w_i2l dX12_advance_70 (by omega) ?_
          refine w_ldc2 (n := 97) dX12_advance_71 cs_X12_100 ?_
          refine w_ldc2 (n := 122) dX12_advance_74 cs_X12_102 ?_
          refine w_callS (d := d + 0) (S := []) [aJ (mBy gg (p + c)), aJ 97, aJ 122] dX12_advance_77 ml_X12_65 ok_X12_in st_X12_in rfl (Nat.le_of_ble_eq_true rfl) ?_
          refine c_X12_in (d := d) (mBy gg (p + c)) 97 122 (by omega) (by omega) (by omega) ?_
          show fwWP mX12_advance (d + 1) 80 [some (aR 12 0), some (aI (mBy gg (p + c)))] [aI (fwB (97 ≤ (mBy gg (p + c)) ∧ (mBy gg (p + c)) ≤ 122))] (fwUc h 12 0 (fwFu (fwFu (h 12 0) 8 ((p : Int) + (c : Int))) 9 ((p : Int) + (c : Int)))) Q
          refine w_ifB_eq 125 dX12_advance_80 (by decide) (fun c80 => ?_) (fun c80 => ?_)
          · refine w_iload_n dX12_advance_125 rfl ?_
            refine w_i2l dX12_advance_126 (by omega) ?_
            refine w_ldc2 (n := 48) dX12_advance_127 cs_X12_104 ?_
            refine w_ldc2 (n := 57) dX12_advance_130 cs_X12_106 ?_
            refine w_callS (d := d + 0) (S := []) [aJ (mBy gg (p + c)), aJ 48, aJ 57] dX12_advance_133 ml_X12_65 ok_X12_in st_X12_in rfl (Nat.le_of_ble_eq_true rfl) ?_
            refine c_X12_in (d := d) (mBy gg (p + c)) 48 57 (by omega) (by omega) (by omega) ?_
            show fwWP mX12_advance (d + 1) 136 [some (aR 12 0), some (aI (mBy gg (p + c)))] [aI (fwB (48 ≤ (mBy gg (p + c)) ∧ (mBy gg (p + c)) ≤ 57))] (fwUc h 12 0 (fwFu (fwFu (h 12 0) 8 ((p : Int) + (c : Int))) 9 ((p : Int) + (c : Int)))) Q
            refine w_ifB_eq 214 dX12_advance_136 (by decide) (fun c136 => ?_) (fun c136 => ?_)
            · refine w_aload_n dX12_advance_214 rfl ?_
              refine w_iload_n dX12_advance_215 rfl ?_
              refine w_bipush dX12_advance_216 rfl ?_
              refine w_icmp_ne 225 dX12_advance_218 (by decide) (by omega) (by omega) (fun c218 => ?_) (fun c218 => ?_)
              · refine w_iconst dX12_advance_225 ?_
                refine w_puti dX12_advance_226 fl_X12_97 fp_12_10 rfl (by decide) ?_
                rw [fwUp_uc]
                refine w_aload_n dX12_advance_229 rfl ?_
                refine w_dup dX12_advance_230 rfl ?_
                refine w_getiE (v := ((p : Int) + (c : Int))) dX12_advance_231 fl_X12_87 rfl (by decide) (by rfl) ?_
                refine w_iconst dX12_advance_234 ?_
                refine w_iadd dX12_advance_235 ?_
                refine w_puti dX12_advance_236 fl_X12_87 fp_12_8 rfl (by decide) ?_
                rw [fwUp_uc]
                exact w_vret dX12_advance_239 rfl (k _ (mTk_oth (by omega) (by omega) (by omega) (by omega) (show (p : Int) + (c : Int) = ((p + c : Nat) : Int) by omega) (show (p : Int) + (c : Int) + 1 = ((p + c : Nat) : Int) + 1 by omega) (show (4 : Int) = _ by rw [if_neg (by omega)])) ⟨rfl, rfl, rfl, rfl⟩)
              · refine w_iconst dX12_advance_221 ?_
                refine w_goto 226 dX12_advance_222 (by decide) ?_
                refine w_puti dX12_advance_226 fl_X12_97 fp_12_10 rfl (by decide) ?_
                rw [fwUp_uc]
                refine w_aload_n dX12_advance_229 rfl ?_
                refine w_dup dX12_advance_230 rfl ?_
                refine w_getiE (v := ((p : Int) + (c : Int))) dX12_advance_231 fl_X12_87 rfl (by decide) (by rfl) ?_
                refine w_iconst dX12_advance_234 ?_
                refine w_iadd dX12_advance_235 ?_
                refine w_puti dX12_advance_236 fl_X12_87 fp_12_8 rfl (by decide) ?_
                rw [fwUp_uc]
                exact w_vret dX12_advance_239 rfl (k _ (mTk_oth (by omega) (by omega) (by omega) (by omega) (show (p : Int) + (c : Int) = ((p + c : Nat) : Int) by omega) (show (p : Int) + (c : Int) + 1 = ((p + c : Nat) : Int) + 1 by omega) (show (3 : Int) = _ by rw [if_pos (by omega)])) ⟨rfl, rfl, rfl, rfl⟩)
            · refine w_aload_n dX12_advance_139 rfl ?_
              refine w_iconst dX12_advance_140 ?_
              refine w_puti dX12_advance_141 fl_X12_108 fp_12_11 rfl (by decide) ?_
              rw [fwUp_uc]
              have lp144 : ∀ e9 : Nat, e9 ≤ 900 → (mFst (fun i => mDig (mBy gg (p + c + i))) e9 = e9) → fwWP mX12_advance (d + 1) 144 [some (aR 12 0), some (aI (mBy gg (p + c)))] [] (fwUc h 12 0 (fwFu (fwFu (fwFu (fwFu (h 12 0) 8 ((p : Int) + (c : Int))) 9 ((p : Int) + (c : Int))) 11 (mdV (mBy gg) (p + c) e9)) 8 ((p : Int) + (c : Int) + (e9 : Int)))) Q := by
                refine fw_up (fun e9 hc144 ih144 => ?_)
                intro iv144
                have hce : (p : Int) + (c : Int) + (e9 : Int) ≤ gg 1 0 1 := by have := mRun_c (h := gg) (q := mDig) (p := p + c) (by decide) (by omega) iv144; omega
                have hvd := mdV_rng (b := mBy gg) (p := p + c) e9 (fun j hj => by have := mFst_pre (p := (fun i => mDig (mBy gg (p + c + i)))) e9 j (by rw [iv144]; exact hj); exact this)
                refine w_aload_n dX12_advance_144 rfl ?_
                refine w_aload_n dX12_advance_145 rfl ?_
                refine w_getiE (v := ((p : Int) + (c : Int) + (e9 : Int))) dX12_advance_146 fl_X12_87 rfl (by decide) (by rfl) ?_
                refine w_callV (d := d + 0) (S := []) [aI ((p : Int) + (c : Int) + (e9 : Int))] dX12_advance_149 ml_X12_90 ok_X12_see vi_X12_see rfl rfl (by decide) rfl (Nat.le_of_ble_eq_true rfl) ?_
                refine c_mdseeE (d := d) (p + c + e9) ((p : Int) + (c : Int) + (e9 : Int)) (by omega) (jT_uc TT (by exact TT.2.1)) (by omega) ?_
                show fwWP mX12_advance (d + 1) 152 [some (aR 12 0), some (aI (mBy gg (p + c)))] [aI (mBy gg (p + c + e9))] (fwUc h 12 0 (fwFu (fwFu (fwFu (fwFu (h 12 0) 8 ((p : Int) + (c : Int))) 9 ((p : Int) + (c : Int))) 11 (mdV (mBy gg) (p + c) e9)) 8 ((p : Int) + (c : Int) + (e9 : Int)))) Q
                have hby10 := mBy_rng gg (p + c + e9)
                refine w_i2l dX12_advance_152 (by omega) ?_
                refine w_ldc2 (n := 48) dX12_advance_153 cs_X12_104 ?_
                refine w_ldc2 (n := 57) dX12_advance_156 cs_X12_106 ?_
                refine w_callS (d := d + 0) (S := []) [aJ (mBy gg (p + c + e9)), aJ 48, aJ 57] dX12_advance_159 ml_X12_65 ok_X12_in st_X12_in rfl (Nat.le_of_ble_eq_true rfl) ?_
                refine c_X12_in (d := d) (mBy gg (p + c + e9)) 48 57 (by omega) (by omega) (by omega) ?_
                show fwWP mX12_advance (d + 1) 162 [some (aR 12 0), some (aI (mBy gg (p + c)))] [aI (fwB (48 ≤ (mBy gg (p + c + e9)) ∧ (mBy gg (p + c + e9)) ≤ 57))] (fwUc h 12 0 (fwFu (fwFu (fwFu (fwFu (h 12 0) 8 ((p : Int) + (c : Int))) 9 ((p : Int) + (c : Int))) 11 (mdV (mBy gg) (p + c) e9)) 8 ((p : Int) + (c : Int) + (e9 : Int)))) Q
                refine w_ifB_eq 206 dX12_advance_162 (by decide) (fun c162 => ?_) (fun c162 => ?_)
                · have est : mFst (fun i => mDig (mBy gg (p + c + i))) 900 = e9 := by
                    have e8 := mFst_stop iv144 (show ¬ ((fun i => mDig (mBy gg (p + c + i))) : Nat → Bool) e9 = true from fun q => by have := of_decide_eq_true q; omega) (900 - e9)
                    rw [show e9 + (900 - e9) = 900 by omega] at e8
                    exact e8
                  refine w_aload_n dX12_advance_206 rfl ?_
                  refine w_iconst dX12_advance_207 ?_
                  refine w_puti dX12_advance_208 fl_X12_97 fp_12_10 rfl (by decide) ?_
                  rw [fwUp_uc]
                  refine w_goto 239 dX12_advance_211 (by decide) ?_
                  exact w_vret dX12_advance_239 rfl (k _ (mTk_dig (by omega) (by omega) (show (p : Int) + (c : Int) = ((p + c : Nat) : Int) by omega) (show (p : Int) + (c : Int) + (e9 : Int) = ((mDigEnd (mBy gg) (p + c) : Nat) : Int) by unfold mDigEnd; rw [est]; omega) rfl (show mdV (mBy gg) (p + c) e9 = _ by rw [est])) ⟨rfl, rfl, rfl, rfl⟩)
                · refine w_aload_n dX12_advance_165 rfl ?_
                  refine w_ldc (n := 99999) dX12_advance_166 cs_X12_111 ?_
                  refine w_bipush dX12_advance_168 rfl ?_
                  refine w_aload_n dX12_advance_170 rfl ?_
                  refine w_getiE (v := (mdV (mBy gg) (p + c) e9)) dX12_advance_171 fl_X12_108 rfl (by decide) (by rfl) ?_
                  refine w_imul dX12_advance_174 ?_
                  refine w_aload_n dX12_advance_175 rfl ?_
                  refine w_aload_n dX12_advance_176 rfl ?_
                  refine w_getiE (v := ((p : Int) + (c : Int) + (e9 : Int))) dX12_advance_177 fl_X12_87 rfl (by decide) (by rfl) ?_
                  refine w_callV (d := d + 0) (S := [aI (10 * (mdV (mBy gg) (p + c) e9)), aI 99999, aR 12 0]) [aI ((p : Int) + (c : Int) + (e9 : Int))] dX12_advance_180 ml_X12_90 ok_X12_see vi_X12_see rfl rfl (by decide) rfl (Nat.le_of_ble_eq_true rfl) ?_
                  refine c_mdseeE (d := d) (p + c + e9) ((p : Int) + (c : Int) + (e9 : Int)) (by omega) (jT_uc TT (by exact TT.2.1)) (by omega) ?_
                  show fwWP mX12_advance (d + 1) 183 [some (aR 12 0), some (aI (mBy gg (p + c)))] [aI (mBy gg (p + c + e9)), aI (10 * (mdV (mBy gg) (p + c) e9)), aI 99999, aR 12 0] (fwUc h 12 0 (fwFu (fwFu (fwFu (fwFu (h 12 0) 8 ((p : Int) + (c : Int))) 9 ((p : Int) + (c : Int))) 11 (mdV (mBy gg) (p + c) e9)) 8 ((p : Int) + (c : Int) + (e9 : Int)))) Q
                  have hby12 := mBy_rng gg (p + c + e9)
                  refine w_iadd dX12_advance_183 ?_
                  refine w_bipush dX12_advance_184 rfl ?_
                  refine w_isub dX12_advance_186 ?_
                  refine w_min (d := d + 0) (S := [aR 12 0]) dX12_advance_187 ml_X12_112 (by omega) (by omega) (Nat.le_of_ble_eq_true rfl) ?_
                  refine w_puti dX12_advance_190 fl_X12_108 fp_12_11 rfl (by decide) ?_
                  rw [fwUp_uc]
                  refine w_aload_n dX12_advance_193 rfl ?_
                  refine w_dup dX12_advance_194 rfl ?_
                  refine w_getiE (v := ((p : Int) + (c : Int) + (e9 : Int))) dX12_advance_195 fl_X12_87 rfl (by decide) (by rfl) ?_
                  refine w_iconst dX12_advance_198 ?_
                  refine w_iadd dX12_advance_199 ?_
                  refine w_puti dX12_advance_200 fl_X12_87 fp_12_8 rfl (by decide) ?_
                  rw [fwUp_uc]
                  refine w_goto 144 dX12_advance_203 (by decide) ?_
                  have hnb := mt (mBy_m1 (gg := gg) (p := p + c + e9)).mpr (by omega)
                  rw [show (fwUc h 12 0 (fwFu (fwFu (fwFu (fwFu (fwFu (fwFu (h 12 0) 8 ((p : Int) + (c : Int))) 9 ((p : Int) + (c : Int))) 11 (mdV (mBy gg) (p + c) e9)) 8 ((p : Int) + (c : Int) + (e9 : Int))) 11 (min 99999 (((10 * (mdV (mBy gg) (p + c) e9)) + (mBy gg (p + c + e9))) - 48))) 8 (((p : Int) + (c : Int) + (e9 : Int)) + 1))) = (fwUc h 12 0 (fwFu (fwFu (fwFu (fwFu (h 12 0) 8 ((p : Int) + (c : Int))) 9 ((p : Int) + (c : Int))) 11 (mdV (mBy gg) (p + c) (e9 + 1))) 8 ((p : Int) + (c : Int) + ((e9 + 1 : Nat) : Int)))) from ((congrArg (fwUc h 12 0) (fw118 (fwFu (fwFu (h 12 0) 8 ((p : Int) + (c : Int))) 9 ((p : Int) + (c : Int))) _ _ _ _)).trans (congrArg (fun z => fwUc h 12 0 (fwFu (fwFu (fwFu (fwFu (h 12 0) 8 ((p : Int) + (c : Int))) 9 ((p : Int) + (c : Int))) 11 (mdV (mBy gg) (p + c) (e9 + 1))) 8 z)) (by omega)))]
                  exact ih144 (by omega) (mFst_go iv144 (show mDig (mBy gg (p + c + e9)) = true from decide_eq_true (by omega)))
              rw [show (fwUc h 12 0 (fwFu (fwFu (fwFu (h 12 0) 8 ((p : Int) + (c : Int))) 9 ((p : Int) + (c : Int))) 11 0)) = (fwUc h 12 0 (fwFu (fwFu (fwFu (fwFu (h 12 0) 8 ((p : Int) + (c : Int))) 9 ((p : Int) + (c : Int))) 11 (mdV (mBy gg) (p + c) 0)) 8 ((p : Int) + (c : Int) + ((0 : Nat) : Int)))) from ((congrArg (fwUc h 12 0) (fwFu_same (fwFu (fwFu (fwFu (h 12 0) 8 ((p : Int) + (c : Int))) 9 ((p : Int) + (c : Int))) 11 0) 8 (show (p : Int) + (c : Int) = (p : Int) + (c : Int) + ((0 : Nat) : Int) by omega))).symm)]
              exact lp144 0 (Nat.zero_le _) rfl
          · have lp83 : ∀ e9 : Nat, e9 ≤ 900 → (mFst (fun i => mLet (mBy gg (p + c + i))) e9 = e9) → fwWP mX12_advance (d + 1) 83 [some (aR 12 0), some (aI (mBy gg (p + c)))] [] (fwUc h 12 0 (fwFu (fwFu (fwFu (h 12 0) 8 ((p : Int) + (c : Int))) 9 ((p : Int) + (c : Int))) 8 ((p : Int) + (c : Int) + (e9 : Int)))) Q := by
              refine fw_up (fun e9 hc83 ih83 => ?_)
              intro iv83
              have hce : (p : Int) + (c : Int) + (e9 : Int) ≤ gg 1 0 1 := by have := mRun_c (h := gg) (q := mLet) (p := p + c) (by decide) (by omega) iv83; omega
              refine w_aload_n dX12_advance_83 rfl ?_
              refine w_aload_n dX12_advance_84 rfl ?_
              refine w_getiE (v := ((p : Int) + (c : Int) + (e9 : Int))) dX12_advance_85 fl_X12_87 rfl (by decide) (by rfl) ?_
              refine w_callV (d := d + 0) (S := []) [aI ((p : Int) + (c : Int) + (e9 : Int))] dX12_advance_88 ml_X12_90 ok_X12_see vi_X12_see rfl rfl (by decide) rfl (Nat.le_of_ble_eq_true rfl) ?_
              refine c_mdseeE (d := d) (p + c + e9) ((p : Int) + (c : Int) + (e9 : Int)) (by omega) (jT_uc TT (by exact TT.2.1)) (by omega) ?_
              show fwWP mX12_advance (d + 1) 91 [some (aR 12 0), some (aI (mBy gg (p + c)))] [aI (mBy gg (p + c + e9))] (fwUc h 12 0 (fwFu (fwFu (fwFu (h 12 0) 8 ((p : Int) + (c : Int))) 9 ((p : Int) + (c : Int))) 8 ((p : Int) + (c : Int) + (e9 : Int)))) Q
              have hby13 := mBy_rng gg (p + c + e9)
              refine w_i2l dX12_advance_91 (by omega) ?_
              refine w_ldc2 (n := 97) dX12_advance_92 cs_X12_100 ?_
              refine w_ldc2 (n := 122) dX12_advance_95 cs_X12_102 ?_
              refine w_callS (d := d + 0) (S := []) [aJ (mBy gg (p + c + e9)), aJ 97, aJ 122] dX12_advance_98 ml_X12_65 ok_X12_in st_X12_in rfl (Nat.le_of_ble_eq_true rfl) ?_
              refine c_X12_in (d := d) (mBy gg (p + c + e9)) 97 122 (by omega) (by omega) (by omega) ?_
              show fwWP mX12_advance (d + 1) 101 [some (aR 12 0), some (aI (mBy gg (p + c)))] [aI (fwB (97 ≤ (mBy gg (p + c + e9)) ∧ (mBy gg (p + c + e9)) ≤ 122))] (fwUc h 12 0 (fwFu (fwFu (fwFu (h 12 0) 8 ((p : Int) + (c : Int))) 9 ((p : Int) + (c : Int))) 8 ((p : Int) + (c : Int) + (e9 : Int)))) Q
              refine w_ifB_eq 117 dX12_advance_101 (by decide) (fun c101 => ?_) (fun c101 => ?_)
              · have est : mFst (fun i => mLet (mBy gg (p + c + i))) 900 = e9 := by
                  have e8 := mFst_stop iv83 (show ¬ ((fun i => mLet (mBy gg (p + c + i))) : Nat → Bool) e9 = true from fun q => by have := of_decide_eq_true q; omega) (900 - e9)
                  rw [show e9 + (900 - e9) = 900 by omega] at e8
                  exact e8
                refine w_aload_n dX12_advance_117 rfl ?_
                refine w_iconst dX12_advance_118 ?_
                refine w_puti dX12_advance_119 fl_X12_97 fp_12_10 rfl (by decide) ?_
                rw [fwUp_uc]
                refine w_goto 239 dX12_advance_122 (by decide) ?_
                exact w_vret dX12_advance_239 rfl (k _ (mTk_let (by omega) (by omega) (show (p : Int) + (c : Int) = ((p + c : Nat) : Int) by omega) (show (p : Int) + (c : Int) + (e9 : Int) = ((mLetEnd (mBy gg) (p + c) : Nat) : Int) by unfold mLetEnd; rw [est]; omega) rfl) ⟨rfl, rfl, rfl, rfl⟩)
              · refine w_aload_n dX12_advance_104 rfl ?_
                refine w_dup dX12_advance_105 rfl ?_
                refine w_getiE (v := ((p : Int) + (c : Int) + (e9 : Int))) dX12_advance_106 fl_X12_87 rfl (by decide) (by rfl) ?_
                refine w_iconst dX12_advance_109 ?_
                refine w_iadd dX12_advance_110 ?_
                refine w_puti dX12_advance_111 fl_X12_87 fp_12_8 rfl (by decide) ?_
                rw [fwUp_uc]
                refine w_goto 83 dX12_advance_114 (by decide) ?_
                have hnb := mt (mBy_m1 (gg := gg) (p := p + c + e9)).mpr (by omega)
                rw [show (fwUc h 12 0 (fwFu (fwFu (fwFu (fwFu (h 12 0) 8 ((p : Int) + (c : Int))) 9 ((p : Int) + (c : Int))) 8 ((p : Int) + (c : Int) + (e9 : Int))) 8 (((p : Int) + (c : Int) + (e9 : Int)) + 1))) = (fwUc h 12 0 (fwFu (fwFu (fwFu (h 12 0) 8 ((p : Int) + (c : Int))) 9 ((p : Int) + (c : Int))) 8 ((p : Int) + (c : Int) + ((e9 + 1 : Nat) : Int)))) from ((congrArg (fwUc h 12 0) (fwFu_fu (fwFu (fwFu (h 12 0) 8 ((p : Int) + (c : Int))) 9 ((p : Int) + (c : Int))) 8 _ _)).trans (congrArg (fun z => fwUc h 12 0 (fwFu (fwFu (fwFu (h 12 0) 8 ((p : Int) + (c : Int))) 9 ((p : Int) + (c : Int))) 8 z)) (by omega)))]
                exact ih83 (by omega) (mFst_go iv83 (show mLet (mBy gg (p + c + e9)) = true from decide_eq_true (by omega)))
            rw [show (fwUc h 12 0 (fwFu (fwFu (h 12 0) 8 ((p : Int) + (c : Int))) 9 ((p : Int) + (c : Int)))) = (fwUc h 12 0 (fwFu (fwFu (fwFu (h 12 0) 8 ((p : Int) + (c : Int))) 9 ((p : Int) + (c : Int))) 8 ((p : Int) + (c : Int) + ((0 : Nat) : Int)))) from ((congrArg (fwUc h 12 0) (fwFu_same (fwFu (fwFu (h 12 0) 8 ((p : Int) + (c : Int))) 9 ((p : Int) + (c : Int))) 8 (show (p : Int) + (c : Int) = (p : Int) + (c : Int) + ((0 : Nat) : Int) by omega))).symm)]
            exact lp83 0 (Nat.zero_le _) rfl
        · refine w_aload_n dX12_advance_61 rfl ?_
          refine w_iconst dX12_advance_62 ?_
          refine w_puti dX12_advance_63 fl_X12_97 fp_12_10 rfl (by decide) ?_
          rw [fwUp_uc]
          refine w_goto 239 dX12_advance_66 (by decide) ?_
          exact w_vret dX12_advance_239 rfl (k _ (mTk_end (by omega) (by omega) (show (p : Int) + (c : Int) = ((p + c : Nat) : Int) by omega) (show (p : Int) + (c : Int) = ((p + c : Nat) : Int) by omega) rfl) ⟨rfl, rfl, rfl, rfl⟩)
      · refine w_aload_n dX12_advance_26 rfl ?_
        refine w_dup dX12_advance_27 rfl ?_
        refine w_getiE (v := ((p : Int) + (c : Int))) dX12_advance_28 fl_X12_87 rfl (by decide) (by rfl) ?_
        refine w_iconst dX12_advance_31 ?_
        refine w_iadd dX12_advance_32 ?_
        refine w_puti dX12_advance_33 fl_X12_87 fp_12_8 rfl (by decide) ?_
        rw [fwUp_uc]
        refine w_goto 0 dX12_advance_36 (by decide) ?_
        have hnb := mt (mBy_m1 (gg := gg) (p := p + c)).mpr (by omega)
        rw [show (fwUc h 12 0 (fwFu (fwFu (h 12 0) 8 ((p : Int) + (c : Int))) 8 (((p : Int) + (c : Int)) + 1))) = (fwUc h 12 0 (fwFu (h 12 0) 8 ((p : Int) + ((c + 1 : Nat) : Int)))) from ((congrArg (fwUc h 12 0) (fwFu_fu (h 12 0) 8 _ _)).trans (congrArg (fun z => fwUc h 12 0 (fwFu (h 12 0) 8 z)) (by omega)))]
        exact ih0 (by omega) (mFst_go iv0 (show mBlB (mBy gg (p + c)) = true from decide_eq_true (by omega)))
  rw [show h = (fwUc h 12 0 (fwFu (h 12 0) 8 ((p : Int) + ((0 : Nat) : Int)))) from (by rw [show ((p : Int) + ((0 : Nat) : Int)) = (p : Int) by omega, fwFu_same _ _ hat, fwUc_self])]
  exact lp0 0 (Nat.zero_le _) rfl
end
section
/-! the reading's state: q says where it stands, or what was faulty -/
def mSt (gg : fwH) (q : fwPq) (h : fwH) : Prop := jT gg h ∧ h 12 0 5 = 0 ∧ match q with
  | .inr s => s.1 ≤ tkN gg ∧ mTk gg (tokP (mBy gg) s.1) (h 12 0) ∧ h 12 0 12 = 0 ∧ h 12 0 13 = -1 ∧ ∀ z : Nat, z < 135 → h 41 0 z = s.2 z
  | .inl e => e.2 ≤ tkN gg ∧ (1 ≤ e.1 ∧ e.1 ≤ 3) ∧ h 12 0 12 = e.1 ∧ h 12 0 13 = (tokP (mBy gg) e.2 : Int)
/-- what reading leaves alone -/
def mFr (h g : fwH) : Prop := ∀ a b, a ≠ 12 → a ≠ 41 → g a b = h a b
theorem mFr_rf (h : fwH) : mFr h h := fun _ _ _ _ => rfl
theorem mFr_tr {h g f : fwH} (a : mFr h g) (b : mFr g f) : mFr h f := fun x y p q => (b x y p q).trans (a x y p q)
theorem mFr_12 {h g : fwH} (F : mFr h g) (A : Nat → Int) : mFr h (fwUc g 12 0 A) := fun a b p q => by rw [fwUc_ne (fun z => p z.1)]; exact F a b p q
theorem mFr_41 {h g : fwH} (F : mFr h g) (s : Nat) (x : Int) : mFr h (fwUp g 41 0 s x) := fun a b p q => by
  funext j
  show (if a = 41 ∧ b = 0 ∧ j = s then x else g a b j) = h a b j
  rw [if_neg (fun z => q z.1), F a b p q]
def qPut (q : fwPq) (s : Nat) (v : Int) : fwPq := match q with
  | .inr z => .inr (z.1, fwFu z.2 s v)
  | .inl e => .inl e
theorem mSt_put {gg h : fwH} {q : fwPq} (S : mSt gg q h) (s : Nat) (v : Int) : mSt gg (qPut q s v) (fwUp h 41 0 s v) := by
  obtain ⟨a, b, c⟩ := S
  refine ⟨a, b, ?_⟩
  cases q with
  | inl e => exact c
  | inr z =>
    obtain ⟨c1, c2, c3, c4, c5⟩ := c
    refine ⟨c1, c2, c3, c4, fun j hj => ?_⟩
    show (if 41 = 41 ∧ 0 = 0 ∧ j = s then v else h 41 0 j) = fwFu z.2 s v j
    unfold fwFu
    by_cases e : j = s
    · rw [if_pos ⟨rfl, rfl, e⟩, if_pos e]
    · rw [if_neg (fun z => e z.2.2), if_neg e]
      exact c5 j hj
/-- a step to the next TOKEN -/
theorem mSt_adv {gg h : fwH} {i : Nat} {W A : Nat → Int} (S : mSt gg (.inr (i, W)) h) (hi : i < tkN gg) (hA : mTk gg (tokP (mBy gg) (i + 1)) A) (hk : mKp (h 12 0) A) : mSt gg (.inr (i + 1, W)) (fwUc h 12 0 A) := by
  obtain ⟨a, b, c1, c2, c3, c4, c5⟩ := S
  exact ⟨jT_uc a (hk.2.1.trans a.2.1), hk.1.trans b, hi, hA, hk.2.2.1.trans c3, hk.2.2.2.trans c4, c5⟩
theorem wk_one : ∀ s, s < 13 → ∀ t, t < 13 → (fwSb s).length = (fwSb t).length → (∀ i, i < (fwSb s).length → (fwSb s).getD i 0 = (fwSb t).getD i 0) → s = t := by decide +kernel
theorem wk_13 : ∀ s, s < 13 → fwSb (s + 13) = fwSb s := by decide +kernel
theorem wk_let : ∀ s, s < 13 → (1 ≤ (fwSb s).length ∧ (fwSb s).length ≤ 5) ∧ ∀ i, i < (fwSb s).length → 97 ≤ (fwSb s).getD i 0 ∧ (fwSb s).getD i 0 ≤ 122 := by decide +kernel
theorem mTx_one {b : Nat → Int} {p q s t : Nat} (hs : s < 13) (ht : t < 13) (h1 : mTx b p q s) (h2 : mTx b p q t) : s = t := by
  refine wk_one s hs t ht (by have := h1.1; have := h2.1; omega) (fun i hi => ?_)
  have e1 := of_decide_eq_true ((mAll_iff _ _).mp h1.2 i hi)
  have e2 := of_decide_eq_true ((mAll_iff _ _).mp h2.2 i (by have := h1.1; have := h2.1; omega))
  omega
theorem mWk_iff {b : Nat → Int} {p q s : Nat} (hs : s < 13) : mWk b p q = (s : Int) + 4 ↔ mTx b p q s := by
  unfold mWk
  have hle := mFst_le (mWkB b p q) 13
  constructor
  · intro e
    split at e
    · omega
    · have e2 : mFst (mWkB b p q) 13 = s := by omega
      have := mFst_not (p := mWkB b p q) 13 (by omega)
      rw [e2] at this
      exact Decidable.not_not.mp (of_decide_eq_false this)
  · intro e
    have e2 : mFst (mWkB b p q) 13 = s := by
      rcases Nat.lt_trichotomy (mFst (mWkB b p q) 13) s with x | x | x
      · have := mFst_not (p := mWkB b p q) 13 (by omega)
        have := Decidable.not_not.mp (of_decide_eq_false this)
        exact mTx_one (by omega) hs this e
      · exact x
      · have := of_decide_eq_true (mFst_pre (p := mWkB b p q) 13 s x)
        exact absurd e this
    rw [if_neg (by omega), e2]
/-- the class's TOKEN and the model's -/
theorem tk_kind {gg : fwH} (hT : tOk gg) {i : Nat} (hi : i ≤ tkN gg) : (cutH gg 14 0 i = 3 ↔ mdT (mBy gg) (tokP (mBy gg) i) = 2) ∧ (cutH gg 14 0 i = 2 ↔ mdT (mBy gg) (tokP (mBy gg) i) = 3) ∧ (cutH gg 14 0 i = 0 ↔ mdT (mBy gg) (tokP (mBy gg) i) = 0) ∧ (cutH gg 14 0 i = 3 → cutH gg 16 0 i = mVl (mBy gg) (tokP (mBy gg) i)) ∧ (cutH gg 14 0 i ≠ 0 → i < tkN gg) ∧ (∀ s : Nat, s < 13 → (cutH gg 14 0 i = (s : Int) + 4 ↔ (mdT (mBy gg) (tokP (mBy gg) i) = 1 ∧ mTx (mBy gg) (tokP (mBy gg) i) (mLetEnd (mBy gg) (tokP (mBy gg) i)) s))) ∧ (0 ≤ mdT (mBy gg) (tokP (mBy gg) i) ∧ mdT (mBy gg) (tokP (mBy gg) i) ≤ 4) := by
  obtain ⟨k1, k2, k3, k4, k5, k6, k7⟩ := cut_at hT
  rcases Nat.lt_or_ge i (tkN gg) with e | e
  · obtain ⟨a1, a2, a3, a4⟩ := k1 i e
    have hb : mBy gg (tokP (mBy gg) i) ≠ -1 := fun z => by have := mBy_m1.mp z; omega
    rw [a1, a3]
    have hw := mWk_rng (mBy gg) (tokP (mBy gg) i) (mLetEnd (mBy gg) (tokP (mBy gg) i))
    have hw2 : mWk (mBy gg) (tokP (mBy gg) i) (mLetEnd (mBy gg) (tokP (mBy gg) i)) = 1 ∨ 4 ≤ mWk (mBy gg) (tokP (mBy gg) i) (mLetEnd (mBy gg) (tokP (mBy gg) i)) := by
      unfold mWk
      split <;> omega
    have hx := fun s hs => mWk_iff (b := mBy gg) (p := tokP (mBy gg) i) (q := mLetEnd (mBy gg) (tokP (mBy gg) i)) (s := s) hs
    generalize mTx (mBy gg) (tokP (mBy gg) i) (mLetEnd (mBy gg) (tokP (mBy gg) i)) = X at hx ⊢
    unfold mKd mdT
    rw [if_neg hb]
    by_cases c1 : mLet (mBy gg (tokP (mBy gg) i)) = true
    · rw [if_pos c1, if_pos c1]
      refine ⟨⟨fun z => by omega, fun z => by omega⟩, ⟨fun z => by omega, fun z => by omega⟩, ⟨fun z => by omega, fun z => by omega⟩, fun _ => rfl, fun _ => e, fun s hs => ?_, by decide⟩
      rw [hx s hs]
      exact ⟨fun z => ⟨rfl, z⟩, fun z => z.2⟩
    · rw [if_neg c1, if_neg c1]
      by_cases c2 : mDig (mBy gg (tokP (mBy gg) i)) = true
      · rw [if_pos c2, if_pos c2]
        exact ⟨⟨fun _ => rfl, fun _ => rfl⟩, ⟨fun z => by omega, fun z => by omega⟩, ⟨fun z => by omega, fun z => by omega⟩, fun _ => rfl, fun _ => e, fun s hs => ⟨fun z => by omega, fun z => absurd z.1 (by decide)⟩, by decide⟩
      · rw [if_neg c2, if_neg c2]
        by_cases c3 : mBy gg (tokP (mBy gg) i) = 59
        · rw [if_pos c3, if_pos c3]
          exact ⟨⟨fun z => by omega, fun z => by omega⟩, ⟨fun _ => rfl, fun _ => rfl⟩, ⟨fun z => by omega, fun z => by omega⟩, fun _ => rfl, fun _ => e, fun s hs => ⟨fun z => by omega, fun z => absurd z.1 (by decide)⟩, by decide⟩
        · rw [if_neg c3, if_neg c3]
          exact ⟨⟨fun z => by omega, fun z => by omega⟩, ⟨fun z => by omega, fun z => by omega⟩, ⟨fun z => by omega, fun z => by omega⟩, fun _ => rfl, fun _ => e, fun s hs => ⟨fun z => by omega, fun z => absurd z.1 (by decide)⟩, by decide⟩
  · have ei : i = tkN gg := by omega
    subst ei
    have hb : mBy gg (tokP (mBy gg) (tkN gg)) = -1 := mBy_m1.mpr (by omega)
    rw [k3, mdT_m1 hb]
    exact ⟨⟨fun z => by omega, fun z => by omega⟩, ⟨fun z => by omega, fun z => by omega⟩, ⟨fun _ => rfl, fun _ => rfl⟩, fun z => by omega, fun z => absurd rfl z, fun s hs => ⟨fun z => by omega, fun z => absurd z.1 (by decide)⟩, by decide⟩
end
section
theorem mSt_l {gg h : fwH} {e : Int × Nat} (S : mSt gg (.inl e) h) : e.2 ≤ tkN gg ∧ (1 ≤ e.1 ∧ e.1 ≤ 3) ∧ h 12 0 12 = e.1 ∧ h 12 0 13 = (tokP (mBy gg) e.2 : Int) := S.2.2
theorem mSt_r {gg h : fwH} {i : Nat} {W : Nat → Int} (S : mSt gg (.inr (i, W)) h) : i ≤ tkN gg ∧ mTk gg (tokP (mBy gg) i) (h 12 0) ∧ h 12 0 12 = 0 ∧ h 12 0 13 = -1 ∧ ∀ z : Nat, z < 135 → h 41 0 z = W z := S.2.2
theorem mSt_flt {gg h : fwH} {i : Nat} {W : Nat → Int} (S : mSt gg (.inr (i, W)) h) {x : Int} (hx : 1 ≤ x ∧ x ≤ 3) : mSt gg (.inl (x, i)) (fwUp (fwUp h 12 0 12 x) 12 0 13 (h 12 0 9)) := by
  obtain ⟨a, b, c1, c2, c3, c4, c5⟩ := S
  refine ⟨jT_up (jT_up a (by decide)) (by decide), b, c1, hx, rfl, ?_⟩
  show h 12 0 9 = _
  exact c2.2.1
theorem mFr_flt (h : fwH) (x y : Int) : mFr h (fwUp (fwUp h 12 0 12 x) 12 0 13 y) := fun a b p q => by
  funext j
  show (if a = 12 ∧ b = 0 ∧ j = 13 then y else if a = 12 ∧ b = 0 ∧ j = 12 then x else h a b j) = h a b j
  rw [if_neg (fun z => p z.1), if_neg (fun z => p z.1)]
set_option maxRecDepth 100000 in
set_option maxHeartbeats 4000000 in
theorem c_f_good {d : Nat} {h gg : fwH} {Q : Option fwV → fwH → Prop}  (e : Int × Nat) (S : mSt gg (.inl e) h) (k : Q (some (aI 0)) h) : fwCt mX12_good (d + 0) [aR 12 0] h Q := by
  refine fwCt_of [some (aR 12 0)] rfl rfl rfl ?_
  obtain ⟨hl1, hl2, hl3, hl4⟩ := mSt_l S
  refine w_aload_n dX12_good_0 rfl ?_
  refine w_getiE (v := e.1) dX12_good_1 fl_X12_118 rfl (by decide) (mSt_l S).2.2.1 ?_
  refine w_if_ne 11 dX12_good_4 (by decide) (by omega) (fun c4 => ?_) (fun c4 => ?_)
  · refine w_iconst dX12_good_11 ?_
    exact w_zret dX12_good_12 rfl (Or.inl rfl) k
  · refine w_iconst dX12_good_7 ?_
    refine w_goto 12 dX12_good_8 (by decide) ?_
    (exfalso; omega)
set_option maxRecDepth 100000 in
set_option maxHeartbeats 4000000 in
theorem c_r_good {d : Nat} {h gg : fwH} {Q : Option fwV → fwH → Prop}  (i : Nat) (W : Nat → Int) (S : mSt gg (.inr (i, W)) h) (k : Q (some (aI 1)) h) : fwCt mX12_good (d + 0) [aR 12 0] h Q := by
  refine fwCt_of [some (aR 12 0)] rfl rfl rfl ?_
  obtain ⟨hz1, hz2⟩ := S.1.1
  obtain ⟨hr1, hr2, hr3, hr4, hr5⟩ := mSt_r S
  obtain ⟨hk1, hk2, hk3, hk4, hk5, hk6, hk7⟩ := tk_kind S.1.1 hr1
  refine w_aload_n dX12_good_0 rfl ?_
  refine w_getiE (v := 0) dX12_good_1 fl_X12_118 rfl (by decide) (mSt_r S).2.2.1 ?_
  refine w_if_ne 11 dX12_good_4 (by decide) (by omega) (fun c4 => ?_) (fun c4 => ?_)
  · (exfalso; omega)
  · refine w_iconst dX12_good_7 ?_
    refine w_goto 12 dX12_good_8 (by decide) ?_
    exact w_zret dX12_good_12 rfl (Or.inr rfl) k
set_option maxRecDepth 100000 in
set_option maxHeartbeats 4000000 in
theorem c_f_errs {d : Nat} {h gg : fwH} {Q : Option fwV → fwH → Prop} (x : Int) (e : Int × Nat) (S : mSt gg (.inl e) h) (k : Q none h) : fwCt mX12_errs (d + 1) [aR 12 0, aI x] h Q := by
  refine fwCt_of [some (aR 12 0), some (aI x)] rfl rfl rfl ?_
  obtain ⟨hl1, hl2, hl3, hl4⟩ := mSt_l S
  refine w_aload_n dX12_errs_0 rfl ?_
  refine w_callV (d := d + 0) (S := []) [] dX12_errs_1 ml_X12_121 ok_X12_good vi_X12_good rfl rfl (by decide) rfl (Nat.le_of_ble_eq_true rfl) ?_
  refine c_f_good (d := d) _ S ?_
  show fwWP mX12_errs (d + 1) 4 [some (aR 12 0), some (aI x)] [aI 0] h Q
  refine w_if_ne 8 dX12_errs_4 (by decide) (by omega) (fun c4 => ?_) (fun c4 => ?_)
  · (exfalso; omega)
  · exact w_vret dX12_errs_7 rfl k
set_option maxRecDepth 100000 in
set_option maxHeartbeats 4000000 in
theorem c_r_errs {d : Nat} {h gg : fwH} {Q : Option fwV → fwH → Prop} (x : Int) (i : Nat) (W : Nat → Int) (S : mSt gg (.inr (i, W)) h) (hx : 1 ≤ x ∧ x ≤ 3) (k : ∀ g, mSt gg (.inl (x, i)) g → mFr h g → Q none g) : fwCt mX12_errs (d + 1) [aR 12 0, aI x] h Q := by
  refine fwCt_of [some (aR 12 0), some (aI x)] rfl rfl rfl ?_
  obtain ⟨hz1, hz2⟩ := S.1.1
  obtain ⟨hr1, hr2, hr3, hr4, hr5⟩ := mSt_r S
  obtain ⟨hk1, hk2, hk3, hk4, hk5, hk6, hk7⟩ := tk_kind S.1.1 hr1
  refine w_aload_n dX12_errs_0 rfl ?_
  refine w_callV (d := d + 0) (S := []) [] dX12_errs_1 ml_X12_121 ok_X12_good vi_X12_good rfl rfl (by decide) rfl (Nat.le_of_ble_eq_true rfl) ?_
  refine c_r_good (d := d) _ _ S ?_
  show fwWP mX12_errs (d + 1) 4 [some (aR 12 0), some (aI x)] [aI 1] h Q
  refine w_if_ne 8 dX12_errs_4 (by decide) (by omega) (fun c4 => ?_) (fun c4 => ?_)
  · refine w_aload_n dX12_errs_8 rfl ?_
    refine w_iload_n dX12_errs_9 rfl ?_
    refine w_puti dX12_errs_10 fl_X12_118 fp_12_12 rfl (by decide) ?_
    refine w_aload_n dX12_errs_13 rfl ?_
    refine w_aload_n dX12_errs_14 rfl ?_
    refine w_getiE (v := h 12 0 9) dX12_errs_15 fl_X12_94 rfl (by decide) (by first | rfl | simp [fwUp, fwUc]) ?_
    refine w_puti dX12_errs_18 fl_X12_27 fp_12_13 rfl (by decide) ?_
    exact w_vret dX12_errs_21 rfl (k _ (mSt_flt S hx) (mFr_flt _ _ _))
  · (exfalso; omega)
set_option maxRecDepth 100000 in
set_option maxHeartbeats 4000000 in
theorem c_f_is {d : Nat} {h gg : fwH} {Q : Option fwV → fwH → Prop} (s : Nat) (e : Int × Nat) (S : mSt gg (.inl e) h) (hs : s < 26) (k : Q (some (aI 0)) h) : fwCt mX12_is (d + 4) [aR 12 0, aR 50 s] h Q := by
  refine fwCt_of [some (aR 12 0), some (aR 50 s), none, none] rfl rfl rfl ?_
  obtain ⟨hl1, hl2, hl3, hl4⟩ := mSt_l S
  refine w_aload_n dX12_is_0 rfl ?_
  refine w_callV (d := d + 3) (S := []) [] dX12_is_1 ml_X12_121 ok_X12_good vi_X12_good rfl rfl (by decide) rfl (Nat.le_of_ble_eq_true rfl) ?_
  refine c_f_good (d := (d + 3)) _ S ?_
  show fwWP mX12_is (d + 4) 4 [some (aR 12 0), some (aR 50 s), none, none] [aI 0] h Q
  refine w_if_eq 35 dX12_is_4 (by decide) (by omega) (fun c4 => ?_) (fun c4 => ?_)
  · refine w_iconst dX12_is_35 ?_
    refine w_istore_n [some (aR 12 0), some (aR 50 s), some (aI 0), none] dX12_is_36 rfl (by decide) ?_
    refine w_iconst dX12_is_37 ?_
    refine w_istore_n [some (aR 12 0), some (aR 50 s), some (aI 0), some (aI 0)] dX12_is_38 rfl (by decide) ?_
    have hsl := fwSb_l2 s (by omega)
    refine w_iload_n dX12_is_39 rfl ?_
    refine w_aload_n dX12_is_40 rfl ?_
    refine w_callT (d := d + 3) (S := [aI 0]) [] dX12_is_41 ml_X12_124 ok_J0_length_8abf5 vi_J0_length_8abf5 rfl (by omega) rfl (Nat.le_of_ble_eq_true rfl) ?_
    refine c_length (d := (d + 2)) s (by omega) ?_
    show fwWP mX12_is (d + 4) 44 [some (aR 12 0), some (aR 50 s), some (aI 0), some (aI 0)] [aI ((fwSb s).length : Int), aI 0] h Q
    refine w_icmp_ge 82 dX12_is_44 (by decide) (by omega) (by omega) (fun c44 => ?_) (fun c44 => ?_)
    · refine w_iload_n dX12_is_82 rfl ?_
      exact w_zret dX12_is_83 rfl (Or.inl rfl) k
    · refine w_iload_n dX12_is_47 rfl ?_
      refine w_if_eq 82 dX12_is_48 (by decide) (by omega) (fun c48 => ?_) (fun c48 => ?_)
      · refine w_iload_n dX12_is_82 rfl ?_
        exact w_zret dX12_is_83 rfl (Or.inl rfl) k
      · (exfalso; omega)
  · (exfalso; omega)
theorem fwB_c {P R : Prop} [Decidable P] [Decidable R] (h : P ↔ R) : fwB P = fwB R := by
  unfold fwB
  by_cases p : P
  · rw [if_pos p, if_pos (h.mp p)]
  · rw [if_neg p, if_neg (fun z => p (h.mpr z))]
theorem and255_n : ∀ n : Nat, n < 256 → fwAnd ((n : Int) - 128) 255 = if 128 ≤ n then (n : Int) - 128 else (n : Int) + 128 := by decide +kernel
theorem and255 {x : Int} (h : -128 ≤ x ∧ x < 128) : fwAnd x 255 = if 0 ≤ x then x else x + 256 := by
  obtain ⟨n, rfl⟩ : ∃ n : Nat, x = (n : Int) - 128 := ⟨(x + 128).toNat, by omega⟩
  rw [and255_n n (by omega)]
  split <;> split <;> omega
theorem mdT_1 {b : Nat → Int} {p : Nat} (h : mdT b p = 1) : b p ≠ -1 ∧ mLet (b p) = true := by
  unfold mdT at h
  split at h
  · omega
  · rename_i q
    split at h
    · rename_i q2
      exact ⟨q, q2⟩
    · split at h
      · omega
      · split at h <;> omega
/-- where the model stands behind a word -/
theorem mTk_at1 {gg : fwH} {p : Nat} {A : Nat → Int} (h : mTk gg p A) (h1 : mdT (mBy gg) p = 1) : A 8 = (mLetEnd (mBy gg) p : Int) ∧ (mLetEnd (mBy gg) p : Int) ≤ gg 1 0 1 := by
  obtain ⟨e1, e2⟩ := mdT_1 h1
  refine ⟨?_, mRun_le (q := mLet) (by decide) h.1⟩
  rw [h.2.2.1, if_neg e1]
  unfold mNxt
  rw [if_pos e2]
theorem mBy_in {h : fwH} {p : Nat} (hp : (p : Int) < h 1 0 1) : mBy h p = fwAnd (h 13 0 p) 255 := if_pos hp
theorem mTk_8 {gg : fwH} {p : Nat} {A : Nat → Int} (h : mTk gg p A) (hT : tOk gg) : 0 ≤ A 8 ∧ A 8 ≤ 900 := by
  have h1 := h.1
  have h2 := hT.2
  rw [h.2.2.1]
  split
  · omega
  · rename_i q
    rcases Int.lt_or_le (p : Int) (gg 1 0 1) with z | z
    · have := mNxt_le (h := gg) z
      omega
    · exact absurd (mBy_m1.mpr z) q
theorem mAll_le {p : Nat → Bool} {a b : Nat} (h : mAll p b = true) (hab : a ≤ b) : mAll p a = true := (mAll_iff _ _).mpr (fun j hj => (mAll_iff _ _).mp h j (by omega))
set_option maxRecDepth 100000 in
set_option maxHeartbeats 4000000 in
theorem c_r_is {d : Nat} {h gg : fwH} {Q : Option fwV → fwH → Prop} (s : Nat) (i : Nat) (W : Nat → Int) (S : mSt gg (.inr (i, W)) h) (hs : s < 13) (k : Q (some (aI (fwB (cutH gg 14 0 i = (s : Int) + 4)))) h) : fwCt mX12_is (d + 4) [aR 12 0, aR 50 (s + 13)] h Q := by
  refine fwCt_of [some (aR 12 0), some (aR 50 (s + 13)), none, none] rfl rfl rfl ?_
  obtain ⟨hz1, hz2⟩ := S.1.1
  obtain ⟨hr1, hr2, hr3, hr4, hr5⟩ := mSt_r S
  obtain ⟨hk1, hk2, hk3, hk4, hk5, hk6, hk7⟩ := tk_kind S.1.1 hr1
  have hsl := fwSb_l2 (s + 13) (by omega)
  have hpz := hr2.1
  have hp0 := S.1.1
  have hpr := mTk_8 hr2 hp0
  refine w_aload_n dX12_is_0 rfl ?_
  refine w_callV (d := d + 3) (S := []) [] dX12_is_1 ml_X12_121 ok_X12_good vi_X12_good rfl rfl (by decide) rfl (Nat.le_of_ble_eq_true rfl) ?_
  refine c_r_good (d := (d + 3)) _ _ S ?_
  show fwWP mX12_is (d + 4) 4 [some (aR 12 0), some (aR 50 (s + 13)), none, none] [aI 1] h Q
  refine w_if_eq 35 dX12_is_4 (by decide) (by omega) (fun c4 => ?_) (fun c4 => ?_)
  · (exfalso; omega)
  · have J36 : ∀ v : Int, v = fwB (mdT (mBy gg) (tokP (mBy gg) i) = 1 ∧ h 12 0 8 - ((tokP (mBy gg) i) : Int) = ((fwSb (s + 13)).length : Int)) → fwWP mX12_is (d + 4) 36 [some (aR 12 0), some (aR 50 (s + 13)), none, none] [aI v] h Q := by
      intro v ev
      subst ev
      refine w_istore_n [some (aR 12 0), some (aR 50 (s + 13)), some (aI (fwB (mdT (mBy gg) (tokP (mBy gg) i) = 1 ∧ h 12 0 8 - ((tokP (mBy gg) i) : Int) = ((fwSb (s + 13)).length : Int)))), none] dX12_is_36 rfl (by decide) ?_
      refine w_iconst dX12_is_37 ?_
      refine w_istore_n [some (aR 12 0), some (aR 50 (s + 13)), some (aI (fwB (mdT (mBy gg) (tokP (mBy gg) i) = 1 ∧ h 12 0 8 - ((tokP (mBy gg) i) : Int) = ((fwSb (s + 13)).length : Int)))), some (aI 0)] dX12_is_38 rfl (by decide) ?_
      have lp39 : ∀ c : Nat, c ≤ (fwSb (s + 13)).length → ∀ (y39 iz : Int), y39 = (c : Int) → iz = fwB ((mdT (mBy gg) (tokP (mBy gg) i) = 1 ∧ h 12 0 8 - ((tokP (mBy gg) i) : Int) = ((fwSb (s + 13)).length : Int)) ∧ mAll (mTxB (mBy gg) (tokP (mBy gg) i) s) c = true) → fwWP mX12_is (d + 4) 39 [some (aR 12 0), some (aR 50 (s + 13)), some (aI iz), some (aI y39)] [] h Q := by
        refine fw_up (fun c hc39 ih39 => ?_)
        intro y39 iz ey39 e_iz
        subst ey39
        subst e_iz
        have hfr := fwB_rng ((mdT (mBy gg) (tokP (mBy gg) i) = 1 ∧ h 12 0 8 - ((tokP (mBy gg) i) : Int) = ((fwSb (s + 13)).length : Int)) ∧ mAll (mTxB (mBy gg) (tokP (mBy gg) i) s) c = true)
        show fwWP mX12_is (d + 4) 39 [some (aR 12 0), some (aR 50 (s + 13)), some (aI (fwB ((mdT (mBy gg) (tokP (mBy gg) i) = 1 ∧ h 12 0 8 - ((tokP (mBy gg) i) : Int) = ((fwSb (s + 13)).length : Int)) ∧ mAll (mTxB (mBy gg) (tokP (mBy gg) i) s) c = true))), some (aI (c : Int))] [] h Q
        refine w_iload_n dX12_is_39 rfl ?_
        refine w_aload_n dX12_is_40 rfl ?_
        refine w_callT (d := d + 3) (S := [aI (c : Int)]) [] dX12_is_41 ml_X12_124 ok_J0_length_8abf5 vi_J0_length_8abf5 rfl (by omega) rfl (Nat.le_of_ble_eq_true rfl) ?_
        refine c_length (d := (d + 2)) (s + 13) (by omega) ?_
        show fwWP mX12_is (d + 4) 44 [some (aR 12 0), some (aR 50 (s + 13)), some (aI (fwB ((mdT (mBy gg) (tokP (mBy gg) i) = 1 ∧ h 12 0 8 - ((tokP (mBy gg) i) : Int) = ((fwSb (s + 13)).length : Int)) ∧ mAll (mTxB (mBy gg) (tokP (mBy gg) i) s) c = true))), some (aI (c : Int))] [aI ((fwSb (s + 13)).length : Int), aI (c : Int)] h Q
        refine w_icmp_ge 82 dX12_is_44 (by decide) (by omega) (by omega) (fun c44 => ?_) (fun c44 => ?_)
        · refine w_iload_n dX12_is_82 rfl ?_
          have hmp : ∀ z : mdT (mBy gg) (tokP (mBy gg) i) = 1, h 12 0 8 = (mLetEnd (mBy gg) (tokP (mBy gg) i) : Int) := fun z => (mTk_at1 hr2 z).1
          have e13 := wk_13 s hs
          have ecl : c = (fwSb s).length := by rw [← e13]; omega
          exact w_zretE (P := cutH gg 14 0 i = (s : Int) + 4) dX12_is_83 rfl (fwB_c ⟨fun z => (hk6 s hs).mpr ⟨z.1.1, by have := hmp z.1.1; have := z.1.2; rw [e13] at this; omega, by rw [← ecl]; exact z.2⟩, fun z => by have z1 := (hk6 s hs).mp z; have z2 := hmp z1.1; have z3 := z1.2.1; exact ⟨⟨z1.1, by rw [e13]; omega⟩, by rw [ecl]; exact z1.2.2⟩⟩) k
        · refine w_iload_n dX12_is_47 rfl ?_
          refine w_if_eq 82 dX12_is_48 (by decide) (by omega) (fun c48 => ?_) (fun c48 => ?_)
          · refine w_iload_n dX12_is_82 rfl ?_
            have hmp : ∀ z : mdT (mBy gg) (tokP (mBy gg) i) = 1, h 12 0 8 = (mLetEnd (mBy gg) (tokP (mBy gg) i) : Int) := fun z => (mTk_at1 hr2 z).1
            have e13 := wk_13 s hs
            exact w_zretE (P := cutH gg 14 0 i = (s : Int) + 4) dX12_is_83 rfl (by rw [c48, fwB_f (fun z => by have z1 := (hk6 s hs).mp z; have z2 := hmp z1.1; have z3 := z1.2.1; have z4 : fwB _ = 1 := fwB_t (P := (mdT (mBy gg) (tokP (mBy gg) i) = 1 ∧ h 12 0 8 - ((tokP (mBy gg) i) : Int) = ((fwSb (s + 13)).length : Int)) ∧ mAll (mTxB (mBy gg) (tokP (mBy gg) i) s) c = true) ⟨⟨z1.1, by rw [e13]; omega⟩, mAll_le z1.2.2 (by rw [← e13]; omega)⟩; omega)]) k
          · have q9 : (mdT (mBy gg) (tokP (mBy gg) i) = 1 ∧ h 12 0 8 - ((tokP (mBy gg) i) : Int) = ((fwSb (s + 13)).length : Int)) ∧ mAll (mTxB (mBy gg) (tokP (mBy gg) i) s) c = true := Decidable.byContradiction (fun z => c48 (fwB_f z))
            have hat := mTk_at1 hr2 q9.1.1
            have hq92 := q9.1.2
            have hsz := S.1.1.2
            have hbr := S.1.2.2.2 ((tokP (mBy gg) i) + c) (by omega)
            have hby : mBy gg ((tokP (mBy gg) i) + c) = fwAnd (h 39 0 ((tokP (mBy gg) i) + c)) 255 := by rw [mBy_in (by omega), S.1.2.2.1 _ (by omega)]
            rw [and255 hbr] at hby
            have hch := (wk_let s hs).2 c (by rw [← wk_13 s hs]; omega)
            refine w_aload_n dX12_is_51 rfl ?_
            refine w_getr 39 0 dX12_is_52 fl_X12_20 rfl (by decide) ?_
            refine w_aload_n dX12_is_55 rfl ?_
            refine w_getiE (v := (tokP (mBy gg) i : Int)) dX12_is_56 fl_X12_94 rfl (by decide) (mSt_r S).2.1.2.1 ?_
            refine w_iload_n dX12_is_59 rfl ?_
            refine w_iadd dX12_is_60 ?_
            refine w_baldE (v := h 39 0 (tokP (mBy gg) i + c)) dX12_is_61 rfl (by decide) (by omega) (by omega) (by rw [show (((tokP (mBy gg) i : Int) + (c : Int)).toNat) = tokP (mBy gg) i + c by omega]) ?_
            refine w_aload_n dX12_is_62 rfl ?_
            refine w_iload_n dX12_is_63 rfl ?_
            refine w_callT (d := d + 3) (S := [aI (h 39 0 (tokP (mBy gg) i + c))]) [aI (c : Int)] dX12_is_64 ml_X12_129 ok_J0_charAt_5068e vi_J0_charAt_5068e rfl (by omega) rfl (Nat.le_of_ble_eq_true rfl) ?_
            refine c_charAt (d := d) (s + 13) (c : Int) (by omega) (by omega) (by omega) ?_
            show fwWP mX12_is (d + 4) 67 [some (aR 12 0), some (aR 50 (s + 13)), some (aI (fwB ((mdT (mBy gg) (tokP (mBy gg) i) = 1 ∧ h 12 0 8 - ((tokP (mBy gg) i) : Int) = ((fwSb (s + 13)).length : Int)) ∧ mAll (mTxB (mBy gg) (tokP (mBy gg) i) s) c = true))), some (aI (c : Int))] [aI ((fwSb (s + 13)).getD ((c : Int)).toNat 0), aI (h 39 0 (tokP (mBy gg) i + c))] h Q
            rw [Int.toNat_natCast, wk_13 s hs]
            refine w_icmp_ne 74 dX12_is_67 (by decide) (by omega) (by omega) (fun c67 => ?_) (fun c67 => ?_)
            · refine w_iconst dX12_is_74 ?_
              refine w_istore_n [some (aR 12 0), some (aR 50 (s + 13)), some (aI 0), some (aI (c : Int))] dX12_is_75 rfl (by decide) ?_
              refine w_iinc [some (aR 12 0), some (aR 50 (s + 13)), some (aI 0), some (aI ((c : Int) + 1))] dX12_is_76 rfl rfl (by decide) ?_
              refine w_goto 39 dX12_is_79 (by decide) ?_
              refine ih39 (by omega) _ _ ?_ ?_
              · exact (by omega)
              · exact (by rw [fwB_f (fun z => by have z2 := z.2; rw [mAll, q9.2, Bool.true_and] at z2; have z3 := of_decide_eq_true z2; split at hby <;> omega)])
            · refine w_iconst dX12_is_70 ?_
              refine w_goto 75 dX12_is_71 (by decide) ?_
              refine w_istore_n [some (aR 12 0), some (aR 50 (s + 13)), some (aI 1), some (aI (c : Int))] dX12_is_75 rfl (by decide) ?_
              refine w_iinc [some (aR 12 0), some (aR 50 (s + 13)), some (aI 1), some (aI ((c : Int) + 1))] dX12_is_76 rfl rfl (by decide) ?_
              refine w_goto 39 dX12_is_79 (by decide) ?_
              refine ih39 (by omega) _ _ ?_ ?_
              · exact (by omega)
              · exact (by rw [fwB_t ⟨q9.1, by rw [mAll, q9.2, Bool.true_and]; exact decide_eq_true (by split at hby <;> omega)⟩])
      refine lp39 0 (Nat.zero_le _) _ _ ?_ ?_
      · exact (by omega)
      · exact (fwB_c ⟨fun z => ⟨z, rfl⟩, fun z => z.1⟩)
    refine w_aload_n dX12_is_7 rfl ?_
    refine w_getiE (v := mdT (mBy gg) (tokP (mBy gg) i)) dX12_is_8 fl_X12_97 rfl (by decide) (mSt_r S).2.1.2.2.2.1 ?_
    refine w_iconst dX12_is_11 ?_
    refine w_icmp_ne 35 dX12_is_12 (by decide) (by omega) (by omega) (fun c12 => ?_) (fun c12 => ?_)
    · refine w_iconst dX12_is_35 ?_
      exact J36 _ (by first | omega | (rw [fwB_t (by omega)]) | (rw [fwB_f (by omega)]))
    · refine w_aload_n dX12_is_15 rfl ?_
      refine w_getiE (v := h 12 0 8) dX12_is_16 fl_X12_87 rfl (by decide) rfl ?_
      refine w_aload_n dX12_is_19 rfl ?_
      refine w_getiE (v := (tokP (mBy gg) i : Int)) dX12_is_20 fl_X12_94 rfl (by decide) (mSt_r S).2.1.2.1 ?_
      refine w_isub dX12_is_23 ?_
      refine w_aload_n dX12_is_24 rfl ?_
      refine w_callT (d := d + 3) (S := [aI ((h 12 0 8) - (tokP (mBy gg) i : Int))]) [] dX12_is_25 ml_X12_124 ok_J0_length_8abf5 vi_J0_length_8abf5 rfl (by omega) rfl (Nat.le_of_ble_eq_true rfl) ?_
      refine c_length (d := (d + 2)) (s + 13) (by omega) ?_
      show fwWP mX12_is (d + 4) 28 [some (aR 12 0), some (aR 50 (s + 13)), none, none] [aI ((fwSb (s + 13)).length : Int), aI ((h 12 0 8) - (tokP (mBy gg) i : Int))] h Q
      refine w_icmp_ne 35 dX12_is_28 (by decide) (by omega) (by omega) (fun c28 => ?_) (fun c28 => ?_)
      · refine w_iconst dX12_is_35 ?_
        exact J36 _ (by first | omega | (rw [fwB_t (by omega)]) | (rw [fwB_f (by omega)]))
      · refine w_iconst dX12_is_31 ?_
        refine w_goto 36 dX12_is_32 (by decide) ?_
        exact J36 _ (by first | omega | (rw [fwB_t (by omega)]) | (rw [fwB_f (by omega)]))
end
