section PAIRS2
variable {d d2 : Nat} {e : fwH} {Q : Option fwV → fwH → Prop}
theorem mSz_pr {f : Nat → Int} {x : Int} (hx : 0 ≤ x ∧ x < 4) : mSz f x = f x.toNat := by
  unfold mSz
  rw [if_pos hx]
theorem pr_back (I : jI e) (x : Int) (hx : -2147483648 ≤ x ∧ x < 2147483648) (k : ∀ v g1, prM mX12_back (d2 + 1) [aI x] v g1 → Q (some (aI v)) g1) : fwCt mX11_back (d + 2) [aR 0 0, aI x] e Q := by
  have h38 : ∀ c : Nat, c < 3 → e 38 0 c = e 23 0 c := fun c hc => (I.2.2.2.1 c hc).2.1
  refine c_X11_back x I.1 hx (jI_h23 I) (jI_h44 I) ⟨fun c => ?_, fun c1 c2 => ?_, fun c1 c2 => ?_⟩
  · exact k _ _ (fun Q2 k2 => c_X12_back x hx (jI_h38 I) ⟨fun _ => k2 _ I, fun w => absurd w c, fun w => absurd w c⟩)
  · exact k _ _ (fun Q2 k2 => c_X12_back x hx (jI_h38 I) ⟨fun w => absurd c1 w, fun _ _ => k2 _ I, fun _ w => absurd ((h38 _ (by omega)).trans c2) w⟩)
  · exact k _ _ (fun Q2 k2 => c_X12_back x hx (show ∀ c : Nat, c < 3 → e 38 0 c = 0 ∨ e 38 0 c = 1 from jI_h38 I) ⟨fun w => absurd c1 w, fun _ w => absurd ((h38 _ (by omega)).symm.trans w) c2, fun _ _ => k2 _ (jI_back I (by omega) c2)⟩)
theorem pr_row (I : jI e) (x y z : Int) (hx : -2147483648 ≤ x ∧ x < 2147483648) (hy : -2147483648 ≤ y ∧ y < 2147483648) (hz : -2147483648 ≤ z ∧ z < 2147483648) (k : ∀ v g1, prM mX12_row (d2 + 2) [aI x, aI y, aI z] v g1 → Q (some (aI v)) g1) : fwCt mX11_row (d + 2) [aR 0 0, aI x, aI y, aI z] e Q := by
  refine c_X11_row x y z I.1 hx hy hz ⟨fun c => ?_, fun c1 c2 => ?_, fun c1 c2 => ?_⟩
  · exact k _ _ (fun Q2 k2 => c_X12_row x y z hx hy hz ⟨fun _ => k2 _ I, fun w => absurd w c, fun w => absurd w c⟩)
  · exact k _ _ (fun Q2 k2 => c_X12_row x y z hx hy hz ⟨fun w => absurd c1 w, fun _ _ => k2 _ I, fun _ w => absurd c2 w⟩)
  · exact k _ _ (fun Q2 k2 => c_X12_row x y z hx hy hz ⟨fun w => absurd c1 w, fun _ w => absurd w c2, fun _ _ => k2 _ (jI_row I (by omega) (by omega) (by omega))⟩)
theorem pr_write (I : jI e) (x y v : Int) (hx : -2147483648 ≤ x ∧ x < 2147483648) (hy : -2147483648 ≤ y ∧ y < 2147483648) (hv : -9223372036854775808 ≤ v ∧ v < 9223372036854775808) (k : ∀ u g1, prM mX12_write (d2 + 2) [aI x, aI y, aJ v] u g1 → Q (some (aI u)) g1) : fwCt mX11_write (d + 2) [aR 0 0, aI x, aI y, aJ v] e Q := by
  have hS := jI_S I
  have hm := jI_h46 I
  refine c_X11_write x y v I.1 hx hy ⟨fun c => ?_, fun c1 c2 => ?_, fun c1 c2 c3 => ?_, fun c1 c2 c3 => ?_⟩
  · exact k _ _ (fun Q2 k2 => c_X12_write x y v hx hy hm ⟨fun _ => k2 _ I, fun w => absurd w c, fun w => absurd w c, fun w => absurd w c⟩)
  · rw [mSz_pr c1] at c2
    have s1 := (hS x.toNat (by omega)).1
    exact k _ _ (fun Q2 k2 => c_X12_write x y v hx hy hm ⟨fun w => absurd c1 w, fun _ _ => k2 _ I, fun _ w => absurd (s1.trans c2) w, fun _ w => absurd (s1.trans c2) w⟩)
  · rw [mSz_pr c1] at c2 c3
    have s1 := (hS x.toNat (by omega)).1
    exact k _ _ (fun Q2 k2 => c_X12_write x y v hx hy hm ⟨fun w => absurd c1 w, fun _ w => absurd (s1.symm.trans w) c2, fun _ _ _ => k2 _ I, fun _ _ w => absurd (by rw [s1] at w; exact w) c3⟩)
  · rw [mSz_pr c1] at c2 c3
    have s1 := (hS x.toNat (by omega)).1
    have h60 := hm x.toNat (by omega)
    exact k _ _ (fun Q2 k2 => c_X12_write x y v hx hy (show ∀ s : Nat, s < 4 → -1 ≤ e 46 0 s ∧ e 46 0 s ≤ 60 from hm) ⟨fun w => absurd c1 w, fun _ w => absurd (s1.symm.trans w) c2, fun _ _ w => absurd (show 0 ≤ y ∧ y < e 46 0 x.toNat by rw [s1]; exact c3) w, fun _ _ _ => k2 _ (jI_write I (by omega) (by omega) hv)⟩)
theorem pr_paste (I : jI e) (x y z u n : Int) (hx : -2147483648 ≤ x ∧ x < 2147483648) (hy : -2147483648 ≤ y ∧ y < 2147483648) (hz : -2147483648 ≤ z ∧ z < 2147483648) (hu : -2147483648 ≤ u ∧ u < 2147483648) (hn : -2147483648 ≤ n ∧ n < 2147483648) (k : ∀ v g1, prM mX12_paste (d2 + 2) [aI x, aI y, aI z, aI u, aI n] v g1 → Q (some (aI v)) g1) : fwCt mX11_paste (d + 3) [aR 0 0, aI x, aI y, aI z, aI u, aI n] e Q := by
  have hS := jI_S I
  have hm := jI_h46 I
  have hw := jI_h47 I
  refine c_X11_paste x y z u n I.1 hx hy hz hu hn ⟨fun c => ?_, fun c1 c2 => ?_, fun c1 c2 c3 => ?_, fun c1 c2 c3 c4 => ?_, fun c1 c2 c3 c4 => ?_⟩
  · exact k _ _ (fun Q2 k2 => c_X12_paste x y z u n hx hy hz hu hn hm hw ⟨fun _ => k2 _ I, fun w => absurd w c, fun w => absurd w c, fun w => absurd w c, fun w => absurd w c⟩)
  · rw [mSz_pr c1.1, mSz_pr c1.2, ← (hS x.toNat (by omega)).1, ← (hS z.toNat (by omega)).1] at c2
    exact k _ _ (fun Q2 k2 => c_X12_paste x y z u n hx hy hz hu hn hm hw ⟨fun w => absurd c1 w, fun _ _ => k2 _ I, fun _ w => absurd w c2, fun _ w => absurd w c2, fun _ w => absurd w c2⟩)
  · rw [mSz_pr c1.1, mSz_pr c1.2, ← (hS x.toNat (by omega)).1, ← (hS z.toNat (by omega)).1] at c2
    rw [mSz_pr c1.1, mSz_pr c1.2, ← (hS x.toNat (by omega)).2.1, ← (hS z.toNat (by omega)).2.1] at c3
    exact k _ _ (fun Q2 k2 => c_X12_paste x y z u n hx hy hz hu hn hm hw ⟨fun w => absurd c1 w, fun _ w => absurd c2 w, fun _ _ _ => k2 _ I, fun _ _ w => absurd w c3, fun _ _ w => absurd w c3⟩)
  · rw [mSz_pr c1.1, mSz_pr c1.2, ← (hS x.toNat (by omega)).1, ← (hS z.toNat (by omega)).1] at c2 c4
    rw [mSz_pr c1.1, mSz_pr c1.2, ← (hS x.toNat (by omega)).2.1, ← (hS z.toNat (by omega)).2.1] at c3
    exact k _ _ (fun Q2 k2 => c_X12_paste x y z u n hx hy hz hu hn hm hw ⟨fun w => absurd c1 w, fun _ w => absurd c2 w, fun _ _ w => absurd c3 w, fun _ _ _ _ => k2 _ I, fun _ _ _ w => absurd (by omega) c4⟩)
  · have q1 := (hS x.toNat (by omega)).1
    have q2 := (hS z.toNat (by omega)).1
    have h60 := hm x.toNat (by omega)
    have h61 := hm z.toNat (by omega)
    rw [mSz_pr c1.1, mSz_pr c1.2, ← q1, ← q2] at c2 c4
    rw [mSz_pr c1.1, mSz_pr c1.2, ← (hS x.toNat (by omega)).2.1, ← (hS z.toNat (by omega)).2.1] at c3
    exact k _ _ (fun Q2 k2 => c_X12_paste x y z u n hx hy hz hu hn (show ∀ s : Nat, s < 4 → -1 ≤ e 46 0 s ∧ e 46 0 s ≤ 60 from hm) (show ∀ s : Nat, s < 4 → 0 ≤ e 47 0 s ∧ e 47 0 s ≤ 3 from hw) ⟨fun w => absurd c1 w, fun _ w => absurd c2 w, fun _ _ w => absurd c3 w, fun _ _ _ w => absurd (show 0 ≤ y ∧ 0 ≤ u ∧ 0 ≤ n ∧ y + n ≤ e 46 0 x.toNat ∧ u + n ≤ e 46 0 z.toNat by omega) w, fun _ _ _ _ F => k2 _ (jI_paste I F (by omega) (by omega) (by omega) (by omega))⟩)
end PAIRS2
