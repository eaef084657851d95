/-- the model's call at g1 answers v and keeps the invariant -/
def prM (mm : fwM) (dd : Nat) (as : List fwV) (v : Int) (g1 : fwH) : Prop := ∀ Q2 : Option fwV → fwH → Prop, (∀ g2, jI g2 → Q2 (some (aI v)) g2) → fwCt mm dd (aR 12 0 :: as) g1 Q2
section PAIRS
variable {d d2 : Nat} {e : fwH} {Q : Option fwV → fwH → Prop}
theorem pr_take (I : jI e) (k : ∀ v g1, prM mX12_take (d2 + 6) [] v g1 → Q (some (aI v)) g1) : fwCt mX11_take (d + 3) [aR 0 0] e Q := by
  refine c_X11_take I.1 ⟨fun c => ?_, fun c1 c2 => ?_, fun c1 c2 => ?_⟩
  · exact k _ _ (fun Q2 k2 => c_X12_take (gg := e) I.1 (jI_F I) (jI_A I) ⟨fun _ => k2 _ I, fun z => absurd z c, fun z => absurd z c⟩)
  · exact k _ _ (fun Q2 k2 => c_X12_take (gg := e) I.1 (jI_F I) (jI_A I) ⟨fun z => absurd c1 z, fun _ _ A => k2 _ (jI_scr I (scr_uc (scr_rf (jI_sc I)) rfl (by decide) (by decide) (by decide))), fun _ z => absurd z c2⟩)
  · exact k _ _ (fun Q2 k2 => c_X12_take (gg := e) I.1 (jF_h I rfl) (jA_h I rfl) ⟨fun z => absurd c1 z, fun _ z => absurd c2 z, fun _ _ A => k2 _ (jI_take I A c1 c2.1 c2.2)⟩)
theorem pr_heap (I : jI e) (x : Int) (hx : -2147483648 ≤ x ∧ x < 2147483648) (k : ∀ v g1, prM mX12_heap (d2 + 6) [aI x] v g1 → Q (some (aI v)) g1) : fwCt mX11_heap (d + 4) [aR 0 0, aI x] e Q := by
  refine c_X11_heap x I.1 hx ⟨fun c => ?_, fun c1 c2 => ?_, fun c1 c2 => ?_⟩
  · exact k _ _ (fun Q2 k2 => c_X12_heap (gg := e) x I.1 (jI_F I) (jI_A I) hx ⟨fun _ => k2 _ I, fun z => absurd z c, fun z => absurd z c⟩)
  · exact k _ _ (fun Q2 k2 => c_X12_heap (gg := e) x I.1 (jI_F I) (jI_A I) hx ⟨fun z => absurd c1 z, fun _ _ A => k2 _ (jI_scr I (scr_uc (scr_rf (jI_sc I)) rfl (by decide) (by decide) (by decide))), fun _ z => absurd z c2⟩)
  · exact k _ _ (fun Q2 k2 => c_X12_heap (gg := e) x I.1 (jF_h I rfl) (jA_h I rfl) hx ⟨fun z => absurd c1 z, fun _ z => absurd c2 z, fun _ _ A => k2 _ (jI_heap I A c1 c2.1 c2.2)⟩)
theorem pr_undo (I : jI e) (k : ∀ v g1, prM mX12_undo (d2 + 1) [] v g1 → Q (some (aI v)) g1) : fwCt mX11_undo (d + 3) [aR 0 0] e Q := by
  refine c_X11_undo I.1 (jI_bkV I.2.1) ⟨fun c => ?_, fun c1 c2 => ?_, fun c1 c2 => ?_⟩
  · exact k _ _ (fun Q2 k2 => c_X12_undo (gg := e) I.1 (jI_F I) (jI_A I) ⟨fun _ => k2 _ I, fun z => absurd z c, fun z => absurd z c⟩)
  · exact k _ _ (fun Q2 k2 => c_X12_undo (gg := e) I.1 (jI_F I) (jI_A I) ⟨fun z => absurd c1 z, fun _ _ => k2 _ I, fun _ z => absurd z c2⟩)
  · exact k _ _ (fun Q2 k2 => c_X12_undo (gg := e) I.1 (jF_h I rfl) (jA_h I rfl) ⟨fun z => absurd c1 z, fun _ z => absurd c2 z, fun _ _ => k2 _ (jI_undo I c2)⟩)
theorem pr_anew (I : jI e) (k : ∀ v g1, prM mX12_anew (d2 + 1) [] v g1 → Q (some (aI v)) g1) : fwCt mX11_anew (d + 3) [aR 0 0] e Q := by
  have r : mBkN e (e 3 0 3).toNat 36 0 = e 36 0 := (bkN_pic I _ (Nat.le_refl _)).2 36 0 (by omega)
  refine c_X11_anew I.1 (anew_ok I) ⟨fun c => ?_, fun c1 => ?_⟩
  · exact k _ _ (fun Q2 k2 => c_X12_anew (gg := e) I.1 (jI_F I) (jI_A I) ⟨fun _ => k2 _ I, fun z => absurd z c⟩)
  · exact k _ _ (fun Q2 k2 => c_X12_anew (gg := e) I.1 (jF_h I r) (jA_h I r) ⟨fun z => absurd c1 z, fun _ => k2 _ (jI_anew I)⟩)
theorem pr_tell (I : jI e) (x : Int) (hx : -2147483648 ≤ x ∧ x < 2147483648) (k : ∀ v g1, prM mX12_tell (d2 + 2) [aI x] v g1 → Q (some (aI v)) g1) : fwCt mX11_tell (d + 2) [aR 0 0, aI x] e Q := by
  refine c_X11_tell x I.1 hx ⟨fun c => ?_, fun c1 c2 => ?_, fun c1 c2 => ?_⟩
  · exact k _ _ (fun Q2 k2 => c_X12_tell (gg := e) x I.1 (jI_F I) (jI_A I) hx ⟨fun _ => k2 _ I, fun z => absurd z c, fun z => absurd z c⟩)
  · exact k _ _ (fun Q2 k2 => c_X12_tell (gg := e) x I.1 (jI_F I) (jI_A I) hx ⟨fun z => absurd c1 z, fun _ _ => k2 _ I, fun _ z => absurd c2 z⟩)
  · exact k _ _ (fun Q2 k2 => c_X12_tell (gg := e) x I.1 (jF_h I rfl) (jA_h I rfl) hx ⟨fun z => absurd c1 z, fun _ z => absurd z c2, fun _ _ => k2 _ (jI_tell I c2 c1.2)⟩)
theorem pr_end (I : jI e) (x : Int) (hx : -2147483648 ≤ x ∧ x < 2147483648) (k : ∀ v g1, prM mX12_end (d2 + 1) [aI x] v g1 → Q (some (aI v)) g1) : fwCt mX11_end (d + 0) [aR 0 0, aI x] e Q := by
  have h5 := I.2.2.2.2.1.1
  refine c_X11_end x I.1 hx ⟨fun c => ?_, fun c => ?_⟩
  · exact k _ _ (fun Q2 k2 => c_X12_end x hx (show 0 ≤ e 12 0 5 ∧ e 12 0 5 ≤ 900 from jI_t5 I) ⟨fun _ => k2 _ (jI_end I c), fun z => absurd (show 0 ≤ x ∧ x ≤ e 12 0 5 by omega) z⟩)
  · exact k _ _ (fun Q2 k2 => c_X12_end x hx (jI_t5 I) ⟨fun z => absurd (show 0 ≤ x ∧ x ≤ e 1 0 1 by omega) c, fun _ => k2 _ I⟩)
theorem pr_feed (I : jI e) (a b c p q : Int) (k : ∀ v g1, prM mX12_feed (d2 + 0) [aI a, aI b, aI c, aI p, aI q] v g1 → Q (some (aI v)) g1) : fwCt mX11_feed (d + 1) [aR 0 0, aI a, aI b, aI c, aI p, aI q] e Q := by
  have h5 := I.2.2.2.2.1.1
  have h6 : aI (e 12 0 5 + 20) = aI (e 1 0 1 + 20) := by rw [h5]
  refine c_X11_feed a b c p q I.1 ⟨fun c1 => ?_, fun c1 => ?_⟩
  · exact k _ _ (fun Q2 k2 => c_X12_feed a b c p q (show 0 ≤ e 12 0 5 ∧ e 12 0 5 ≤ 900 from jI_t5 I) ⟨fun _ => Eq.mpr (congrArg (fun z => Q2 (some z) _) h6) (k2 _ (jI_feed I a b c p q _ c1)), fun z => absurd (show e 12 0 5 ≤ 880 by omega) z⟩)
  · exact k _ _ (fun Q2 k2 => c_X12_feed a b c p q (jI_t5 I) ⟨fun z => absurd (show e 1 0 1 ≤ 880 by omega) c1, fun _ => k2 _ I⟩)
theorem pr_likes (I : jI e) (x y z : Int) (hx : -2147483648 ≤ x ∧ x < 2147483648) (hy : -2147483648 ≤ y ∧ y < 2147483648) (hz : -2147483648 ≤ z ∧ z < 2147483648) (k : ∀ v g1, prM mX12_likes (d2 + 2) [aI x, aI y, aI z] v g1 → Q (some (aI v)) g1) : fwCt mX11_likes (d + 1) [aR 0 0, aI x, aI y, aI z] e Q := by
  have h8 := I.1.2.1.1.2
  refine c_X11_likes x y z I.1 hx hy hz ⟨fun c => ?_, fun c1 c2 => ?_, fun c1 c2 => ?_⟩
  · exact k _ _ (fun Q2 k2 => c_X12_likes (gg := e) x y z I.1 (jI_F I) (jI_A I) hx hy hz ⟨fun _ => k2 _ I, fun w => absurd w c, fun w => absurd w c⟩)
  · exact k _ _ (fun Q2 k2 => c_X12_likes (gg := e) x y z I.1 (jI_F I) (jI_A I) hx hy hz ⟨fun w => absurd c1 w, fun _ _ => k2 _ I, fun _ w => absurd c2 w⟩)
  · exact k _ _ (fun Q2 k2 => c_X12_likes (gg := e) x y z I.1 (jF_h I rfl) (jA_h I rfl) hx hy hz ⟨fun w => absurd c1 w, fun _ w => absurd w c2, fun _ _ => k2 _ (jI_likes I c2 (by omega) (by omega) c1.2.2)⟩)
theorem pr_image (I : jI e) (x : Int) (hx : -2147483648 ≤ x ∧ x < 2147483648) (k : ∀ v g1, prM mX12_image (d2 + 1) [aI x] v g1 → Q (some (aI v)) g1) : fwCt mX11_image (d + 2) [aR 0 0, aI x] e Q := by
  refine c_X11_image x I.1 hx ⟨fun c => ?_, fun c1 => ?_⟩
  · exact k _ _ (fun Q2 k2 => c_X12_image x hx ⟨fun _ => k2 _ I, fun w => absurd w c⟩)
  · exact k _ _ (fun Q2 k2 => c_X12_image x hx ⟨fun w => absurd c1 w, fun _ => k2 _ (jI_image I (by omega))⟩)
theorem pr_mount (I : jI e) (k : ∀ v g1, prM mX12_mount (d2 + 11) [] v g1 → Q (some (aI v)) g1) : fwCt mX11_mount (d + 8) [aR 0 0] e Q := by
  have T : tOk e := I.1.2.2.2.2.2.2.2.2.2.2.1
  obtain ⟨t1, t2, t3⟩ := I.2.2.2.2.1
  refine c_X11_mount I.1 I.2.2.2.2.2.2 ⟨fun fk j i W H q hj hH => ?_, fun i W H q hi hH => ?_⟩
  · refine k _ _ (fun Q2 k2 => c_X12_mount (gg := e) T t1 t2 t3 (fun u g w S F => ?_) (fun u V g w S F f36 => ?_))
    · rw [q] at w
      cases w
      exact k2 _ (jI_mountF I hj hH S F)
    · rw [q] at w
      cases w
  · refine k _ _ (fun Q2 k2 => c_X12_mount (gg := e) T t1 t2 t3 (fun u g w S F => ?_) (fun u V g w S F f36 => ?_))
    · rw [q] at w
      cases w
    · rw [q] at w
      cases w
      exact k2 _ (jI_mountG I q hH S F f36)
end PAIRS
