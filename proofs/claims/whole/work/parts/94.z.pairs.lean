section PAIRSS
variable {d d2 : Nat} {e : fwH} {Q : Option fwV → fwH → Prop}
theorem prs_elected (I : jI e)   (k : ∀ v g1, prM mX12_elected (d2 + 6) [] v g1 → Q (some (aI v)) g1) : fwCt mX11_elected (d + 5) [aR 0 0] e Q :=
  c_X11_elected I.1 (fun g hg => k _ _ (fun Q2 k2 => c_X12_elected (gg := e) I.1 (jF_g I hg) (jA_g I hg) hg.2.2 (fun g2 hg2 => k2 _ (jI_scr I (scr_tr hg hg2)))))
theorem prs_round (I : jI e) (x : Int) (y : Int) (hx : -2147483648 ≤ x ∧ x < 2147483648) (hy : -2147483648 ≤ y ∧ y < 2147483648) (k : ∀ v g1, prM mX12_round (d2 + 8) [aI x, aI y] v g1 → Q (some (aI v)) g1) : fwCt mX11_round (d + 6) [aR 0 0, aI x, aI y] e Q :=
  c_X11_round x y I.1 hx hy (fun g hg => k _ _ (fun Q2 k2 => c_X12_round (gg := e) x y I.1 (jF_g I hg) (jA_g I hg) hg.2.2 hx hy (fun g2 hg2 => k2 _ (jI_scr I (scr_tr hg hg2)))))
theorem prs_goes (I : jI e) (x : Int) (y : Int) (z : Int) (hx : -2147483648 ≤ x ∧ x < 2147483648) (hy : -2147483648 ≤ y ∧ y < 2147483648) (hz : -2147483648 ≤ z ∧ z < 2147483648) (k : ∀ v g1, prM mX12_goes (d2 + 8) [aI x, aI y, aI z] v g1 → Q (some (aI v)) g1) : fwCt mX11_goes (d + 6) [aR 0 0, aI x, aI y, aI z] e Q :=
  c_X11_goes x y z I.1 hx hy hz (fun g hg => k _ _ (fun Q2 k2 => c_X12_goes (gg := e) x y z I.1 (jF_g I hg) (jA_g I hg) hg.2.2 hx hy hz (fun g2 hg2 => k2 _ (jI_scr I (scr_tr hg hg2)))))
theorem prs_two (I : jI e) (x : Int) (y : Int) (z : Int) (hx : -2147483648 ≤ x ∧ x < 2147483648) (hy : -2147483648 ≤ y ∧ y < 2147483648) (hz : -2147483648 ≤ z ∧ z < 2147483648) (k : ∀ v g1, prM mX12_two (d2 + 8) [aI x, aI y, aI z] v g1 → Q (some (aI v)) g1) : fwCt mX11_two (d + 6) [aR 0 0, aI x, aI y, aI z] e Q :=
  c_X11_two x y z I.1 hx hy hz (fun g hg => k _ _ (fun Q2 k2 => c_X12_two (gg := e) x y z I.1 (jF_g I hg) (jA_g I hg) hg.2.2 hx hy hz (fun g2 hg2 => k2 _ (jI_scr I (scr_tr hg hg2)))))
theorem prs_old (I : jI e) (x : Int) (hx : -2147483648 ≤ x ∧ x < 2147483648) (k : ∀ v g1, prM mX12_old (d2 + 7) [aI x] v g1 → Q (some (aI v)) g1) : fwCt mX11_old (d + 5) [aR 0 0, aI x] e Q :=
  c_X11_old x I.1 hx (fun g hg => k _ _ (fun Q2 k2 => c_X12_old (gg := e) x I.1 (jF_g I hg) (jA_g I hg) hg.2.2 (jS_g I hg) hx (fun g2 hg2 => k2 _ (jI_scr I (scr_tr hg hg2)))))
theorem prs_ask (I : jI e) (x : Int) (y : Int) (hx : -2147483648 ≤ x ∧ x < 2147483648) (hy : -2147483648 ≤ y ∧ y < 2147483648) (k : ∀ v g1, prM mX12_ask (d2 + 7) [aI x, aI y] v g1 → Q (some (aI v)) g1) : fwCt mX11_ask (d + 5) [aR 0 0, aI x, aI y] e Q :=
  c_X11_ask x y I.1 hx hy (fun g hg => k _ _ (fun Q2 k2 => c_X12_ask (gg := e) x y I.1 (jF_g I hg) (jA_g I hg) hg.2.2 (jS_g I hg) hx hy (fun g2 hg2 => k2 _ (jI_scr I (scr_tr hg hg2)))))
theorem prs_leaves (I : jI e) (x : Int) (y : Int) (hx : -2147483648 ≤ x ∧ x < 2147483648) (hy : -2147483648 ≤ y ∧ y < 2147483648) (k : ∀ v g1, prM mX12_leaves (d2 + 7) [aI x, aI y] v g1 → Q (some (aI v)) g1) : fwCt mX11_leaves (d + 5) [aR 0 0, aI x, aI y] e Q :=
  c_X11_leaves x y I.1 hx hy (fun g hg => k _ _ (fun Q2 k2 => c_X12_leaves (gg := e) x y I.1 (jF_g I hg) (jA_g I hg) hg.2.2 (jS_g I hg) hx hy (fun g2 hg2 => k2 _ (jI_scr I (scr_tr hg hg2)))))
theorem prs_doubts (I : jI e) (x : Int) (hx : -2147483648 ≤ x ∧ x < 2147483648) (k : ∀ v g1, prM mX12_doubts (d2 + 7) [aI x] v g1 → Q (some (aI v)) g1) : fwCt mX11_doubts (d + 5) [aR 0 0, aI x] e Q :=
  c_X11_doubts x I.1 hx (fun g hg => k _ _ (fun Q2 k2 => c_X12_doubts (gg := e) x I.1 (jF_g I hg) (jA_g I hg) hg.2.2 (jS_g I hg) hx (fun g2 hg2 => k2 _ (jI_scr I (scr_tr hg hg2)))))
theorem prs_shape (I : jI e) (x : Int) (hx : -2147483648 ≤ x ∧ x < 2147483648) (k : ∀ v g1, prM mX12_shape (d2 + 7) [aI x] v g1 → Q (some (aI v)) g1) : fwCt mX11_shape (d + 10) [aR 0 0, aI x] e Q :=
  c_X11_shape x I.1 hx (fun g hg => k _ _ (fun Q2 k2 => c_X12_shape (gg := e) x I.1 (jF_g I hg) (jA_g I hg) hg.2.2 hx (fun g2 hg2 => k2 _ (jI_scr I (scr_tr hg hg2)))))
theorem prs_shaped (I : jI e) (x : Int) (y : Int) (hx : -2147483648 ≤ x ∧ x < 2147483648) (hy : -2147483648 ≤ y ∧ y < 2147483648) (k : ∀ v g1, prM mX12_shaped (d2 + 7) [aI x, aI y] v g1 → Q (some (aI v)) g1) : fwCt mX11_shaped (d + 10) [aR 0 0, aI x, aI y] e Q :=
  c_X11_shaped x y I.1 hx hy (fun g hg => k _ _ (fun Q2 k2 => c_X12_shaped (gg := e) x y I.1 (jF_g I hg) (jA_g I hg) hg.2.2 hx hy (fun g2 hg2 => k2 _ (jI_scr I (scr_tr hg hg2)))))
theorem prs_play (I : jI e) (x : Int) (y : Int) (hx : -2147483648 ≤ x ∧ x < 2147483648) (hy : -2147483648 ≤ y ∧ y < 2147483648) (k : ∀ v g1, prM mX12_play (d2 + 7) [aI x, aI y] v g1 → Q (some (aI v)) g1) : fwCt mX11_play (d + 30) [aR 0 0, aI x, aI y] e Q :=
  c_X11_play x y I.1 hx hy (fun g hg => k _ _ (fun Q2 k2 => c_X12_play (gg := e) x y I.1 (jF_g I hg) (jA_g I hg) hg.2.2 hx hy (fun g2 hg2 => k2 _ (jI_scr I (scr_tr hg hg2)))))
theorem prs_moves (I : jI e) (x : Int) (y : Int) (hx : -2147483648 ≤ x ∧ x < 2147483648) (hy : -2147483648 ≤ y ∧ y < 2147483648) (k : ∀ v g1, prM mX12_moves (d2 + 7) [aI x, aI y] v g1 → Q (some (aI v)) g1) : fwCt mX11_moves (d + 31) [aR 0 0, aI x, aI y] e Q :=
  c_X11_moves x y I.1 hx hy (fun g hg => k _ _ (fun Q2 k2 => c_X12_moves (gg := e) x y I.1 (jF_g I hg) (jA_g I hg) hg.2.2 hx hy (fun g2 hg2 => k2 _ (jI_scr I (scr_tr hg hg2)))))
end PAIRSS
