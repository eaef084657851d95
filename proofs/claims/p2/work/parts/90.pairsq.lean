def prW (mm : fwM) (dd : Nat) (as : List fwV) (g1 : fwH) : Prop := ∀ Q2 : Option fwV → fwH → Prop, (∀ v g2, jI g2 → Q2 (some (aI v)) g2) → fwCt mm dd (aR 12 0 :: as) g1 Q2
section PAIRSQ
variable {d d2 : Nat} {e : fwH} {Q : Option fwV → fwH → Prop}
theorem pr_ask (I : jI e) (x : Int) (y : Int) (hx : -2147483648 ≤ x ∧ x < 2147483648) (hy : -2147483648 ≤ y ∧ y < 2147483648) (k : ∀ v g1, prW mX12_ask (d2 + 7) [aI x, aI y] g1 → Q (some (aI v)) g1) : fwCt mX11_ask (d + 5) [aR 0 0, aI x, aI y] e Q :=
  c_X11_ask x y I.1 hx hy (fun g hg => k _ _ (fun Q2 k2 => c_w_ask (gg := e) x y I.1 (jF_g I hg) (jA_g I hg) hg.2.2 (jS_g I hg) hx hy (fun v g2 hg2 => k2 _ _ (jI_scr I (scr_tr hg hg2)))))
theorem pr_basin (I : jI e) (x : Int) (hx : -2147483648 ≤ x ∧ x < 2147483648) (k : ∀ v g1, prM mX12_basin (d2 + 6) [aI x] v g1 → Q (some (aI v)) g1) : fwCt mX11_basin (d + 5) [aR 0 0, aI x] e Q :=
  c_X11_basin x I.1 hx (fun g hg => k _ _ (fun Q2 k2 => c_X12_basin (gg := e) x I.1 (jF_g I hg) (jA_g I hg) hg.2.2 hx (fun g2 hg2 => k2 _ (jI_scr I (scr_tr hg hg2)))))
theorem pr_best (I : jI e)   (k : ∀ v g1, prM mX12_best (d2 + 6) [] v g1 → Q (some (aI v)) g1) : fwCt mX11_best (d + 10) [aR 0 0] e Q :=
  c_X11_best I.1 (fun g hg => k _ _ (fun Q2 k2 => c_X12_best (gg := e) I.1 (jF_g I hg) (jA_g I hg) hg.2.2 (fun g2 hg2 => k2 _ (jI_scr I (scr_tr hg hg2)))))
theorem pr_cliffs (I : jI e)   (k : ∀ v g1, prM mX12_cliffs (d2 + 6) [] v g1 → Q (some (aI v)) g1) : fwCt mX11_cliffs (d + 2) [aR 0 0] e Q :=
  c_X11_cliffs I.1 (fun g hg => k _ _ (fun Q2 k2 => c_X12_cliffs (gg := e) I.1 (jF_g I hg) (jA_g I hg) hg.2.2 (fun g2 hg2 => k2 _ (jI_scr I (scr_tr hg hg2)))))
theorem pr_count (I : jI e) (x : Int) (hx : -2147483648 ≤ x ∧ x < 2147483648) (k : ∀ v g1, prM mX12_count (d2 + 1) [aI x] v g1 → Q (some (aI v)) g1) : fwCt mX11_count (d + 3) [aR 0 0, aI x] e Q :=
  c_X11_count x I.1 hx (fun g hg => k _ _ (fun Q2 k2 => c_X12_count (gg := e) x I.1 (jF_g I hg) (jS_g I hg) (hg.2.1.1.trans I.2.2.2.2.1.1) hx (k2 _ (jI_scr I hg))))
theorem pr_course (I : jI e) (x : Int) (hx : -2147483648 ≤ x ∧ x < 2147483648) (k : ∀ v g1, prM mX12_course (d2 + 7) [aI x] v g1 → Q (some (aI v)) g1) : fwCt mX11_course (d + 6) [aR 0 0, aI x] e Q :=
  c_X11_course x I.1 hx (fun g hg => k _ _ (fun Q2 k2 => c_X12_course (gg := e) x I.1 (jF_g I hg) (jA_g I hg) hg.2.2 hx (fun g2 hg2 => k2 _ (jI_scr I (scr_tr hg hg2)))))
theorem pr_dark (I : jI e) (x : Int) (hx : -2147483648 ≤ x ∧ x < 2147483648) (k : ∀ v g1, prM mX12_dark (d2 + 6) [aI x] v g1 → Q (some (aI v)) g1) : fwCt mX11_dark (d + 3) [aR 0 0, aI x] e Q :=
  c_X11_dark x I.1 hx (fun g hg => k _ _ (fun Q2 k2 => c_X12_dark (gg := e) x I.1 (jF_g I hg) (jA_g I hg) hg.2.2 hx (fun g2 hg2 => k2 _ (jI_scr I (scr_tr hg hg2)))))
theorem pr_doubts (I : jI e) (x : Int) (hx : -2147483648 ≤ x ∧ x < 2147483648) (k : ∀ v g1, prW mX12_doubts (d2 + 7) [aI x] g1 → Q (some (aI v)) g1) : fwCt mX11_doubts (d + 5) [aR 0 0, aI x] e Q :=
  c_X11_doubts x I.1 hx (fun g hg => k _ _ (fun Q2 k2 => c_w_doubts (gg := e) x I.1 (jF_g I hg) (jA_g I hg) hg.2.2 (jS_g I hg) hx (fun v g2 hg2 => k2 _ _ (jI_scr I (scr_tr hg hg2)))))
theorem pr_drawn (I : jI e) (x : Int) (y : Int) (z : Int) (hx : -2147483648 ≤ x ∧ x < 2147483648) (hy : -2147483648 ≤ y ∧ y < 2147483648) (hz : -2147483648 ≤ z ∧ z < 2147483648) (k : ∀ v g1, prM mX12_drawn (d2 + 7) [aI x, aI y, aI z] v g1 → Q (some (aI v)) g1) : fwCt mX11_drawn (d + 5) [aR 0 0, aI x, aI y, aI z] e Q :=
  c_X11_drawn x y z I.1 hx hy hz (fun g hg => k _ _ (fun Q2 k2 => c_X12_drawn (gg := e) x y z I.1 (jF_g I hg) (jA_g I hg) hg.2.2 hx hy hz (fun g2 hg2 => k2 _ (jI_scr I (scr_tr hg hg2)))))
theorem pr_elected (I : jI e)   (k : ∀ v g1, prW mX12_elected (d2 + 6) [] g1 → Q (some (aI v)) g1) : fwCt mX11_elected (d + 5) [aR 0 0] e Q :=
  c_X11_elected I.1 (fun g hg => k _ _ (fun Q2 k2 => c_w_elected (gg := e) I.1 (jF_g I hg) (jA_g I hg) hg.2.2 (fun v g2 hg2 => k2 _ _ (jI_scr I (scr_tr hg hg2)))))
theorem pr_ends (I : jI e) (x : Int) (hx : -2147483648 ≤ x ∧ x < 2147483648) (k : ∀ v g1, prM mX12_ends (d2 + 7) [aI x] v g1 → Q (some (aI v)) g1) : fwCt mX11_ends (d + 6) [aR 0 0, aI x] e Q :=
  c_X11_ends x I.1 hx (fun g hg => k _ _ (fun Q2 k2 => c_X12_ends (gg := e) x I.1 (jF_g I hg) (jA_g I hg) hg.2.2 hx (fun g2 hg2 => k2 _ (jI_scr I (scr_tr hg hg2)))))
theorem pr_first (I : jI e)   (k : ∀ v g1, prM mX12_first (d2 + 7) [] v g1 → Q (some (aI v)) g1) : fwCt mX11_first (d + 5) [aR 0 0] e Q :=
  c_X11_first I.1 (fun g hg => k _ _ (fun Q2 k2 => c_X12_first (gg := e) I.1 (jF_g I hg) (jA_g I hg) hg.2.2 (fun g2 hg2 => k2 _ (jI_scr I (scr_tr hg hg2)))))
theorem pr_firsts (I : jI e)   (k : ∀ v g1, prM mX12_firsts (d2 + 7) [] v g1 → Q (some (aI v)) g1) : fwCt mX11_firsts (d + 5) [aR 0 0] e Q :=
  c_X11_firsts I.1 (fun g hg => k _ _ (fun Q2 k2 => c_X12_firsts (gg := e) I.1 (jF_g I hg) (jA_g I hg) hg.2.2 (fun g2 hg2 => k2 _ (jI_scr I (scr_tr hg hg2)))))
theorem pr_flows (I : jI e) (x : Int) (hx : -2147483648 ≤ x ∧ x < 2147483648) (k : ∀ v g1, prM mX12_flows (d2 + 6) [aI x] v g1 → Q (some (aI v)) g1) : fwCt mX11_flows (d + 4) [aR 0 0, aI x] e Q :=
  c_X11_flows x I.1 hx (fun g hg => k _ _ (fun Q2 k2 => c_X12_flows (gg := e) x I.1 (jF_g I hg) (jA_g I hg) hg.2.2 hx (fun g2 hg2 => k2 _ (jI_scr I (scr_tr hg hg2)))))
theorem pr_folk (I : jI e) (x : Int) (y : Int) (hx : -2147483648 ≤ x ∧ x < 2147483648) (hy : -2147483648 ≤ y ∧ y < 2147483648) (k : ∀ v g1, prM mX12_folk (d2 + 2) [aI x, aI y] v g1 → Q (some (aI v)) g1) : fwCt mX11_folk (d + 1) [aR 0 0, aI x, aI y] e Q :=
  c_X11_folk x y I.1 hx hy (fun g hg => k _ _ (fun Q2 k2 => c_X12_folk (gg := e) x y I.1 (jF_g I hg) (jA_g I hg) hg.2.2 hx hy (fun g2 hg2 => k2 _ (jI_scr I (scr_tr hg hg2)))))
theorem pr_gain (I : jI e) (x : Int) (hx : -2147483648 ≤ x ∧ x < 2147483648) (k : ∀ v g1, prM mX12_gain (d2 + 6) [aI x] v g1 → Q (some (aI v)) g1) : fwCt mX11_gain (d + 4) [aR 0 0, aI x] e Q :=
  c_X11_gain x I.1 hx (fun g hg => k _ _ (fun Q2 k2 => c_X12_gain (gg := e) x I.1 (jF_g I hg) (jA_g I hg) hg.2.2 hx (fun g2 hg2 => k2 _ (jI_scr I (scr_tr hg hg2)))))
theorem pr_gains (I : jI e)   (k : ∀ v g1, prM mX12_gains (d2 + 6) [] v g1 → Q (some (aI v)) g1) : fwCt mX11_gains (d + 4) [aR 0 0] e Q :=
  c_X11_gains I.1 (fun g hg => k _ _ (fun Q2 k2 => c_X12_gains (gg := e) I.1 (jF_g I hg) (jA_g I hg) hg.2.2 (fun g2 hg2 => k2 _ (jI_scr I (scr_tr hg hg2)))))
theorem pr_goes (I : jI e) (x : Int) (y : Int) (z : Int) (hx : -2147483648 ≤ x ∧ x < 2147483648) (hy : -2147483648 ≤ y ∧ y < 2147483648) (hz : -2147483648 ≤ z ∧ z < 2147483648) (k : ∀ v g1, prW mX12_goes (d2 + 8) [aI x, aI y, aI z] g1 → Q (some (aI v)) g1) : fwCt mX11_goes (d + 6) [aR 0 0, aI x, aI y, aI z] e Q :=
  c_X11_goes x y z I.1 hx hy hz (fun g hg => k _ _ (fun Q2 k2 => c_w_goes (gg := e) x y z I.1 (jF_g I hg) (jA_g I hg) hg.2.2 hx hy hz (fun v g2 hg2 => k2 _ _ (jI_scr I (scr_tr hg hg2)))))
theorem pr_height (I : jI e) (x : Int) (hx : -2147483648 ≤ x ∧ x < 2147483648) (k : ∀ v g1, prM mX12_height (d2 + 6) [aI x] v g1 → Q (some (aI v)) g1) : fwCt mX11_height (d + 1) [aR 0 0, aI x] e Q :=
  c_X11_height x I.1 hx (fun g hg => k _ _ (fun Q2 k2 => c_X12_height (gg := e) x I.1 (jF_g I hg) (jA_g I hg) hg.2.2 hx (fun g2 hg2 => k2 _ (jI_scr I (scr_tr hg hg2)))))
theorem pr_hopes (I : jI e) (x : Int) (y : Int) (hx : -2147483648 ≤ x ∧ x < 2147483648) (hy : -2147483648 ≤ y ∧ y < 2147483648) (k : ∀ v g1, prM mX12_hopes (d2 + 7) [aI x, aI y] v g1 → Q (some (aI v)) g1) : fwCt mX11_hopes (d + 5) [aR 0 0, aI x, aI y] e Q :=
  c_X11_hopes x y I.1 hx hy (fun g hg => k _ _ (fun Q2 k2 => c_X12_hopes (gg := e) x y I.1 (jF_g I hg) (jA_g I hg) hg.2.2 hx hy (fun g2 hg2 => k2 _ (jI_scr I (scr_tr hg hg2)))))
theorem pr_law (I : jI e) (x : Int) (hx : -2147483648 ≤ x ∧ x < 2147483648) (k : ∀ v g1, prM mX12_law (d2 + 7) [aI x] v g1 → Q (some (aI v)) g1) : fwCt mX11_law (d + 6) [aR 0 0, aI x] e Q :=
  c_X11_law x I.1 hx (fun g hg => k _ _ (fun Q2 k2 => c_X12_law (gg := e) x I.1 (jF_g I hg) (jA_g I hg) hg.2.2 hx (fun g2 hg2 => k2 _ (jI_scr I (scr_tr hg hg2)))))
theorem pr_leaves (I : jI e) (x : Int) (y : Int) (hx : -2147483648 ≤ x ∧ x < 2147483648) (hy : -2147483648 ≤ y ∧ y < 2147483648) (k : ∀ v g1, prW mX12_leaves (d2 + 7) [aI x, aI y] g1 → Q (some (aI v)) g1) : fwCt mX11_leaves (d + 5) [aR 0 0, aI x, aI y] e Q :=
  c_X11_leaves x y I.1 hx hy (fun g hg => k _ _ (fun Q2 k2 => c_w_leaves (gg := e) x y I.1 (jF_g I hg) (jA_g I hg) hg.2.2 (jS_g I hg) hx hy (fun v g2 hg2 => k2 _ _ (jI_scr I (scr_tr hg hg2)))))
theorem pr_left (I : jI e) (x : Int) (y : Int) (hx : -2147483648 ≤ x ∧ x < 2147483648) (hy : -2147483648 ≤ y ∧ y < 2147483648) (k : ∀ v g1, prM mX12_left (d2 + 7) [aI x, aI y] v g1 → Q (some (aI v)) g1) : fwCt mX11_left (d + 6) [aR 0 0, aI x, aI y] e Q :=
  c_X11_left x y I.1 hx hy (fun g hg => k _ _ (fun Q2 k2 => c_X12_left (gg := e) x y I.1 (jF_g I hg) (jA_g I hg) hg.2.2 hx hy (fun g2 hg2 => k2 _ (jI_scr I (scr_tr hg hg2)))))
theorem pr_light (I : jI e) (x : Int) (hx : -2147483648 ≤ x ∧ x < 2147483648) (k : ∀ v g1, prM mX12_light (d2 + 6) [aI x] v g1 → Q (some (aI v)) g1) : fwCt mX11_light (d + 2) [aR 0 0, aI x] e Q :=
  c_X11_light x I.1 hx (fun g hg => k _ _ (fun Q2 k2 => c_X12_light (gg := e) x I.1 (jF_g I hg) (jA_g I hg) hg.2.2 hx (fun g2 hg2 => k2 _ (jI_scr I (scr_tr hg hg2)))))
theorem pr_lookout (I : jI e)   (k : ∀ v g1, prM mX12_lookout (d2 + 6) [] v g1 → Q (some (aI v)) g1) : fwCt mX11_lookout (d + 4) [aR 0 0] e Q :=
  c_X11_lookout I.1 (fun g hg => k _ _ (fun Q2 k2 => c_X12_lookout (gg := e) I.1 (jF_g I hg) (jA_g I hg) hg.2.2 (fun g2 hg2 => k2 _ (jI_scr I (scr_tr hg hg2)))))
theorem pr_luck (I : jI e) (x : Int) (y : Int) (z : Int) (hx : -2147483648 ≤ x ∧ x < 2147483648) (hy : -2147483648 ≤ y ∧ y < 2147483648) (hz : -2147483648 ≤ z ∧ z < 2147483648) (k : ∀ v g1, prM mX12_luck (d2 + 7) [aI x, aI y, aI z] v g1 → Q (some (aI v)) g1) : fwCt mX11_luck (d + 5) [aR 0 0, aI x, aI y, aI z] e Q :=
  c_X11_luck x y z I.1 hx hy hz (fun g hg => k _ _ (fun Q2 k2 => c_X12_luck (gg := e) x y z I.1 (jF_g I hg) (jA_g I hg) hg.2.2 hx hy hz (fun g2 hg2 => k2 _ (jI_scr I (scr_tr hg hg2)))))
theorem pr_moves (I : jI e) (x : Int) (y : Int) (hx : -2147483648 ≤ x ∧ x < 2147483648) (hy : -2147483648 ≤ y ∧ y < 2147483648) (k : ∀ v g1, prW mX12_moves (d2 + 7) [aI x, aI y] g1 → Q (some (aI v)) g1) : fwCt mX11_moves (d + 31) [aR 0 0, aI x, aI y] e Q :=
  c_X11_moves x y I.1 hx hy (fun g hg => k _ _ (fun Q2 k2 => c_w_moves (gg := e) x y I.1 (jF_g I hg) (jA_g I hg) hg.2.2 hx hy (fun v g2 hg2 => k2 _ _ (jI_scr I (scr_tr hg hg2)))))
theorem pr_names (I : jI e) (x : Int) (hx : -2147483648 ≤ x ∧ x < 2147483648) (k : ∀ v g1, prM mX12_names (d2 + 6) [aI x] v g1 → Q (some (aI v)) g1) : fwCt mX11_names (d + 5) [aR 0 0, aI x] e Q :=
  c_X11_names x I.1 hx (fun g hg => k _ _ (fun Q2 k2 => c_X12_names (gg := e) x I.1 (jF_g I hg) (jA_g I hg) hg.2.2 hx (fun g2 hg2 => k2 _ (jI_scr I (scr_tr hg hg2)))))
theorem pr_needed (I : jI e)   (k : ∀ v g1, prM mX12_needed (d2 + 6) [] v g1 → Q (some (aI v)) g1) : fwCt mX11_needed (d + 5) [aR 0 0] e Q :=
  c_X11_needed I.1 (fun g hg => k _ _ (fun Q2 k2 => c_X12_needed (gg := e) I.1 (jF_g I hg) (jA_g I hg) hg.2.2 (fun g2 hg2 => k2 _ (jI_scr I (scr_tr hg hg2)))))
theorem pr_next (I : jI e) (x : Int) (hx : -2147483648 ≤ x ∧ x < 2147483648) (k : ∀ v g1, prM mX12_next (d2 + 6) [aI x] v g1 → Q (some (aI v)) g1) : fwCt mX11_next (d + 5) [aR 0 0, aI x] e Q :=
  c_X11_next x I.1 hx (fun g hg => k _ _ (fun Q2 k2 => c_X12_next (gg := e) x I.1 (jF_g I hg) (jA_g I hg) hg.2.2 hx (fun g2 hg2 => k2 _ (jI_scr I (scr_tr hg hg2)))))
theorem pr_old (I : jI e) (x : Int) (hx : -2147483648 ≤ x ∧ x < 2147483648) (k : ∀ v g1, prW mX12_old (d2 + 7) [aI x] g1 → Q (some (aI v)) g1) : fwCt mX11_old (d + 5) [aR 0 0, aI x] e Q :=
  c_X11_old x I.1 hx (fun g hg => k _ _ (fun Q2 k2 => c_w_old (gg := e) x I.1 (jF_g I hg) (jA_g I hg) hg.2.2 (jS_g I hg) hx (fun v g2 hg2 => k2 _ _ (jI_scr I (scr_tr hg hg2)))))
theorem pr_play (I : jI e) (x : Int) (y : Int) (hx : -2147483648 ≤ x ∧ x < 2147483648) (hy : -2147483648 ≤ y ∧ y < 2147483648) (k : ∀ v g1, prW mX12_play (d2 + 7) [aI x, aI y] g1 → Q (some (aI v)) g1) : fwCt mX11_play (d + 30) [aR 0 0, aI x, aI y] e Q :=
  c_X11_play x y I.1 hx hy (fun g hg => k _ _ (fun Q2 k2 => c_w_play (gg := e) x y I.1 (jF_g I hg) (jA_g I hg) hg.2.2 hx hy (fun v g2 hg2 => k2 _ _ (jI_scr I (scr_tr hg hg2)))))
theorem pr_raisers (I : jI e)   (k : ∀ v g1, prM mX12_raisers (d2 + 6) [] v g1 → Q (some (aI v)) g1) : fwCt mX11_raisers (d + 4) [aR 0 0] e Q :=
  c_X11_raisers I.1 (fun g hg => k _ _ (fun Q2 k2 => c_X12_raisers (gg := e) I.1 (jF_g I hg) (jA_g I hg) hg.2.2 (fun g2 hg2 => k2 _ (jI_scr I (scr_tr hg hg2)))))
theorem pr_round (I : jI e) (x : Int) (y : Int) (hx : -2147483648 ≤ x ∧ x < 2147483648) (hy : -2147483648 ≤ y ∧ y < 2147483648) (k : ∀ v g1, prW mX12_round (d2 + 8) [aI x, aI y] g1 → Q (some (aI v)) g1) : fwCt mX11_round (d + 6) [aR 0 0, aI x, aI y] e Q :=
  c_X11_round x y I.1 hx hy (fun g hg => k _ _ (fun Q2 k2 => c_w_round (gg := e) x y I.1 (jF_g I hg) (jA_g I hg) hg.2.2 hx hy (fun v g2 hg2 => k2 _ _ (jI_scr I (scr_tr hg hg2)))))
theorem pr_sees (I : jI e) (x : Int) (hx : -2147483648 ≤ x ∧ x < 2147483648) (k : ∀ v g1, prM mX12_sees (d2 + 6) [aI x] v g1 → Q (some (aI v)) g1) : fwCt mX11_sees (d + 3) [aR 0 0, aI x] e Q :=
  c_X11_sees x I.1 hx (fun g hg => k _ _ (fun Q2 k2 => c_X12_sees (gg := e) x I.1 (jF_g I hg) (jA_g I hg) hg.2.2 hx (fun g2 hg2 => k2 _ (jI_scr I (scr_tr hg hg2)))))
theorem pr_shade (I : jI e) (x : Int) (y : Int) (hx : -2147483648 ≤ x ∧ x < 2147483648) (hy : -2147483648 ≤ y ∧ y < 2147483648) (k : ∀ v g1, prM mX12_shade (d2 + 6) [aI x, aI y] v g1 → Q (some (aI v)) g1) : fwCt mX11_shade (d + 2) [aR 0 0, aI x, aI y] e Q :=
  c_X11_shade x y I.1 hx hy (fun g hg => k _ _ (fun Q2 k2 => c_X12_shade (gg := e) x y I.1 (jF_g I hg) (jA_g I hg) hg.2.2 hx hy (fun g2 hg2 => k2 _ (jI_scr I (scr_tr hg hg2)))))
theorem pr_shape (I : jI e) (x : Int) (hx : -2147483648 ≤ x ∧ x < 2147483648) (k : ∀ v g1, prW mX12_shape (d2 + 7) [aI x] g1 → Q (some (aI v)) g1) : fwCt mX11_shape (d + 10) [aR 0 0, aI x] e Q :=
  c_X11_shape x I.1 hx (fun g hg => k _ _ (fun Q2 k2 => c_w_shape (gg := e) x I.1 (jF_g I hg) (jA_g I hg) hg.2.2 hx (fun v g2 hg2 => k2 _ _ (jI_scr I (scr_tr hg hg2)))))
theorem pr_shaped (I : jI e) (x : Int) (y : Int) (hx : -2147483648 ≤ x ∧ x < 2147483648) (hy : -2147483648 ≤ y ∧ y < 2147483648) (k : ∀ v g1, prW mX12_shaped (d2 + 7) [aI x, aI y] g1 → Q (some (aI v)) g1) : fwCt mX11_shaped (d + 10) [aR 0 0, aI x, aI y] e Q :=
  c_X11_shaped x y I.1 hx hy (fun g hg => k _ _ (fun Q2 k2 => c_w_shaped (gg := e) x y I.1 (jF_g I hg) (jA_g I hg) hg.2.2 hx hy (fun v g2 hg2 => k2 _ _ (jI_scr I (scr_tr hg hg2)))))
theorem pr_signers (I : jI e) (x : Int) (hx : -2147483648 ≤ x ∧ x < 2147483648) (k : ∀ v g1, prM mX12_signers (d2 + 6) [aI x] v g1 → Q (some (aI v)) g1) : fwCt mX11_signers (d + 5) [aR 0 0, aI x] e Q :=
  c_X11_signers x I.1 hx (fun g hg => k _ _ (fun Q2 k2 => c_X12_signers (gg := e) x I.1 (jF_g I hg) (jA_g I hg) hg.2.2 hx (fun g2 hg2 => k2 _ (jI_scr I (scr_tr hg hg2)))))
theorem pr_slides (I : jI e) (x : Int) (hx : -2147483648 ≤ x ∧ x < 2147483648) (k : ∀ v g1, prM mX12_slides (d2 + 6) [aI x] v g1 → Q (some (aI v)) g1) : fwCt mX11_slides (d + 4) [aR 0 0, aI x] e Q :=
  c_X11_slides x I.1 hx (fun g hg => k _ _ (fun Q2 k2 => c_X12_slides (gg := e) x I.1 (jF_g I hg) (jA_g I hg) hg.2.2 hx (fun g2 hg2 => k2 _ (jI_scr I (scr_tr hg hg2)))))
theorem pr_snow (I : jI e)   (k : ∀ v g1, prM mX12_snow (d2 + 6) [] v g1 → Q (some (aI v)) g1) : fwCt mX11_snow (d + 2) [aR 0 0] e Q :=
  c_X11_snow I.1 (fun g hg => k _ _ (fun Q2 k2 => c_X12_snow (gg := e) I.1 (jF_g I hg) (jA_g I hg) hg.2.2 (fun g2 hg2 => k2 _ (jI_scr I (scr_tr hg hg2)))))
theorem pr_spoil (I : jI e)   (k : ∀ v g1, prM mX12_spoil (d2 + 6) [] v g1 → Q (some (aI v)) g1) : fwCt mX11_spoil (d + 5) [aR 0 0] e Q :=
  c_X11_spoil I.1 (fun g hg => k _ _ (fun Q2 k2 => c_X12_spoil (gg := e) I.1 (jF_g I hg) (jA_g I hg) hg.2.2 (fun g2 hg2 => k2 _ (jI_scr I (scr_tr hg hg2)))))
theorem pr_springs (I : jI e)   (k : ∀ v g1, prM mX12_springs (d2 + 6) [] v g1 → Q (some (aI v)) g1) : fwCt mX11_springs (d + 5) [aR 0 0] e Q :=
  c_X11_springs I.1 (fun g hg => k _ _ (fun Q2 k2 => c_X12_springs (gg := e) I.1 (jF_g I hg) (jA_g I hg) hg.2.2 (fun g2 hg2 => k2 _ (jI_scr I (scr_tr hg hg2)))))
theorem pr_stands (I : jI e) (x : Int) (hx : -2147483648 ≤ x ∧ x < 2147483648) (k : ∀ v g1, prM mX12_stands (d2 + 3) [aI x] v g1 → Q (some (aI v)) g1) : fwCt mX11_stands (d + 4) [aR 0 0, aI x] e Q :=
  c_X11_stands x I.1 hx (fun g hg => k _ _ (fun Q2 k2 => c_X12_stands (gg := e) x I.1 (jF_g I hg) (jS_g I hg) hx (k2 _ (jI_scr I hg))))
theorem pr_struck (I : jI e) (x : Int) (y : Int) (hx : -2147483648 ≤ x ∧ x < 2147483648) (hy : -2147483648 ≤ y ∧ y < 2147483648) (k : ∀ v g1, prW mX12_struck (d2 + 3) [aI x, aI y] g1 → Q (some (aI v)) g1) : fwCt mX11_struck (d + 4) [aR 0 0, aI x, aI y] e Q :=
  c_X11_struck x y I.1 hx hy (fun g hg => k _ _ (fun Q2 k2 => c_w_struck (gg := e) x y I.1 (jF_g I hg) (jA_g I hg) hg.2.2 (jS_g I hg) hx hy (fun v g2 hg2 => k2 _ _ (jI_scr I (scr_tr hg hg2)))))
theorem pr_top (I : jI e)   (k : ∀ v g1, prM mX12_top (d2 + 6) [] v g1 → Q (some (aI v)) g1) : fwCt mX11_top (d + 2) [aR 0 0] e Q :=
  c_X11_top I.1 (fun g hg => k _ _ (fun Q2 k2 => c_X12_top (gg := e) I.1 (jF_g I hg) (jA_g I hg) hg.2.2 (fun g2 hg2 => k2 _ (jI_scr I (scr_tr hg hg2)))))
theorem pr_two (I : jI e) (x : Int) (y : Int) (z : Int) (hx : -2147483648 ≤ x ∧ x < 2147483648) (hy : -2147483648 ≤ y ∧ y < 2147483648) (hz : -2147483648 ≤ z ∧ z < 2147483648) (k : ∀ v g1, prW mX12_two (d2 + 8) [aI x, aI y, aI z] g1 → Q (some (aI v)) g1) : fwCt mX11_two (d + 6) [aR 0 0, aI x, aI y, aI z] e Q :=
  c_X11_two x y z I.1 hx hy hz (fun g hg => k _ _ (fun Q2 k2 => c_w_two (gg := e) x y z I.1 (jF_g I hg) (jA_g I hg) hg.2.2 hx hy hz (fun v g2 hg2 => k2 _ _ (jI_scr I (scr_tr hg hg2)))))
theorem pr_votes (I : jI e) (x : Int) (y : Int) (hx : -2147483648 ≤ x ∧ x < 2147483648) (hy : -2147483648 ≤ y ∧ y < 2147483648) (k : ∀ v g1, prM mX12_votes (d2 + 6) [aI x, aI y] v g1 → Q (some (aI v)) g1) : fwCt mX11_votes (d + 4) [aR 0 0, aI x, aI y] e Q :=
  c_X11_votes x y I.1 hx hy (fun g hg => k _ _ (fun Q2 k2 => c_X12_votes (gg := e) x y I.1 (jF_g I hg) (jA_g I hg) hg.2.2 hx hy (fun g2 hg2 => k2 _ (jI_scr I (scr_tr hg hg2)))))
theorem pr_willing (I : jI e)   (k : ∀ v g1, prM mX12_willing (d2 + 6) [] v g1 → Q (some (aI v)) g1) : fwCt mX11_willing (d + 4) [aR 0 0] e Q :=
  c_X11_willing I.1 (fun g hg => k _ _ (fun Q2 k2 => c_X12_willing (gg := e) I.1 (jF_g I hg) (jA_g I hg) hg.2.2 (fun g2 hg2 => k2 _ (jI_scr I (scr_tr hg hg2)))))
theorem pr_wishes (I : jI e) (x : Int) (hx : -2147483648 ≤ x ∧ x < 2147483648) (k : ∀ v g1, prM mX12_wishes (d2 + 7) [aI x] v g1 → Q (some (aI v)) g1) : fwCt mX11_wishes (d + 5) [aR 0 0, aI x] e Q :=
  c_X11_wishes x I.1 hx (fun g hg => k _ _ (fun Q2 k2 => c_X12_wishes (gg := e) x I.1 (jF_g I hg) (jA_g I hg) hg.2.2 hx (fun g2 hg2 => k2 _ (jI_scr I (scr_tr hg hg2)))))
theorem pr_fault (I : jI e) (x : Int) (hx : -2147483648 ≤ x ∧ x < 2147483648) (k : ∀ v g1, prM mX12_fault (d2 + 0) [aI x] v g1 → Q (some (aI v)) g1) : fwCt mX11_fault (d + 0) [aR 0 0, aI x] e Q :=
  c_X11_fault x I.1 hx (fun g hg => k _ _ (fun Q2 k2 => c_X12_fault x hx (by
    have z := k2 _ (jI_scr I hg)
    have q : an_fault e x = (if x = 0 then g 12 0 12 else if x = 1 then g 12 0 13 else -1) := by
      rw [hg.2.1.2.1, hg.2.1.2.2, I.2.2.2.2.2.1.1, I.2.2.2.2.2.1.2]
      rfl
    rw [q] at z
    exact z)))
end PAIRSQ
