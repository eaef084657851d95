theorem fwAnd_127 (x : Int) : 0 ≤ fwAnd x 127 ∧ fwAnd x 127 ≤ 127 := by
  unfold fwAnd
  obtain ⟨j, hj, e⟩ := pk_andE (Int32.ofInt x) (m := Int32.ofInt 127) 7 (by decide)
  rw [e, nI_toInt (by omega)]
  omega
set_option maxRecDepth 100000 in
theorem law_body {n : Nat} {xs : Nat → Int32} {i : Nat} {h : fwH} (I : jI h) (hn : n ≤ 100000) (hi : i + 6 ≤ n) (tail : ∀ h, jI h → lWP n xs 1993 (lLs i) [] h) : lWP n xs 27 (lLs i) [] h := by
  refine l_aload dL_law_27 rfl ?_
  refine l_iload dL_law_28 rfl ?_
  refine l_sld i dL_law_29 rfl (by omega) hn ?_
  refine l_bipush dL_law_30 rfl ?_
  refine l_iand dL_law_32 ?_
  have hz := fwAnd_127 (sv xs i)
  generalize fwAnd (sv xs i) 127 = z at hz
  obtain ⟨q, rfl⟩ : ∃ q : Nat, z = (q : Int) := ⟨z.toNat, by omega⟩
  match q, hz with
  | 0, _ => exact l_tabIn (off := 275) 308 dL_law_33 (by decide) (by decide) (by decide) rfl (by decide) (q_feed I hn hi tail)
  | 1, _ => exact l_tabIn (off := 338) 371 dL_law_33 (by decide) (by decide) (by decide) rfl (by decide) (q_end I hn hi tail)
  | 2, _ => exact l_tabIn (off := 361) 394 dL_law_33 (by decide) (by decide) (by decide) rfl (by decide) (q_mount I hn hi tail)
  | 3, _ => exact l_tabIn (off := 374) 407 dL_law_33 (by decide) (by decide) (by decide) rfl (by decide) (q_fault I hn hi tail)
  | 4, _ => exact l_tabIn (off := 397) 430 dL_law_33 (by decide) (by decide) (by decide) rfl (by decide) (q_folk I hn hi tail)
  | 5, _ => exact l_tabIn (off := 430) 463 dL_law_33 (by decide) (by decide) (by decide) rfl (by decide) (q_height I hn hi tail)
  | 6, _ => exact l_tabIn (off := 453) 486 dL_law_33 (by decide) (by decide) (by decide) rfl (by decide) (q_shade I hn hi tail)
  | 7, _ => exact l_tabIn (off := 486) 519 dL_law_33 (by decide) (by decide) (by decide) rfl (by decide) (q_light I hn hi tail)
  | 8, _ => exact l_tabIn (off := 509) 542 dL_law_33 (by decide) (by decide) (by decide) rfl (by decide) (q_dark I hn hi tail)
  | 9, _ => exact l_tabIn (off := 532) 565 dL_law_33 (by decide) (by decide) (by decide) rfl (by decide) (q_snow I hn hi tail)
  | 10, _ => exact l_tabIn (off := 545) 578 dL_law_33 (by decide) (by decide) (by decide) rfl (by decide) (q_top I hn hi tail)
  | 11, _ => exact l_tabIn (off := 558) 591 dL_law_33 (by decide) (by decide) (by decide) rfl (by decide) (q_gain I hn hi tail)
  | 12, _ => exact l_tabIn (off := 581) 614 dL_law_33 (by decide) (by decide) (by decide) rfl (by decide) (q_hopes I hn hi tail)
  | 13, _ => exact l_tabIn (off := 614) 647 dL_law_33 (by decide) (by decide) (by decide) rfl (by decide) (q_wishes I hn hi tail)
  | 14, _ => exact l_tabIn (off := 637) 670 dL_law_33 (by decide) (by decide) (by decide) rfl (by decide) (q_gains I hn hi tail)
  | 15, _ => exact l_tabIn (off := 650) 683 dL_law_33 (by decide) (by decide) (by decide) rfl (by decide) (q_take I hn hi tail)
  | 16, _ => exact l_tabIn (off := 663) 696 dL_law_33 (by decide) (by decide) (by decide) rfl (by decide) (q_heap I hn hi tail)
  | 17, _ => exact l_tabIn (off := 686) 719 dL_law_33 (by decide) (by decide) (by decide) rfl (by decide) (q_slides I hn hi tail)
  | 18, _ => exact l_tabIn (off := 709) 742 dL_law_33 (by decide) (by decide) (by decide) rfl (by decide) (q_undo I hn hi tail)
  | 19, _ => exact l_tabIn (off := 722) 755 dL_law_33 (by decide) (by decide) (by decide) rfl (by decide) (q_anew I hn hi tail)
  | 20, _ => exact l_tabIn (off := 735) 768 dL_law_33 (by decide) (by decide) (by decide) rfl (by decide) (q_willing I hn hi tail)
  | 21, _ => exact l_tabIn (off := 748) 781 dL_law_33 (by decide) (by decide) (by decide) rfl (by decide) (q_signers I hn hi tail)
  | 22, _ => exact l_tabIn (off := 771) 804 dL_law_33 (by decide) (by decide) (by decide) rfl (by decide) (q_names I hn hi tail)
  | 23, _ => exact l_tabIn (off := 794) 827 dL_law_33 (by decide) (by decide) (by decide) rfl (by decide) (q_first I hn hi tail)
  | 24, _ => exact l_tabIn (off := 807) 840 dL_law_33 (by decide) (by decide) (by decide) rfl (by decide) (q_firsts I hn hi tail)
  | 25, _ => exact l_tabIn (off := 820) 853 dL_law_33 (by decide) (by decide) (by decide) rfl (by decide) (q_next I hn hi tail)
  | 26, _ => exact l_tabIn (off := 843) 876 dL_law_33 (by decide) (by decide) (by decide) rfl (by decide) (q_needed I hn hi tail)
  | 27, _ => exact l_tabIn (off := 856) 889 dL_law_33 (by decide) (by decide) (by decide) rfl (by decide) (q_play I hn hi tail)
  | 28, _ => exact l_tabIn (off := 889) 922 dL_law_33 (by decide) (by decide) (by decide) rfl (by decide) (q_moves I hn hi tail)
  | 29, _ => exact l_tabIn (off := 922) 955 dL_law_33 (by decide) (by decide) (by decide) rfl (by decide) (q_round I hn hi tail)
  | 30, _ => exact l_tabIn (off := 955) 988 dL_law_33 (by decide) (by decide) (by decide) rfl (by decide) (q_goes I hn hi tail)
  | 31, _ => exact l_tabIn (off := 998) 1031 dL_law_33 (by decide) (by decide) (by decide) rfl (by decide) (q_two I hn hi tail)
  | 32, _ => exact l_tabIn (off := 1041) 1074 dL_law_33 (by decide) (by decide) (by decide) rfl (by decide) (q_flows I hn hi tail)
  | 33, _ => exact l_tabIn (off := 1064) 1097 dL_law_33 (by decide) (by decide) (by decide) rfl (by decide) (q_basin I hn hi tail)
  | 34, _ => exact l_tabIn (off := 1087) 1120 dL_law_33 (by decide) (by decide) (by decide) rfl (by decide) (q_cliffs I hn hi tail)
  | 35, _ => exact l_tabIn (off := 1100) 1133 dL_law_33 (by decide) (by decide) (by decide) rfl (by decide) (q_springs I hn hi tail)
  | 36, _ => exact l_tabIn (off := 1113) 1146 dL_law_33 (by decide) (by decide) (by decide) rfl (by decide) (q_sees I hn hi tail)
  | 37, _ => exact l_tabIn (off := 1136) 1169 dL_law_33 (by decide) (by decide) (by decide) rfl (by decide) (q_lookout I hn hi tail)
  | 38, _ => exact l_tabIn (off := 1149) 1182 dL_law_33 (by decide) (by decide) (by decide) rfl (by decide) (q_votes I hn hi tail)
  | 39, _ => exact l_tabIn (off := 1182) 1215 dL_law_33 (by decide) (by decide) (by decide) rfl (by decide) (q_elected I hn hi tail)
  | 40, _ => exact l_tabIn (off := 1195) 1228 dL_law_33 (by decide) (by decide) (by decide) rfl (by decide) (q_best I hn hi tail)
  | 41, _ => exact l_tabIn (off := 1208) 1241 dL_law_33 (by decide) (by decide) (by decide) rfl (by decide) (q_shape I hn hi tail)
  | 42, _ => exact l_tabIn (off := 1231) 1264 dL_law_33 (by decide) (by decide) (by decide) rfl (by decide) (q_shaped I hn hi tail)
  | 43, _ => exact l_tabIn (off := 1264) 1297 dL_law_33 (by decide) (by decide) (by decide) rfl (by decide) (q_spoil I hn hi tail)
  | 44, _ => exact l_tabIn (off := 1277) 1310 dL_law_33 (by decide) (by decide) (by decide) rfl (by decide) (q_course I hn hi tail)
  | 45, _ => exact l_tabIn (off := 1300) 1333 dL_law_33 (by decide) (by decide) (by decide) rfl (by decide) (q_ends I hn hi tail)
  | 46, _ => exact l_tabIn (off := 1323) 1356 dL_law_33 (by decide) (by decide) (by decide) rfl (by decide) (q_left I hn hi tail)
  | 47, _ => exact l_tabIn (off := 1356) 1389 dL_law_33 (by decide) (by decide) (by decide) rfl (by decide) (q_law I hn hi tail)
  | 48, _ => exact l_tabIn (off := 1379) 1412 dL_law_33 (by decide) (by decide) (by decide) rfl (by decide) (q_raisers I hn hi tail)
  | 49, _ => exact l_tabIn (off := 1392) 1425 dL_law_33 (by decide) (by decide) (by decide) rfl (by decide) (q_old I hn hi tail)
  | 50, _ => exact l_tabIn (off := 1415) 1448 dL_law_33 (by decide) (by decide) (by decide) rfl (by decide) (q_ask I hn hi tail)
  | 51, _ => exact l_tabIn (off := 1448) 1481 dL_law_33 (by decide) (by decide) (by decide) rfl (by decide) (q_leaves I hn hi tail)
  | 52, _ => exact l_tabIn (off := 1481) 1514 dL_law_33 (by decide) (by decide) (by decide) rfl (by decide) (q_doubts I hn hi tail)
  | 53, _ => exact l_tabIn (off := 1504) 1537 dL_law_33 (by decide) (by decide) (by decide) rfl (by decide) (q_stands I hn hi tail)
  | 54, _ => exact l_tabIn (off := 1527) 1560 dL_law_33 (by decide) (by decide) (by decide) rfl (by decide) (q_struck I hn hi tail)
  | 55, _ => exact l_tabIn (off := 1560) 1593 dL_law_33 (by decide) (by decide) (by decide) rfl (by decide) (q_drawn I hn hi tail)
  | 56, _ => exact l_tabIn (off := 1603) 1636 dL_law_33 (by decide) (by decide) (by decide) rfl (by decide) (q_luck I hn hi tail)
  | 57, _ => exact l_tabIn (off := 1646) 1679 dL_law_33 (by decide) (by decide) (by decide) rfl (by decide) (q_tell I hn hi tail)
  | 58, _ => exact l_tabIn (off := 1669) 1702 dL_law_33 (by decide) (by decide) (by decide) rfl (by decide) (q_likes I hn hi tail)
  | 59, _ => exact l_tabIn (off := 1712) 1745 dL_law_33 (by decide) (by decide) (by decide) rfl (by decide) (q_count I hn hi tail)
  | 60, _ => exact l_tabIn (off := 1735) 1768 dL_law_33 (by decide) (by decide) (by decide) rfl (by decide) (q_image I hn hi tail)
  | 61, _ => exact l_tabIn (off := 1758) 1791 dL_law_33 (by decide) (by decide) (by decide) rfl (by decide) (q_back I hn hi tail)
  | 62, _ => exact l_tabIn (off := 1781) 1814 dL_law_33 (by decide) (by decide) (by decide) rfl (by decide) (q_row I hn hi tail)
  | 63, _ => exact l_tabIn (off := 1824) 1857 dL_law_33 (by decide) (by decide) (by decide) rfl (by decide) (q_write I hn hi tail)
  | 64, _ => exact l_tabIn (off := 1897) 1930 dL_law_33 (by decide) (by decide) (by decide) rfl (by decide) (q_paste I hn hi tail)
  | q + 65, hz => exact l_tabOut 1993 dL_law_33 (by omega) (by omega) (by decide) (tail _ I)
theorem kX_eq (n0 : Nat) (tc : Nat → ClassId) : ([] : List va_E) ++ kX n0 tc = kX n0 tc := rfl
set_option maxHeartbeats 4000000 in
set_option maxRecDepth 100000 in
/-- THE LAW, from its entry to the loop's head -/
theorem law_start {p : Program} {e : Env} {s : State} {m : MethodId} {below : List Frame} {meth : Method} {c : Code} (l : Launch) {b n : Nat} {xs : Nat → Int32} (C0 : lw_At p s m meth c b n xs) (kk : lWP n xs 18 (lLs 0) [] h00) : W p l e room_1 s m #[Value.ref b] below meth c s.heap [] 0 0 (lw_Z below #[Value.ref b] s) (entryFrame m ([Value.ref b] : List Value).toArray 4) := by
  obtain ⟨hx, hb, hr, hml, hown, hts, hX, hbl, hlocks, hgv⟩ := id C0
  have ht9 := s_tb hts
  obtain ⟨D, hDk⟩ := s_cls ht9
  obtain ⟨tc, hK, hN⟩ := s_tys hts hDk
  obtain ⟨a5, a52, hC⟩ := s_cs b hts hgv
  have hl := lv_entry ([.ref b]) (n := 4) (Nat.le_of_ble_eq_true rfl)
  rw [lg_entry_eq]
  generalize (lg_sl ([.ref b]) ++ List.replicate (4 - (lg_sl ([.ref b])).length) Slot.unset).toArray = ls at hl ⊢
  have hl : lv_has ls 4 [(0, .ref b)] := hl
  have hP0 : va_P D vwCl (kWd s.heap.size []) s.heap := fun k q h => by simp [kWd] at h
  -- the class
  have hKn := hK.1 11 _ rfl
  refine W.newcK hx hb hown (ht9 _ kw_lc_11) (ht9 _ kw_in_11) (ht9 _ kw_ii_11) rfl dL_law_0 (by decide) (by decide) hKn.2.1 (h := s.heap.size) rfl fun H1 kC hkC e1 z1 o1 => ?_
  obtain ⟨g1, g2, g3⟩ := k_grow (n0 := s.heap.size) (cs := []) (H0 := s.heap) (locs := []) (e := .inr (11, [.null, .null, .null, .null, .null, .null, .null, .null, .null, .null, .null, .null])) hP0 rfl va_S.rf z1 o1 ⟨_, rfl, (u_born tyX11 ht9 fwInX11 hKn hkC e1 tyX11_ok).to (fun j hj => by have hj : j < 12 := hj; rcases (show j = 0 ∨ j = 1 ∨ j = 2 ∨ j = 3 ∨ j = 4 ∨ j = 5 ∨ j = 6 ∨ j = 7 ∨ j = 8 ∨ j = 9 ∨ j = 10 ∨ j = 11 by omega) with rfl | rfl | rfl | rfl | rfl | rfl | rfl | rfl | rfl | rfl | rfl | rfl <;> rfl)⟩
  refine lv_dup hx hb dL_law_3 rfl ?_
  have hcb1 : CallB room_1 s #[Value.ref b] RL 9 (mX11_init).1 (mX11_init).2.1 (mX11_init).2.2.1 none (fwWs mX11_init) (kRm 4 71 11429) 71 11429 0 := callB_of (Ts := fwTb) 0 ht9 (k_good mX11_init kok_11.1.1) rfl rfl rfl (ht9 _ kok_11.1.2.1) (ht9 _ kw_lm_11) kok_11.1.2.2.1 ⟨by decide, by decide⟩
  refine k_run (n0 := s.heap.size) (va_runI (l := l) (As := []) (rest := [.ref s.heap.size]) (b := s.heap.size) ⟨hx, hb, hml, hown, ht9⟩ ((c_X11_init (d := 0) (n0 := s.heap.size) (tc := tc) (Q := fun cs => cs = ([] : List va_E) ++ kX s.heap.size tc) rfl : kCt s.heap.size tc mX11_init (0 + 4) 71 11429 [aR 0 0] _ _) l D) ⟨hcb1, rfl, ht9 _ kok_11.2.2.2⟩
    ⟨kPc_blind, fun U hU hW => ⟨rfl, by rw [hU]; exact g1, by rw [hU]; exact g2, va_K.moved hW.alike hK, hN.warm hW⟩⟩ rfl rfl hl.1 rfl (lv_room (Nat.le_of_ble_eq_true rfl)) dL_law_4 ⟨by decide, by decide⟩) g3 (fun cs H2 locs2 hcs hP2 hz2 hS2 => ?_)
  subst hcs
  refine lv_astore_n (lv' := [(1, .ref s.heap.size), (0, .ref b)]) hx hb dL_law_7 rfl hl (by decide) rfl (fun ls hl => ?_)
  -- the other
  have hKn2 := hK.1 12 _ rfl
  refine W.newcK hx hb hown (ht9 _ kw_lc_12) (ht9 _ kw_in_12) (ht9 _ kw_ii_12) rfl dL_law_8 (by decide) (by decide) hKn2.2.1 hz2 fun H3 kC3 hkC3 e3 z3 o3 => ?_
  obtain ⟨g4, g5, g6⟩ := k_grow (n0 := s.heap.size) (H0 := s.heap) (e := .inr (12, [.int 0, .null, .null, .null, .null, .int 0, .null, .int 0, .int 0, .int 0, .int 0, .int 0, .int 0, .int 0, .null, .null, .null, .int 0, .int 0, .null, .null, .int 0, .null, .null, .null, .null])) hP2 hz2 hS2 z3 o3 ⟨_, rfl, (u_born tyX12 ht9 fwInX12 hKn2 hkC3 e3 tyX12_ok).to (fun j hj => by have hj : j < 26 := hj; rcases (show j = 0 ∨ j = 1 ∨ j = 2 ∨ j = 3 ∨ j = 4 ∨ j = 5 ∨ j = 6 ∨ j = 7 ∨ j = 8 ∨ j = 9 ∨ j = 10 ∨ j = 11 ∨ j = 12 ∨ j = 13 ∨ j = 14 ∨ j = 15 ∨ j = 16 ∨ j = 17 ∨ j = 18 ∨ j = 19 ∨ j = 20 ∨ j = 21 ∨ j = 22 ∨ j = 23 ∨ j = 24 ∨ j = 25 by omega) with rfl | rfl | rfl | rfl | rfl | rfl | rfl | rfl | rfl | rfl | rfl | rfl | rfl | rfl | rfl | rfl | rfl | rfl | rfl | rfl | rfl | rfl | rfl | rfl | rfl | rfl <;> rfl)⟩
  refine lv_dup hx hb dL_law_11 rfl ?_
  have hcb2 : CallB room_1 s #[Value.ref b] RL 12 (mX12_init).1 (mX12_init).2.1 (mX12_init).2.2.1 none (fwWs mX12_init) (kRm 1 14 67443) 14 67443 0 := callB_of (Ts := fwTb) 0 ht9 (k_good mX12_init kok_12.1.1) rfl rfl rfl (ht9 _ kok_12.1.2.1) (ht9 _ kw_lm_12) kok_12.1.2.2.1 ⟨by decide, by decide⟩
  refine k_run (n0 := s.heap.size) (va_runI (l := l) (As := []) (rest := [.ref (s.heap.size + 72)]) (b := s.heap.size + 72) ⟨hx, hb, hml, hown, ht9⟩ ((c_X12_init (d := 0) (n0 := s.heap.size) (tc := tc) (Q := fun cs => cs = kX s.heap.size tc ++ kY s.heap.size tc) (kX s.heap.size tc) 72 rfl rfl : kCt s.heap.size tc mX12_init (0 + 1) 14 67443 [aR 0 (72 + 0)] _ _) l D) ⟨hcb2, rfl, ht9 _ kok_12.2.2.2⟩
    ⟨kPc_blind, fun U hU hW => ⟨rfl, by rw [hU]; exact g4, by rw [hU]; exact g5, va_K.moved hW.alike hK, hN.warm hW⟩⟩ rfl rfl hl.1 rfl (lv_room (Nat.le_of_ble_eq_true rfl)) dL_law_12 ⟨by decide, by decide⟩) g6 (fun cs H4 locs4 hcs hP4 hz4 hS4 => ?_)
  subst hcs
  refine lv_astore_n (lv' := [(2, .ref (s.heap.size + 72)), (1, .ref s.heap.size), (0, .ref b)]) hx hb dL_law_15 rfl hl (by decide) rfl (fun ls hl => ?_)
  refine lv_iconst (v := 0) hx hb dL_law_16 (by decide) ?_
  refine lv_istore_n (lv' := [(3, .int 0), (2, .ref (s.heap.size + 72)), (1, .ref s.heap.size), (0, .ref b)]) hx hb dL_law_17 rfl hl (by decide) rfl (fun ls hl => ?_)
  refine W.widen (k := 600000) (n := 7302250) (by decide) (by decide) ?_
  refine va_forget (fun q hq => hS4.2.2 q hq) ?_
  refine kk l p e s m below meth c (sAd s.heap.size a5 a52 b) D tc H4 [] ls b ⟨⟨hx, hb, hml, hown, ht9, hr, hlocks, hK, sAd_inj _ _ _ _, hC⟩, hX, hbl, rfl, fun q h => sA_ge h⟩ ⟨s_world hP4, ⟨hS4.1, fun q h1 _ => hS4.2.1 q h1 (Nat.not_le.mpr h1), fun q hq => by cases hq⟩, hl.1, hl.2.1, fun i v hi => ?_⟩
  match i, hi with
  | 0, hi => cases hi; exact hl.2.2 (0, .ref b) (by simp)
  | 1, hi => cases hi; exact hl.2.2 (1, .ref s.heap.size) (by simp)
  | 2, hi => cases hi; exact hl.2.2 (2, .ref (s.heap.size + 72)) (by simp)
  | 3, hi => cases hi; exact hl.2.2 (3, .int 0) (by simp)
  | i + 4, hi => simp at hi
