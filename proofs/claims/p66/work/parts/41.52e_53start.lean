section
set_option maxRecDepth 100000 in
set_option maxHeartbeats 4000000 in
theorem c_X12_init {d n0 : Nat} {tc : Nat → ClassId} {Q : List va_E → Prop} (P : List va_E) (a : Nat) (ha : P.length = a) (k : Q (P ++ [.inr (12, [.int 0, .ref (n0 + (a + 1)), .ref (n0 + (a + 2)), .ref (n0 + (a + 3)), .ref (n0 + (a + 4)), .int 0, .ref (n0 + (a + 5)), .int 0, .int 0, .int 0, .int 0, .int 0, .int 0, .int (Int32.ofInt (-1)), .ref (n0 + (a + 6)), .ref (n0 + (a + 7)), .ref (n0 + (a + 8)), .int 0, .int 0, .ref (n0 + (a + 9)), .ref (n0 + (a + 10)), .int 0, .ref (n0 + (a + 11)), .ref (n0 + (a + 12)), .ref (n0 + (a + 13)), .ref (n0 + (a + 14))]), .inl (tc 0, 135, .inl (fun _ => 0)), .inl (tc 0, 405, .inl (fun _ => 0)), .inl (tc 2, 3, .inl (fun _ => 0)), .inl (tc 1, 900, .inl (fun _ => 0)), .inl (tc 0, 5, .inl (fun _ => 0)), .inl (tc 0, 135, .inl (fun _ => 0)), .inl (tc 0, 10, .inl (fun _ => 0)), .inl (tc 2, 65536, .inl (fun _ => 0)), .inl (tc 0, 3, .inl (fun _ => 0)), .inl (tc 0, 3, .inl (fun _ => 0)), .inl (tc 0, 4, .inl (upd (upd (upd (upd (fun _ => 0) 0 (Int32.ofInt (-1))) 1 (Int32.ofInt (-1))) 2 (Int32.ofInt (-1))) 3 (Int32.ofInt (-1)))), .inl (tc 0, 4, .inl (fun _ => 0)), .inl (tc 3, 240, .inr (.inl (fun _ => 0))), .inl (tc 3, 60, .inr (.inl (fun _ => 0)))])) : kCt n0 tc mX12_init (d + 1) 14 67443 [aR 0 (a + 0)] (P ++ [.inr (12, [.int 0, .null, .null, .null, .null, .int 0, .null, .int 0, .int 0, .int 0, .int 0, .int 0, .int 0, .int 0, .null, .null, .null, .int 0, .int 0, .null, .null, .int 0, .null, .null, .null, .null])]) Q := by
  refine kCt_of [some (aR 0 (a + 0))] rfl rfl rfl ?_
  refine k_aload dX12_init_0 rfl ?_
  refine k_obj dX12_init_1 kw_ol_12 kw_oi kw_oc (Nat.le_of_ble_eq_true rfl) ?_
  refine k_aload dX12_init_4 rfl ?_
  refine k_sipush dX12_init_5 rfl ?_
  refine K_newa (a := a) [.inr (12, [.int 0, .null, .null, .null, .null, .int 0, .null, .int 0, .int 0, .int 0, .int 0, .int 0, .int 0, .int 0, .null, .null, .null, .int 0, .int 0, .null, .null, .int 0, .null, .null, .null, .null]), .inl (tc 0, 135, .inl (fun _ => 0))] (t := 0) (N := 135) (a0 := (135, .inl (fun _ => 0))) dX12_init_8 kw_ar_int rfl (fun _ => rfl) (by decide) (by decide) (by decide) (by decide) (by decide) ha rfl rfl ?_
  refine K_put (f := 1) (ci := 12) (q := (RX12, TX12, 26)) (a := a) (i := 0) [.inr (12, [.int 0, .ref (n0 + (a + 1)), .null, .null, .null, .int 0, .null, .int 0, .int 0, .int 0, .int 0, .int 0, .int 0, .int 0, .null, .null, .null, .int 0, .int 0, .null, .null, .int 0, .null, .null, .null, .null]), .inl (tc 0, 135, .inl (fun _ => 0))] (tyX12 1) dX12_init_10 rfl rfl (by decide) kw_fl_12_9 (tyX12_ok 1 (by decide)) (Or.inr ⟨rfl, rfl, rfl⟩) rfl rfl (Nat.le_of_ble_eq_true rfl) ha rfl ?_
  refine k_aload dX12_init_13 rfl ?_
  refine k_sipush dX12_init_14 rfl ?_
  refine K_newa (a := a) [.inr (12, [.int 0, .ref (n0 + (a + 1)), .null, .null, .null, .int 0, .null, .int 0, .int 0, .int 0, .int 0, .int 0, .int 0, .int 0, .null, .null, .null, .int 0, .int 0, .null, .null, .int 0, .null, .null, .null, .null]), .inl (tc 0, 135, .inl (fun _ => 0)), .inl (tc 0, 405, .inl (fun _ => 0))] (t := 0) (N := 405) (a0 := (405, .inl (fun _ => 0))) dX12_init_17 kw_ar_int rfl (fun _ => rfl) (by decide) (by decide) (by decide) (by decide) (by decide) ha rfl rfl ?_
  refine K_put (f := 2) (ci := 12) (q := (RX12, TX12, 26)) (a := a) (i := 0) [.inr (12, [.int 0, .ref (n0 + (a + 1)), .ref (n0 + (a + 2)), .null, .null, .int 0, .null, .int 0, .int 0, .int 0, .int 0, .int 0, .int 0, .int 0, .null, .null, .null, .int 0, .int 0, .null, .null, .int 0, .null, .null, .null, .null]), .inl (tc 0, 135, .inl (fun _ => 0)), .inl (tc 0, 405, .inl (fun _ => 0))] (tyX12 2) dX12_init_19 rfl rfl (by decide) kw_fl_12_13 (tyX12_ok 2 (by decide)) (Or.inr ⟨rfl, rfl, rfl⟩) rfl rfl (Nat.le_of_ble_eq_true rfl) ha rfl ?_
  refine k_aload dX12_init_22 rfl ?_
  refine k_iconst dX12_init_23 ?_
  refine K_newa (a := a) [.inr (12, [.int 0, .ref (n0 + (a + 1)), .ref (n0 + (a + 2)), .null, .null, .int 0, .null, .int 0, .int 0, .int 0, .int 0, .int 0, .int 0, .int 0, .null, .null, .null, .int 0, .int 0, .null, .null, .int 0, .null, .null, .null, .null]), .inl (tc 0, 135, .inl (fun _ => 0)), .inl (tc 0, 405, .inl (fun _ => 0)), .inl (tc 2, 3, .inl (fun _ => 0))] (t := 2) (N := 3) (a0 := (3, .inl (fun _ => 0))) dX12_init_24 kw_ar_boolean rfl (fun _ => rfl) (by decide) (by decide) (by decide) (by decide) (by decide) ha rfl rfl ?_
  refine K_put (f := 3) (ci := 12) (q := (RX12, TX12, 26)) (a := a) (i := 0) [.inr (12, [.int 0, .ref (n0 + (a + 1)), .ref (n0 + (a + 2)), .ref (n0 + (a + 3)), .null, .int 0, .null, .int 0, .int 0, .int 0, .int 0, .int 0, .int 0, .int 0, .null, .null, .null, .int 0, .int 0, .null, .null, .int 0, .null, .null, .null, .null]), .inl (tc 0, 135, .inl (fun _ => 0)), .inl (tc 0, 405, .inl (fun _ => 0)), .inl (tc 2, 3, .inl (fun _ => 0))] (tyX12 3) dX12_init_26 rfl rfl (by decide) kw_fl_12_16 (tyX12_ok 3 (by decide)) (Or.inr ⟨rfl, rfl, rfl⟩) rfl rfl (Nat.le_of_ble_eq_true rfl) ha rfl ?_
  refine k_aload dX12_init_29 rfl ?_
  refine k_sipush dX12_init_30 rfl ?_
  refine K_newa (a := a) [.inr (12, [.int 0, .ref (n0 + (a + 1)), .ref (n0 + (a + 2)), .ref (n0 + (a + 3)), .null, .int 0, .null, .int 0, .int 0, .int 0, .int 0, .int 0, .int 0, .int 0, .null, .null, .null, .int 0, .int 0, .null, .null, .int 0, .null, .null, .null, .null]), .inl (tc 0, 135, .inl (fun _ => 0)), .inl (tc 0, 405, .inl (fun _ => 0)), .inl (tc 2, 3, .inl (fun _ => 0)), .inl (tc 1, 900, .inl (fun _ => 0))] (t := 1) (N := 900) (a0 := (900, .inl (fun _ => 0))) dX12_init_33 kw_ar_byte rfl (fun _ => rfl) (by decide) (by decide) (by decide) (by decide) (by decide) ha rfl rfl ?_
  refine K_put (f := 4) (ci := 12) (q := (RX12, TX12, 26)) (a := a) (i := 0) [.inr (12, [.int 0, .ref (n0 + (a + 1)), .ref (n0 + (a + 2)), .ref (n0 + (a + 3)), .ref (n0 + (a + 4)), .int 0, .null, .int 0, .int 0, .int 0, .int 0, .int 0, .int 0, .int 0, .null, .null, .null, .int 0, .int 0, .null, .null, .int 0, .null, .null, .null, .null]), .inl (tc 0, 135, .inl (fun _ => 0)), .inl (tc 0, 405, .inl (fun _ => 0)), .inl (tc 2, 3, .inl (fun _ => 0)), .inl (tc 1, 900, .inl (fun _ => 0))] (tyX12 4) dX12_init_35 rfl rfl (by decide) kw_fl_12_20 (tyX12_ok 4 (by decide)) (Or.inr ⟨rfl, rfl, rfl⟩) rfl rfl (Nat.le_of_ble_eq_true rfl) ha rfl ?_
  refine k_aload dX12_init_38 rfl ?_
  refine k_iconst dX12_init_39 ?_
  refine K_newa (a := a) [.inr (12, [.int 0, .ref (n0 + (a + 1)), .ref (n0 + (a + 2)), .ref (n0 + (a + 3)), .ref (n0 + (a + 4)), .int 0, .null, .int 0, .int 0, .int 0, .int 0, .int 0, .int 0, .int 0, .null, .null, .null, .int 0, .int 0, .null, .null, .int 0, .null, .null, .null, .null]), .inl (tc 0, 135, .inl (fun _ => 0)), .inl (tc 0, 405, .inl (fun _ => 0)), .inl (tc 2, 3, .inl (fun _ => 0)), .inl (tc 1, 900, .inl (fun _ => 0)), .inl (tc 0, 5, .inl (fun _ => 0))] (t := 0) (N := 5) (a0 := (5, .inl (fun _ => 0))) dX12_init_40 kw_ar_int rfl (fun _ => rfl) (by decide) (by decide) (by decide) (by decide) (by decide) ha rfl rfl ?_
  refine K_put (f := 6) (ci := 12) (q := (RX12, TX12, 26)) (a := a) (i := 0) [.inr (12, [.int 0, .ref (n0 + (a + 1)), .ref (n0 + (a + 2)), .ref (n0 + (a + 3)), .ref (n0 + (a + 4)), .int 0, .ref (n0 + (a + 5)), .int 0, .int 0, .int 0, .int 0, .int 0, .int 0, .int 0, .null, .null, .null, .int 0, .int 0, .null, .null, .int 0, .null, .null, .null, .null]), .inl (tc 0, 135, .inl (fun _ => 0)), .inl (tc 0, 405, .inl (fun _ => 0)), .inl (tc 2, 3, .inl (fun _ => 0)), .inl (tc 1, 900, .inl (fun _ => 0)), .inl (tc 0, 5, .inl (fun _ => 0))] (tyX12 6) dX12_init_42 rfl rfl (by decide) kw_fl_12_24 (tyX12_ok 6 (by decide)) (Or.inr ⟨rfl, rfl, rfl⟩) rfl rfl (Nat.le_of_ble_eq_true rfl) ha rfl ?_
  refine k_aload dX12_init_45 rfl ?_
  refine k_iconst dX12_init_46 ?_
  refine K_put (f := 13) (ci := 12) (q := (RX12, TX12, 26)) (a := a) (i := 0) [.inr (12, [.int 0, .ref (n0 + (a + 1)), .ref (n0 + (a + 2)), .ref (n0 + (a + 3)), .ref (n0 + (a + 4)), .int 0, .ref (n0 + (a + 5)), .int 0, .int 0, .int 0, .int 0, .int 0, .int 0, .int (Int32.ofInt (-1)), .null, .null, .null, .int 0, .int 0, .null, .null, .int 0, .null, .null, .null, .null]), .inl (tc 0, 135, .inl (fun _ => 0)), .inl (tc 0, 405, .inl (fun _ => 0)), .inl (tc 2, 3, .inl (fun _ => 0)), .inl (tc 1, 900, .inl (fun _ => 0)), .inl (tc 0, 5, .inl (fun _ => 0))] (tyX12 13) dX12_init_47 rfl rfl (by decide) kw_fl_12_27 (tyX12_ok 13 (by decide)) (Or.inl rfl) rfl rfl (Nat.le_of_ble_eq_true rfl) ha rfl ?_
  refine k_aload dX12_init_50 rfl ?_
  refine k_sipush dX12_init_51 rfl ?_
  refine K_newa (a := a) [.inr (12, [.int 0, .ref (n0 + (a + 1)), .ref (n0 + (a + 2)), .ref (n0 + (a + 3)), .ref (n0 + (a + 4)), .int 0, .ref (n0 + (a + 5)), .int 0, .int 0, .int 0, .int 0, .int 0, .int 0, .int (Int32.ofInt (-1)), .null, .null, .null, .int 0, .int 0, .null, .null, .int 0, .null, .null, .null, .null]), .inl (tc 0, 135, .inl (fun _ => 0)), .inl (tc 0, 405, .inl (fun _ => 0)), .inl (tc 2, 3, .inl (fun _ => 0)), .inl (tc 1, 900, .inl (fun _ => 0)), .inl (tc 0, 5, .inl (fun _ => 0)), .inl (tc 0, 135, .inl (fun _ => 0))] (t := 0) (N := 135) (a0 := (135, .inl (fun _ => 0))) dX12_init_54 kw_ar_int rfl (fun _ => rfl) (by decide) (by decide) (by decide) (by decide) (by decide) ha rfl rfl ?_
  refine K_put (f := 14) (ci := 12) (q := (RX12, TX12, 26)) (a := a) (i := 0) [.inr (12, [.int 0, .ref (n0 + (a + 1)), .ref (n0 + (a + 2)), .ref (n0 + (a + 3)), .ref (n0 + (a + 4)), .int 0, .ref (n0 + (a + 5)), .int 0, .int 0, .int 0, .int 0, .int 0, .int 0, .int (Int32.ofInt (-1)), .ref (n0 + (a + 6)), .null, .null, .int 0, .int 0, .null, .null, .int 0, .null, .null, .null, .null]), .inl (tc 0, 135, .inl (fun _ => 0)), .inl (tc 0, 405, .inl (fun _ => 0)), .inl (tc 2, 3, .inl (fun _ => 0)), .inl (tc 1, 900, .inl (fun _ => 0)), .inl (tc 0, 5, .inl (fun _ => 0)), .inl (tc 0, 135, .inl (fun _ => 0))] (tyX12 14) dX12_init_56 rfl rfl (by decide) kw_fl_12_31 (tyX12_ok 14 (by decide)) (Or.inr ⟨rfl, rfl, rfl⟩) rfl rfl (Nat.le_of_ble_eq_true rfl) ha rfl ?_
  refine k_aload dX12_init_59 rfl ?_
  refine k_bipush dX12_init_60 rfl ?_
  refine K_newa (a := a) [.inr (12, [.int 0, .ref (n0 + (a + 1)), .ref (n0 + (a + 2)), .ref (n0 + (a + 3)), .ref (n0 + (a + 4)), .int 0, .ref (n0 + (a + 5)), .int 0, .int 0, .int 0, .int 0, .int 0, .int 0, .int (Int32.ofInt (-1)), .ref (n0 + (a + 6)), .null, .null, .int 0, .int 0, .null, .null, .int 0, .null, .null, .null, .null]), .inl (tc 0, 135, .inl (fun _ => 0)), .inl (tc 0, 405, .inl (fun _ => 0)), .inl (tc 2, 3, .inl (fun _ => 0)), .inl (tc 1, 900, .inl (fun _ => 0)), .inl (tc 0, 5, .inl (fun _ => 0)), .inl (tc 0, 135, .inl (fun _ => 0)), .inl (tc 0, 10, .inl (fun _ => 0))] (t := 0) (N := 10) (a0 := (10, .inl (fun _ => 0))) dX12_init_62 kw_ar_int rfl (fun _ => rfl) (by decide) (by decide) (by decide) (by decide) (by decide) ha rfl rfl ?_
  refine K_put (f := 15) (ci := 12) (q := (RX12, TX12, 26)) (a := a) (i := 0) [.inr (12, [.int 0, .ref (n0 + (a + 1)), .ref (n0 + (a + 2)), .ref (n0 + (a + 3)), .ref (n0 + (a + 4)), .int 0, .ref (n0 + (a + 5)), .int 0, .int 0, .int 0, .int 0, .int 0, .int 0, .int (Int32.ofInt (-1)), .ref (n0 + (a + 6)), .ref (n0 + (a + 7)), .null, .int 0, .int 0, .null, .null, .int 0, .null, .null, .null, .null]), .inl (tc 0, 135, .inl (fun _ => 0)), .inl (tc 0, 405, .inl (fun _ => 0)), .inl (tc 2, 3, .inl (fun _ => 0)), .inl (tc 1, 900, .inl (fun _ => 0)), .inl (tc 0, 5, .inl (fun _ => 0)), .inl (tc 0, 135, .inl (fun _ => 0)), .inl (tc 0, 10, .inl (fun _ => 0))] (tyX12 15) dX12_init_64 rfl rfl (by decide) kw_fl_12_34 (tyX12_ok 15 (by decide)) (Or.inr ⟨rfl, rfl, rfl⟩) rfl rfl (Nat.le_of_ble_eq_true rfl) ha rfl ?_
  refine k_aload dX12_init_67 rfl ?_
  refine k_ldc (n := 65536) dX12_init_68 cs_X12_37 ?_
  refine K_newa (a := a) [.inr (12, [.int 0, .ref (n0 + (a + 1)), .ref (n0 + (a + 2)), .ref (n0 + (a + 3)), .ref (n0 + (a + 4)), .int 0, .ref (n0 + (a + 5)), .int 0, .int 0, .int 0, .int 0, .int 0, .int 0, .int (Int32.ofInt (-1)), .ref (n0 + (a + 6)), .ref (n0 + (a + 7)), .null, .int 0, .int 0, .null, .null, .int 0, .null, .null, .null, .null]), .inl (tc 0, 135, .inl (fun _ => 0)), .inl (tc 0, 405, .inl (fun _ => 0)), .inl (tc 2, 3, .inl (fun _ => 0)), .inl (tc 1, 900, .inl (fun _ => 0)), .inl (tc 0, 5, .inl (fun _ => 0)), .inl (tc 0, 135, .inl (fun _ => 0)), .inl (tc 0, 10, .inl (fun _ => 0)), .inl (tc 2, 65536, .inl (fun _ => 0))] (t := 2) (N := 65536) (a0 := (65536, .inl (fun _ => 0))) dX12_init_70 kw_ar_boolean rfl (fun _ => rfl) (by decide) (by decide) (by decide) (by decide) (by decide) ha rfl rfl ?_
  refine K_put (f := 16) (ci := 12) (q := (RX12, TX12, 26)) (a := a) (i := 0) [.inr (12, [.int 0, .ref (n0 + (a + 1)), .ref (n0 + (a + 2)), .ref (n0 + (a + 3)), .ref (n0 + (a + 4)), .int 0, .ref (n0 + (a + 5)), .int 0, .int 0, .int 0, .int 0, .int 0, .int 0, .int (Int32.ofInt (-1)), .ref (n0 + (a + 6)), .ref (n0 + (a + 7)), .ref (n0 + (a + 8)), .int 0, .int 0, .null, .null, .int 0, .null, .null, .null, .null]), .inl (tc 0, 135, .inl (fun _ => 0)), .inl (tc 0, 405, .inl (fun _ => 0)), .inl (tc 2, 3, .inl (fun _ => 0)), .inl (tc 1, 900, .inl (fun _ => 0)), .inl (tc 0, 5, .inl (fun _ => 0)), .inl (tc 0, 135, .inl (fun _ => 0)), .inl (tc 0, 10, .inl (fun _ => 0)), .inl (tc 2, 65536, .inl (fun _ => 0))] (tyX12 16) dX12_init_72 rfl rfl (by decide) kw_fl_12_38 (tyX12_ok 16 (by decide)) (Or.inr ⟨rfl, rfl, rfl⟩) rfl rfl (Nat.le_of_ble_eq_true rfl) ha rfl ?_
  refine k_aload dX12_init_75 rfl ?_
  refine k_iconst dX12_init_76 ?_
  refine K_newa (a := a) [.inr (12, [.int 0, .ref (n0 + (a + 1)), .ref (n0 + (a + 2)), .ref (n0 + (a + 3)), .ref (n0 + (a + 4)), .int 0, .ref (n0 + (a + 5)), .int 0, .int 0, .int 0, .int 0, .int 0, .int 0, .int (Int32.ofInt (-1)), .ref (n0 + (a + 6)), .ref (n0 + (a + 7)), .ref (n0 + (a + 8)), .int 0, .int 0, .null, .null, .int 0, .null, .null, .null, .null]), .inl (tc 0, 135, .inl (fun _ => 0)), .inl (tc 0, 405, .inl (fun _ => 0)), .inl (tc 2, 3, .inl (fun _ => 0)), .inl (tc 1, 900, .inl (fun _ => 0)), .inl (tc 0, 5, .inl (fun _ => 0)), .inl (tc 0, 135, .inl (fun _ => 0)), .inl (tc 0, 10, .inl (fun _ => 0)), .inl (tc 2, 65536, .inl (fun _ => 0)), .inl (tc 0, 3, .inl (fun _ => 0))] (t := 0) (N := 3) (a0 := (3, .inl (fun _ => 0))) dX12_init_77 kw_ar_int rfl (fun _ => rfl) (by decide) (by decide) (by decide) (by decide) (by decide) ha rfl rfl ?_
  refine K_put (f := 19) (ci := 12) (q := (RX12, TX12, 26)) (a := a) (i := 0) [.inr (12, [.int 0, .ref (n0 + (a + 1)), .ref (n0 + (a + 2)), .ref (n0 + (a + 3)), .ref (n0 + (a + 4)), .int 0, .ref (n0 + (a + 5)), .int 0, .int 0, .int 0, .int 0, .int 0, .int 0, .int (Int32.ofInt (-1)), .ref (n0 + (a + 6)), .ref (n0 + (a + 7)), .ref (n0 + (a + 8)), .int 0, .int 0, .ref (n0 + (a + 9)), .null, .int 0, .null, .null, .null, .null]), .inl (tc 0, 135, .inl (fun _ => 0)), .inl (tc 0, 405, .inl (fun _ => 0)), .inl (tc 2, 3, .inl (fun _ => 0)), .inl (tc 1, 900, .inl (fun _ => 0)), .inl (tc 0, 5, .inl (fun _ => 0)), .inl (tc 0, 135, .inl (fun _ => 0)), .inl (tc 0, 10, .inl (fun _ => 0)), .inl (tc 2, 65536, .inl (fun _ => 0)), .inl (tc 0, 3, .inl (fun _ => 0))] (tyX12 19) dX12_init_79 rfl rfl (by decide) kw_fl_12_41 (tyX12_ok 19 (by decide)) (Or.inr ⟨rfl, rfl, rfl⟩) rfl rfl (Nat.le_of_ble_eq_true rfl) ha rfl ?_
  refine k_aload dX12_init_82 rfl ?_
  refine k_iconst dX12_init_83 ?_
  refine K_newa (a := a) [.inr (12, [.int 0, .ref (n0 + (a + 1)), .ref (n0 + (a + 2)), .ref (n0 + (a + 3)), .ref (n0 + (a + 4)), .int 0, .ref (n0 + (a + 5)), .int 0, .int 0, .int 0, .int 0, .int 0, .int 0, .int (Int32.ofInt (-1)), .ref (n0 + (a + 6)), .ref (n0 + (a + 7)), .ref (n0 + (a + 8)), .int 0, .int 0, .ref (n0 + (a + 9)), .null, .int 0, .null, .null, .null, .null]), .inl (tc 0, 135, .inl (fun _ => 0)), .inl (tc 0, 405, .inl (fun _ => 0)), .inl (tc 2, 3, .inl (fun _ => 0)), .inl (tc 1, 900, .inl (fun _ => 0)), .inl (tc 0, 5, .inl (fun _ => 0)), .inl (tc 0, 135, .inl (fun _ => 0)), .inl (tc 0, 10, .inl (fun _ => 0)), .inl (tc 2, 65536, .inl (fun _ => 0)), .inl (tc 0, 3, .inl (fun _ => 0)), .inl (tc 0, 3, .inl (fun _ => 0))] (t := 0) (N := 3) (a0 := (3, .inl (fun _ => 0))) dX12_init_84 kw_ar_int rfl (fun _ => rfl) (by decide) (by decide) (by decide) (by decide) (by decide) ha rfl rfl ?_
  refine K_put (f := 20) (ci := 12) (q := (RX12, TX12, 26)) (a := a) (i := 0) [.inr (12, [.int 0, .ref (n0 + (a + 1)), .ref (n0 + (a + 2)), .ref (n0 + (a + 3)), .ref (n0 + (a + 4)), .int 0, .ref (n0 + (a + 5)), .int 0, .int 0, .int 0, .int 0, .int 0, .int 0, .int (Int32.ofInt (-1)), .ref (n0 + (a + 6)), .ref (n0 + (a + 7)), .ref (n0 + (a + 8)), .int 0, .int 0, .ref (n0 + (a + 9)), .ref (n0 + (a + 10)), .int 0, .null, .null, .null, .null]), .inl (tc 0, 135, .inl (fun _ => 0)), .inl (tc 0, 405, .inl (fun _ => 0)), .inl (tc 2, 3, .inl (fun _ => 0)), .inl (tc 1, 900, .inl (fun _ => 0)), .inl (tc 0, 5, .inl (fun _ => 0)), .inl (tc 0, 135, .inl (fun _ => 0)), .inl (tc 0, 10, .inl (fun _ => 0)), .inl (tc 2, 65536, .inl (fun _ => 0)), .inl (tc 0, 3, .inl (fun _ => 0)), .inl (tc 0, 3, .inl (fun _ => 0))] (tyX12 20) dX12_init_86 rfl rfl (by decide) kw_fl_12_44 (tyX12_ok 20 (by decide)) (Or.inr ⟨rfl, rfl, rfl⟩) rfl rfl (Nat.le_of_ble_eq_true rfl) ha rfl ?_
  refine k_aload dX12_init_89 rfl ?_
  refine k_iconst dX12_init_90 ?_
  refine K_newa (a := a) [.inr (12, [.int 0, .ref (n0 + (a + 1)), .ref (n0 + (a + 2)), .ref (n0 + (a + 3)), .ref (n0 + (a + 4)), .int 0, .ref (n0 + (a + 5)), .int 0, .int 0, .int 0, .int 0, .int 0, .int 0, .int (Int32.ofInt (-1)), .ref (n0 + (a + 6)), .ref (n0 + (a + 7)), .ref (n0 + (a + 8)), .int 0, .int 0, .ref (n0 + (a + 9)), .ref (n0 + (a + 10)), .int 0, .null, .null, .null, .null]), .inl (tc 0, 135, .inl (fun _ => 0)), .inl (tc 0, 405, .inl (fun _ => 0)), .inl (tc 2, 3, .inl (fun _ => 0)), .inl (tc 1, 900, .inl (fun _ => 0)), .inl (tc 0, 5, .inl (fun _ => 0)), .inl (tc 0, 135, .inl (fun _ => 0)), .inl (tc 0, 10, .inl (fun _ => 0)), .inl (tc 2, 65536, .inl (fun _ => 0)), .inl (tc 0, 3, .inl (fun _ => 0)), .inl (tc 0, 3, .inl (fun _ => 0)), .inl (tc 0, 4, .inl (fun _ => 0))] (t := 0) (N := 4) (a0 := (4, .inl (fun _ => 0))) dX12_init_91 kw_ar_int rfl (fun _ => rfl) (by decide) (by decide) (by decide) (by decide) (by decide) ha rfl rfl ?_
  refine k_dup dX12_init_93 rfl ?_
  refine k_iconst dX12_init_94 ?_
  refine k_iconst dX12_init_95 ?_
  refine K_iast (a := a) (i := 11) [.inr (12, [.int 0, .ref (n0 + (a + 1)), .ref (n0 + (a + 2)), .ref (n0 + (a + 3)), .ref (n0 + (a + 4)), .int 0, .ref (n0 + (a + 5)), .int 0, .int 0, .int 0, .int 0, .int 0, .int 0, .int (Int32.ofInt (-1)), .ref (n0 + (a + 6)), .ref (n0 + (a + 7)), .ref (n0 + (a + 8)), .int 0, .int 0, .ref (n0 + (a + 9)), .ref (n0 + (a + 10)), .int 0, .null, .null, .null, .null]), .inl (tc 0, 135, .inl (fun _ => 0)), .inl (tc 0, 405, .inl (fun _ => 0)), .inl (tc 2, 3, .inl (fun _ => 0)), .inl (tc 1, 900, .inl (fun _ => 0)), .inl (tc 0, 5, .inl (fun _ => 0)), .inl (tc 0, 135, .inl (fun _ => 0)), .inl (tc 0, 10, .inl (fun _ => 0)), .inl (tc 2, 65536, .inl (fun _ => 0)), .inl (tc 0, 3, .inl (fun _ => 0)), .inl (tc 0, 3, .inl (fun _ => 0)), .inl (tc 0, 4, .inl (upd (fun _ => 0) 0 (Int32.ofInt (-1))))] dX12_init_96 rfl (by decide) (by decide) (by decide) ha rfl ?_
  refine k_dup dX12_init_97 rfl ?_
  refine k_iconst dX12_init_98 ?_
  refine k_iconst dX12_init_99 ?_
  refine K_iast (a := a) (i := 11) [.inr (12, [.int 0, .ref (n0 + (a + 1)), .ref (n0 + (a + 2)), .ref (n0 + (a + 3)), .ref (n0 + (a + 4)), .int 0, .ref (n0 + (a + 5)), .int 0, .int 0, .int 0, .int 0, .int 0, .int 0, .int (Int32.ofInt (-1)), .ref (n0 + (a + 6)), .ref (n0 + (a + 7)), .ref (n0 + (a + 8)), .int 0, .int 0, .ref (n0 + (a + 9)), .ref (n0 + (a + 10)), .int 0, .null, .null, .null, .null]), .inl (tc 0, 135, .inl (fun _ => 0)), .inl (tc 0, 405, .inl (fun _ => 0)), .inl (tc 2, 3, .inl (fun _ => 0)), .inl (tc 1, 900, .inl (fun _ => 0)), .inl (tc 0, 5, .inl (fun _ => 0)), .inl (tc 0, 135, .inl (fun _ => 0)), .inl (tc 0, 10, .inl (fun _ => 0)), .inl (tc 2, 65536, .inl (fun _ => 0)), .inl (tc 0, 3, .inl (fun _ => 0)), .inl (tc 0, 3, .inl (fun _ => 0)), .inl (tc 0, 4, .inl (upd (upd (fun _ => 0) 0 (Int32.ofInt (-1))) 1 (Int32.ofInt (-1))))] dX12_init_100 rfl (by decide) (by decide) (by decide) ha rfl ?_
  refine k_dup dX12_init_101 rfl ?_
  refine k_iconst dX12_init_102 ?_
  refine k_iconst dX12_init_103 ?_
  refine K_iast (a := a) (i := 11) [.inr (12, [.int 0, .ref (n0 + (a + 1)), .ref (n0 + (a + 2)), .ref (n0 + (a + 3)), .ref (n0 + (a + 4)), .int 0, .ref (n0 + (a + 5)), .int 0, .int 0, .int 0, .int 0, .int 0, .int 0, .int (Int32.ofInt (-1)), .ref (n0 + (a + 6)), .ref (n0 + (a + 7)), .ref (n0 + (a + 8)), .int 0, .int 0, .ref (n0 + (a + 9)), .ref (n0 + (a + 10)), .int 0, .null, .null, .null, .null]), .inl (tc 0, 135, .inl (fun _ => 0)), .inl (tc 0, 405, .inl (fun _ => 0)), .inl (tc 2, 3, .inl (fun _ => 0)), .inl (tc 1, 900, .inl (fun _ => 0)), .inl (tc 0, 5, .inl (fun _ => 0)), .inl (tc 0, 135, .inl (fun _ => 0)), .inl (tc 0, 10, .inl (fun _ => 0)), .inl (tc 2, 65536, .inl (fun _ => 0)), .inl (tc 0, 3, .inl (fun _ => 0)), .inl (tc 0, 3, .inl (fun _ => 0)), .inl (tc 0, 4, .inl (upd (upd (upd (fun _ => 0) 0 (Int32.ofInt (-1))) 1 (Int32.ofInt (-1))) 2 (Int32.ofInt (-1))))] dX12_init_104 rfl (by decide) (by decide) (by decide) ha rfl ?_
  refine k_dup dX12_init_105 rfl ?_
  refine k_iconst dX12_init_106 ?_
  refine k_iconst dX12_init_107 ?_
  refine K_iast (a := a) (i := 11) [.inr (12, [.int 0, .ref (n0 + (a + 1)), .ref (n0 + (a + 2)), .ref (n0 + (a + 3)), .ref (n0 + (a + 4)), .int 0, .ref (n0 + (a + 5)), .int 0, .int 0, .int 0, .int 0, .int 0, .int 0, .int (Int32.ofInt (-1)), .ref (n0 + (a + 6)), .ref (n0 + (a + 7)), .ref (n0 + (a + 8)), .int 0, .int 0, .ref (n0 + (a + 9)), .ref (n0 + (a + 10)), .int 0, .null, .null, .null, .null]), .inl (tc 0, 135, .inl (fun _ => 0)), .inl (tc 0, 405, .inl (fun _ => 0)), .inl (tc 2, 3, .inl (fun _ => 0)), .inl (tc 1, 900, .inl (fun _ => 0)), .inl (tc 0, 5, .inl (fun _ => 0)), .inl (tc 0, 135, .inl (fun _ => 0)), .inl (tc 0, 10, .inl (fun _ => 0)), .inl (tc 2, 65536, .inl (fun _ => 0)), .inl (tc 0, 3, .inl (fun _ => 0)), .inl (tc 0, 3, .inl (fun _ => 0)), .inl (tc 0, 4, .inl (upd (upd (upd (upd (fun _ => 0) 0 (Int32.ofInt (-1))) 1 (Int32.ofInt (-1))) 2 (Int32.ofInt (-1))) 3 (Int32.ofInt (-1))))] dX12_init_108 rfl (by decide) (by decide) (by decide) ha rfl ?_
  refine K_put (f := 22) (ci := 12) (q := (RX12, TX12, 26)) (a := a) (i := 0) [.inr (12, [.int 0, .ref (n0 + (a + 1)), .ref (n0 + (a + 2)), .ref (n0 + (a + 3)), .ref (n0 + (a + 4)), .int 0, .ref (n0 + (a + 5)), .int 0, .int 0, .int 0, .int 0, .int 0, .int 0, .int (Int32.ofInt (-1)), .ref (n0 + (a + 6)), .ref (n0 + (a + 7)), .ref (n0 + (a + 8)), .int 0, .int 0, .ref (n0 + (a + 9)), .ref (n0 + (a + 10)), .int 0, .ref (n0 + (a + 11)), .null, .null, .null]), .inl (tc 0, 135, .inl (fun _ => 0)), .inl (tc 0, 405, .inl (fun _ => 0)), .inl (tc 2, 3, .inl (fun _ => 0)), .inl (tc 1, 900, .inl (fun _ => 0)), .inl (tc 0, 5, .inl (fun _ => 0)), .inl (tc 0, 135, .inl (fun _ => 0)), .inl (tc 0, 10, .inl (fun _ => 0)), .inl (tc 2, 65536, .inl (fun _ => 0)), .inl (tc 0, 3, .inl (fun _ => 0)), .inl (tc 0, 3, .inl (fun _ => 0)), .inl (tc 0, 4, .inl (upd (upd (upd (upd (fun _ => 0) 0 (Int32.ofInt (-1))) 1 (Int32.ofInt (-1))) 2 (Int32.ofInt (-1))) 3 (Int32.ofInt (-1))))] (tyX12 22) dX12_init_109 rfl rfl (by decide) kw_fl_12_47 (tyX12_ok 22 (by decide)) (Or.inr ⟨rfl, rfl, rfl⟩) rfl rfl (Nat.le_of_ble_eq_true rfl) ha rfl ?_
  refine k_aload dX12_init_112 rfl ?_
  refine k_iconst dX12_init_113 ?_
  refine K_newa (a := a) [.inr (12, [.int 0, .ref (n0 + (a + 1)), .ref (n0 + (a + 2)), .ref (n0 + (a + 3)), .ref (n0 + (a + 4)), .int 0, .ref (n0 + (a + 5)), .int 0, .int 0, .int 0, .int 0, .int 0, .int 0, .int (Int32.ofInt (-1)), .ref (n0 + (a + 6)), .ref (n0 + (a + 7)), .ref (n0 + (a + 8)), .int 0, .int 0, .ref (n0 + (a + 9)), .ref (n0 + (a + 10)), .int 0, .ref (n0 + (a + 11)), .null, .null, .null]), .inl (tc 0, 135, .inl (fun _ => 0)), .inl (tc 0, 405, .inl (fun _ => 0)), .inl (tc 2, 3, .inl (fun _ => 0)), .inl (tc 1, 900, .inl (fun _ => 0)), .inl (tc 0, 5, .inl (fun _ => 0)), .inl (tc 0, 135, .inl (fun _ => 0)), .inl (tc 0, 10, .inl (fun _ => 0)), .inl (tc 2, 65536, .inl (fun _ => 0)), .inl (tc 0, 3, .inl (fun _ => 0)), .inl (tc 0, 3, .inl (fun _ => 0)), .inl (tc 0, 4, .inl (upd (upd (upd (upd (fun _ => 0) 0 (Int32.ofInt (-1))) 1 (Int32.ofInt (-1))) 2 (Int32.ofInt (-1))) 3 (Int32.ofInt (-1)))), .inl (tc 0, 4, .inl (fun _ => 0))] (t := 0) (N := 4) (a0 := (4, .inl (fun _ => 0))) dX12_init_114 kw_ar_int rfl (fun _ => rfl) (by decide) (by decide) (by decide) (by decide) (by decide) ha rfl rfl ?_
  refine K_put (f := 23) (ci := 12) (q := (RX12, TX12, 26)) (a := a) (i := 0) [.inr (12, [.int 0, .ref (n0 + (a + 1)), .ref (n0 + (a + 2)), .ref (n0 + (a + 3)), .ref (n0 + (a + 4)), .int 0, .ref (n0 + (a + 5)), .int 0, .int 0, .int 0, .int 0, .int 0, .int 0, .int (Int32.ofInt (-1)), .ref (n0 + (a + 6)), .ref (n0 + (a + 7)), .ref (n0 + (a + 8)), .int 0, .int 0, .ref (n0 + (a + 9)), .ref (n0 + (a + 10)), .int 0, .ref (n0 + (a + 11)), .ref (n0 + (a + 12)), .null, .null]), .inl (tc 0, 135, .inl (fun _ => 0)), .inl (tc 0, 405, .inl (fun _ => 0)), .inl (tc 2, 3, .inl (fun _ => 0)), .inl (tc 1, 900, .inl (fun _ => 0)), .inl (tc 0, 5, .inl (fun _ => 0)), .inl (tc 0, 135, .inl (fun _ => 0)), .inl (tc 0, 10, .inl (fun _ => 0)), .inl (tc 2, 65536, .inl (fun _ => 0)), .inl (tc 0, 3, .inl (fun _ => 0)), .inl (tc 0, 3, .inl (fun _ => 0)), .inl (tc 0, 4, .inl (upd (upd (upd (upd (fun _ => 0) 0 (Int32.ofInt (-1))) 1 (Int32.ofInt (-1))) 2 (Int32.ofInt (-1))) 3 (Int32.ofInt (-1)))), .inl (tc 0, 4, .inl (fun _ => 0))] (tyX12 23) dX12_init_116 rfl rfl (by decide) kw_fl_12_50 (tyX12_ok 23 (by decide)) (Or.inr ⟨rfl, rfl, rfl⟩) rfl rfl (Nat.le_of_ble_eq_true rfl) ha rfl ?_
  refine k_aload dX12_init_119 rfl ?_
  refine k_sipush dX12_init_120 rfl ?_
  refine K_newa (a := a) [.inr (12, [.int 0, .ref (n0 + (a + 1)), .ref (n0 + (a + 2)), .ref (n0 + (a + 3)), .ref (n0 + (a + 4)), .int 0, .ref (n0 + (a + 5)), .int 0, .int 0, .int 0, .int 0, .int 0, .int 0, .int (Int32.ofInt (-1)), .ref (n0 + (a + 6)), .ref (n0 + (a + 7)), .ref (n0 + (a + 8)), .int 0, .int 0, .ref (n0 + (a + 9)), .ref (n0 + (a + 10)), .int 0, .ref (n0 + (a + 11)), .ref (n0 + (a + 12)), .null, .null]), .inl (tc 0, 135, .inl (fun _ => 0)), .inl (tc 0, 405, .inl (fun _ => 0)), .inl (tc 2, 3, .inl (fun _ => 0)), .inl (tc 1, 900, .inl (fun _ => 0)), .inl (tc 0, 5, .inl (fun _ => 0)), .inl (tc 0, 135, .inl (fun _ => 0)), .inl (tc 0, 10, .inl (fun _ => 0)), .inl (tc 2, 65536, .inl (fun _ => 0)), .inl (tc 0, 3, .inl (fun _ => 0)), .inl (tc 0, 3, .inl (fun _ => 0)), .inl (tc 0, 4, .inl (upd (upd (upd (upd (fun _ => 0) 0 (Int32.ofInt (-1))) 1 (Int32.ofInt (-1))) 2 (Int32.ofInt (-1))) 3 (Int32.ofInt (-1)))), .inl (tc 0, 4, .inl (fun _ => 0)), .inl (tc 3, 240, .inr (.inl (fun _ => 0)))] (t := 3) (N := 240) (a0 := (240, .inr (.inl (fun _ => 0)))) dX12_init_123 kw_ar_long rfl (fun _ => rfl) (by decide) (by decide) (by decide) (by decide) (by decide) ha rfl rfl ?_
  refine K_put (f := 24) (ci := 12) (q := (RX12, TX12, 26)) (a := a) (i := 0) [.inr (12, [.int 0, .ref (n0 + (a + 1)), .ref (n0 + (a + 2)), .ref (n0 + (a + 3)), .ref (n0 + (a + 4)), .int 0, .ref (n0 + (a + 5)), .int 0, .int 0, .int 0, .int 0, .int 0, .int 0, .int (Int32.ofInt (-1)), .ref (n0 + (a + 6)), .ref (n0 + (a + 7)), .ref (n0 + (a + 8)), .int 0, .int 0, .ref (n0 + (a + 9)), .ref (n0 + (a + 10)), .int 0, .ref (n0 + (a + 11)), .ref (n0 + (a + 12)), .ref (n0 + (a + 13)), .null]), .inl (tc 0, 135, .inl (fun _ => 0)), .inl (tc 0, 405, .inl (fun _ => 0)), .inl (tc 2, 3, .inl (fun _ => 0)), .inl (tc 1, 900, .inl (fun _ => 0)), .inl (tc 0, 5, .inl (fun _ => 0)), .inl (tc 0, 135, .inl (fun _ => 0)), .inl (tc 0, 10, .inl (fun _ => 0)), .inl (tc 2, 65536, .inl (fun _ => 0)), .inl (tc 0, 3, .inl (fun _ => 0)), .inl (tc 0, 3, .inl (fun _ => 0)), .inl (tc 0, 4, .inl (upd (upd (upd (upd (fun _ => 0) 0 (Int32.ofInt (-1))) 1 (Int32.ofInt (-1))) 2 (Int32.ofInt (-1))) 3 (Int32.ofInt (-1)))), .inl (tc 0, 4, .inl (fun _ => 0)), .inl (tc 3, 240, .inr (.inl (fun _ => 0)))] (tyX12 24) dX12_init_125 rfl rfl (by decide) kw_fl_12_53 (tyX12_ok 24 (by decide)) (Or.inr ⟨rfl, rfl, rfl⟩) rfl rfl (Nat.le_of_ble_eq_true rfl) ha rfl ?_
  refine k_aload dX12_init_128 rfl ?_
  refine k_bipush dX12_init_129 rfl ?_
  refine K_newa (a := a) [.inr (12, [.int 0, .ref (n0 + (a + 1)), .ref (n0 + (a + 2)), .ref (n0 + (a + 3)), .ref (n0 + (a + 4)), .int 0, .ref (n0 + (a + 5)), .int 0, .int 0, .int 0, .int 0, .int 0, .int 0, .int (Int32.ofInt (-1)), .ref (n0 + (a + 6)), .ref (n0 + (a + 7)), .ref (n0 + (a + 8)), .int 0, .int 0, .ref (n0 + (a + 9)), .ref (n0 + (a + 10)), .int 0, .ref (n0 + (a + 11)), .ref (n0 + (a + 12)), .ref (n0 + (a + 13)), .null]), .inl (tc 0, 135, .inl (fun _ => 0)), .inl (tc 0, 405, .inl (fun _ => 0)), .inl (tc 2, 3, .inl (fun _ => 0)), .inl (tc 1, 900, .inl (fun _ => 0)), .inl (tc 0, 5, .inl (fun _ => 0)), .inl (tc 0, 135, .inl (fun _ => 0)), .inl (tc 0, 10, .inl (fun _ => 0)), .inl (tc 2, 65536, .inl (fun _ => 0)), .inl (tc 0, 3, .inl (fun _ => 0)), .inl (tc 0, 3, .inl (fun _ => 0)), .inl (tc 0, 4, .inl (upd (upd (upd (upd (fun _ => 0) 0 (Int32.ofInt (-1))) 1 (Int32.ofInt (-1))) 2 (Int32.ofInt (-1))) 3 (Int32.ofInt (-1)))), .inl (tc 0, 4, .inl (fun _ => 0)), .inl (tc 3, 240, .inr (.inl (fun _ => 0))), .inl (tc 3, 60, .inr (.inl (fun _ => 0)))] (t := 3) (N := 60) (a0 := (60, .inr (.inl (fun _ => 0)))) dX12_init_131 kw_ar_long rfl (fun _ => rfl) (by decide) (by decide) (by decide) (by decide) (by decide) ha rfl rfl ?_
  refine K_put (f := 25) (ci := 12) (q := (RX12, TX12, 26)) (a := a) (i := 0) [.inr (12, [.int 0, .ref (n0 + (a + 1)), .ref (n0 + (a + 2)), .ref (n0 + (a + 3)), .ref (n0 + (a + 4)), .int 0, .ref (n0 + (a + 5)), .int 0, .int 0, .int 0, .int 0, .int 0, .int 0, .int (Int32.ofInt (-1)), .ref (n0 + (a + 6)), .ref (n0 + (a + 7)), .ref (n0 + (a + 8)), .int 0, .int 0, .ref (n0 + (a + 9)), .ref (n0 + (a + 10)), .int 0, .ref (n0 + (a + 11)), .ref (n0 + (a + 12)), .ref (n0 + (a + 13)), .ref (n0 + (a + 14))]), .inl (tc 0, 135, .inl (fun _ => 0)), .inl (tc 0, 405, .inl (fun _ => 0)), .inl (tc 2, 3, .inl (fun _ => 0)), .inl (tc 1, 900, .inl (fun _ => 0)), .inl (tc 0, 5, .inl (fun _ => 0)), .inl (tc 0, 135, .inl (fun _ => 0)), .inl (tc 0, 10, .inl (fun _ => 0)), .inl (tc 2, 65536, .inl (fun _ => 0)), .inl (tc 0, 3, .inl (fun _ => 0)), .inl (tc 0, 3, .inl (fun _ => 0)), .inl (tc 0, 4, .inl (upd (upd (upd (upd (fun _ => 0) 0 (Int32.ofInt (-1))) 1 (Int32.ofInt (-1))) 2 (Int32.ofInt (-1))) 3 (Int32.ofInt (-1)))), .inl (tc 0, 4, .inl (fun _ => 0)), .inl (tc 3, 240, .inr (.inl (fun _ => 0))), .inl (tc 3, 60, .inr (.inl (fun _ => 0)))] (tyX12 25) dX12_init_133 rfl rfl (by decide) kw_fl_12_57 (tyX12_ok 25 (by decide)) (Or.inr ⟨rfl, rfl, rfl⟩) rfl rfl (Nat.le_of_ble_eq_true rfl) ha rfl ?_
  exact k_vret dX12_init_136 rfl rfl rfl k
theorem kok_12 : kMok mX12_init 0 := ⟨⟨fwTb_6 (i := 128) rfl rfl, fwTb_1 (i := 13) rfl rfl, ⟨by decide, by decide, by decide +kernel⟩, by decide⟩, rfl, rfl, fwTb_6 (i := 127) rfl rfl⟩
end
section
theorem kw_in_11 : Cond.instantiable RX11 12 ∈ fwTb := fwTb_1 (i := 22) rfl rfl
theorem kw_ii_11 : Cond.initialized RX11 ∈ fwTb := fwTb_1 (i := 1) rfl rfl
theorem kw_lc_11 : Cond.classLink "FootLowerLaw" 7 RX11 ∈ fwTb := fwTb_1 (i := 21) rfl rfl
theorem kw_lm_11 : Cond.methodLink "FootLowerLaw" 9 (mX11_init).1 ∈ fwTb := fwTb_1 (i := 23) rfl rfl
theorem kw_in_12 : Cond.instantiable RX12 26 ∈ fwTb := fwTb_6 (i := 125) rfl rfl
theorem kw_ii_12 : Cond.initialized RX12 ∈ fwTb := fwTb_1 (i := 13) rfl rfl
theorem kw_lc_12 : Cond.classLink "FootLowerLaw" 10 RX12 ∈ fwTb := fwTb_6 (i := 124) rfl rfl
theorem kw_lm_12 : Cond.methodLink "FootLowerLaw" 12 (mX12_init).1 ∈ fwTb := fwTb_6 (i := 126) rfl rfl
/-! what is known at the law's entry -/
theorem s_tb {A : Array Value} {s : State} (hts : ∀ w ∈ lw_tbl, w.before A s = true) : ∀ w ∈ fwTb, w.before A s = true := fun w hw => hts w (List.mem_filter.mp hw).1
theorem s_cls {A : Array Value} {s : State} (hts : ∀ w ∈ fwTb, w.before A s = true) : ∃ D : va_G, ∀ (c : Nat) (q : vw_C), vwCl[c]? = some q → u_Kn s q.1 q.2.1 q.2.2 (D.1 c) (D.2 c) := by
  have h0 : ∀ k : Nat, ∃ x : ClassId × (Nat → Nat), ∀ q : vw_C, vwCl[k]? = some q → u_Kn s q.1 q.2.1 q.2.2 x.1 x.2 := by
    intro k
    match k with
    | 0 =>
      obtain ⟨c, i, h⟩ := u_known (C := RX0) (T := TX0) (N := 2) (n := 2) hts fwInX0 (hts (.instantiable RX0 2) kw_in_0)
      exact ⟨(c, i), fun q hq => by cases hq; exact h⟩
    | 1 =>
      obtain ⟨c, i, h⟩ := u_known (C := RX1) (T := TX1) (N := 5) (n := 5) hts fwInX1 (hts (.instantiable RX1 5) kw_in_1)
      exact ⟨(c, i), fun q hq => by cases hq; exact h⟩
    | 2 =>
      obtain ⟨c, i, h⟩ := u_known (C := RX2) (T := TX2) (N := 7) (n := 7) hts fwInX2 (hts (.instantiable RX2 7) kw_in_2)
      exact ⟨(c, i), fun q hq => by cases hq; exact h⟩
    | 3 =>
      obtain ⟨c, i, h⟩ := u_known (C := RX3) (T := TX3) (N := 4) (n := 4) hts fwInX3 (hts (.instantiable RX3 4) kw_in_3)
      exact ⟨(c, i), fun q hq => by cases hq; exact h⟩
    | 4 =>
      obtain ⟨c, i, h⟩ := u_known (C := RX4) (T := TX4) (N := 5) (n := 5) hts fwInX4 (hts (.instantiable RX4 5) kw_in_4)
      exact ⟨(c, i), fun q hq => by cases hq; exact h⟩
    | 5 =>
      obtain ⟨c, i, h⟩ := u_known (C := RX5) (T := TX5) (N := 8) (n := 8) hts fwInX5 (hts (.instantiable RX5 8) kw_in_5)
      exact ⟨(c, i), fun q hq => by cases hq; exact h⟩
    | 6 =>
      obtain ⟨c, i, h⟩ := u_known (C := RX6) (T := TX6) (N := 9) (n := 9) hts fwInX6 (hts (.instantiable RX6 9) kw_in_6)
      exact ⟨(c, i), fun q hq => by cases hq; exact h⟩
    | 7 =>
      obtain ⟨c, i, h⟩ := u_known (C := RX7) (T := TX7) (N := 7) (n := 7) hts fwInX7 (hts (.instantiable RX7 7) kw_in_7)
      exact ⟨(c, i), fun q hq => by cases hq; exact h⟩
    | 8 =>
      obtain ⟨c, i, h⟩ := u_known (C := RX8) (T := TX8) (N := 3) (n := 3) hts fwInX8 (hts (.instantiable RX8 3) kw_in_8)
      exact ⟨(c, i), fun q hq => by cases hq; exact h⟩
    | 9 =>
      obtain ⟨c, i, h⟩ := u_known (C := RX9) (T := TX9) (N := 6) (n := 6) hts fwInX9 (hts (.instantiable RX9 6) kw_in_9)
      exact ⟨(c, i), fun q hq => by cases hq; exact h⟩
    | 10 =>
      obtain ⟨c, i, h⟩ := u_known (C := RX10) (T := TX10) (N := 4) (n := 4) hts fwInX10 (hts (.instantiable RX10 4) kw_in_10)
      exact ⟨(c, i), fun q hq => by cases hq; exact h⟩
    | 11 =>
      obtain ⟨c, i, h⟩ := u_known (C := RX11) (T := TX11) (N := 12) (n := 12) hts fwInX11 (hts (.instantiable RX11 12) kw_in_11)
      exact ⟨(c, i), fun q hq => by cases hq; exact h⟩
    | 12 =>
      obtain ⟨c, i, h⟩ := u_known (C := RX12) (T := TX12) (N := 26) (n := 26) hts fwInX12 (hts (.instantiable RX12 26) kw_in_12)
      exact ⟨(c, i), fun q hq => by cases hq; exact h⟩
    | n + 13 => exact ⟨(0, fun _ => 0), fun q hq => by simp [vwCl] at hq⟩
  obtain ⟨x, hx⟩ := Classical.axiomOfChoice h0
  exact ⟨(fun c => (x c).1, fun c => (x c).2), fun c q hq => hx c q hq⟩
theorem s_arr {A : Array Value} {s : State} {ty : FieldType} (h : (Cond.arrayClass ty).before A s = true) : ∃ c : ClassId, ArrOfT s c ty ∧ s.vm.findClass ("[" ++ ty.toString) = some c := by
  obtain ⟨c, k, comp, h1, h2, h3⟩ := Cond.arrayClass_spec h
  exact ⟨c, fun n z => ⟨fun k h => (by cases h), k, h2, comp, h3⟩, h1⟩
theorem kw_ao1 : Cond.arrayOver (.object "FootLower$Mountain") ∈ lw_tbl := fw_in_1 (List.mem_of_getElem? (i := 204) rfl)
theorem kw_ao2 : Cond.arrayOver (.array .long) ∈ lw_tbl := fw_in_1 (List.mem_of_getElem? (i := 212) rfl)
theorem s_tys {A : Array Value} {s : State} {D : va_G} (hts : ∀ w ∈ lw_tbl, w.before A s = true) (hD : ∀ (c : Nat) (q : vw_C), vwCl[c]? = some q → u_Kn s q.1 q.2.1 q.2.2 (D.1 c) (D.2 c)) : ∃ tc : Nat → ClassId, va_K D vwCl (fwTy tc) s ∧ kNs s := by
  have ht9 := s_tb hts
  obtain ⟨c0, a0, b0⟩ := s_arr (ht9 _ kw_ar_int)
  obtain ⟨c1, a1, b1⟩ := s_arr (ht9 _ kw_ar_byte)
  obtain ⟨c2, a2, b2⟩ := s_arr (ht9 _ kw_ar_boolean)
  obtain ⟨c3, k3, comp3, d3, e3, f3⟩ := Cond.arrayClass_spec (ht9 _ kw_ar_long)
  obtain ⟨comp4, c4, k4, d4, -, e4, f4, g4⟩ := Cond.arrayOver_spec (hts _ kw_ao1)
  obtain ⟨comp5, c5, k5, d5, -, e5, f5, g5⟩ := arrayOverA_spec (hts _ kw_ao2)
  refine ⟨fun k => [c0, c1, c2, c3, c4, c5].getD k 0, ⟨hD, fun k q hq => ?_⟩, fun a i x h hw => va_Nw.of rfl (hts _ hw), va_AO.of (hts _ kw_ao1), ?_⟩
  · match k, hq with
    | 0, hq => cases hq; exact ⟨a0, b0⟩
    | 1, hq => cases hq; exact ⟨a1, b1⟩
    | 2, hq => cases hq; exact ⟨a2, b2⟩
    | 3, hq => cases hq; exact ⟨fun n z => ⟨fun k h => (by cases h), k3, e3, comp3, f3⟩, d3⟩
    | 4, hq => cases hq; exact ⟨fun n z => ⟨fun k h => (by cases h), k4, e4, comp4, f4⟩, k4, comp4, e4, f4, d4, g4⟩
    | 5, hq => cases hq; exact ⟨fun n z => ⟨fun k h => (by cases h), k5, e5, comp5, f5⟩, g5⟩
    | n + 6, hq => simp [fwTy] at hq
  · have q3 : s.vm.findClass "[J" = some c3 := by
      have h9 := d3
      rw [show "[" ++ (newarray.typeOf .long).toString = "[J" by first | rfl | decide] at h9
      exact h9
    have q5 : s.vm.findClass "[J" = some comp5 := by
      have h9 := d5
      rw [show (FieldType.array .long).toString = "[J" by first | rfl | decide] at h9
      exact h9
    have q6 : s.vm.findClass "[[J" = some c5 := by
      have h9 := g5
      rw [show "[" ++ (FieldType.array .long).toString = "[[J" by first | rfl | decide] at h9
      exact h9
    have ec : comp5 = c3 := Option.some.inj (q5.symm.trans q3)
    subst ec
    exact ⟨comp5, c5, comp3, k5, k3, q3, q6, e5, f5, e3, f3⟩
/-! the String constants -/
def sTm (i : Nat) : Term := Term.string (fwSr.getD i ("", 0, "", [])).1 (fwSr.getD i ("", 0, "", [])).2.1
theorem fl_l {a b c : Cond} (h : c ∈ flatC a) : c ∈ flatC (.and a b) := List.mem_append_left _ h
theorem fl_r {a b c : Cond} (h : c ∈ flatC b) : c ∈ flatC (.and a b) := List.mem_append_right _ h
theorem fl_0 {c : Cond} (h : flatC c = [c]) : c ∈ flatC c := by rw [h]; exact List.mem_cons_self
theorem sC1 : ∀ i, i < 26 → Cond.exactly (sTm i) "java/lang/String" ∈ flatC (Jvm.Cond.and given_1 narrow_1) := by
  intro i hi
  match i, hi with
  | 0, _ => exact fl_r (fl_l (fl_l (fl_l (fl_r (fl_l (fl_r (fl_l (fl_l (fl_0 rfl)))))))))
  | 1, _ => exact fl_r (fl_l (fl_l (fl_l (fl_r (fl_r (fl_r (fl_l (fl_r (fl_0 rfl)))))))))
  | 2, _ => exact fl_r (fl_l (fl_l (fl_r (fl_l (fl_l (fl_r (fl_r (fl_l (fl_0 rfl)))))))))
  | 3, _ => exact fl_r (fl_l (fl_l (fl_r (fl_l (fl_r (fl_r (fl_r (fl_l (fl_0 rfl)))))))))
  | 4, _ => exact fl_r (fl_l (fl_l (fl_r (fl_r (fl_r (fl_l (fl_l (fl_l (fl_0 rfl)))))))))
  | 5, _ => exact fl_r (fl_l (fl_r (fl_l (fl_l (fl_l (fl_l (fl_l (fl_0 rfl))))))))
  | 6, _ => exact fl_r (fl_l (fl_r (fl_l (fl_l (fl_l (fl_r (fl_r (fl_r (fl_0 rfl)))))))))
  | 7, _ => exact fl_r (fl_l (fl_r (fl_l (fl_l (fl_r (fl_r (fl_r (fl_l (fl_0 rfl)))))))))
  | 8, _ => exact fl_r (fl_l (fl_r (fl_l (fl_r (fl_l (fl_r (fl_r (fl_r (fl_0 rfl)))))))))
  | 9, _ => exact fl_r (fl_l (fl_r (fl_l (fl_r (fl_r (fl_r (fl_r (fl_r (fl_0 rfl)))))))))
  | 10, _ => exact fl_r (fl_l (fl_r (fl_r (fl_l (fl_r (fl_l (fl_l (fl_l (fl_0 rfl)))))))))
  | 11, _ => exact fl_r (fl_l (fl_r (fl_r (fl_r (fl_l (fl_l (fl_l (fl_0 rfl))))))))
  | 12, _ => exact fl_r (fl_l (fl_r (fl_r (fl_r (fl_r (fl_l (fl_r (fl_l (fl_0 rfl)))))))))
  | 13, _ => exact fl_r (fl_r (fl_l (fl_l (fl_l (fl_l (fl_l (fl_r (fl_r (fl_0 rfl)))))))))
  | 14, _ => exact fl_r (fl_r (fl_l (fl_l (fl_l (fl_r (fl_r (fl_l (fl_r (fl_0 rfl)))))))))
  | 15, _ => exact fl_r (fl_r (fl_l (fl_l (fl_r (fl_l (fl_r (fl_r (fl_r (fl_0 rfl)))))))))
  | 16, _ => exact fl_r (fl_r (fl_l (fl_r (fl_l (fl_l (fl_l (fl_l (fl_0 rfl))))))))
  | 17, _ => exact fl_r (fl_r (fl_l (fl_r (fl_r (fl_r (fl_r (fl_r (fl_r (fl_0 rfl)))))))))
  | 18, _ => exact fl_r (fl_r (fl_r (fl_l (fl_r (fl_l (fl_l (fl_r (fl_r (fl_0 rfl)))))))))
  | 19, _ => exact fl_r (fl_r (fl_r (fl_l (fl_r (fl_r (fl_l (fl_r (fl_l (fl_0 rfl)))))))))
  | 20, _ => exact fl_r (fl_r (fl_r (fl_r (fl_l (fl_l (fl_l (fl_r (fl_r (fl_0 rfl)))))))))
  | 21, _ => exact fl_r (fl_r (fl_r (fl_r (fl_l (fl_r (fl_r (fl_l (fl_l (fl_0 rfl)))))))))
  | 22, _ => exact fl_r (fl_r (fl_r (fl_r (fl_r (fl_l (fl_r (fl_r (fl_l (fl_0 rfl)))))))))
  | 23, _ => exact fl_r (fl_r (fl_r (fl_l (fl_l (fl_r (fl_l (fl_l (fl_r (fl_0 rfl)))))))))
  | 24, _ => exact fl_r (fl_r (fl_l (fl_r (fl_r (fl_l (fl_r (fl_l (fl_r (fl_0 rfl)))))))))
  | 25, _ => exact fl_r (fl_r (fl_l (fl_r (fl_l (fl_r (fl_l (fl_r (fl_r (fl_0 rfl)))))))))
  | i + 26, hi => exact absurd hi (by omega)
theorem sC2 : ∀ i, i < 26 → Cond.eq (.field (sTm i) "java/lang/String" "coder" "B") (.int 0) ∈ flatC (Jvm.Cond.and given_1 narrow_1) := by
  intro i hi
  match i, hi with
  | 0, _ => exact fl_r (fl_l (fl_l (fl_l (fl_r (fl_l (fl_r (fl_l (fl_r (fl_0 rfl)))))))))
  | 1, _ => exact fl_r (fl_l (fl_l (fl_l (fl_r (fl_r (fl_r (fl_r (fl_l (fl_0 rfl)))))))))
  | 2, _ => exact fl_r (fl_l (fl_l (fl_r (fl_l (fl_l (fl_r (fl_r (fl_r (fl_0 rfl)))))))))
  | 3, _ => exact fl_r (fl_l (fl_l (fl_r (fl_l (fl_r (fl_r (fl_r (fl_r (fl_0 rfl)))))))))
  | 4, _ => exact fl_r (fl_l (fl_l (fl_r (fl_r (fl_r (fl_l (fl_l (fl_r (fl_0 rfl)))))))))
  | 5, _ => exact fl_r (fl_l (fl_r (fl_l (fl_l (fl_l (fl_l (fl_r (fl_l (fl_0 rfl)))))))))
  | 6, _ => exact fl_r (fl_l (fl_r (fl_l (fl_l (fl_r (fl_l (fl_l (fl_l (fl_0 rfl)))))))))
  | 7, _ => exact fl_r (fl_l (fl_r (fl_l (fl_l (fl_r (fl_r (fl_r (fl_r (fl_0 rfl)))))))))
  | 8, _ => exact fl_r (fl_l (fl_r (fl_l (fl_r (fl_r (fl_l (fl_l (fl_l (fl_0 rfl)))))))))
  | 9, _ => exact fl_r (fl_l (fl_r (fl_r (fl_l (fl_l (fl_l (fl_l (fl_0 rfl))))))))
  | 10, _ => exact fl_r (fl_l (fl_r (fl_r (fl_l (fl_r (fl_l (fl_l (fl_r (fl_0 rfl)))))))))
  | 11, _ => exact fl_r (fl_l (fl_r (fl_r (fl_r (fl_l (fl_l (fl_r (fl_l (fl_0 rfl)))))))))
  | 12, _ => exact fl_r (fl_l (fl_r (fl_r (fl_r (fl_r (fl_l (fl_r (fl_r (fl_0 rfl)))))))))
  | 13, _ => exact fl_r (fl_r (fl_l (fl_l (fl_l (fl_l (fl_r (fl_l (fl_l (fl_0 rfl)))))))))
  | 14, _ => exact fl_r (fl_r (fl_l (fl_l (fl_l (fl_r (fl_r (fl_r (fl_l (fl_0 rfl)))))))))
  | 15, _ => exact fl_r (fl_r (fl_l (fl_l (fl_r (fl_r (fl_l (fl_l (fl_l (fl_0 rfl)))))))))
  | 16, _ => exact fl_r (fl_r (fl_l (fl_r (fl_l (fl_l (fl_l (fl_r (fl_l (fl_0 rfl)))))))))
  | 17, _ => exact fl_r (fl_r (fl_r (fl_l (fl_l (fl_l (fl_l (fl_l (fl_0 rfl))))))))
  | 18, _ => exact fl_r (fl_r (fl_r (fl_l (fl_r (fl_l (fl_r (fl_l (fl_l (fl_0 rfl)))))))))
  | 19, _ => exact fl_r (fl_r (fl_r (fl_l (fl_r (fl_r (fl_l (fl_r (fl_r (fl_0 rfl)))))))))
  | 20, _ => exact fl_r (fl_r (fl_r (fl_r (fl_l (fl_l (fl_r (fl_l (fl_l (fl_0 rfl)))))))))
  | 21, _ => exact fl_r (fl_r (fl_r (fl_r (fl_l (fl_r (fl_r (fl_l (fl_r (fl_0 rfl)))))))))
  | 22, _ => exact fl_r (fl_r (fl_r (fl_r (fl_r (fl_l (fl_r (fl_r (fl_r (fl_0 rfl)))))))))
  | 23, _ => exact fl_r (fl_r (fl_r (fl_l (fl_l (fl_r (fl_l (fl_r (fl_l (fl_0 rfl)))))))))
  | 24, _ => exact fl_r (fl_r (fl_l (fl_r (fl_r (fl_l (fl_r (fl_r (fl_l (fl_0 rfl)))))))))
  | 25, _ => exact fl_r (fl_r (fl_l (fl_r (fl_l (fl_r (fl_r (fl_l (fl_l (fl_0 rfl)))))))))
  | i + 26, hi => exact absurd hi (by omega)
theorem sC3 : ∀ i, i < 26 → Cond.arrayOf (.field (sTm i) "java/lang/String" "value" "[B") .byte ∈ flatC (Jvm.Cond.and given_1 narrow_1) := by
  intro i hi
  match i, hi with
  | 0, _ => exact fl_r (fl_l (fl_l (fl_l (fl_r (fl_l (fl_r (fl_r (fl_l (fl_0 rfl)))))))))
  | 1, _ => exact fl_r (fl_l (fl_l (fl_l (fl_r (fl_r (fl_r (fl_r (fl_r (fl_0 rfl)))))))))
  | 2, _ => exact fl_r (fl_l (fl_l (fl_r (fl_l (fl_r (fl_l (fl_l (fl_l (fl_0 rfl)))))))))
  | 3, _ => exact fl_r (fl_l (fl_l (fl_r (fl_r (fl_l (fl_l (fl_l (fl_0 rfl))))))))
  | 4, _ => exact fl_r (fl_l (fl_l (fl_r (fl_r (fl_r (fl_l (fl_r (fl_l (fl_0 rfl)))))))))
  | 5, _ => exact fl_r (fl_l (fl_r (fl_l (fl_l (fl_l (fl_l (fl_r (fl_r (fl_0 rfl)))))))))
  | 6, _ => exact fl_r (fl_l (fl_r (fl_l (fl_l (fl_r (fl_l (fl_l (fl_r (fl_0 rfl)))))))))
  | 7, _ => exact fl_r (fl_l (fl_r (fl_l (fl_r (fl_l (fl_l (fl_l (fl_0 rfl))))))))
  | 8, _ => exact fl_r (fl_l (fl_r (fl_l (fl_r (fl_r (fl_l (fl_l (fl_r (fl_0 rfl)))))))))
  | 9, _ => exact fl_r (fl_l (fl_r (fl_r (fl_l (fl_l (fl_l (fl_r (fl_l (fl_0 rfl)))))))))
  | 10, _ => exact fl_r (fl_l (fl_r (fl_r (fl_l (fl_r (fl_l (fl_r (fl_l (fl_0 rfl)))))))))
  | 11, _ => exact fl_r (fl_l (fl_r (fl_r (fl_r (fl_l (fl_l (fl_r (fl_r (fl_0 rfl)))))))))
  | 12, _ => exact fl_r (fl_l (fl_r (fl_r (fl_r (fl_r (fl_r (fl_l (fl_l (fl_0 rfl)))))))))
  | 13, _ => exact fl_r (fl_r (fl_l (fl_l (fl_l (fl_l (fl_r (fl_l (fl_r (fl_0 rfl)))))))))
  | 14, _ => exact fl_r (fl_r (fl_l (fl_l (fl_l (fl_r (fl_r (fl_r (fl_r (fl_0 rfl)))))))))
  | 15, _ => exact fl_r (fl_r (fl_l (fl_l (fl_r (fl_r (fl_l (fl_l (fl_r (fl_0 rfl)))))))))
  | 16, _ => exact fl_r (fl_r (fl_l (fl_r (fl_l (fl_l (fl_l (fl_r (fl_r (fl_0 rfl)))))))))
  | 17, _ => exact fl_r (fl_r (fl_r (fl_l (fl_l (fl_l (fl_l (fl_r (fl_l (fl_0 rfl)))))))))
  | 18, _ => exact fl_r (fl_r (fl_r (fl_l (fl_r (fl_l (fl_r (fl_l (fl_r (fl_0 rfl)))))))))
  | 19, _ => exact fl_r (fl_r (fl_r (fl_l (fl_r (fl_r (fl_r (fl_l (fl_l (fl_0 rfl)))))))))
  | 20, _ => exact fl_r (fl_r (fl_r (fl_r (fl_l (fl_l (fl_r (fl_l (fl_r (fl_0 rfl)))))))))
  | 21, _ => exact fl_r (fl_r (fl_r (fl_r (fl_l (fl_r (fl_r (fl_r (fl_l (fl_0 rfl)))))))))
  | 22, _ => exact fl_r (fl_r (fl_r (fl_r (fl_r (fl_r (fl_l (fl_l (fl_l (fl_0 rfl)))))))))
  | 23, _ => exact fl_r (fl_r (fl_r (fl_l (fl_l (fl_r (fl_l (fl_r (fl_r (fl_0 rfl)))))))))
  | 24, _ => exact fl_r (fl_r (fl_l (fl_r (fl_r (fl_l (fl_r (fl_r (fl_r (fl_0 rfl)))))))))
  | 25, _ => exact fl_r (fl_r (fl_l (fl_r (fl_l (fl_r (fl_r (fl_l (fl_r (fl_0 rfl)))))))))
  | i + 26, hi => exact absurd hi (by omega)
theorem sC4 : ∀ i, i < 26 → Cond.eq (.length (.field (sTm i) "java/lang/String" "value" "[B")) (.int (Int32.ofNat (fwSb i).length)) ∈ flatC (Jvm.Cond.and given_1 narrow_1) := by
  intro i hi
  match i, hi with
  | 0, _ => exact fl_r (fl_l (fl_l (fl_l (fl_r (fl_l (fl_r (fl_r (fl_r (fl_0 rfl)))))))))
  | 1, _ => exact fl_r (fl_l (fl_l (fl_r (fl_l (fl_l (fl_l (fl_l (fl_0 rfl))))))))
  | 2, _ => exact fl_r (fl_l (fl_l (fl_r (fl_l (fl_r (fl_l (fl_l (fl_r (fl_0 rfl)))))))))
  | 3, _ => exact fl_r (fl_l (fl_l (fl_r (fl_r (fl_l (fl_l (fl_r (fl_l (fl_0 rfl)))))))))
  | 4, _ => exact fl_r (fl_l (fl_l (fl_r (fl_r (fl_r (fl_l (fl_r (fl_r (fl_0 rfl)))))))))
  | 5, _ => exact fl_r (fl_l (fl_r (fl_l (fl_l (fl_l (fl_r (fl_l (fl_l (fl_0 rfl)))))))))
  | 6, _ => exact fl_r (fl_l (fl_r (fl_l (fl_l (fl_r (fl_l (fl_r (fl_l (fl_0 rfl)))))))))
  | 7, _ => exact fl_r (fl_l (fl_r (fl_l (fl_r (fl_l (fl_l (fl_r (fl_l (fl_0 rfl)))))))))
  | 8, _ => exact fl_r (fl_l (fl_r (fl_l (fl_r (fl_r (fl_l (fl_r (fl_l (fl_0 rfl)))))))))
  | 9, _ => exact fl_r (fl_l (fl_r (fl_r (fl_l (fl_l (fl_l (fl_r (fl_r (fl_0 rfl)))))))))
  | 10, _ => exact fl_r (fl_l (fl_r (fl_r (fl_l (fl_r (fl_l (fl_r (fl_r (fl_0 rfl)))))))))
  | 11, _ => exact fl_r (fl_l (fl_r (fl_r (fl_r (fl_l (fl_r (fl_l (fl_l (fl_0 rfl)))))))))
  | 12, _ => exact fl_r (fl_l (fl_r (fl_r (fl_r (fl_r (fl_r (fl_l (fl_r (fl_0 rfl)))))))))
  | 13, _ => exact fl_r (fl_r (fl_l (fl_l (fl_l (fl_l (fl_r (fl_r (fl_l (fl_0 rfl)))))))))
  | 14, _ => exact fl_r (fl_r (fl_l (fl_l (fl_r (fl_l (fl_l (fl_l (fl_0 rfl))))))))
  | 15, _ => exact fl_r (fl_r (fl_l (fl_l (fl_r (fl_r (fl_l (fl_r (fl_l (fl_0 rfl)))))))))
  | 16, _ => exact fl_r (fl_r (fl_l (fl_r (fl_l (fl_l (fl_r (fl_l (fl_l (fl_0 rfl)))))))))
  | 17, _ => exact fl_r (fl_r (fl_r (fl_l (fl_l (fl_l (fl_l (fl_r (fl_r (fl_0 rfl)))))))))
  | 18, _ => exact fl_r (fl_r (fl_r (fl_l (fl_r (fl_l (fl_r (fl_r (fl_l (fl_0 rfl)))))))))
  | 19, _ => exact fl_r (fl_r (fl_r (fl_l (fl_r (fl_r (fl_r (fl_l (fl_r (fl_0 rfl)))))))))
  | 20, _ => exact fl_r (fl_r (fl_r (fl_r (fl_l (fl_l (fl_r (fl_r (fl_l (fl_0 rfl)))))))))
  | 21, _ => exact fl_r (fl_r (fl_r (fl_r (fl_l (fl_r (fl_r (fl_r (fl_r (fl_0 rfl)))))))))
  | 22, _ => exact fl_r (fl_r (fl_r (fl_r (fl_r (fl_r (fl_l (fl_l (fl_r (fl_0 rfl)))))))))
  | 23, _ => exact fl_r (fl_r (fl_r (fl_l (fl_l (fl_r (fl_r (fl_l (fl_l (fl_0 rfl)))))))))
  | 24, _ => exact fl_r (fl_r (fl_l (fl_r (fl_r (fl_r (fl_l (fl_l (fl_l (fl_0 rfl)))))))))
  | 25, _ => exact fl_r (fl_r (fl_l (fl_r (fl_l (fl_r (fl_r (fl_r (fl_l (fl_0 rfl)))))))))
  | i + 26, hi => exact absurd hi (by omega)
theorem sC5 : ∀ i, i < 26 → ∀ j, j < (fwSb i).length → Cond.eq (.elem (.field (sTm i) "java/lang/String" "value" "[B") (.int (Int32.ofNat j))) (.int (Int32.ofInt ((fwSb i).getD j 0))) ∈ flatC (Jvm.Cond.and given_1 narrow_1) := by
  intro i hi
  match i, hi with
  | 0, _ => exact (fun j hj => match j, (show j < 5 from hj) with | 0, _ => fl_r (fl_l (fl_l (fl_l (fl_r (fl_r (fl_l (fl_l (fl_l (fl_0 rfl))))))))) | 1, _ => fl_r (fl_l (fl_l (fl_l (fl_r (fl_r (fl_l (fl_l (fl_r (fl_0 rfl))))))))) | 2, _ => fl_r (fl_l (fl_l (fl_l (fl_r (fl_r (fl_l (fl_r (fl_l (fl_0 rfl))))))))) | 3, _ => fl_r (fl_l (fl_l (fl_l (fl_r (fl_r (fl_l (fl_r (fl_r (fl_0 rfl))))))))) | 4, _ => fl_r (fl_l (fl_l (fl_l (fl_r (fl_r (fl_r (fl_l (fl_l (fl_0 rfl))))))))) | j + 5, hj => absurd hj (by omega))
  | 1, _ => exact (fun j hj => match j, (show j < 4 from hj) with | 0, _ => fl_r (fl_l (fl_l (fl_r (fl_l (fl_l (fl_l (fl_r (fl_l (fl_0 rfl))))))))) | 1, _ => fl_r (fl_l (fl_l (fl_r (fl_l (fl_l (fl_l (fl_r (fl_r (fl_0 rfl))))))))) | 2, _ => fl_r (fl_l (fl_l (fl_r (fl_l (fl_l (fl_r (fl_l (fl_l (fl_0 rfl))))))))) | 3, _ => fl_r (fl_l (fl_l (fl_r (fl_l (fl_l (fl_r (fl_l (fl_r (fl_0 rfl))))))))) | j + 4, hj => absurd hj (by omega))
  | 2, _ => exact (fun j hj => match j, (show j < 4 from hj) with | 0, _ => fl_r (fl_l (fl_l (fl_r (fl_l (fl_r (fl_l (fl_r (fl_l (fl_0 rfl))))))))) | 1, _ => fl_r (fl_l (fl_l (fl_r (fl_l (fl_r (fl_l (fl_r (fl_r (fl_0 rfl))))))))) | 2, _ => fl_r (fl_l (fl_l (fl_r (fl_l (fl_r (fl_r (fl_l (fl_l (fl_0 rfl))))))))) | 3, _ => fl_r (fl_l (fl_l (fl_r (fl_l (fl_r (fl_r (fl_l (fl_r (fl_0 rfl))))))))) | j + 4, hj => absurd hj (by omega))
  | 3, _ => exact (fun j hj => match j, (show j < 5 from hj) with | 0, _ => fl_r (fl_l (fl_l (fl_r (fl_r (fl_l (fl_l (fl_r (fl_r (fl_0 rfl))))))))) | 1, _ => fl_r (fl_l (fl_l (fl_r (fl_r (fl_l (fl_r (fl_l (fl_l (fl_0 rfl))))))))) | 2, _ => fl_r (fl_l (fl_l (fl_r (fl_r (fl_l (fl_r (fl_l (fl_r (fl_0 rfl))))))))) | 3, _ => fl_r (fl_l (fl_l (fl_r (fl_r (fl_l (fl_r (fl_r (fl_l (fl_0 rfl))))))))) | 4, _ => fl_r (fl_l (fl_l (fl_r (fl_r (fl_l (fl_r (fl_r (fl_r (fl_0 rfl))))))))) | j + 5, hj => absurd hj (by omega))
  | 4, _ => exact (fun j hj => match j, (show j < 4 from hj) with | 0, _ => fl_r (fl_l (fl_l (fl_r (fl_r (fl_r (fl_r (fl_l (fl_l (fl_0 rfl))))))))) | 1, _ => fl_r (fl_l (fl_l (fl_r (fl_r (fl_r (fl_r (fl_l (fl_r (fl_0 rfl))))))))) | 2, _ => fl_r (fl_l (fl_l (fl_r (fl_r (fl_r (fl_r (fl_r (fl_l (fl_0 rfl))))))))) | 3, _ => fl_r (fl_l (fl_l (fl_r (fl_r (fl_r (fl_r (fl_r (fl_r (fl_0 rfl))))))))) | j + 4, hj => absurd hj (by omega))
  | 5, _ => exact (fun j hj => match j, (show j < 2 from hj) with | 0, _ => fl_r (fl_l (fl_r (fl_l (fl_l (fl_l (fl_r (fl_l (fl_r (fl_0 rfl))))))))) | 1, _ => fl_r (fl_l (fl_r (fl_l (fl_l (fl_l (fl_r (fl_r (fl_l (fl_0 rfl))))))))) | j + 2, hj => absurd hj (by omega))
  | 6, _ => exact (fun j hj => match j, (show j < 3 from hj) with | 0, _ => fl_r (fl_l (fl_r (fl_l (fl_l (fl_r (fl_l (fl_r (fl_r (fl_0 rfl))))))))) | 1, _ => fl_r (fl_l (fl_r (fl_l (fl_l (fl_r (fl_r (fl_l (fl_l (fl_0 rfl))))))))) | 2, _ => fl_r (fl_l (fl_r (fl_l (fl_l (fl_r (fl_r (fl_l (fl_r (fl_0 rfl))))))))) | j + 3, hj => absurd hj (by omega))
  | 7, _ => exact (fun j hj => match j, (show j < 4 from hj) with | 0, _ => fl_r (fl_l (fl_r (fl_l (fl_r (fl_l (fl_l (fl_r (fl_r (fl_0 rfl))))))))) | 1, _ => fl_r (fl_l (fl_r (fl_l (fl_r (fl_l (fl_r (fl_l (fl_l (fl_0 rfl))))))))) | 2, _ => fl_r (fl_l (fl_r (fl_l (fl_r (fl_l (fl_r (fl_l (fl_r (fl_0 rfl))))))))) | 3, _ => fl_r (fl_l (fl_r (fl_l (fl_r (fl_l (fl_r (fl_r (fl_l (fl_0 rfl))))))))) | j + 4, hj => absurd hj (by omega))
  | 8, _ => exact (fun j hj => match j, (show j < 4 from hj) with | 0, _ => fl_r (fl_l (fl_r (fl_l (fl_r (fl_r (fl_l (fl_r (fl_r (fl_0 rfl))))))))) | 1, _ => fl_r (fl_l (fl_r (fl_l (fl_r (fl_r (fl_r (fl_l (fl_l (fl_0 rfl))))))))) | 2, _ => fl_r (fl_l (fl_r (fl_l (fl_r (fl_r (fl_r (fl_l (fl_r (fl_0 rfl))))))))) | 3, _ => fl_r (fl_l (fl_r (fl_l (fl_r (fl_r (fl_r (fl_r (fl_l (fl_0 rfl))))))))) | j + 4, hj => absurd hj (by omega))
  | 9, _ => exact (fun j hj => match j, (show j < 4 from hj) with | 0, _ => fl_r (fl_l (fl_r (fl_r (fl_l (fl_l (fl_r (fl_l (fl_l (fl_0 rfl))))))))) | 1, _ => fl_r (fl_l (fl_r (fl_r (fl_l (fl_l (fl_r (fl_l (fl_r (fl_0 rfl))))))))) | 2, _ => fl_r (fl_l (fl_r (fl_r (fl_l (fl_l (fl_r (fl_r (fl_l (fl_0 rfl))))))))) | 3, _ => fl_r (fl_l (fl_r (fl_r (fl_l (fl_l (fl_r (fl_r (fl_r (fl_0 rfl))))))))) | j + 4, hj => absurd hj (by omega))
  | 10, _ => exact (fun j hj => match j, (show j < 4 from hj) with | 0, _ => fl_r (fl_l (fl_r (fl_r (fl_l (fl_r (fl_r (fl_l (fl_l (fl_0 rfl))))))))) | 1, _ => fl_r (fl_l (fl_r (fl_r (fl_l (fl_r (fl_r (fl_l (fl_r (fl_0 rfl))))))))) | 2, _ => fl_r (fl_l (fl_r (fl_r (fl_l (fl_r (fl_r (fl_r (fl_l (fl_0 rfl))))))))) | 3, _ => fl_r (fl_l (fl_r (fl_r (fl_l (fl_r (fl_r (fl_r (fl_r (fl_0 rfl))))))))) | j + 4, hj => absurd hj (by omega))
  | 11, _ => exact (fun j hj => match j, (show j < 5 from hj) with | 0, _ => fl_r (fl_l (fl_r (fl_r (fl_r (fl_l (fl_r (fl_l (fl_r (fl_0 rfl))))))))) | 1, _ => fl_r (fl_l (fl_r (fl_r (fl_r (fl_l (fl_r (fl_r (fl_l (fl_0 rfl))))))))) | 2, _ => fl_r (fl_l (fl_r (fl_r (fl_r (fl_l (fl_r (fl_r (fl_r (fl_0 rfl))))))))) | 3, _ => fl_r (fl_l (fl_r (fl_r (fl_r (fl_r (fl_l (fl_l (fl_l (fl_0 rfl))))))))) | 4, _ => fl_r (fl_l (fl_r (fl_r (fl_r (fl_r (fl_l (fl_l (fl_r (fl_0 rfl))))))))) | j + 5, hj => absurd hj (by omega))
  | 12, _ => exact (fun j hj => match j, (show j < 4 from hj) with | 0, _ => fl_r (fl_l (fl_r (fl_r (fl_r (fl_r (fl_r (fl_r (fl_l (fl_0 rfl))))))))) | 1, _ => fl_r (fl_l (fl_r (fl_r (fl_r (fl_r (fl_r (fl_r (fl_r (fl_0 rfl))))))))) | 2, _ => fl_r (fl_r (fl_l (fl_l (fl_l (fl_l (fl_l (fl_l (fl_0 rfl)))))))) | 3, _ => fl_r (fl_r (fl_l (fl_l (fl_l (fl_l (fl_l (fl_r (fl_l (fl_0 rfl))))))))) | j + 4, hj => absurd hj (by omega))
  | 13, _ => exact (fun j hj => match j, (show j < 5 from hj) with | 0, _ => fl_r (fl_r (fl_l (fl_l (fl_l (fl_l (fl_r (fl_r (fl_r (fl_0 rfl))))))))) | 1, _ => fl_r (fl_r (fl_l (fl_l (fl_l (fl_r (fl_l (fl_l (fl_l (fl_0 rfl))))))))) | 2, _ => fl_r (fl_r (fl_l (fl_l (fl_l (fl_r (fl_l (fl_l (fl_r (fl_0 rfl))))))))) | 3, _ => fl_r (fl_r (fl_l (fl_l (fl_l (fl_r (fl_l (fl_r (fl_l (fl_0 rfl))))))))) | 4, _ => fl_r (fl_r (fl_l (fl_l (fl_l (fl_r (fl_l (fl_r (fl_r (fl_0 rfl))))))))) | j + 5, hj => absurd hj (by omega))
  | 14, _ => exact (fun j hj => match j, (show j < 4 from hj) with | 0, _ => fl_r (fl_r (fl_l (fl_l (fl_r (fl_l (fl_l (fl_r (fl_l (fl_0 rfl))))))))) | 1, _ => fl_r (fl_r (fl_l (fl_l (fl_r (fl_l (fl_l (fl_r (fl_r (fl_0 rfl))))))))) | 2, _ => fl_r (fl_r (fl_l (fl_l (fl_r (fl_l (fl_r (fl_l (fl_l (fl_0 rfl))))))))) | 3, _ => fl_r (fl_r (fl_l (fl_l (fl_r (fl_l (fl_r (fl_l (fl_r (fl_0 rfl))))))))) | j + 4, hj => absurd hj (by omega))
  | 15, _ => exact (fun j hj => match j, (show j < 4 from hj) with | 0, _ => fl_r (fl_r (fl_l (fl_l (fl_r (fl_r (fl_l (fl_r (fl_r (fl_0 rfl))))))))) | 1, _ => fl_r (fl_r (fl_l (fl_l (fl_r (fl_r (fl_r (fl_l (fl_l (fl_0 rfl))))))))) | 2, _ => fl_r (fl_r (fl_l (fl_l (fl_r (fl_r (fl_r (fl_l (fl_r (fl_0 rfl))))))))) | 3, _ => fl_r (fl_r (fl_l (fl_l (fl_r (fl_r (fl_r (fl_r (fl_l (fl_0 rfl))))))))) | j + 4, hj => absurd hj (by omega))
  | 16, _ => exact (fun j hj => match j, (show j < 5 from hj) with | 0, _ => fl_r (fl_r (fl_l (fl_r (fl_l (fl_l (fl_r (fl_l (fl_r (fl_0 rfl))))))))) | 1, _ => fl_r (fl_r (fl_l (fl_r (fl_l (fl_l (fl_r (fl_r (fl_l (fl_0 rfl))))))))) | 2, _ => fl_r (fl_r (fl_l (fl_r (fl_l (fl_l (fl_r (fl_r (fl_r (fl_0 rfl))))))))) | 3, _ => fl_r (fl_r (fl_l (fl_r (fl_l (fl_r (fl_l (fl_l (fl_l (fl_0 rfl))))))))) | 4, _ => fl_r (fl_r (fl_l (fl_r (fl_l (fl_r (fl_l (fl_l (fl_r (fl_0 rfl))))))))) | j + 5, hj => absurd hj (by omega))
  | 17, _ => exact (fun j hj => match j, (show j < 4 from hj) with | 0, _ => fl_r (fl_r (fl_r (fl_l (fl_l (fl_l (fl_r (fl_l (fl_l (fl_0 rfl))))))))) | 1, _ => fl_r (fl_r (fl_r (fl_l (fl_l (fl_l (fl_r (fl_l (fl_r (fl_0 rfl))))))))) | 2, _ => fl_r (fl_r (fl_r (fl_l (fl_l (fl_l (fl_r (fl_r (fl_l (fl_0 rfl))))))))) | 3, _ => fl_r (fl_r (fl_r (fl_l (fl_l (fl_l (fl_r (fl_r (fl_r (fl_0 rfl))))))))) | j + 4, hj => absurd hj (by omega))
  | 18, _ => exact (fun j hj => match j, (show j < 2 from hj) with | 0, _ => fl_r (fl_r (fl_r (fl_l (fl_r (fl_l (fl_r (fl_r (fl_r (fl_0 rfl))))))))) | 1, _ => fl_r (fl_r (fl_r (fl_l (fl_r (fl_r (fl_l (fl_l (fl_l (fl_0 rfl))))))))) | j + 2, hj => absurd hj (by omega))
  | 19, _ => exact (fun j hj => match j, (show j < 3 from hj) with | 0, _ => fl_r (fl_r (fl_r (fl_l (fl_r (fl_r (fl_r (fl_r (fl_l (fl_0 rfl))))))))) | 1, _ => fl_r (fl_r (fl_r (fl_l (fl_r (fl_r (fl_r (fl_r (fl_r (fl_0 rfl))))))))) | 2, _ => fl_r (fl_r (fl_r (fl_r (fl_l (fl_l (fl_l (fl_l (fl_0 rfl)))))))) | j + 3, hj => absurd hj (by omega))
  | 20, _ => exact (fun j hj => match j, (show j < 4 from hj) with | 0, _ => fl_r (fl_r (fl_r (fl_r (fl_l (fl_l (fl_r (fl_r (fl_r (fl_0 rfl))))))))) | 1, _ => fl_r (fl_r (fl_r (fl_r (fl_l (fl_r (fl_l (fl_l (fl_l (fl_0 rfl))))))))) | 2, _ => fl_r (fl_r (fl_r (fl_r (fl_l (fl_r (fl_l (fl_l (fl_r (fl_0 rfl))))))))) | 3, _ => fl_r (fl_r (fl_r (fl_r (fl_l (fl_r (fl_l (fl_r (fl_l (fl_0 rfl))))))))) | j + 4, hj => absurd hj (by omega))
  | 21, _ => exact (fun j hj => match j, (show j < 4 from hj) with | 0, _ => fl_r (fl_r (fl_r (fl_r (fl_r (fl_l (fl_l (fl_l (fl_0 rfl)))))))) | 1, _ => fl_r (fl_r (fl_r (fl_r (fl_r (fl_l (fl_l (fl_r (fl_l (fl_0 rfl))))))))) | 2, _ => fl_r (fl_r (fl_r (fl_r (fl_r (fl_l (fl_l (fl_r (fl_r (fl_0 rfl))))))))) | 3, _ => fl_r (fl_r (fl_r (fl_r (fl_r (fl_l (fl_r (fl_l (fl_l (fl_0 rfl))))))))) | j + 4, hj => absurd hj (by omega))
  | 22, _ => exact (fun j hj => match j, (show j < 4 from hj) with | 0, _ => fl_r (fl_r (fl_r (fl_r (fl_r (fl_r (fl_l (fl_r (fl_l (fl_0 rfl))))))))) | 1, _ => fl_r (fl_r (fl_r (fl_r (fl_r (fl_r (fl_l (fl_r (fl_r (fl_0 rfl))))))))) | 2, _ => fl_r (fl_r (fl_r (fl_r (fl_r (fl_r (fl_r (fl_l (fl_l (fl_0 rfl))))))))) | 3, _ => fl_r (fl_r (fl_r (fl_r (fl_r (fl_r (fl_r (fl_l (fl_r (fl_0 rfl))))))))) | j + 4, hj => absurd hj (by omega))
  | 23, _ => exact (fun j hj => match j, (show j < 4 from hj) with | 0, _ => fl_r (fl_r (fl_r (fl_l (fl_l (fl_r (fl_r (fl_l (fl_r (fl_0 rfl))))))))) | 1, _ => fl_r (fl_r (fl_r (fl_l (fl_l (fl_r (fl_r (fl_r (fl_l (fl_0 rfl))))))))) | 2, _ => fl_r (fl_r (fl_r (fl_l (fl_l (fl_r (fl_r (fl_r (fl_r (fl_0 rfl))))))))) | 3, _ => fl_r (fl_r (fl_r (fl_l (fl_r (fl_l (fl_l (fl_l (fl_0 rfl)))))))) | j + 4, hj => absurd hj (by omega))
  | 24, _ => exact (fun j hj => match j, (show j < 5 from hj) with | 0, _ => fl_r (fl_r (fl_l (fl_r (fl_r (fl_r (fl_l (fl_l (fl_r (fl_0 rfl))))))))) | 1, _ => fl_r (fl_r (fl_l (fl_r (fl_r (fl_r (fl_l (fl_r (fl_l (fl_0 rfl))))))))) | 2, _ => fl_r (fl_r (fl_l (fl_r (fl_r (fl_r (fl_l (fl_r (fl_r (fl_0 rfl))))))))) | 3, _ => fl_r (fl_r (fl_l (fl_r (fl_r (fl_r (fl_r (fl_l (fl_l (fl_0 rfl))))))))) | 4, _ => fl_r (fl_r (fl_l (fl_r (fl_r (fl_r (fl_r (fl_l (fl_r (fl_0 rfl))))))))) | j + 5, hj => absurd hj (by omega))
  | 25, _ => exact (fun j hj => match j, (show j < 4 from hj) with | 0, _ => fl_r (fl_r (fl_l (fl_r (fl_l (fl_r (fl_r (fl_r (fl_r (fl_0 rfl))))))))) | 1, _ => fl_r (fl_r (fl_l (fl_r (fl_r (fl_l (fl_l (fl_l (fl_0 rfl)))))))) | 2, _ => fl_r (fl_r (fl_l (fl_r (fl_r (fl_l (fl_l (fl_r (fl_l (fl_0 rfl))))))))) | 3, _ => fl_r (fl_r (fl_l (fl_r (fl_r (fl_l (fl_l (fl_r (fl_r (fl_0 rfl))))))))) | j + 4, hj => absurd hj (by omega))
  | i + 26, hi => exact absurd hi (by omega)
theorem sC6 : ∀ i, i < 26 → Cond.stringRef (fwSr.getD i ("", 0, "", [])).1 (fwSr.getD i ("", 0, "", [])).2.1 (fwSr.getD i ("", 0, "", [])).2.2.1 ∈ lw_tbl := by
  intro i hi
  match i, hi with
  | 0, _ => exact fw_in_2 (List.mem_of_getElem? (i := 190) rfl)
  | 1, _ => exact fw_in_2 (List.mem_of_getElem? (i := 191) rfl)
  | 2, _ => exact fw_in_2 (List.mem_of_getElem? (i := 192) rfl)
  | 3, _ => exact fw_in_2 (List.mem_of_getElem? (i := 193) rfl)
  | 4, _ => exact fw_in_2 (List.mem_of_getElem? (i := 194) rfl)
  | 5, _ => exact fw_in_2 (List.mem_of_getElem? (i := 195) rfl)
  | 6, _ => exact fw_in_2 (List.mem_of_getElem? (i := 196) rfl)
  | 7, _ => exact fw_in_2 (List.mem_of_getElem? (i := 197) rfl)
  | 8, _ => exact fw_in_2 (List.mem_of_getElem? (i := 198) rfl)
  | 9, _ => exact fw_in_2 (List.mem_of_getElem? (i := 199) rfl)
  | 10, _ => exact fw_in_2 (List.mem_of_getElem? (i := 200) rfl)
  | 11, _ => exact fw_in_2 (List.mem_of_getElem? (i := 201) rfl)
  | 12, _ => exact fw_in_2 (List.mem_of_getElem? (i := 202) rfl)
  | 13, _ => exact fw_in_7 (List.mem_of_getElem? (i := 19) rfl)
  | 14, _ => exact fw_in_7 (List.mem_of_getElem? (i := 43) rfl)
  | 15, _ => exact fw_in_7 (List.mem_of_getElem? (i := 48) rfl)
  | 16, _ => exact fw_in_7 (List.mem_of_getElem? (i := 49) rfl)
  | 17, _ => exact fw_in_7 (List.mem_of_getElem? (i := 56) rfl)
  | 18, _ => exact fw_in_7 (List.mem_of_getElem? (i := 62) rfl)
  | 19, _ => exact fw_in_7 (List.mem_of_getElem? (i := 63) rfl)
  | 20, _ => exact fw_in_7 (List.mem_of_getElem? (i := 64) rfl)
  | 21, _ => exact fw_in_7 (List.mem_of_getElem? (i := 65) rfl)
  | 22, _ => exact fw_in_7 (List.mem_of_getElem? (i := 66) rfl)
  | 23, _ => exact fw_in_7 (List.mem_of_getElem? (i := 57) rfl)
  | 24, _ => exact fw_in_7 (List.mem_of_getElem? (i := 51) rfl)
  | 25, _ => exact fw_in_7 (List.mem_of_getElem? (i := 50) rfl)
  | i + 26, hi => exact absurd hi (by omega)
theorem s_str {A : Array Value} {s : State} {Z : Nat → Prop} (hgv : (Jvm.Cond.and given_1 narrow_1).before A s = true) (hZ : ∀ a : Nat, a < s.heap.size → ¬ Z a) : ∃ ad : Nat → Nat × Nat, ∀ i, i < 26 → (sTm i).eval A s none [] s = some (.ref (ad i).1) ∧ va_O "java/lang/String" (ad i).1 Z s s.heap ∧ va_OF "java/lang/String" "coder" "B" (.int 0) (ad i).1 Z s s.heap ∧ va_OF "java/lang/String" "value" "[B" (.ref (ad i).2) (ad i).1 Z s s.heap ∧ va_T .byte (ad i).2 (fwSb i).length (fun j => .int (Int32.ofInt ((fwSb i).getD j 0))) Z s s.heap := by
  have hs := flat_of_before _ hgv
  have h0 : ∀ i : Nat, ∃ q : Nat × Nat, i < 26 → (sTm i).eval A s none [] s = some (.ref q.1) ∧ va_O "java/lang/String" q.1 Z s s.heap ∧ va_OF "java/lang/String" "coder" "B" (.int 0) q.1 Z s s.heap ∧ va_OF "java/lang/String" "value" "[B" (.ref q.2) q.1 Z s s.heap ∧ va_T .byte q.2 (fwSb i).length (fun j => .int (Int32.ofInt ((fwSb i).getD j 0))) Z s s.heap := by
    intro i
    by_cases hi : i < 26
    · have h5 := fwSb_len i hi
      obtain ⟨a, c, cA, kA, q1, q2, q3, q4, q5, q6, -⟩ := Cond.exactly_spec (args := A) (first := s) (o := none) (s := s) (idx := []) (t := sTm i) (cls := "java/lang/String") (hs _ (sC1 i hi))
      obtain ⟨t, ht, hT⟩ := va_Tof (f := fun j => .int (Int32.ofInt ((fwSb i).getD j 0))) (A := Z) (N := (fwSb i).length) (by omega) (hs _ (sC3 i hi)) (va_eqt (hs _ (sC4 i hi))) (fun j hj => va_eqt (hs _ (sC5 i hi j hj))) hZ
      exact ⟨(a, t), fun _ => ⟨q1, ⟨cA, q3, q5, by rw [q6]; exact q2, hZ a (Array.getElem?_eq_some_iff.mp q3).1⟩, vk_OFof q1 (va_eqt (hs _ (sC2 i hi))) hZ, vk_OFof q1 ht hZ, hT⟩⟩
    · exact ⟨(0, 0), fun h => absurd h hi⟩
  obtain ⟨ad, had⟩ := Classical.axiomOfChoice h0
  exact ⟨ad, had⟩
def sOT : List (List Nat) := [[0], [1], [6], [15, 7, 24, 32, 40], [16, 8, 25, 33, 41, 57], [18, 10, 27, 35, 43], [59], [61], [63], [67], [68], [49], [72], [2], [3], [4], [5], [17, 9, 26, 34, 42, 58], [19, 11, 28, 36, 44], [20, 12, 29, 37, 45], [21, 13, 30, 38, 46], [22, 14, 31, 39, 47], [23], [48], [60], [62], [64], [65], [66], [69], [70], [71], [50], [51, 52, 53, 54], [55], [56], [73], [74], [75], [76], [77], [78], [79], [80], [81], [82], [83], [84], [85], [86]]
def sOff (k i : Nat) : Nat := (sOT.getD k []).getD i 0
/-- where the cells lie: the class's and the other's from n0 on, the Strings as they were, the script at b -/
def sAd (n0 : Nat) (a5 : Nat → Nat × Nat) (a52 b : Nat) : Nat → Nat → Nat := fun k i => if k < 50 then n0 + sOff k i else if k = 50 then (a5 i).1 else if k = 51 then (a5 i).2 else if k = 52 then a52 else b
theorem sAd_lt {n0 : Nat} {a5 : Nat → Nat × Nat} {a52 b k i : Nat} (h : k < 50) : sAd n0 a5 a52 b k i = n0 + sOff k i := if_pos h
theorem fwNk_lt {k i : Nat} (h : i < fwNk k) : k < 50 := by
  have := fwPr_mem h
  obtain ⟨k', hk, h2⟩ := List.mem_flatMap.mp this
  obtain ⟨i', -, h3⟩ := List.mem_map.mp h2
  cases h3
  exact List.mem_range.mp hk
theorem sOff_inj : ∀ q ∈ fwPr, ∀ q' ∈ fwPr, sOff q.1 q.2 = sOff q'.1 q'.2 → q = q' := by decide +kernel
theorem sAd_inj (n0 : Nat) (a5 : Nat → Nat × Nat) (a52 b : Nat) : fwInj (sAd n0 a5 a52 b) := by
  intro k i k' i' h1 h2 e
  rw [sAd_lt (fwNk_lt h1), sAd_lt (fwNk_lt h2)] at e
  have := sOff_inj (k, i) (fwPr_mem h1) (k', i') (fwPr_mem h2) (by dsimp only; omega)
  cases this
  exact ⟨rfl, rfl⟩
theorem sA_ge {n0 : Nat} {a5 : Nat → Nat × Nat} {a52 b q : Nat} (h : fwA (sAd n0 a5 a52 b) q) : n0 ≤ q := by
  obtain ⟨k, i, hi, rfl⟩ := h
  rw [sAd_lt (fwNk_lt hi)]
  exact Nat.le_add_right _ _
theorem sT1 : Cond.arrayOf (.static "FootLower$Petition" "THREES" "[I") .int ∈ flatC (Jvm.Cond.and given_1 narrow_1) := fl_r (fl_l (fl_l (fl_l (fl_l (fl_r (fl_l (fl_l (fl_r (fl_0 rfl)))))))))
theorem sT2 : Cond.eq (.length (.static "FootLower$Petition" "THREES" "[I")) (.int (Int32.ofNat 8)) ∈ flatC (Jvm.Cond.and given_1 narrow_1) := fl_r (fl_l (fl_l (fl_l (fl_l (fl_r (fl_l (fl_r (fl_l (fl_0 rfl)))))))))
theorem sT3 : ∀ j, j < 8 → Cond.eq (.elem (.static "FootLower$Petition" "THREES" "[I") (.int (Int32.ofNat j))) (.int (Int32.ofInt (fwTh.getD j 0))) ∈ flatC (Jvm.Cond.and given_1 narrow_1) := by
  intro j hj
  match j, hj with
  | 0, _ => exact fl_r (fl_l (fl_l (fl_l (fl_l (fl_r (fl_l (fl_r (fl_r (fl_0 rfl)))))))))
  | 1, _ => exact fl_r (fl_l (fl_l (fl_l (fl_l (fl_r (fl_r (fl_l (fl_l (fl_0 rfl)))))))))
  | 2, _ => exact fl_r (fl_l (fl_l (fl_l (fl_l (fl_r (fl_r (fl_l (fl_r (fl_0 rfl)))))))))
  | 3, _ => exact fl_r (fl_l (fl_l (fl_l (fl_l (fl_r (fl_r (fl_r (fl_l (fl_0 rfl)))))))))
  | 4, _ => exact fl_r (fl_l (fl_l (fl_l (fl_l (fl_r (fl_r (fl_r (fl_r (fl_0 rfl)))))))))
  | 5, _ => exact fl_r (fl_l (fl_l (fl_l (fl_r (fl_l (fl_l (fl_l (fl_0 rfl))))))))
  | 6, _ => exact fl_r (fl_l (fl_l (fl_l (fl_r (fl_l (fl_l (fl_r (fl_l (fl_0 rfl)))))))))
  | 7, _ => exact fl_r (fl_l (fl_l (fl_l (fl_r (fl_l (fl_l (fl_r (fl_r (fl_0 rfl)))))))))
  | j + 8, hj => exact absurd hj (by omega)
theorem sT4 : Cond.eq (.static "java/lang/String" "COMPACT_STRINGS" "Z") (.int 1) ∈ flatC (Jvm.Cond.and given_1 narrow_1) := fl_r (fl_l (fl_l (fl_l (fl_l (fl_l (fl_l (fl_r (fl_r (fl_0 rfl)))))))))
theorem sT5 : Cond.isRef (.static "jdk/internal/util/Preconditions" "SIOOBE_FORMATTER" "Ljava/util/function/BiFunction;") ∈ flatC (Jvm.Cond.and given_1 narrow_1) := fl_r (fl_l (fl_l (fl_l (fl_l (fl_l (fl_r (fl_l (fl_l (fl_0 rfl)))))))))
theorem sL1 : Cond.laysStatic "FootLower$Petition" "THREES" "[I" ∈ lw_tbl := fw_in_4 (List.mem_of_getElem? (i := 172) rfl)
theorem sL2 : Cond.laysStatic "java/lang/String" "COMPACT_STRINGS" "Z" ∈ lw_tbl := fw_in_2 (List.mem_of_getElem? (i := 216) rfl)
theorem sL3 : Cond.laysStatic "jdk/internal/util/Preconditions" "SIOOBE_FORMATTER" "Ljava/util/function/BiFunction;" ∈ lw_tbl := fw_in_2 (List.mem_of_getElem? (i := 232) rfl)
theorem sI1 : Cond.initialized "FootLower$Petition" ∈ lw_tbl := fw_in_1 (List.mem_of_getElem? (i := 8) rfl)
theorem sI2 : Cond.initialized "java/lang/String" ∈ lw_tbl := fw_in_1 (List.mem_of_getElem? (i := 14) rfl)
theorem sI3 : Cond.initialized "jdk/internal/util/Preconditions" ∈ lw_tbl := fw_in_1 (List.mem_of_getElem? (i := 16) rfl)
theorem s_cs {A : Array Value} {s : State} (b : Nat) (hts : ∀ w ∈ lw_tbl, w.before A s = true) (hgv : (Jvm.Cond.and given_1 narrow_1).before A s = true) : ∃ (a5 : Nat → Nat × Nat) (a52 : Nat), fwCs (sAd s.heap.size a5 a52 b) s s.heap := by
  have hs := flat_of_before _ hgv
  obtain ⟨a5, h5⟩ := s_str (Z := kA s.heap.size) hgv (fun a h => Nat.not_le.mpr h)
  obtain ⟨a52, ht, hT⟩ := va_Tof (f := fun j => .int (Int32.ofInt (fwTh.getD j 0))) (A := kA s.heap.size) (N := 8) (by decide) (hs _ sT1) (va_eqt (hs _ sT2)) (fun j hj => va_eqt (hs _ (sT3 j hj))) (fun a h => Nat.not_le.mpr h)
  have hZ : ∀ a : Nat, a < s.heap.size → ¬ kA s.heap.size a := fun a h => Nat.not_le.mpr h
  have hn : ∀ q, fwA (sAd s.heap.size a5 a52 b) q → kA s.heap.size q := fun q h => sA_ge h
  refine ⟨a5, a52, fun i hi => ?_, fun i own k tx by_ hi => ?_, ?_, ?_, ?_, ?_, ?_⟩
  · obtain ⟨-, q2, q3, q4, q5⟩ := h5 i hi
    exact ⟨q2.narrow hn, q3.narrow hn, q4.narrow hn, q5.narrow hn⟩
  · have hl : i < 26 := (List.getElem?_eq_some_iff.mp hi).1
    have e : fwSr.getD i ("", 0, "", []) = (own, k, tx, by_) := by rw [List.getD_eq_getElem?_getD, hi]; rfl
    have w1 := hts _ (sC6 i hl)
    have w2 := (h5 i hl).1
    unfold sTm at w2
    rw [e] at w1 w2
    exact vk_R.of w1 w2
  · exact (va_Zref (hts _ sL1) (hts _ sI1) ht hZ).narrow hn
  · exact hT.narrow hn
  · exact (va_Zof (hts _ sL2) (hts _ sI2) (va_eqt (hs _ sT4)) hZ).narrow hn
  · exact (va_Zqof (hts _ sL3) (hts _ sI3) (hs _ sT5) hZ).narrow hn
  · exact fun a i b n d hh hw => va_Nw.of rfl (hts _ hw)
end
