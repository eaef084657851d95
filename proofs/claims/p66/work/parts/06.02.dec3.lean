theorem bX12_shape_13 : bL cX12_shape 13 [184, 0, 65, 154, 0, 6, 16, 254, 172, 42, 27, 182, 1, 88, 61, 28, 19, 1, 79, 160, 0, 8, 16, 254] := bL_of (by decide +kernel)
theorem dX12_shape_13 : decode cX12_shape 13 = .ok (.invokestatic 65, 3) := dk184 (k := 0) bX12_shape_13 rfl rfl
theorem dX12_shape_16 : decode cX12_shape 16 = .ok (.ifCond .ne 6, 3) := dk154 (k := 3) bX12_shape_13 rfl (by decide)
theorem dX12_shape_19 : decode cX12_shape 19 = .ok (.bipush (-2), 2) := dk16 (k := 6) bX12_shape_13 rfl (by decide)
theorem dX12_shape_21 : decode cX12_shape 21 = .ok (.ireturn, 1) := dk172 (k := 8) bX12_shape_13 rfl
theorem dX12_shape_22 : decode cX12_shape 22 = .ok (.aload_n 0, 1) := dk42 (k := 9) bX12_shape_13 rfl
theorem dX12_shape_23 : decode cX12_shape 23 = .ok (.iload_n 1, 1) := dk27 (k := 10) bX12_shape_13 rfl
theorem dX12_shape_24 : decode cX12_shape 24 = .ok (.invokevirtual 344, 3) := dk182 (k := 11) bX12_shape_13 rfl rfl
theorem dX12_shape_27 : decode cX12_shape 27 = .ok (.istore_n 2, 1) := dk61 (k := 14) bX12_shape_13 rfl
theorem dX12_shape_28 : decode cX12_shape 28 = .ok (.iload_n 2, 1) := dk28 (k := 15) bX12_shape_13 rfl
theorem dX12_shape_29 : decode cX12_shape 29 = .ok (.ldc_w 335, 3) := dk19 (k := 16) bX12_shape_13 rfl rfl
theorem dX12_shape_32 : decode cX12_shape 32 = .ok (.if_icmp .ne 8, 3) := dk160 (k := 19) bX12_shape_13 rfl (by decide)
theorem dX12_shape_35 : decode cX12_shape 35 = .ok (.bipush (-2), 2) := dk16 (k := 22) bX12_shape_13 rfl (by decide)
theorem bX12_shape_37 : bL cX12_shape 37 [167, 0, 4, 28, 172] := bL_of (by decide +kernel)
theorem dX12_shape_37 : decode cX12_shape 37 = .ok (.goto 4, 3) := dk167 (k := 0) bX12_shape_37 rfl (by decide)
theorem dX12_shape_40 : decode cX12_shape 40 = .ok (.iload_n 2, 1) := dk28 (k := 3) bX12_shape_37 rfl
theorem dX12_shape_41 : decode cX12_shape 41 = .ok (.ireturn, 1) := dk172 (k := 4) bX12_shape_37 rfl
theorem bX12_shaped_0 : bL cX12_shaped 0 [42, 182, 0, 73, 153, 0, 26, 27, 133, 9, 20, 1, 86, 184, 0, 65, 153, 0, 14, 42, 27, 182, 1, 88] := bL_of (by decide +kernel)
theorem dX12_shaped_0 : decode cX12_shaped 0 = .ok (.aload_n 0, 1) := dk42 (k := 0) bX12_shaped_0 rfl
theorem dX12_shaped_1 : decode cX12_shaped 1 = .ok (.invokevirtual 73, 3) := dk182 (k := 1) bX12_shaped_0 rfl rfl
theorem dX12_shaped_4 : decode cX12_shaped 4 = .ok (.ifCond .eq 26, 3) := dk153 (k := 4) bX12_shaped_0 rfl (by decide)
theorem dX12_shaped_7 : decode cX12_shaped 7 = .ok (.iload_n 1, 1) := dk27 (k := 7) bX12_shaped_0 rfl
theorem dX12_shaped_8 : decode cX12_shaped 8 = .ok (.i2l, 1) := dk133 (k := 8) bX12_shaped_0 rfl
theorem dX12_shaped_9 : decode cX12_shaped 9 = .ok (.lconst 0, 1) := dk9 (k := 9) bX12_shaped_0 rfl
theorem dX12_shaped_10 : decode cX12_shaped 10 = .ok (.ldc2_w 342, 3) := dk20 (k := 10) bX12_shaped_0 rfl rfl
theorem dX12_shaped_13 : decode cX12_shaped 13 = .ok (.invokestatic 65, 3) := dk184 (k := 13) bX12_shaped_0 rfl rfl
theorem dX12_shaped_16 : decode cX12_shaped 16 = .ok (.ifCond .eq 14, 3) := dk153 (k := 16) bX12_shaped_0 rfl (by decide)
theorem dX12_shaped_19 : decode cX12_shaped 19 = .ok (.aload_n 0, 1) := dk42 (k := 19) bX12_shaped_0 rfl
theorem dX12_shaped_20 : decode cX12_shaped 20 = .ok (.iload_n 1, 1) := dk27 (k := 20) bX12_shaped_0 rfl
theorem dX12_shaped_21 : decode cX12_shaped 21 = .ok (.invokevirtual 344, 3) := dk182 (k := 21) bX12_shaped_0 rfl rfl
theorem bX12_shaped_24 : bL cX12_shaped 24 [19, 1, 79, 160, 0, 6, 16, 254, 172, 28, 133, 9, 27, 4, 100, 133, 184, 0, 65, 153, 0, 12, 42, 180, 0, 44] := bL_of (by decide +kernel)
theorem dX12_shaped_24 : decode cX12_shaped 24 = .ok (.ldc_w 335, 3) := dk19 (k := 0) bX12_shaped_24 rfl rfl
theorem dX12_shaped_27 : decode cX12_shaped 27 = .ok (.if_icmp .ne 6, 3) := dk160 (k := 3) bX12_shaped_24 rfl (by decide)
theorem dX12_shaped_30 : decode cX12_shaped 30 = .ok (.bipush (-2), 2) := dk16 (k := 6) bX12_shaped_24 rfl (by decide)
theorem dX12_shaped_32 : decode cX12_shaped 32 = .ok (.ireturn, 1) := dk172 (k := 8) bX12_shaped_24 rfl
theorem dX12_shaped_33 : decode cX12_shaped 33 = .ok (.iload_n 2, 1) := dk28 (k := 9) bX12_shaped_24 rfl
theorem dX12_shaped_34 : decode cX12_shaped 34 = .ok (.i2l, 1) := dk133 (k := 10) bX12_shaped_24 rfl
theorem dX12_shaped_35 : decode cX12_shaped 35 = .ok (.lconst 0, 1) := dk9 (k := 11) bX12_shaped_24 rfl
theorem dX12_shaped_36 : decode cX12_shaped 36 = .ok (.iload_n 1, 1) := dk27 (k := 12) bX12_shaped_24 rfl
theorem dX12_shaped_37 : decode cX12_shaped 37 = .ok (.iconst 1, 1) := dk4 (k := 13) bX12_shaped_24 rfl
theorem dX12_shaped_38 : decode cX12_shaped 38 = .ok (.isub, 1) := dk100 (k := 14) bX12_shaped_24 rfl
theorem dX12_shaped_39 : decode cX12_shaped 39 = .ok (.i2l, 1) := dk133 (k := 15) bX12_shaped_24 rfl
theorem dX12_shaped_40 : decode cX12_shaped 40 = .ok (.invokestatic 65, 3) := dk184 (k := 16) bX12_shaped_24 rfl rfl
theorem dX12_shaped_43 : decode cX12_shaped 43 = .ok (.ifCond .eq 12, 3) := dk153 (k := 19) bX12_shaped_24 rfl (by decide)
theorem dX12_shaped_46 : decode cX12_shaped 46 = .ok (.aload_n 0, 1) := dk42 (k := 22) bX12_shaped_24 rfl
theorem dX12_shaped_47 : decode cX12_shaped 47 = .ok (.getfield 44, 3) := dk180 (k := 23) bX12_shaped_24 rfl rfl
theorem bX12_shaped_50 : bL cX12_shaped 50 [28, 46, 167, 0, 4, 2, 172] := bL_of (by decide +kernel)
theorem dX12_shaped_50 : decode cX12_shaped 50 = .ok (.iload_n 2, 1) := dk28 (k := 0) bX12_shaped_50 rfl
theorem dX12_shaped_51 : decode cX12_shaped 51 = .ok (.iaload, 1) := dk46 (k := 1) bX12_shaped_50 rfl
theorem dX12_shaped_52 : decode cX12_shaped 52 = .ok (.goto 4, 3) := dk167 (k := 2) bX12_shaped_50 rfl (by decide)
theorem dX12_shaped_55 : decode cX12_shaped 55 = .ok (.iconst (-1), 1) := dk2 (k := 5) bX12_shaped_50 rfl
theorem dX12_shaped_56 : decode cX12_shaped 56 = .ok (.ireturn, 1) := dk172 (k := 6) bX12_shaped_50 rfl
theorem bX12_spoil_0 : bL cX12_spoil 0 [42, 182, 0, 73, 154, 0, 6, 16, 254, 172, 2, 60, 19, 1, 79, 61, 3, 62, 29, 42, 180, 0, 9, 3] := bL_of (by decide +kernel)
theorem dX12_spoil_0 : decode cX12_spoil 0 = .ok (.aload_n 0, 1) := dk42 (k := 0) bX12_spoil_0 rfl
theorem dX12_spoil_1 : decode cX12_spoil 1 = .ok (.invokevirtual 73, 3) := dk182 (k := 1) bX12_spoil_0 rfl rfl
theorem dX12_spoil_4 : decode cX12_spoil 4 = .ok (.ifCond .ne 6, 3) := dk154 (k := 4) bX12_spoil_0 rfl (by decide)
theorem dX12_spoil_7 : decode cX12_spoil 7 = .ok (.bipush (-2), 2) := dk16 (k := 7) bX12_spoil_0 rfl (by decide)
theorem dX12_spoil_9 : decode cX12_spoil 9 = .ok (.ireturn, 1) := dk172 (k := 9) bX12_spoil_0 rfl
theorem dX12_spoil_10 : decode cX12_spoil 10 = .ok (.iconst (-1), 1) := dk2 (k := 10) bX12_spoil_0 rfl
theorem dX12_spoil_11 : decode cX12_spoil 11 = .ok (.istore_n 1, 1) := dk60 (k := 11) bX12_spoil_0 rfl
theorem dX12_spoil_12 : decode cX12_spoil 12 = .ok (.ldc_w 335, 3) := dk19 (k := 12) bX12_spoil_0 rfl rfl
theorem dX12_spoil_15 : decode cX12_spoil 15 = .ok (.istore_n 2, 1) := dk61 (k := 15) bX12_spoil_0 rfl
theorem dX12_spoil_16 : decode cX12_spoil 16 = .ok (.iconst 0, 1) := dk3 (k := 16) bX12_spoil_0 rfl
theorem dX12_spoil_17 : decode cX12_spoil 17 = .ok (.istore_n 3, 1) := dk62 (k := 17) bX12_spoil_0 rfl
theorem dX12_spoil_18 : decode cX12_spoil 18 = .ok (.iload_n 3, 1) := dk29 (k := 18) bX12_spoil_0 rfl
theorem dX12_spoil_19 : decode cX12_spoil 19 = .ok (.aload_n 0, 1) := dk42 (k := 19) bX12_spoil_0 rfl
theorem dX12_spoil_20 : decode cX12_spoil 20 = .ok (.getfield 9, 3) := dk180 (k := 20) bX12_spoil_0 rfl rfl
theorem dX12_spoil_23 : decode cX12_spoil 23 = .ok (.iconst 0, 1) := dk3 (k := 23) bX12_spoil_0 rfl
theorem bX12_spoil_24 : bL cX12_spoil 24 [46, 162, 0, 40, 42, 182, 0, 240, 42, 29, 182, 0, 197, 2, 159, 0, 21, 42, 182, 0, 251, 28, 163, 0, 6] := bL_of (by decide +kernel)
theorem dX12_spoil_24 : decode cX12_spoil 24 = .ok (.iaload, 1) := dk46 (k := 0) bX12_spoil_24 rfl
theorem dX12_spoil_25 : decode cX12_spoil 25 = .ok (.if_icmp .ge 40, 3) := dk162 (k := 1) bX12_spoil_24 rfl (by decide)
theorem dX12_spoil_28 : decode cX12_spoil 28 = .ok (.aload_n 0, 1) := dk42 (k := 4) bX12_spoil_24 rfl
theorem dX12_spoil_29 : decode cX12_spoil 29 = .ok (.invokevirtual 240, 3) := dk182 (k := 5) bX12_spoil_24 rfl rfl
theorem dX12_spoil_32 : decode cX12_spoil 32 = .ok (.aload_n 0, 1) := dk42 (k := 8) bX12_spoil_24 rfl
theorem dX12_spoil_33 : decode cX12_spoil 33 = .ok (.iload_n 3, 1) := dk29 (k := 9) bX12_spoil_24 rfl
theorem dX12_spoil_34 : decode cX12_spoil 34 = .ok (.invokevirtual 197, 3) := dk182 (k := 10) bX12_spoil_24 rfl rfl
theorem dX12_spoil_37 : decode cX12_spoil 37 = .ok (.iconst (-1), 1) := dk2 (k := 13) bX12_spoil_24 rfl
theorem dX12_spoil_38 : decode cX12_spoil 38 = .ok (.if_icmp .eq 21, 3) := dk159 (k := 14) bX12_spoil_24 rfl (by decide)
theorem dX12_spoil_41 : decode cX12_spoil 41 = .ok (.aload_n 0, 1) := dk42 (k := 17) bX12_spoil_24 rfl
theorem dX12_spoil_42 : decode cX12_spoil 42 = .ok (.invokevirtual 251, 3) := dk182 (k := 18) bX12_spoil_24 rfl rfl
theorem dX12_spoil_45 : decode cX12_spoil 45 = .ok (.iload_n 2, 1) := dk28 (k := 21) bX12_spoil_24 rfl
theorem dX12_spoil_46 : decode cX12_spoil 46 = .ok (.if_icmp .gt 6, 3) := dk163 (k := 22) bX12_spoil_24 rfl (by decide)
theorem bX12_spoil_49 : bL cX12_spoil 49 [167, 0, 10, 42, 182, 0, 251, 61, 29, 60, 132, 3, 1, 167, 255, 212, 27, 172] := bL_of (by decide +kernel)
theorem dX12_spoil_49 : decode cX12_spoil 49 = .ok (.goto 10, 3) := dk167 (k := 0) bX12_spoil_49 rfl (by decide)
theorem dX12_spoil_52 : decode cX12_spoil 52 = .ok (.aload_n 0, 1) := dk42 (k := 3) bX12_spoil_49 rfl
theorem dX12_spoil_53 : decode cX12_spoil 53 = .ok (.invokevirtual 251, 3) := dk182 (k := 4) bX12_spoil_49 rfl rfl
theorem dX12_spoil_56 : decode cX12_spoil 56 = .ok (.istore_n 2, 1) := dk61 (k := 7) bX12_spoil_49 rfl
theorem dX12_spoil_57 : decode cX12_spoil 57 = .ok (.iload_n 3, 1) := dk29 (k := 8) bX12_spoil_49 rfl
theorem dX12_spoil_58 : decode cX12_spoil 58 = .ok (.istore_n 1, 1) := dk60 (k := 9) bX12_spoil_49 rfl
theorem dX12_spoil_59 : decode cX12_spoil 59 = .ok (.iinc 3 1, 3) := dk132 (k := 10) bX12_spoil_49 rfl rfl (by decide)
theorem dX12_spoil_62 : decode cX12_spoil 62 = .ok (.goto (-44), 3) := dk167 (k := 13) bX12_spoil_49 rfl (by decide)
theorem dX12_spoil_65 : decode cX12_spoil 65 = .ok (.iload_n 1, 1) := dk27 (k := 16) bX12_spoil_49 rfl
theorem dX12_spoil_66 : decode cX12_spoil 66 = .ok (.ireturn, 1) := dk172 (k := 17) bX12_spoil_49 rfl
theorem bX12_raisers_0 : bL cX12_raisers 0 [42, 182, 0, 73, 154, 0, 6, 16, 254, 172, 42, 182, 0, 240, 42, 182, 0, 200, 60, 3, 61, 3, 62, 29] := bL_of (by decide +kernel)
theorem dX12_raisers_0 : decode cX12_raisers 0 = .ok (.aload_n 0, 1) := dk42 (k := 0) bX12_raisers_0 rfl
theorem dX12_raisers_1 : decode cX12_raisers 1 = .ok (.invokevirtual 73, 3) := dk182 (k := 1) bX12_raisers_0 rfl rfl
theorem dX12_raisers_4 : decode cX12_raisers 4 = .ok (.ifCond .ne 6, 3) := dk154 (k := 4) bX12_raisers_0 rfl (by decide)
theorem dX12_raisers_7 : decode cX12_raisers 7 = .ok (.bipush (-2), 2) := dk16 (k := 7) bX12_raisers_0 rfl (by decide)
theorem dX12_raisers_9 : decode cX12_raisers 9 = .ok (.ireturn, 1) := dk172 (k := 9) bX12_raisers_0 rfl
theorem dX12_raisers_10 : decode cX12_raisers 10 = .ok (.aload_n 0, 1) := dk42 (k := 10) bX12_raisers_0 rfl
theorem dX12_raisers_11 : decode cX12_raisers 11 = .ok (.invokevirtual 240, 3) := dk182 (k := 11) bX12_raisers_0 rfl rfl
theorem dX12_raisers_14 : decode cX12_raisers 14 = .ok (.aload_n 0, 1) := dk42 (k := 14) bX12_raisers_0 rfl
theorem dX12_raisers_15 : decode cX12_raisers 15 = .ok (.invokevirtual 200, 3) := dk182 (k := 15) bX12_raisers_0 rfl rfl
theorem dX12_raisers_18 : decode cX12_raisers 18 = .ok (.istore_n 1, 1) := dk60 (k := 18) bX12_raisers_0 rfl
theorem dX12_raisers_19 : decode cX12_raisers 19 = .ok (.iconst 0, 1) := dk3 (k := 19) bX12_raisers_0 rfl
theorem dX12_raisers_20 : decode cX12_raisers 20 = .ok (.istore_n 2, 1) := dk61 (k := 20) bX12_raisers_0 rfl
theorem dX12_raisers_21 : decode cX12_raisers 21 = .ok (.iconst 0, 1) := dk3 (k := 21) bX12_raisers_0 rfl
theorem dX12_raisers_22 : decode cX12_raisers 22 = .ok (.istore_n 3, 1) := dk62 (k := 22) bX12_raisers_0 rfl
theorem dX12_raisers_23 : decode cX12_raisers 23 = .ok (.iload_n 3, 1) := dk29 (k := 23) bX12_raisers_0 rfl
theorem bX12_raisers_24 : bL cX12_raisers 24 [42, 180, 0, 9, 16, 6, 46, 162, 0, 56, 42, 29, 182, 0, 232, 54, 4, 42, 180, 0, 34, 27, 92, 46] := bL_of (by decide +kernel)
theorem dX12_raisers_24 : decode cX12_raisers 24 = .ok (.aload_n 0, 1) := dk42 (k := 0) bX12_raisers_24 rfl
theorem dX12_raisers_25 : decode cX12_raisers 25 = .ok (.getfield 9, 3) := dk180 (k := 1) bX12_raisers_24 rfl rfl
theorem dX12_raisers_28 : decode cX12_raisers 28 = .ok (.bipush 6, 2) := dk16 (k := 4) bX12_raisers_24 rfl (by decide)
theorem dX12_raisers_30 : decode cX12_raisers 30 = .ok (.iaload, 1) := dk46 (k := 6) bX12_raisers_24 rfl
theorem dX12_raisers_31 : decode cX12_raisers 31 = .ok (.if_icmp .ge 56, 3) := dk162 (k := 7) bX12_raisers_24 rfl (by decide)
theorem dX12_raisers_34 : decode cX12_raisers 34 = .ok (.aload_n 0, 1) := dk42 (k := 10) bX12_raisers_24 rfl
theorem dX12_raisers_35 : decode cX12_raisers 35 = .ok (.iload_n 3, 1) := dk29 (k := 11) bX12_raisers_24 rfl
theorem dX12_raisers_36 : decode cX12_raisers 36 = .ok (.invokevirtual 232, 3) := dk182 (k := 12) bX12_raisers_24 rfl rfl
theorem dX12_raisers_39 : decode cX12_raisers 39 = .ok (.istore 4, 2) := dk54 (k := 15) bX12_raisers_24 rfl rfl
theorem dX12_raisers_41 : decode cX12_raisers 41 = .ok (.aload_n 0, 1) := dk42 (k := 17) bX12_raisers_24 rfl
theorem dX12_raisers_42 : decode cX12_raisers 42 = .ok (.getfield 34, 3) := dk180 (k := 18) bX12_raisers_24 rfl rfl
theorem dX12_raisers_45 : decode cX12_raisers 45 = .ok (.iload_n 1, 1) := dk27 (k := 21) bX12_raisers_24 rfl
theorem dX12_raisers_46 : decode cX12_raisers 46 = .ok (.dup2, 1) := dk92 (k := 22) bX12_raisers_24 rfl
theorem dX12_raisers_47 : decode cX12_raisers 47 = .ok (.iaload, 1) := dk46 (k := 23) bX12_raisers_24 rfl
theorem bX12_raisers_48 : bL cX12_raisers 48 [4, 96, 79, 28, 42, 29, 182, 0, 232, 21, 4, 164, 0, 9, 4, 29, 120, 167, 0, 4, 3, 128, 61, 42] := bL_of (by decide +kernel)
theorem dX12_raisers_48 : decode cX12_raisers 48 = .ok (.iconst 1, 1) := dk4 (k := 0) bX12_raisers_48 rfl
theorem dX12_raisers_49 : decode cX12_raisers 49 = .ok (.iadd, 1) := dk96 (k := 1) bX12_raisers_48 rfl
theorem dX12_raisers_50 : decode cX12_raisers 50 = .ok (.iastore, 1) := dk79 (k := 2) bX12_raisers_48 rfl
theorem dX12_raisers_51 : decode cX12_raisers 51 = .ok (.iload_n 2, 1) := dk28 (k := 3) bX12_raisers_48 rfl
theorem dX12_raisers_52 : decode cX12_raisers 52 = .ok (.aload_n 0, 1) := dk42 (k := 4) bX12_raisers_48 rfl
theorem dX12_raisers_53 : decode cX12_raisers 53 = .ok (.iload_n 3, 1) := dk29 (k := 5) bX12_raisers_48 rfl
theorem dX12_raisers_54 : decode cX12_raisers 54 = .ok (.invokevirtual 232, 3) := dk182 (k := 6) bX12_raisers_48 rfl rfl
theorem dX12_raisers_57 : decode cX12_raisers 57 = .ok (.iload 4, 2) := dk21 (k := 9) bX12_raisers_48 rfl rfl
theorem dX12_raisers_59 : decode cX12_raisers 59 = .ok (.if_icmp .le 9, 3) := dk164 (k := 11) bX12_raisers_48 rfl (by decide)
theorem dX12_raisers_62 : decode cX12_raisers 62 = .ok (.iconst 1, 1) := dk4 (k := 14) bX12_raisers_48 rfl
theorem dX12_raisers_63 : decode cX12_raisers 63 = .ok (.iload_n 3, 1) := dk29 (k := 15) bX12_raisers_48 rfl
theorem dX12_raisers_64 : decode cX12_raisers 64 = .ok (.ishl, 1) := dk120 (k := 16) bX12_raisers_48 rfl
theorem dX12_raisers_65 : decode cX12_raisers 65 = .ok (.goto 4, 3) := dk167 (k := 17) bX12_raisers_48 rfl (by decide)
theorem dX12_raisers_68 : decode cX12_raisers 68 = .ok (.iconst 0, 1) := dk3 (k := 20) bX12_raisers_48 rfl
theorem dX12_raisers_69 : decode cX12_raisers 69 = .ok (.ior, 1) := dk128 (k := 21) bX12_raisers_48 rfl
theorem dX12_raisers_70 : decode cX12_raisers 70 = .ok (.istore_n 2, 1) := dk61 (k := 22) bX12_raisers_48 rfl
theorem dX12_raisers_71 : decode cX12_raisers 71 = .ok (.aload_n 0, 1) := dk42 (k := 23) bX12_raisers_48 rfl
theorem bX12_raisers_72 : bL cX12_raisers 72 [180, 0, 34, 27, 92, 46, 4, 100, 79, 132, 3, 1, 167, 255, 195, 28, 172] := bL_of (by decide +kernel)
theorem dX12_raisers_72 : decode cX12_raisers 72 = .ok (.getfield 34, 3) := dk180 (k := 0) bX12_raisers_72 rfl rfl
theorem dX12_raisers_75 : decode cX12_raisers 75 = .ok (.iload_n 1, 1) := dk27 (k := 3) bX12_raisers_72 rfl
theorem dX12_raisers_76 : decode cX12_raisers 76 = .ok (.dup2, 1) := dk92 (k := 4) bX12_raisers_72 rfl
theorem dX12_raisers_77 : decode cX12_raisers 77 = .ok (.iaload, 1) := dk46 (k := 5) bX12_raisers_72 rfl
theorem dX12_raisers_78 : decode cX12_raisers 78 = .ok (.iconst 1, 1) := dk4 (k := 6) bX12_raisers_72 rfl
theorem dX12_raisers_79 : decode cX12_raisers 79 = .ok (.isub, 1) := dk100 (k := 7) bX12_raisers_72 rfl
theorem dX12_raisers_80 : decode cX12_raisers 80 = .ok (.iastore, 1) := dk79 (k := 8) bX12_raisers_72 rfl
theorem dX12_raisers_81 : decode cX12_raisers 81 = .ok (.iinc 3 1, 3) := dk132 (k := 9) bX12_raisers_72 rfl rfl (by decide)
theorem dX12_raisers_84 : decode cX12_raisers 84 = .ok (.goto (-61), 3) := dk167 (k := 12) bX12_raisers_72 rfl (by decide)
theorem dX12_raisers_87 : decode cX12_raisers 87 = .ok (.iload_n 2, 1) := dk28 (k := 15) bX12_raisers_72 rfl
theorem dX12_raisers_88 : decode cX12_raisers 88 = .ok (.ireturn, 1) := dk172 (k := 16) bX12_raisers_72 rfl
theorem bX12_goCourse_0 : bL cX12_goCourse 0 [42, 182, 0, 240, 3, 61, 28, 16, 60, 162, 0, 33, 42, 42, 42, 182, 1, 7, 3, 182, 1, 14, 182, 1, 4] := bL_of (by decide +kernel)
theorem dX12_goCourse_0 : decode cX12_goCourse 0 = .ok (.aload_n 0, 1) := dk42 (k := 0) bX12_goCourse_0 rfl
theorem dX12_goCourse_1 : decode cX12_goCourse 1 = .ok (.invokevirtual 240, 3) := dk182 (k := 1) bX12_goCourse_0 rfl rfl
theorem dX12_goCourse_4 : decode cX12_goCourse 4 = .ok (.iconst 0, 1) := dk3 (k := 4) bX12_goCourse_0 rfl
theorem dX12_goCourse_5 : decode cX12_goCourse 5 = .ok (.istore_n 2, 1) := dk61 (k := 5) bX12_goCourse_0 rfl
theorem dX12_goCourse_6 : decode cX12_goCourse 6 = .ok (.iload_n 2, 1) := dk28 (k := 6) bX12_goCourse_0 rfl
theorem dX12_goCourse_7 : decode cX12_goCourse 7 = .ok (.bipush 60, 2) := dk16 (k := 7) bX12_goCourse_0 rfl (by decide)
theorem dX12_goCourse_9 : decode cX12_goCourse 9 = .ok (.if_icmp .ge 33, 3) := dk162 (k := 9) bX12_goCourse_0 rfl (by decide)
theorem dX12_goCourse_12 : decode cX12_goCourse 12 = .ok (.aload_n 0, 1) := dk42 (k := 12) bX12_goCourse_0 rfl
theorem dX12_goCourse_13 : decode cX12_goCourse 13 = .ok (.aload_n 0, 1) := dk42 (k := 13) bX12_goCourse_0 rfl
theorem dX12_goCourse_14 : decode cX12_goCourse 14 = .ok (.aload_n 0, 1) := dk42 (k := 14) bX12_goCourse_0 rfl
theorem dX12_goCourse_15 : decode cX12_goCourse 15 = .ok (.invokevirtual 263, 3) := dk182 (k := 15) bX12_goCourse_0 rfl rfl
theorem dX12_goCourse_18 : decode cX12_goCourse 18 = .ok (.iconst 0, 1) := dk3 (k := 18) bX12_goCourse_0 rfl
theorem dX12_goCourse_19 : decode cX12_goCourse 19 = .ok (.invokevirtual 270, 3) := dk182 (k := 19) bX12_goCourse_0 rfl rfl
theorem dX12_goCourse_22 : decode cX12_goCourse 22 = .ok (.invokevirtual 260, 3) := dk182 (k := 22) bX12_goCourse_0 rfl rfl
theorem bX12_goCourse_25 : bL cX12_goCourse 25 [27, 161, 0, 16, 42, 182, 0, 194, 153, 0, 9, 132, 2, 1, 167, 255, 223, 28, 172] := bL_of (by decide +kernel)
theorem dX12_goCourse_25 : decode cX12_goCourse 25 = .ok (.iload_n 1, 1) := dk27 (k := 0) bX12_goCourse_25 rfl
theorem dX12_goCourse_26 : decode cX12_goCourse 26 = .ok (.if_icmp .lt 16, 3) := dk161 (k := 1) bX12_goCourse_25 rfl (by decide)
theorem dX12_goCourse_29 : decode cX12_goCourse 29 = .ok (.aload_n 0, 1) := dk42 (k := 4) bX12_goCourse_25 rfl
theorem dX12_goCourse_30 : decode cX12_goCourse 30 = .ok (.invokevirtual 194, 3) := dk182 (k := 5) bX12_goCourse_25 rfl rfl
theorem dX12_goCourse_33 : decode cX12_goCourse 33 = .ok (.ifCond .eq 9, 3) := dk153 (k := 8) bX12_goCourse_25 rfl (by decide)
theorem dX12_goCourse_36 : decode cX12_goCourse 36 = .ok (.iinc 2 1, 3) := dk132 (k := 11) bX12_goCourse_25 rfl rfl (by decide)
theorem dX12_goCourse_39 : decode cX12_goCourse 39 = .ok (.goto (-33), 3) := dk167 (k := 14) bX12_goCourse_25 rfl (by decide)
theorem dX12_goCourse_42 : decode cX12_goCourse 42 = .ok (.iload_n 2, 1) := dk28 (k := 17) bX12_goCourse_25 rfl
theorem dX12_goCourse_43 : decode cX12_goCourse 43 = .ok (.ireturn, 1) := dk172 (k := 18) bX12_goCourse_25 rfl
theorem bX12_isLaw_0 : bL cX12_isLaw 0 [42, 182, 0, 73, 153, 0, 19, 27, 133, 10, 20, 1, 91, 184, 0, 65, 153, 0, 7, 4, 167, 0, 4, 3] := bL_of (by decide +kernel)
theorem dX12_isLaw_0 : decode cX12_isLaw 0 = .ok (.aload_n 0, 1) := dk42 (k := 0) bX12_isLaw_0 rfl
theorem dX12_isLaw_1 : decode cX12_isLaw 1 = .ok (.invokevirtual 73, 3) := dk182 (k := 1) bX12_isLaw_0 rfl rfl
theorem dX12_isLaw_4 : decode cX12_isLaw 4 = .ok (.ifCond .eq 19, 3) := dk153 (k := 4) bX12_isLaw_0 rfl (by decide)
theorem dX12_isLaw_7 : decode cX12_isLaw 7 = .ok (.iload_n 1, 1) := dk27 (k := 7) bX12_isLaw_0 rfl
theorem dX12_isLaw_8 : decode cX12_isLaw 8 = .ok (.i2l, 1) := dk133 (k := 8) bX12_isLaw_0 rfl
theorem dX12_isLaw_9 : decode cX12_isLaw 9 = .ok (.lconst 1, 1) := dk10 (k := 9) bX12_isLaw_0 rfl
theorem dX12_isLaw_10 : decode cX12_isLaw 10 = .ok (.ldc2_w 347, 3) := dk20 (k := 10) bX12_isLaw_0 rfl rfl
theorem dX12_isLaw_13 : decode cX12_isLaw 13 = .ok (.invokestatic 65, 3) := dk184 (k := 13) bX12_isLaw_0 rfl rfl
theorem dX12_isLaw_16 : decode cX12_isLaw 16 = .ok (.ifCond .eq 7, 3) := dk153 (k := 16) bX12_isLaw_0 rfl (by decide)
theorem dX12_isLaw_19 : decode cX12_isLaw 19 = .ok (.iconst 1, 1) := dk4 (k := 19) bX12_isLaw_0 rfl
theorem dX12_isLaw_20 : decode cX12_isLaw 20 = .ok (.goto 4, 3) := dk167 (k := 20) bX12_isLaw_0 rfl (by decide)
theorem dX12_isLaw_23 : decode cX12_isLaw 23 = .ok (.iconst 0, 1) := dk3 (k := 23) bX12_isLaw_0 rfl
theorem bX12_isLaw_24 : bL cX12_isLaw 24 [172] := bL_of (by decide +kernel)
theorem dX12_isLaw_24 : decode cX12_isLaw 24 = .ok (.ireturn, 1) := dk172 (k := 0) bX12_isLaw_24 rfl
theorem bX12_course_0 : bL cX12_course 0 [42, 27, 182, 1, 93, 153, 0, 11, 42, 27, 182, 1, 96, 167, 0, 5, 16, 254, 172] := bL_of (by decide +kernel)
theorem dX12_course_0 : decode cX12_course 0 = .ok (.aload_n 0, 1) := dk42 (k := 0) bX12_course_0 rfl
theorem dX12_course_1 : decode cX12_course 1 = .ok (.iload_n 1, 1) := dk27 (k := 1) bX12_course_0 rfl
theorem dX12_course_2 : decode cX12_course 2 = .ok (.invokevirtual 349, 3) := dk182 (k := 2) bX12_course_0 rfl rfl
theorem dX12_course_5 : decode cX12_course 5 = .ok (.ifCond .eq 11, 3) := dk153 (k := 5) bX12_course_0 rfl (by decide)
theorem dX12_course_8 : decode cX12_course 8 = .ok (.aload_n 0, 1) := dk42 (k := 8) bX12_course_0 rfl
theorem dX12_course_9 : decode cX12_course 9 = .ok (.iload_n 1, 1) := dk27 (k := 9) bX12_course_0 rfl
theorem dX12_course_10 : decode cX12_course 10 = .ok (.invokevirtual 352, 3) := dk182 (k := 10) bX12_course_0 rfl rfl
theorem dX12_course_13 : decode cX12_course 13 = .ok (.goto 5, 3) := dk167 (k := 13) bX12_course_0 rfl (by decide)
theorem dX12_course_16 : decode cX12_course 16 = .ok (.bipush (-2), 2) := dk16 (k := 16) bX12_course_0 rfl (by decide)
theorem dX12_course_18 : decode cX12_course 18 = .ok (.ireturn, 1) := dk172 (k := 18) bX12_course_0 rfl
theorem bX12_ends_0 : bL cX12_ends 0 [42, 27, 182, 1, 93, 154, 0, 6, 16, 254, 172, 42, 27, 182, 1, 96, 87, 42, 180, 0, 34, 42, 182, 0, 200] := bL_of (by decide +kernel)
theorem dX12_ends_0 : decode cX12_ends 0 = .ok (.aload_n 0, 1) := dk42 (k := 0) bX12_ends_0 rfl
theorem dX12_ends_1 : decode cX12_ends 1 = .ok (.iload_n 1, 1) := dk27 (k := 1) bX12_ends_0 rfl
theorem dX12_ends_2 : decode cX12_ends 2 = .ok (.invokevirtual 349, 3) := dk182 (k := 2) bX12_ends_0 rfl rfl
theorem dX12_ends_5 : decode cX12_ends 5 = .ok (.ifCond .ne 6, 3) := dk154 (k := 5) bX12_ends_0 rfl (by decide)
theorem dX12_ends_8 : decode cX12_ends 8 = .ok (.bipush (-2), 2) := dk16 (k := 8) bX12_ends_0 rfl (by decide)
theorem dX12_ends_10 : decode cX12_ends 10 = .ok (.ireturn, 1) := dk172 (k := 10) bX12_ends_0 rfl
theorem dX12_ends_11 : decode cX12_ends 11 = .ok (.aload_n 0, 1) := dk42 (k := 11) bX12_ends_0 rfl
theorem dX12_ends_12 : decode cX12_ends 12 = .ok (.iload_n 1, 1) := dk27 (k := 12) bX12_ends_0 rfl
theorem dX12_ends_13 : decode cX12_ends 13 = .ok (.invokevirtual 352, 3) := dk182 (k := 13) bX12_ends_0 rfl rfl
theorem dX12_ends_16 : decode cX12_ends 16 = .ok (.pop, 1) := dk87 (k := 16) bX12_ends_0 rfl
theorem dX12_ends_17 : decode cX12_ends 17 = .ok (.aload_n 0, 1) := dk42 (k := 17) bX12_ends_0 rfl
theorem dX12_ends_18 : decode cX12_ends 18 = .ok (.getfield 34, 3) := dk180 (k := 18) bX12_ends_0 rfl rfl
theorem dX12_ends_21 : decode cX12_ends 21 = .ok (.aload_n 0, 1) := dk42 (k := 21) bX12_ends_0 rfl
theorem dX12_ends_22 : decode cX12_ends 22 = .ok (.invokevirtual 200, 3) := dk182 (k := 22) bX12_ends_0 rfl rfl
theorem bX12_ends_25 : bL cX12_ends 25 [46, 172] := bL_of (by decide +kernel)
theorem dX12_ends_25 : decode cX12_ends 25 = .ok (.iaload, 1) := dk46 (k := 0) bX12_ends_25 rfl
theorem dX12_ends_26 : decode cX12_ends 26 = .ok (.ireturn, 1) := dk172 (k := 1) bX12_ends_25 rfl
theorem bX12_left_0 : bL cX12_left 0 [42, 27, 182, 1, 93, 153, 0, 12, 42, 28, 133, 182, 0, 235, 154, 0, 7, 17, 252, 24, 172, 42, 27, 182, 1, 96] := bL_of (by decide +kernel)
theorem dX12_left_0 : decode cX12_left 0 = .ok (.aload_n 0, 1) := dk42 (k := 0) bX12_left_0 rfl
theorem dX12_left_1 : decode cX12_left 1 = .ok (.iload_n 1, 1) := dk27 (k := 1) bX12_left_0 rfl
theorem dX12_left_2 : decode cX12_left 2 = .ok (.invokevirtual 349, 3) := dk182 (k := 2) bX12_left_0 rfl rfl
theorem dX12_left_5 : decode cX12_left 5 = .ok (.ifCond .eq 12, 3) := dk153 (k := 5) bX12_left_0 rfl (by decide)
theorem dX12_left_8 : decode cX12_left 8 = .ok (.aload_n 0, 1) := dk42 (k := 8) bX12_left_0 rfl
theorem dX12_left_9 : decode cX12_left 9 = .ok (.iload_n 2, 1) := dk28 (k := 9) bX12_left_0 rfl
theorem dX12_left_10 : decode cX12_left 10 = .ok (.i2l, 1) := dk133 (k := 10) bX12_left_0 rfl
theorem dX12_left_11 : decode cX12_left 11 = .ok (.invokevirtual 235, 3) := dk182 (k := 11) bX12_left_0 rfl rfl
theorem dX12_left_14 : decode cX12_left 14 = .ok (.ifCond .ne 7, 3) := dk154 (k := 14) bX12_left_0 rfl (by decide)
theorem dX12_left_17 : decode cX12_left 17 = .ok (.sipush (-1000), 3) := dk17 (k := 17) bX12_left_0 rfl (by decide)
theorem dX12_left_20 : decode cX12_left 20 = .ok (.ireturn, 1) := dk172 (k := 20) bX12_left_0 rfl
theorem dX12_left_21 : decode cX12_left 21 = .ok (.aload_n 0, 1) := dk42 (k := 21) bX12_left_0 rfl
theorem dX12_left_22 : decode cX12_left 22 = .ok (.iload_n 1, 1) := dk27 (k := 22) bX12_left_0 rfl
theorem dX12_left_23 : decode cX12_left 23 = .ok (.invokevirtual 352, 3) := dk182 (k := 23) bX12_left_0 rfl rfl
theorem bX12_left_26 : bL cX12_left 26 [87, 42, 28, 182, 0, 232, 172] := bL_of (by decide +kernel)
theorem dX12_left_26 : decode cX12_left 26 = .ok (.pop, 1) := dk87 (k := 0) bX12_left_26 rfl
theorem dX12_left_27 : decode cX12_left 27 = .ok (.aload_n 0, 1) := dk42 (k := 1) bX12_left_26 rfl
theorem dX12_left_28 : decode cX12_left 28 = .ok (.iload_n 2, 1) := dk28 (k := 2) bX12_left_26 rfl
theorem dX12_left_29 : decode cX12_left 29 = .ok (.invokevirtual 232, 3) := dk182 (k := 3) bX12_left_26 rfl rfl
theorem dX12_left_32 : decode cX12_left 32 = .ok (.ireturn, 1) := dk172 (k := 6) bX12_left_26 rfl
theorem bX12_law_0 : bL cX12_law 0 [42, 182, 0, 73, 153, 0, 15, 27, 133, 10, 20, 1, 99, 184, 0, 65, 154, 0, 6, 16, 254, 172, 42, 182, 0, 240] := bL_of (by decide +kernel)
theorem dX12_law_0 : decode cX12_law 0 = .ok (.aload_n 0, 1) := dk42 (k := 0) bX12_law_0 rfl
theorem dX12_law_1 : decode cX12_law 1 = .ok (.invokevirtual 73, 3) := dk182 (k := 1) bX12_law_0 rfl rfl
theorem dX12_law_4 : decode cX12_law 4 = .ok (.ifCond .eq 15, 3) := dk153 (k := 4) bX12_law_0 rfl (by decide)
theorem dX12_law_7 : decode cX12_law 7 = .ok (.iload_n 1, 1) := dk27 (k := 7) bX12_law_0 rfl
theorem dX12_law_8 : decode cX12_law 8 = .ok (.i2l, 1) := dk133 (k := 8) bX12_law_0 rfl
theorem dX12_law_9 : decode cX12_law 9 = .ok (.lconst 1, 1) := dk10 (k := 9) bX12_law_0 rfl
theorem dX12_law_10 : decode cX12_law 10 = .ok (.ldc2_w 355, 3) := dk20 (k := 10) bX12_law_0 rfl rfl
theorem dX12_law_13 : decode cX12_law 13 = .ok (.invokestatic 65, 3) := dk184 (k := 13) bX12_law_0 rfl rfl
theorem dX12_law_16 : decode cX12_law 16 = .ok (.ifCond .ne 6, 3) := dk154 (k := 16) bX12_law_0 rfl (by decide)
theorem dX12_law_19 : decode cX12_law 19 = .ok (.bipush (-2), 2) := dk16 (k := 19) bX12_law_0 rfl (by decide)
theorem dX12_law_21 : decode cX12_law 21 = .ok (.ireturn, 1) := dk172 (k := 21) bX12_law_0 rfl
theorem dX12_law_22 : decode cX12_law 22 = .ok (.aload_n 0, 1) := dk42 (k := 22) bX12_law_0 rfl
theorem dX12_law_23 : decode cX12_law 23 = .ok (.invokevirtual 240, 3) := dk182 (k := 23) bX12_law_0 rfl rfl
theorem bX12_law_26 : bL cX12_law 26 [17, 3, 231, 61, 3, 62, 29, 27, 162, 0, 36, 28, 42, 42, 42, 182, 1, 7, 3, 182, 1, 14, 182, 1, 4] := bL_of (by decide +kernel)
theorem dX12_law_26 : decode cX12_law 26 = .ok (.sipush 999, 3) := dk17 (k := 0) bX12_law_26 rfl (by decide)
theorem dX12_law_29 : decode cX12_law 29 = .ok (.istore_n 2, 1) := dk61 (k := 3) bX12_law_26 rfl
theorem dX12_law_30 : decode cX12_law 30 = .ok (.iconst 0, 1) := dk3 (k := 4) bX12_law_26 rfl
theorem dX12_law_31 : decode cX12_law 31 = .ok (.istore_n 3, 1) := dk62 (k := 5) bX12_law_26 rfl
theorem dX12_law_32 : decode cX12_law 32 = .ok (.iload_n 3, 1) := dk29 (k := 6) bX12_law_26 rfl
theorem dX12_law_33 : decode cX12_law 33 = .ok (.iload_n 1, 1) := dk27 (k := 7) bX12_law_26 rfl
theorem dX12_law_34 : decode cX12_law 34 = .ok (.if_icmp .ge 36, 3) := dk162 (k := 8) bX12_law_26 rfl (by decide)
theorem dX12_law_37 : decode cX12_law 37 = .ok (.iload_n 2, 1) := dk28 (k := 11) bX12_law_26 rfl
theorem dX12_law_38 : decode cX12_law 38 = .ok (.aload_n 0, 1) := dk42 (k := 12) bX12_law_26 rfl
theorem dX12_law_39 : decode cX12_law 39 = .ok (.aload_n 0, 1) := dk42 (k := 13) bX12_law_26 rfl
theorem dX12_law_40 : decode cX12_law 40 = .ok (.aload_n 0, 1) := dk42 (k := 14) bX12_law_26 rfl
theorem dX12_law_41 : decode cX12_law 41 = .ok (.invokevirtual 263, 3) := dk182 (k := 15) bX12_law_26 rfl rfl
theorem dX12_law_44 : decode cX12_law 44 = .ok (.iconst 0, 1) := dk3 (k := 18) bX12_law_26 rfl
theorem dX12_law_45 : decode cX12_law 45 = .ok (.invokevirtual 270, 3) := dk182 (k := 19) bX12_law_26 rfl rfl
theorem dX12_law_48 : decode cX12_law 48 = .ok (.invokevirtual 260, 3) := dk182 (k := 22) bX12_law_26 rfl rfl
theorem bX12_law_51 : bL cX12_law 51 [184, 0, 112, 61, 42, 182, 0, 194, 154, 0, 5, 2, 172, 132, 3, 1, 167, 255, 221, 28, 154, 0, 7, 2] := bL_of (by decide +kernel)
theorem dX12_law_51 : decode cX12_law 51 = .ok (.invokestatic 112, 3) := dk184 (k := 0) bX12_law_51 rfl rfl
theorem dX12_law_54 : decode cX12_law 54 = .ok (.istore_n 2, 1) := dk61 (k := 3) bX12_law_51 rfl
theorem dX12_law_55 : decode cX12_law 55 = .ok (.aload_n 0, 1) := dk42 (k := 4) bX12_law_51 rfl
theorem dX12_law_56 : decode cX12_law 56 = .ok (.invokevirtual 194, 3) := dk182 (k := 5) bX12_law_51 rfl rfl
theorem dX12_law_59 : decode cX12_law 59 = .ok (.ifCond .ne 5, 3) := dk154 (k := 8) bX12_law_51 rfl (by decide)
theorem dX12_law_62 : decode cX12_law 62 = .ok (.iconst (-1), 1) := dk2 (k := 11) bX12_law_51 rfl
theorem dX12_law_63 : decode cX12_law 63 = .ok (.ireturn, 1) := dk172 (k := 12) bX12_law_51 rfl
theorem dX12_law_64 : decode cX12_law 64 = .ok (.iinc 3 1, 3) := dk132 (k := 13) bX12_law_51 rfl rfl (by decide)
theorem dX12_law_67 : decode cX12_law 67 = .ok (.goto (-35), 3) := dk167 (k := 16) bX12_law_51 rfl (by decide)
theorem dX12_law_70 : decode cX12_law 70 = .ok (.iload_n 2, 1) := dk28 (k := 19) bX12_law_51 rfl
theorem dX12_law_71 : decode cX12_law 71 = .ok (.ifCond .ne 7, 3) := dk154 (k := 20) bX12_law_51 rfl (by decide)
theorem dX12_law_74 : decode cX12_law 74 = .ok (.iconst (-1), 1) := dk2 (k := 23) bX12_law_51 rfl
theorem bX12_law_75 : bL cX12_law 75 [167, 0, 4, 28, 172] := bL_of (by decide +kernel)
theorem dX12_law_75 : decode cX12_law 75 = .ok (.goto 4, 3) := dk167 (k := 0) bX12_law_75 rfl (by decide)
theorem dX12_law_78 : decode cX12_law 78 = .ok (.iload_n 2, 1) := dk28 (k := 3) bX12_law_75 rfl
theorem dX12_law_79 : decode cX12_law 79 = .ok (.ireturn, 1) := dk172 (k := 4) bX12_law_75 rfl
theorem bX12_numberAt_0 : bL cX12_numberAt 0 [42, 180, 0, 53, 16, 60, 27, 104, 28, 96, 47, 173] := bL_of (by decide +kernel)
theorem dX12_numberAt_0 : decode cX12_numberAt 0 = .ok (.aload_n 0, 1) := dk42 (k := 0) bX12_numberAt_0 rfl
theorem dX12_numberAt_1 : decode cX12_numberAt 1 = .ok (.getfield 53, 3) := dk180 (k := 1) bX12_numberAt_0 rfl rfl
theorem dX12_numberAt_4 : decode cX12_numberAt 4 = .ok (.bipush 60, 2) := dk16 (k := 4) bX12_numberAt_0 rfl (by decide)
theorem dX12_numberAt_6 : decode cX12_numberAt 6 = .ok (.iload_n 1, 1) := dk27 (k := 6) bX12_numberAt_0 rfl
theorem dX12_numberAt_7 : decode cX12_numberAt 7 = .ok (.imul, 1) := dk104 (k := 7) bX12_numberAt_0 rfl
theorem dX12_numberAt_8 : decode cX12_numberAt 8 = .ok (.iload_n 2, 1) := dk28 (k := 8) bX12_numberAt_0 rfl
theorem dX12_numberAt_9 : decode cX12_numberAt 9 = .ok (.iadd, 1) := dk96 (k := 9) bX12_numberAt_0 rfl
theorem dX12_numberAt_10 : decode cX12_numberAt 10 = .ok (.laload, 1) := dk47 (k := 10) bX12_numberAt_0 rfl
theorem dX12_numberAt_11 : decode cX12_numberAt 11 = .ok (.lreturn, 1) := dk173 (k := 11) bX12_numberAt_0 rfl
theorem bX12_asksOld_0 : bL cX12_asksOld 0 [27, 184, 1, 101, 153, 0, 10, 42, 182, 0, 73, 154, 0, 6, 16, 254, 172, 42, 180, 0, 47, 27, 46, 2] := bL_of (by decide +kernel)
theorem dX12_asksOld_0 : decode cX12_asksOld 0 = .ok (.iload_n 1, 1) := dk27 (k := 0) bX12_asksOld_0 rfl
theorem dX12_asksOld_1 : decode cX12_asksOld 1 = .ok (.invokestatic 357, 3) := dk184 (k := 1) bX12_asksOld_0 rfl rfl
theorem dX12_asksOld_4 : decode cX12_asksOld 4 = .ok (.ifCond .eq 10, 3) := dk153 (k := 4) bX12_asksOld_0 rfl (by decide)
theorem dX12_asksOld_7 : decode cX12_asksOld 7 = .ok (.aload_n 0, 1) := dk42 (k := 7) bX12_asksOld_0 rfl
theorem dX12_asksOld_8 : decode cX12_asksOld 8 = .ok (.invokevirtual 73, 3) := dk182 (k := 8) bX12_asksOld_0 rfl rfl
theorem dX12_asksOld_11 : decode cX12_asksOld 11 = .ok (.ifCond .ne 6, 3) := dk154 (k := 11) bX12_asksOld_0 rfl (by decide)
theorem dX12_asksOld_14 : decode cX12_asksOld 14 = .ok (.bipush (-2), 2) := dk16 (k := 14) bX12_asksOld_0 rfl (by decide)
theorem dX12_asksOld_16 : decode cX12_asksOld 16 = .ok (.ireturn, 1) := dk172 (k := 16) bX12_asksOld_0 rfl
theorem dX12_asksOld_17 : decode cX12_asksOld 17 = .ok (.aload_n 0, 1) := dk42 (k := 17) bX12_asksOld_0 rfl
theorem dX12_asksOld_18 : decode cX12_asksOld 18 = .ok (.getfield 47, 3) := dk180 (k := 18) bX12_asksOld_0 rfl rfl
theorem dX12_asksOld_21 : decode cX12_asksOld 21 = .ok (.iload_n 1, 1) := dk27 (k := 21) bX12_asksOld_0 rfl
theorem dX12_asksOld_22 : decode cX12_asksOld 22 = .ok (.iaload, 1) := dk46 (k := 22) bX12_asksOld_0 rfl
theorem dX12_asksOld_23 : decode cX12_asksOld 23 = .ok (.iconst (-1), 1) := dk2 (k := 23) bX12_asksOld_0 rfl
theorem bX12_asksOld_24 : bL cX12_asksOld 24 [160, 0, 6, 16, 250, 172, 42, 180, 0, 47, 27, 46, 6, 112, 153, 0, 6, 16, 254, 172, 3, 61, 28, 42] := bL_of (by decide +kernel)
theorem dX12_asksOld_24 : decode cX12_asksOld 24 = .ok (.if_icmp .ne 6, 3) := dk160 (k := 0) bX12_asksOld_24 rfl (by decide)
theorem dX12_asksOld_27 : decode cX12_asksOld 27 = .ok (.bipush (-6), 2) := dk16 (k := 3) bX12_asksOld_24 rfl (by decide)
theorem dX12_asksOld_29 : decode cX12_asksOld 29 = .ok (.ireturn, 1) := dk172 (k := 5) bX12_asksOld_24 rfl
theorem dX12_asksOld_30 : decode cX12_asksOld 30 = .ok (.aload_n 0, 1) := dk42 (k := 6) bX12_asksOld_24 rfl
theorem dX12_asksOld_31 : decode cX12_asksOld 31 = .ok (.getfield 47, 3) := dk180 (k := 7) bX12_asksOld_24 rfl rfl
theorem dX12_asksOld_34 : decode cX12_asksOld 34 = .ok (.iload_n 1, 1) := dk27 (k := 10) bX12_asksOld_24 rfl
theorem dX12_asksOld_35 : decode cX12_asksOld 35 = .ok (.iaload, 1) := dk46 (k := 11) bX12_asksOld_24 rfl
theorem dX12_asksOld_36 : decode cX12_asksOld 36 = .ok (.iconst 3, 1) := dk6 (k := 12) bX12_asksOld_24 rfl
theorem dX12_asksOld_37 : decode cX12_asksOld 37 = .ok (.irem, 1) := dk112 (k := 13) bX12_asksOld_24 rfl
theorem dX12_asksOld_38 : decode cX12_asksOld 38 = .ok (.ifCond .eq 6, 3) := dk153 (k := 14) bX12_asksOld_24 rfl (by decide)
theorem dX12_asksOld_41 : decode cX12_asksOld 41 = .ok (.bipush (-2), 2) := dk16 (k := 17) bX12_asksOld_24 rfl (by decide)
theorem dX12_asksOld_43 : decode cX12_asksOld 43 = .ok (.ireturn, 1) := dk172 (k := 19) bX12_asksOld_24 rfl
theorem dX12_asksOld_44 : decode cX12_asksOld 44 = .ok (.iconst 0, 1) := dk3 (k := 20) bX12_asksOld_24 rfl
theorem dX12_asksOld_45 : decode cX12_asksOld 45 = .ok (.istore_n 2, 1) := dk61 (k := 21) bX12_asksOld_24 rfl
theorem dX12_asksOld_46 : decode cX12_asksOld 46 = .ok (.iload_n 2, 1) := dk28 (k := 22) bX12_asksOld_24 rfl
theorem dX12_asksOld_47 : decode cX12_asksOld 47 = .ok (.aload_n 0, 1) := dk42 (k := 23) bX12_asksOld_24 rfl
theorem bX12_asksOld_48 : bL cX12_asksOld 48 [180, 0, 47, 27, 46, 162, 0, 55, 42, 42, 27, 28, 182, 1, 104, 182, 0, 203, 153, 0, 33, 42, 27, 28] := bL_of (by decide +kernel)
theorem dX12_asksOld_48 : decode cX12_asksOld 48 = .ok (.getfield 47, 3) := dk180 (k := 0) bX12_asksOld_48 rfl rfl
theorem dX12_asksOld_51 : decode cX12_asksOld 51 = .ok (.iload_n 1, 1) := dk27 (k := 3) bX12_asksOld_48 rfl
theorem dX12_asksOld_52 : decode cX12_asksOld 52 = .ok (.iaload, 1) := dk46 (k := 4) bX12_asksOld_48 rfl
theorem dX12_asksOld_53 : decode cX12_asksOld 53 = .ok (.if_icmp .ge 55, 3) := dk162 (k := 5) bX12_asksOld_48 rfl (by decide)
theorem dX12_asksOld_56 : decode cX12_asksOld 56 = .ok (.aload_n 0, 1) := dk42 (k := 8) bX12_asksOld_48 rfl
theorem dX12_asksOld_57 : decode cX12_asksOld 57 = .ok (.aload_n 0, 1) := dk42 (k := 9) bX12_asksOld_48 rfl
theorem dX12_asksOld_58 : decode cX12_asksOld 58 = .ok (.iload_n 1, 1) := dk27 (k := 10) bX12_asksOld_48 rfl
theorem dX12_asksOld_59 : decode cX12_asksOld 59 = .ok (.iload_n 2, 1) := dk28 (k := 11) bX12_asksOld_48 rfl
theorem dX12_asksOld_60 : decode cX12_asksOld 60 = .ok (.invokevirtual 360, 3) := dk182 (k := 12) bX12_asksOld_48 rfl rfl
theorem dX12_asksOld_63 : decode cX12_asksOld 63 = .ok (.invokevirtual 203, 3) := dk182 (k := 15) bX12_asksOld_48 rfl rfl
theorem dX12_asksOld_66 : decode cX12_asksOld 66 = .ok (.ifCond .eq 33, 3) := dk153 (k := 18) bX12_asksOld_48 rfl (by decide)
theorem dX12_asksOld_69 : decode cX12_asksOld 69 = .ok (.aload_n 0, 1) := dk42 (k := 21) bX12_asksOld_48 rfl
theorem dX12_asksOld_70 : decode cX12_asksOld 70 = .ok (.iload_n 1, 1) := dk27 (k := 22) bX12_asksOld_48 rfl
theorem dX12_asksOld_71 : decode cX12_asksOld 71 = .ok (.iload_n 2, 1) := dk28 (k := 23) bX12_asksOld_48 rfl
theorem bX12_asksOld_72 : bL cX12_asksOld 72 [4, 96, 182, 1, 104, 184, 0, 243, 153, 0, 19, 42, 27, 28, 5, 96, 182, 1, 104, 9, 10, 184, 0, 65] := bL_of (by decide +kernel)
theorem dX12_asksOld_72 : decode cX12_asksOld 72 = .ok (.iconst 1, 1) := dk4 (k := 0) bX12_asksOld_72 rfl
theorem dX12_asksOld_73 : decode cX12_asksOld 73 = .ok (.iadd, 1) := dk96 (k := 1) bX12_asksOld_72 rfl
theorem dX12_asksOld_74 : decode cX12_asksOld 74 = .ok (.invokevirtual 360, 3) := dk182 (k := 2) bX12_asksOld_72 rfl rfl
theorem dX12_asksOld_77 : decode cX12_asksOld 77 = .ok (.invokestatic 243, 3) := dk184 (k := 5) bX12_asksOld_72 rfl rfl
theorem dX12_asksOld_80 : decode cX12_asksOld 80 = .ok (.ifCond .eq 19, 3) := dk153 (k := 8) bX12_asksOld_72 rfl (by decide)
theorem dX12_asksOld_83 : decode cX12_asksOld 83 = .ok (.aload_n 0, 1) := dk42 (k := 11) bX12_asksOld_72 rfl
theorem dX12_asksOld_84 : decode cX12_asksOld 84 = .ok (.iload_n 1, 1) := dk27 (k := 12) bX12_asksOld_72 rfl
theorem dX12_asksOld_85 : decode cX12_asksOld 85 = .ok (.iload_n 2, 1) := dk28 (k := 13) bX12_asksOld_72 rfl
theorem dX12_asksOld_86 : decode cX12_asksOld 86 = .ok (.iconst 2, 1) := dk5 (k := 14) bX12_asksOld_72 rfl
theorem dX12_asksOld_87 : decode cX12_asksOld 87 = .ok (.iadd, 1) := dk96 (k := 15) bX12_asksOld_72 rfl
theorem dX12_asksOld_88 : decode cX12_asksOld 88 = .ok (.invokevirtual 360, 3) := dk182 (k := 16) bX12_asksOld_72 rfl rfl
theorem dX12_asksOld_91 : decode cX12_asksOld 91 = .ok (.lconst 0, 1) := dk9 (k := 19) bX12_asksOld_72 rfl
theorem dX12_asksOld_92 : decode cX12_asksOld 92 = .ok (.lconst 1, 1) := dk10 (k := 20) bX12_asksOld_72 rfl
theorem dX12_asksOld_93 : decode cX12_asksOld 93 = .ok (.invokestatic 65, 3) := dk184 (k := 21) bX12_asksOld_72 rfl rfl
theorem bX12_asksOld_96 : bL cX12_asksOld 96 [154, 0, 6, 16, 254, 172, 132, 2, 3, 167, 255, 197, 42, 182, 0, 240, 3, 172] := bL_of (by decide +kernel)
theorem dX12_asksOld_96 : decode cX12_asksOld 96 = .ok (.ifCond .ne 6, 3) := dk154 (k := 0) bX12_asksOld_96 rfl (by decide)
theorem dX12_asksOld_99 : decode cX12_asksOld 99 = .ok (.bipush (-2), 2) := dk16 (k := 3) bX12_asksOld_96 rfl (by decide)
theorem dX12_asksOld_101 : decode cX12_asksOld 101 = .ok (.ireturn, 1) := dk172 (k := 5) bX12_asksOld_96 rfl
theorem dX12_asksOld_102 : decode cX12_asksOld 102 = .ok (.iinc 2 3, 3) := dk132 (k := 6) bX12_asksOld_96 rfl rfl (by decide)
theorem dX12_asksOld_105 : decode cX12_asksOld 105 = .ok (.goto (-59), 3) := dk167 (k := 9) bX12_asksOld_96 rfl (by decide)
theorem dX12_asksOld_108 : decode cX12_asksOld 108 = .ok (.aload_n 0, 1) := dk42 (k := 12) bX12_asksOld_96 rfl
theorem dX12_asksOld_109 : decode cX12_asksOld 109 = .ok (.invokevirtual 240, 3) := dk182 (k := 13) bX12_asksOld_96 rfl rfl
theorem dX12_asksOld_112 : decode cX12_asksOld 112 = .ok (.iconst 0, 1) := dk3 (k := 16) bX12_asksOld_96 rfl
theorem dX12_asksOld_113 : decode cX12_asksOld 113 = .ok (.ireturn, 1) := dk172 (k := 17) bX12_asksOld_96 rfl
theorem bX12_wasDark_0 : bL cX12_wasDark 0 [42, 182, 0, 200, 54, 4, 42, 180, 0, 34, 21, 4, 92, 46, 27, 96, 79, 42, 28, 29, 182, 0, 217, 54, 5] := bL_of (by decide +kernel)
theorem dX12_wasDark_0 : decode cX12_wasDark 0 = .ok (.aload_n 0, 1) := dk42 (k := 0) bX12_wasDark_0 rfl
theorem dX12_wasDark_1 : decode cX12_wasDark 1 = .ok (.invokevirtual 200, 3) := dk182 (k := 1) bX12_wasDark_0 rfl rfl
theorem dX12_wasDark_4 : decode cX12_wasDark 4 = .ok (.istore 4, 2) := dk54 (k := 4) bX12_wasDark_0 rfl rfl
theorem dX12_wasDark_6 : decode cX12_wasDark 6 = .ok (.aload_n 0, 1) := dk42 (k := 6) bX12_wasDark_0 rfl
theorem dX12_wasDark_7 : decode cX12_wasDark 7 = .ok (.getfield 34, 3) := dk180 (k := 7) bX12_wasDark_0 rfl rfl
theorem dX12_wasDark_10 : decode cX12_wasDark 10 = .ok (.iload 4, 2) := dk21 (k := 10) bX12_wasDark_0 rfl rfl
theorem dX12_wasDark_12 : decode cX12_wasDark 12 = .ok (.dup2, 1) := dk92 (k := 12) bX12_wasDark_0 rfl
theorem dX12_wasDark_13 : decode cX12_wasDark 13 = .ok (.iaload, 1) := dk46 (k := 13) bX12_wasDark_0 rfl
theorem dX12_wasDark_14 : decode cX12_wasDark 14 = .ok (.iload_n 1, 1) := dk27 (k := 14) bX12_wasDark_0 rfl
theorem dX12_wasDark_15 : decode cX12_wasDark 15 = .ok (.iadd, 1) := dk96 (k := 15) bX12_wasDark_0 rfl
theorem dX12_wasDark_16 : decode cX12_wasDark 16 = .ok (.iastore, 1) := dk79 (k := 16) bX12_wasDark_0 rfl
theorem dX12_wasDark_17 : decode cX12_wasDark 17 = .ok (.aload_n 0, 1) := dk42 (k := 17) bX12_wasDark_0 rfl
theorem dX12_wasDark_18 : decode cX12_wasDark 18 = .ok (.iload_n 2, 1) := dk28 (k := 18) bX12_wasDark_0 rfl
theorem dX12_wasDark_19 : decode cX12_wasDark 19 = .ok (.iload_n 3, 1) := dk29 (k := 19) bX12_wasDark_0 rfl
theorem dX12_wasDark_20 : decode cX12_wasDark 20 = .ok (.invokevirtual 217, 3) := dk182 (k := 20) bX12_wasDark_0 rfl rfl
theorem dX12_wasDark_23 : decode cX12_wasDark 23 = .ok (.istore 5, 2) := dk54 (k := 23) bX12_wasDark_0 rfl rfl
theorem bX12_wasDark_25 : bL cX12_wasDark 25 [42, 180, 0, 34, 21, 4, 92, 46, 27, 100, 79, 21, 5, 172] := bL_of (by decide +kernel)
theorem dX12_wasDark_25 : decode cX12_wasDark 25 = .ok (.aload_n 0, 1) := dk42 (k := 0) bX12_wasDark_25 rfl
theorem dX12_wasDark_26 : decode cX12_wasDark 26 = .ok (.getfield 34, 3) := dk180 (k := 1) bX12_wasDark_25 rfl rfl
theorem dX12_wasDark_29 : decode cX12_wasDark 29 = .ok (.iload 4, 2) := dk21 (k := 4) bX12_wasDark_25 rfl rfl
theorem dX12_wasDark_31 : decode cX12_wasDark 31 = .ok (.dup2, 1) := dk92 (k := 6) bX12_wasDark_25 rfl
theorem dX12_wasDark_32 : decode cX12_wasDark 32 = .ok (.iaload, 1) := dk46 (k := 7) bX12_wasDark_25 rfl
theorem dX12_wasDark_33 : decode cX12_wasDark 33 = .ok (.iload_n 1, 1) := dk27 (k := 8) bX12_wasDark_25 rfl
theorem dX12_wasDark_34 : decode cX12_wasDark 34 = .ok (.isub, 1) := dk100 (k := 9) bX12_wasDark_25 rfl
theorem dX12_wasDark_35 : decode cX12_wasDark 35 = .ok (.iastore, 1) := dk79 (k := 10) bX12_wasDark_25 rfl
theorem dX12_wasDark_36 : decode cX12_wasDark 36 = .ok (.iload 5, 2) := dk21 (k := 11) bX12_wasDark_25 rfl rfl
theorem dX12_wasDark_38 : decode cX12_wasDark 38 = .ok (.ireturn, 1) := dk172 (k := 13) bX12_wasDark_25 rfl
theorem bX12_oldBy_0 : bL cX12_oldBy 0 [3, 62, 3, 54, 4, 21, 4, 16, 20, 163, 0, 112, 4, 54, 5, 3, 54, 6, 21, 6, 42, 180, 0, 47] := bL_of (by decide +kernel)
theorem dX12_oldBy_0 : decode cX12_oldBy 0 = .ok (.iconst 0, 1) := dk3 (k := 0) bX12_oldBy_0 rfl
theorem dX12_oldBy_1 : decode cX12_oldBy 1 = .ok (.istore_n 3, 1) := dk62 (k := 1) bX12_oldBy_0 rfl
theorem dX12_oldBy_2 : decode cX12_oldBy 2 = .ok (.iconst 0, 1) := dk3 (k := 2) bX12_oldBy_0 rfl
theorem dX12_oldBy_3 : decode cX12_oldBy 3 = .ok (.istore 4, 2) := dk54 (k := 3) bX12_oldBy_0 rfl rfl
theorem dX12_oldBy_5 : decode cX12_oldBy 5 = .ok (.iload 4, 2) := dk21 (k := 5) bX12_oldBy_0 rfl rfl
theorem dX12_oldBy_7 : decode cX12_oldBy 7 = .ok (.bipush 20, 2) := dk16 (k := 7) bX12_oldBy_0 rfl (by decide)
theorem dX12_oldBy_9 : decode cX12_oldBy 9 = .ok (.if_icmp .gt 112, 3) := dk163 (k := 9) bX12_oldBy_0 rfl (by decide)
theorem dX12_oldBy_12 : decode cX12_oldBy 12 = .ok (.iconst 1, 1) := dk4 (k := 12) bX12_oldBy_0 rfl
theorem dX12_oldBy_13 : decode cX12_oldBy 13 = .ok (.istore 5, 2) := dk54 (k := 13) bX12_oldBy_0 rfl rfl
theorem dX12_oldBy_15 : decode cX12_oldBy 15 = .ok (.iconst 0, 1) := dk3 (k := 15) bX12_oldBy_0 rfl
theorem dX12_oldBy_16 : decode cX12_oldBy 16 = .ok (.istore 6, 2) := dk54 (k := 16) bX12_oldBy_0 rfl rfl
theorem dX12_oldBy_18 : decode cX12_oldBy 18 = .ok (.iload 6, 2) := dk21 (k := 18) bX12_oldBy_0 rfl rfl
theorem dX12_oldBy_20 : decode cX12_oldBy 20 = .ok (.aload_n 0, 1) := dk42 (k := 20) bX12_oldBy_0 rfl
theorem dX12_oldBy_21 : decode cX12_oldBy 21 = .ok (.getfield 47, 3) := dk180 (k := 21) bX12_oldBy_0 rfl rfl
theorem bX12_oldBy_24 : bL cX12_oldBy 24 [27, 46, 162, 0, 73, 21, 5, 153, 0, 68, 21, 6, 28, 159, 0, 49, 42, 21, 4, 42, 27, 21, 6, 182, 1, 104] := bL_of (by decide +kernel)
theorem dX12_oldBy_24 : decode cX12_oldBy 24 = .ok (.iload_n 1, 1) := dk27 (k := 0) bX12_oldBy_24 rfl
theorem dX12_oldBy_25 : decode cX12_oldBy 25 = .ok (.iaload, 1) := dk46 (k := 1) bX12_oldBy_24 rfl
theorem dX12_oldBy_26 : decode cX12_oldBy 26 = .ok (.if_icmp .ge 73, 3) := dk162 (k := 2) bX12_oldBy_24 rfl (by decide)
theorem dX12_oldBy_29 : decode cX12_oldBy 29 = .ok (.iload 5, 2) := dk21 (k := 5) bX12_oldBy_24 rfl rfl
theorem dX12_oldBy_31 : decode cX12_oldBy 31 = .ok (.ifCond .eq 68, 3) := dk153 (k := 7) bX12_oldBy_24 rfl (by decide)
theorem dX12_oldBy_34 : decode cX12_oldBy 34 = .ok (.iload 6, 2) := dk21 (k := 10) bX12_oldBy_24 rfl rfl
theorem dX12_oldBy_36 : decode cX12_oldBy 36 = .ok (.iload_n 2, 1) := dk28 (k := 12) bX12_oldBy_24 rfl
theorem dX12_oldBy_37 : decode cX12_oldBy 37 = .ok (.if_icmp .eq 49, 3) := dk159 (k := 13) bX12_oldBy_24 rfl (by decide)
theorem dX12_oldBy_40 : decode cX12_oldBy 40 = .ok (.aload_n 0, 1) := dk42 (k := 16) bX12_oldBy_24 rfl
theorem dX12_oldBy_41 : decode cX12_oldBy 41 = .ok (.iload 4, 2) := dk21 (k := 17) bX12_oldBy_24 rfl rfl
theorem dX12_oldBy_43 : decode cX12_oldBy 43 = .ok (.aload_n 0, 1) := dk42 (k := 19) bX12_oldBy_24 rfl
theorem dX12_oldBy_44 : decode cX12_oldBy 44 = .ok (.iload_n 1, 1) := dk27 (k := 20) bX12_oldBy_24 rfl
theorem dX12_oldBy_45 : decode cX12_oldBy 45 = .ok (.iload 6, 2) := dk21 (k := 21) bX12_oldBy_24 rfl rfl
theorem dX12_oldBy_47 : decode cX12_oldBy 47 = .ok (.invokevirtual 360, 3) := dk182 (k := 23) bX12_oldBy_24 rfl rfl
theorem bX12_oldBy_50 : bL cX12_oldBy 50 [136, 42, 27, 21, 6, 4, 96, 182, 1, 104, 136, 182, 1, 108, 42, 27, 21, 6, 5, 96, 182, 1, 104, 10] := bL_of (by decide +kernel)
theorem dX12_oldBy_50 : decode cX12_oldBy 50 = .ok (.l2i, 1) := dk136 (k := 0) bX12_oldBy_50 rfl
theorem dX12_oldBy_51 : decode cX12_oldBy 51 = .ok (.aload_n 0, 1) := dk42 (k := 1) bX12_oldBy_50 rfl
theorem dX12_oldBy_52 : decode cX12_oldBy 52 = .ok (.iload_n 1, 1) := dk27 (k := 2) bX12_oldBy_50 rfl
theorem dX12_oldBy_53 : decode cX12_oldBy 53 = .ok (.iload 6, 2) := dk21 (k := 3) bX12_oldBy_50 rfl rfl
theorem dX12_oldBy_55 : decode cX12_oldBy 55 = .ok (.iconst 1, 1) := dk4 (k := 5) bX12_oldBy_50 rfl
theorem dX12_oldBy_56 : decode cX12_oldBy 56 = .ok (.iadd, 1) := dk96 (k := 6) bX12_oldBy_50 rfl
theorem dX12_oldBy_57 : decode cX12_oldBy 57 = .ok (.invokevirtual 360, 3) := dk182 (k := 7) bX12_oldBy_50 rfl rfl
theorem dX12_oldBy_60 : decode cX12_oldBy 60 = .ok (.l2i, 1) := dk136 (k := 10) bX12_oldBy_50 rfl
theorem dX12_oldBy_61 : decode cX12_oldBy 61 = .ok (.invokevirtual 364, 3) := dk182 (k := 11) bX12_oldBy_50 rfl rfl
theorem dX12_oldBy_64 : decode cX12_oldBy 64 = .ok (.aload_n 0, 1) := dk42 (k := 14) bX12_oldBy_50 rfl
theorem dX12_oldBy_65 : decode cX12_oldBy 65 = .ok (.iload_n 1, 1) := dk27 (k := 15) bX12_oldBy_50 rfl
theorem dX12_oldBy_66 : decode cX12_oldBy 66 = .ok (.iload 6, 2) := dk21 (k := 16) bX12_oldBy_50 rfl rfl
theorem dX12_oldBy_68 : decode cX12_oldBy 68 = .ok (.iconst 2, 1) := dk5 (k := 18) bX12_oldBy_50 rfl
theorem dX12_oldBy_69 : decode cX12_oldBy 69 = .ok (.iadd, 1) := dk96 (k := 19) bX12_oldBy_50 rfl
theorem dX12_oldBy_70 : decode cX12_oldBy 70 = .ok (.invokevirtual 360, 3) := dk182 (k := 20) bX12_oldBy_50 rfl rfl
theorem dX12_oldBy_73 : decode cX12_oldBy 73 = .ok (.lconst 1, 1) := dk10 (k := 23) bX12_oldBy_50 rfl
theorem bX12_oldBy_74 : bL cX12_oldBy 74 [148, 154, 0, 7, 4, 167, 0, 4, 3, 160, 0, 7, 4, 167, 0, 4, 3, 54, 5, 132, 6, 3, 167, 255, 178] := bL_of (by decide +kernel)
theorem dX12_oldBy_74 : decode cX12_oldBy 74 = .ok (.lcmp, 1) := dk148 (k := 0) bX12_oldBy_74 rfl
theorem dX12_oldBy_75 : decode cX12_oldBy 75 = .ok (.ifCond .ne 7, 3) := dk154 (k := 1) bX12_oldBy_74 rfl (by decide)
theorem dX12_oldBy_78 : decode cX12_oldBy 78 = .ok (.iconst 1, 1) := dk4 (k := 4) bX12_oldBy_74 rfl
theorem dX12_oldBy_79 : decode cX12_oldBy 79 = .ok (.goto 4, 3) := dk167 (k := 5) bX12_oldBy_74 rfl (by decide)
theorem dX12_oldBy_82 : decode cX12_oldBy 82 = .ok (.iconst 0, 1) := dk3 (k := 8) bX12_oldBy_74 rfl
theorem dX12_oldBy_83 : decode cX12_oldBy 83 = .ok (.if_icmp .ne 7, 3) := dk160 (k := 9) bX12_oldBy_74 rfl (by decide)
theorem dX12_oldBy_86 : decode cX12_oldBy 86 = .ok (.iconst 1, 1) := dk4 (k := 12) bX12_oldBy_74 rfl
theorem dX12_oldBy_87 : decode cX12_oldBy 87 = .ok (.goto 4, 3) := dk167 (k := 13) bX12_oldBy_74 rfl (by decide)
theorem dX12_oldBy_90 : decode cX12_oldBy 90 = .ok (.iconst 0, 1) := dk3 (k := 16) bX12_oldBy_74 rfl
theorem dX12_oldBy_91 : decode cX12_oldBy 91 = .ok (.istore 5, 2) := dk54 (k := 17) bX12_oldBy_74 rfl rfl
theorem dX12_oldBy_93 : decode cX12_oldBy 93 = .ok (.iinc 6 3, 3) := dk132 (k := 19) bX12_oldBy_74 rfl rfl (by decide)
theorem dX12_oldBy_96 : decode cX12_oldBy 96 = .ok (.goto (-78), 3) := dk167 (k := 22) bX12_oldBy_74 rfl (by decide)
theorem bX12_oldBy_99 : bL cX12_oldBy 99 [29, 21, 5, 153, 0, 10, 4, 21, 4, 120, 167, 0, 4, 3, 128, 62, 132, 4, 1, 167, 255, 143, 29, 172] := bL_of (by decide +kernel)
theorem dX12_oldBy_99 : decode cX12_oldBy 99 = .ok (.iload_n 3, 1) := dk29 (k := 0) bX12_oldBy_99 rfl
theorem dX12_oldBy_100 : decode cX12_oldBy 100 = .ok (.iload 5, 2) := dk21 (k := 1) bX12_oldBy_99 rfl rfl
theorem dX12_oldBy_102 : decode cX12_oldBy 102 = .ok (.ifCond .eq 10, 3) := dk153 (k := 3) bX12_oldBy_99 rfl (by decide)
theorem dX12_oldBy_105 : decode cX12_oldBy 105 = .ok (.iconst 1, 1) := dk4 (k := 6) bX12_oldBy_99 rfl
theorem dX12_oldBy_106 : decode cX12_oldBy 106 = .ok (.iload 4, 2) := dk21 (k := 7) bX12_oldBy_99 rfl rfl
theorem dX12_oldBy_108 : decode cX12_oldBy 108 = .ok (.ishl, 1) := dk120 (k := 9) bX12_oldBy_99 rfl
theorem dX12_oldBy_109 : decode cX12_oldBy 109 = .ok (.goto 4, 3) := dk167 (k := 10) bX12_oldBy_99 rfl (by decide)
theorem dX12_oldBy_112 : decode cX12_oldBy 112 = .ok (.iconst 0, 1) := dk3 (k := 13) bX12_oldBy_99 rfl
theorem dX12_oldBy_113 : decode cX12_oldBy 113 = .ok (.ior, 1) := dk128 (k := 14) bX12_oldBy_99 rfl
theorem dX12_oldBy_114 : decode cX12_oldBy 114 = .ok (.istore_n 3, 1) := dk62 (k := 15) bX12_oldBy_99 rfl
theorem dX12_oldBy_115 : decode cX12_oldBy 115 = .ok (.iinc 4 1, 3) := dk132 (k := 16) bX12_oldBy_99 rfl rfl (by decide)
theorem dX12_oldBy_118 : decode cX12_oldBy 118 = .ok (.goto (-113), 3) := dk167 (k := 19) bX12_oldBy_99 rfl (by decide)
theorem dX12_oldBy_121 : decode cX12_oldBy 121 = .ok (.iload_n 3, 1) := dk29 (k := 22) bX12_oldBy_99 rfl
theorem dX12_oldBy_122 : decode cX12_oldBy 122 = .ok (.ireturn, 1) := dk172 (k := 23) bX12_oldBy_99 rfl
theorem bX12_old_0 : bL cX12_old 0 [42, 27, 182, 1, 112, 61, 28, 156, 0, 7, 28, 167, 0, 9, 42, 27, 2, 182, 1, 115, 172] := bL_of (by decide +kernel)
theorem dX12_old_0 : decode cX12_old 0 = .ok (.aload_n 0, 1) := dk42 (k := 0) bX12_old_0 rfl
theorem dX12_old_1 : decode cX12_old 1 = .ok (.iload_n 1, 1) := dk27 (k := 1) bX12_old_0 rfl
theorem dX12_old_2 : decode cX12_old 2 = .ok (.invokevirtual 368, 3) := dk182 (k := 2) bX12_old_0 rfl rfl
theorem dX12_old_5 : decode cX12_old 5 = .ok (.istore_n 2, 1) := dk61 (k := 5) bX12_old_0 rfl
theorem dX12_old_6 : decode cX12_old 6 = .ok (.iload_n 2, 1) := dk28 (k := 6) bX12_old_0 rfl
theorem dX12_old_7 : decode cX12_old 7 = .ok (.ifCond .ge 7, 3) := dk156 (k := 7) bX12_old_0 rfl (by decide)
theorem dX12_old_10 : decode cX12_old 10 = .ok (.iload_n 2, 1) := dk28 (k := 10) bX12_old_0 rfl
theorem dX12_old_11 : decode cX12_old 11 = .ok (.goto 9, 3) := dk167 (k := 11) bX12_old_0 rfl (by decide)
theorem dX12_old_14 : decode cX12_old 14 = .ok (.aload_n 0, 1) := dk42 (k := 14) bX12_old_0 rfl
theorem dX12_old_15 : decode cX12_old 15 = .ok (.iload_n 1, 1) := dk27 (k := 15) bX12_old_0 rfl
theorem dX12_old_16 : decode cX12_old 16 = .ok (.iconst (-1), 1) := dk2 (k := 16) bX12_old_0 rfl
theorem dX12_old_17 : decode cX12_old 17 = .ok (.invokevirtual 371, 3) := dk182 (k := 17) bX12_old_0 rfl rfl
theorem dX12_old_20 : decode cX12_old 20 = .ok (.ireturn, 1) := dk172 (k := 20) bX12_old_0 rfl
theorem bX12_askOf_0 : bL cX12_askOf 0 [42, 27, 2, 182, 1, 115, 62, 42, 29, 184, 0, 229, 181, 1, 118, 3, 54, 4, 4, 54, 5, 21, 5, 16, 18] := bL_of (by decide +kernel)
theorem dX12_askOf_0 : decode cX12_askOf 0 = .ok (.aload_n 0, 1) := dk42 (k := 0) bX12_askOf_0 rfl
theorem dX12_askOf_1 : decode cX12_askOf 1 = .ok (.iload_n 1, 1) := dk27 (k := 1) bX12_askOf_0 rfl
theorem dX12_askOf_2 : decode cX12_askOf 2 = .ok (.iconst (-1), 1) := dk2 (k := 2) bX12_askOf_0 rfl
theorem dX12_askOf_3 : decode cX12_askOf 3 = .ok (.invokevirtual 371, 3) := dk182 (k := 3) bX12_askOf_0 rfl rfl
theorem dX12_askOf_6 : decode cX12_askOf 6 = .ok (.istore_n 3, 1) := dk62 (k := 6) bX12_askOf_0 rfl
theorem dX12_askOf_7 : decode cX12_askOf 7 = .ok (.aload_n 0, 1) := dk42 (k := 7) bX12_askOf_0 rfl
theorem dX12_askOf_8 : decode cX12_askOf 8 = .ok (.iload_n 3, 1) := dk29 (k := 8) bX12_askOf_0 rfl
theorem dX12_askOf_9 : decode cX12_askOf 9 = .ok (.invokestatic 229, 3) := dk184 (k := 9) bX12_askOf_0 rfl rfl
theorem dX12_askOf_12 : decode cX12_askOf 12 = .ok (.putfield 374, 3) := dk181 (k := 12) bX12_askOf_0 rfl rfl
theorem dX12_askOf_15 : decode cX12_askOf 15 = .ok (.iconst 0, 1) := dk3 (k := 15) bX12_askOf_0 rfl
theorem dX12_askOf_16 : decode cX12_askOf 16 = .ok (.istore 4, 2) := dk54 (k := 16) bX12_askOf_0 rfl rfl
theorem dX12_askOf_18 : decode cX12_askOf 18 = .ok (.iconst 1, 1) := dk4 (k := 18) bX12_askOf_0 rfl
theorem dX12_askOf_19 : decode cX12_askOf 19 = .ok (.istore 5, 2) := dk54 (k := 19) bX12_askOf_0 rfl rfl
theorem dX12_askOf_21 : decode cX12_askOf 21 = .ok (.iload 5, 2) := dk21 (k := 21) bX12_askOf_0 rfl rfl
theorem dX12_askOf_23 : decode cX12_askOf 23 = .ok (.bipush 18, 2) := dk16 (k := 23) bX12_askOf_0 rfl (by decide)
theorem bX12_askOf_25 : bL cX12_askOf 25 [163, 0, 111, 3, 54, 6, 3, 54, 7, 21, 7, 16, 20, 163, 0, 56, 21, 6, 29, 21, 7, 184, 1, 1] := bL_of (by decide +kernel)
theorem dX12_askOf_25 : decode cX12_askOf 25 = .ok (.if_icmp .gt 111, 3) := dk163 (k := 0) bX12_askOf_25 rfl (by decide)
theorem dX12_askOf_28 : decode cX12_askOf 28 = .ok (.iconst 0, 1) := dk3 (k := 3) bX12_askOf_25 rfl
theorem dX12_askOf_29 : decode cX12_askOf 29 = .ok (.istore 6, 2) := dk54 (k := 4) bX12_askOf_25 rfl rfl
theorem dX12_askOf_31 : decode cX12_askOf 31 = .ok (.iconst 0, 1) := dk3 (k := 6) bX12_askOf_25 rfl
theorem dX12_askOf_32 : decode cX12_askOf 32 = .ok (.istore 7, 2) := dk54 (k := 7) bX12_askOf_25 rfl rfl
theorem dX12_askOf_34 : decode cX12_askOf 34 = .ok (.iload 7, 2) := dk21 (k := 9) bX12_askOf_25 rfl rfl
theorem dX12_askOf_36 : decode cX12_askOf 36 = .ok (.bipush 20, 2) := dk16 (k := 11) bX12_askOf_25 rfl (by decide)
theorem dX12_askOf_38 : decode cX12_askOf 38 = .ok (.if_icmp .gt 56, 3) := dk163 (k := 13) bX12_askOf_25 rfl (by decide)
theorem dX12_askOf_41 : decode cX12_askOf 41 = .ok (.iload 6, 2) := dk21 (k := 16) bX12_askOf_25 rfl rfl
theorem dX12_askOf_43 : decode cX12_askOf 43 = .ok (.iload_n 3, 1) := dk29 (k := 18) bX12_askOf_25 rfl
theorem dX12_askOf_44 : decode cX12_askOf 44 = .ok (.iload 7, 2) := dk21 (k := 19) bX12_askOf_25 rfl rfl
theorem dX12_askOf_46 : decode cX12_askOf 46 = .ok (.invokestatic 257, 3) := dk184 (k := 21) bX12_askOf_25 rfl rfl
theorem bX12_askOf_49 : bL cX12_askOf 49 [4, 160, 0, 34, 42, 21, 7, 28, 21, 5, 16, 9, 163, 0, 8, 21, 5, 167, 0, 8, 16, 9, 21, 5] := bL_of (by decide +kernel)
theorem dX12_askOf_49 : decode cX12_askOf 49 = .ok (.iconst 1, 1) := dk4 (k := 0) bX12_askOf_49 rfl
theorem dX12_askOf_50 : decode cX12_askOf 50 = .ok (.if_icmp .ne 34, 3) := dk160 (k := 1) bX12_askOf_49 rfl (by decide)
theorem dX12_askOf_53 : decode cX12_askOf 53 = .ok (.aload_n 0, 1) := dk42 (k := 4) bX12_askOf_49 rfl
theorem dX12_askOf_54 : decode cX12_askOf 54 = .ok (.iload 7, 2) := dk21 (k := 5) bX12_askOf_49 rfl rfl
theorem dX12_askOf_56 : decode cX12_askOf 56 = .ok (.iload_n 2, 1) := dk28 (k := 7) bX12_askOf_49 rfl
theorem dX12_askOf_57 : decode cX12_askOf 57 = .ok (.iload 5, 2) := dk21 (k := 8) bX12_askOf_49 rfl rfl
theorem dX12_askOf_59 : decode cX12_askOf 59 = .ok (.bipush 9, 2) := dk16 (k := 10) bX12_askOf_49 rfl (by decide)
theorem dX12_askOf_61 : decode cX12_askOf 61 = .ok (.if_icmp .gt 8, 3) := dk163 (k := 12) bX12_askOf_49 rfl (by decide)
theorem dX12_askOf_64 : decode cX12_askOf 64 = .ok (.iload 5, 2) := dk21 (k := 15) bX12_askOf_49 rfl rfl
theorem dX12_askOf_66 : decode cX12_askOf 66 = .ok (.goto 8, 3) := dk167 (k := 17) bX12_askOf_49 rfl (by decide)
theorem dX12_askOf_69 : decode cX12_askOf 69 = .ok (.bipush 9, 2) := dk16 (k := 20) bX12_askOf_49 rfl (by decide)
theorem dX12_askOf_71 : decode cX12_askOf 71 = .ok (.iload 5, 2) := dk21 (k := 22) bX12_askOf_49 rfl rfl
theorem bX12_askOf_73 : bL cX12_askOf 73 [100, 182, 1, 108, 153, 0, 7, 4, 167, 0, 4, 3, 96, 54, 6, 132, 7, 1, 167, 255, 199, 21, 6, 29] := bL_of (by decide +kernel)
theorem dX12_askOf_73 : decode cX12_askOf 73 = .ok (.isub, 1) := dk100 (k := 0) bX12_askOf_73 rfl
theorem dX12_askOf_74 : decode cX12_askOf 74 = .ok (.invokevirtual 364, 3) := dk182 (k := 1) bX12_askOf_73 rfl rfl
theorem dX12_askOf_77 : decode cX12_askOf 77 = .ok (.ifCond .eq 7, 3) := dk153 (k := 4) bX12_askOf_73 rfl (by decide)
theorem dX12_askOf_80 : decode cX12_askOf 80 = .ok (.iconst 1, 1) := dk4 (k := 7) bX12_askOf_73 rfl
theorem dX12_askOf_81 : decode cX12_askOf 81 = .ok (.goto 4, 3) := dk167 (k := 8) bX12_askOf_73 rfl (by decide)
theorem dX12_askOf_84 : decode cX12_askOf 84 = .ok (.iconst 0, 1) := dk3 (k := 11) bX12_askOf_73 rfl
theorem dX12_askOf_85 : decode cX12_askOf 85 = .ok (.iadd, 1) := dk96 (k := 12) bX12_askOf_73 rfl
theorem dX12_askOf_86 : decode cX12_askOf 86 = .ok (.istore 6, 2) := dk54 (k := 13) bX12_askOf_73 rfl rfl
theorem dX12_askOf_88 : decode cX12_askOf 88 = .ok (.iinc 7 1, 3) := dk132 (k := 15) bX12_askOf_73 rfl rfl (by decide)
theorem dX12_askOf_91 : decode cX12_askOf 91 = .ok (.goto (-57), 3) := dk167 (k := 18) bX12_askOf_73 rfl (by decide)
theorem dX12_askOf_94 : decode cX12_askOf 94 = .ok (.iload 6, 2) := dk21 (k := 21) bX12_askOf_73 rfl rfl
theorem dX12_askOf_96 : decode cX12_askOf 96 = .ok (.iload_n 3, 1) := dk29 (k := 23) bX12_askOf_73 rfl
theorem bX12_askOf_97 : bL cX12_askOf 97 [184, 0, 229, 21, 6, 100, 184, 1, 61, 54, 7, 21, 7, 42, 180, 1, 118, 161, 0, 6, 167, 0, 13, 42] := bL_of (by decide +kernel)
theorem dX12_askOf_97 : decode cX12_askOf 97 = .ok (.invokestatic 229, 3) := dk184 (k := 0) bX12_askOf_97 rfl rfl
theorem dX12_askOf_100 : decode cX12_askOf 100 = .ok (.iload 6, 2) := dk21 (k := 3) bX12_askOf_97 rfl rfl
theorem dX12_askOf_102 : decode cX12_askOf 102 = .ok (.isub, 1) := dk100 (k := 5) bX12_askOf_97 rfl
theorem dX12_askOf_103 : decode cX12_askOf 103 = .ok (.invokestatic 317, 3) := dk184 (k := 6) bX12_askOf_97 rfl rfl
theorem dX12_askOf_106 : decode cX12_askOf 106 = .ok (.istore 7, 2) := dk54 (k := 9) bX12_askOf_97 rfl rfl
theorem dX12_askOf_108 : decode cX12_askOf 108 = .ok (.iload 7, 2) := dk21 (k := 11) bX12_askOf_97 rfl rfl
theorem dX12_askOf_110 : decode cX12_askOf 110 = .ok (.aload_n 0, 1) := dk42 (k := 13) bX12_askOf_97 rfl
theorem dX12_askOf_111 : decode cX12_askOf 111 = .ok (.getfield 374, 3) := dk180 (k := 14) bX12_askOf_97 rfl rfl
theorem dX12_askOf_114 : decode cX12_askOf 114 = .ok (.if_icmp .lt 6, 3) := dk161 (k := 17) bX12_askOf_97 rfl (by decide)
theorem dX12_askOf_117 : decode cX12_askOf 117 = .ok (.goto 13, 3) := dk167 (k := 20) bX12_askOf_97 rfl (by decide)
theorem dX12_askOf_120 : decode cX12_askOf 120 = .ok (.aload_n 0, 1) := dk42 (k := 23) bX12_askOf_97 rfl
theorem bX12_askOf_121 : bL cX12_askOf 121 [21, 7, 181, 1, 118, 21, 5, 54, 4, 132, 5, 1, 167, 255, 144, 21, 4, 172] := bL_of (by decide +kernel)
theorem dX12_askOf_121 : decode cX12_askOf 121 = .ok (.iload 7, 2) := dk21 (k := 0) bX12_askOf_121 rfl rfl
theorem dX12_askOf_123 : decode cX12_askOf 123 = .ok (.putfield 374, 3) := dk181 (k := 2) bX12_askOf_121 rfl rfl
theorem dX12_askOf_126 : decode cX12_askOf 126 = .ok (.iload 5, 2) := dk21 (k := 5) bX12_askOf_121 rfl rfl
theorem dX12_askOf_128 : decode cX12_askOf 128 = .ok (.istore 4, 2) := dk54 (k := 7) bX12_askOf_121 rfl rfl
theorem dX12_askOf_130 : decode cX12_askOf 130 = .ok (.iinc 5 1, 3) := dk132 (k := 9) bX12_askOf_121 rfl rfl (by decide)
theorem dX12_askOf_133 : decode cX12_askOf 133 = .ok (.goto (-112), 3) := dk167 (k := 12) bX12_askOf_121 rfl (by decide)
theorem dX12_askOf_136 : decode cX12_askOf 136 = .ok (.iload 4, 2) := dk21 (k := 15) bX12_askOf_121 rfl rfl
theorem dX12_askOf_138 : decode cX12_askOf 138 = .ok (.ireturn, 1) := dk172 (k := 17) bX12_askOf_121 rfl
theorem bX12_ask_0 : bL cX12_ask 0 [42, 27, 182, 1, 112, 62, 29, 16, 250, 160, 0, 17, 42, 28, 133, 182, 0, 203, 154, 0, 8, 16, 254, 167, 0, 31] := bL_of (by decide +kernel)
theorem dX12_ask_0 : decode cX12_ask 0 = .ok (.aload_n 0, 1) := dk42 (k := 0) bX12_ask_0 rfl
theorem dX12_ask_1 : decode cX12_ask 1 = .ok (.iload_n 1, 1) := dk27 (k := 1) bX12_ask_0 rfl
theorem dX12_ask_2 : decode cX12_ask 2 = .ok (.invokevirtual 368, 3) := dk182 (k := 2) bX12_ask_0 rfl rfl
theorem dX12_ask_5 : decode cX12_ask 5 = .ok (.istore_n 3, 1) := dk62 (k := 5) bX12_ask_0 rfl
theorem dX12_ask_6 : decode cX12_ask 6 = .ok (.iload_n 3, 1) := dk29 (k := 6) bX12_ask_0 rfl
theorem dX12_ask_7 : decode cX12_ask 7 = .ok (.bipush (-6), 2) := dk16 (k := 7) bX12_ask_0 rfl (by decide)
theorem dX12_ask_9 : decode cX12_ask 9 = .ok (.if_icmp .ne 17, 3) := dk160 (k := 9) bX12_ask_0 rfl (by decide)
theorem dX12_ask_12 : decode cX12_ask 12 = .ok (.aload_n 0, 1) := dk42 (k := 12) bX12_ask_0 rfl
theorem dX12_ask_13 : decode cX12_ask 13 = .ok (.iload_n 2, 1) := dk28 (k := 13) bX12_ask_0 rfl
theorem dX12_ask_14 : decode cX12_ask 14 = .ok (.i2l, 1) := dk133 (k := 14) bX12_ask_0 rfl
theorem dX12_ask_15 : decode cX12_ask 15 = .ok (.invokevirtual 203, 3) := dk182 (k := 15) bX12_ask_0 rfl rfl
theorem dX12_ask_18 : decode cX12_ask 18 = .ok (.ifCond .ne 8, 3) := dk154 (k := 18) bX12_ask_0 rfl (by decide)
theorem dX12_ask_21 : decode cX12_ask 21 = .ok (.bipush (-2), 2) := dk16 (k := 21) bX12_ask_0 rfl (by decide)
theorem dX12_ask_23 : decode cX12_ask 23 = .ok (.goto 31, 3) := dk167 (k := 23) bX12_ask_0 rfl (by decide)
theorem bX12_ask_26 : bL cX12_ask 26 [29, 156, 0, 7, 29, 167, 0, 23, 42, 28, 133, 182, 0, 203, 153, 0, 12, 42, 27, 28, 182, 1, 121, 167, 0, 5] := bL_of (by decide +kernel)
theorem dX12_ask_26 : decode cX12_ask 26 = .ok (.iload_n 3, 1) := dk29 (k := 0) bX12_ask_26 rfl
theorem dX12_ask_27 : decode cX12_ask 27 = .ok (.ifCond .ge 7, 3) := dk156 (k := 1) bX12_ask_26 rfl (by decide)
theorem dX12_ask_30 : decode cX12_ask 30 = .ok (.iload_n 3, 1) := dk29 (k := 4) bX12_ask_26 rfl
theorem dX12_ask_31 : decode cX12_ask 31 = .ok (.goto 23, 3) := dk167 (k := 5) bX12_ask_26 rfl (by decide)
theorem dX12_ask_34 : decode cX12_ask 34 = .ok (.aload_n 0, 1) := dk42 (k := 8) bX12_ask_26 rfl
theorem dX12_ask_35 : decode cX12_ask 35 = .ok (.iload_n 2, 1) := dk28 (k := 9) bX12_ask_26 rfl
theorem dX12_ask_36 : decode cX12_ask 36 = .ok (.i2l, 1) := dk133 (k := 10) bX12_ask_26 rfl
theorem dX12_ask_37 : decode cX12_ask 37 = .ok (.invokevirtual 203, 3) := dk182 (k := 11) bX12_ask_26 rfl rfl
theorem dX12_ask_40 : decode cX12_ask 40 = .ok (.ifCond .eq 12, 3) := dk153 (k := 14) bX12_ask_26 rfl (by decide)
theorem dX12_ask_43 : decode cX12_ask 43 = .ok (.aload_n 0, 1) := dk42 (k := 17) bX12_ask_26 rfl
theorem dX12_ask_44 : decode cX12_ask 44 = .ok (.iload_n 1, 1) := dk27 (k := 18) bX12_ask_26 rfl
theorem dX12_ask_45 : decode cX12_ask 45 = .ok (.iload_n 2, 1) := dk28 (k := 19) bX12_ask_26 rfl
theorem dX12_ask_46 : decode cX12_ask 46 = .ok (.invokevirtual 377, 3) := dk182 (k := 20) bX12_ask_26 rfl rfl
theorem dX12_ask_49 : decode cX12_ask 49 = .ok (.goto 5, 3) := dk167 (k := 23) bX12_ask_26 rfl (by decide)
theorem bX12_ask_52 : bL cX12_ask 52 [16, 254, 172] := bL_of (by decide +kernel)
theorem dX12_ask_52 : decode cX12_ask 52 = .ok (.bipush (-2), 2) := dk16 (k := 0) bX12_ask_52 rfl (by decide)
theorem dX12_ask_54 : decode cX12_ask 54 = .ok (.ireturn, 1) := dk172 (k := 2) bX12_ask_52 rfl
theorem bX12_leaves_0 : bL cX12_leaves 0 [42, 27, 182, 1, 112, 62, 29, 155, 0, 12, 42, 28, 133, 182, 0, 203, 154, 0, 26, 29, 16, 250, 160, 0, 17] := bL_of (by decide +kernel)
theorem dX12_leaves_0 : decode cX12_leaves 0 = .ok (.aload_n 0, 1) := dk42 (k := 0) bX12_leaves_0 rfl
theorem dX12_leaves_1 : decode cX12_leaves 1 = .ok (.iload_n 1, 1) := dk27 (k := 1) bX12_leaves_0 rfl
theorem dX12_leaves_2 : decode cX12_leaves 2 = .ok (.invokevirtual 368, 3) := dk182 (k := 2) bX12_leaves_0 rfl rfl
theorem dX12_leaves_5 : decode cX12_leaves 5 = .ok (.istore_n 3, 1) := dk62 (k := 5) bX12_leaves_0 rfl
theorem dX12_leaves_6 : decode cX12_leaves 6 = .ok (.iload_n 3, 1) := dk29 (k := 6) bX12_leaves_0 rfl
theorem dX12_leaves_7 : decode cX12_leaves 7 = .ok (.ifCond .lt 12, 3) := dk155 (k := 7) bX12_leaves_0 rfl (by decide)
theorem dX12_leaves_10 : decode cX12_leaves 10 = .ok (.aload_n 0, 1) := dk42 (k := 10) bX12_leaves_0 rfl
theorem dX12_leaves_11 : decode cX12_leaves 11 = .ok (.iload_n 2, 1) := dk28 (k := 11) bX12_leaves_0 rfl
theorem dX12_leaves_12 : decode cX12_leaves 12 = .ok (.i2l, 1) := dk133 (k := 12) bX12_leaves_0 rfl
theorem dX12_leaves_13 : decode cX12_leaves 13 = .ok (.invokevirtual 203, 3) := dk182 (k := 13) bX12_leaves_0 rfl rfl
theorem dX12_leaves_16 : decode cX12_leaves 16 = .ok (.ifCond .ne 26, 3) := dk154 (k := 16) bX12_leaves_0 rfl (by decide)
theorem dX12_leaves_19 : decode cX12_leaves 19 = .ok (.iload_n 3, 1) := dk29 (k := 19) bX12_leaves_0 rfl
theorem dX12_leaves_20 : decode cX12_leaves 20 = .ok (.bipush (-6), 2) := dk16 (k := 20) bX12_leaves_0 rfl (by decide)
theorem dX12_leaves_22 : decode cX12_leaves 22 = .ok (.if_icmp .ne 17, 3) := dk160 (k := 22) bX12_leaves_0 rfl (by decide)
theorem bX12_leaves_25 : bL cX12_leaves 25 [42, 28, 133, 182, 0, 203, 153, 0, 8, 16, 250, 167, 0, 5, 16, 254, 172, 42, 27, 28, 182, 1, 121, 87] := bL_of (by decide +kernel)
theorem dX12_leaves_25 : decode cX12_leaves 25 = .ok (.aload_n 0, 1) := dk42 (k := 0) bX12_leaves_25 rfl
theorem dX12_leaves_26 : decode cX12_leaves 26 = .ok (.iload_n 2, 1) := dk28 (k := 1) bX12_leaves_25 rfl
theorem dX12_leaves_27 : decode cX12_leaves 27 = .ok (.i2l, 1) := dk133 (k := 2) bX12_leaves_25 rfl
theorem dX12_leaves_28 : decode cX12_leaves 28 = .ok (.invokevirtual 203, 3) := dk182 (k := 3) bX12_leaves_25 rfl rfl
theorem dX12_leaves_31 : decode cX12_leaves 31 = .ok (.ifCond .eq 8, 3) := dk153 (k := 6) bX12_leaves_25 rfl (by decide)
theorem dX12_leaves_34 : decode cX12_leaves 34 = .ok (.bipush (-6), 2) := dk16 (k := 9) bX12_leaves_25 rfl (by decide)
theorem dX12_leaves_36 : decode cX12_leaves 36 = .ok (.goto 5, 3) := dk167 (k := 11) bX12_leaves_25 rfl (by decide)
theorem dX12_leaves_39 : decode cX12_leaves 39 = .ok (.bipush (-2), 2) := dk16 (k := 14) bX12_leaves_25 rfl (by decide)
theorem dX12_leaves_41 : decode cX12_leaves 41 = .ok (.ireturn, 1) := dk172 (k := 16) bX12_leaves_25 rfl
theorem dX12_leaves_42 : decode cX12_leaves 42 = .ok (.aload_n 0, 1) := dk42 (k := 17) bX12_leaves_25 rfl
theorem dX12_leaves_43 : decode cX12_leaves 43 = .ok (.iload_n 1, 1) := dk27 (k := 18) bX12_leaves_25 rfl
theorem dX12_leaves_44 : decode cX12_leaves 44 = .ok (.iload_n 2, 1) := dk28 (k := 19) bX12_leaves_25 rfl
theorem dX12_leaves_45 : decode cX12_leaves 45 = .ok (.invokevirtual 377, 3) := dk182 (k := 20) bX12_leaves_25 rfl rfl
theorem dX12_leaves_48 : decode cX12_leaves 48 = .ok (.pop, 1) := dk87 (k := 23) bX12_leaves_25 rfl
theorem bX12_leaves_49 : bL cX12_leaves 49 [42, 180, 1, 118, 172] := bL_of (by decide +kernel)
theorem dX12_leaves_49 : decode cX12_leaves 49 = .ok (.aload_n 0, 1) := dk42 (k := 0) bX12_leaves_49 rfl
theorem dX12_leaves_50 : decode cX12_leaves 50 = .ok (.getfield 374, 3) := dk180 (k := 1) bX12_leaves_49 rfl rfl
theorem dX12_leaves_53 : decode cX12_leaves 53 = .ok (.ireturn, 1) := dk172 (k := 4) bX12_leaves_49 rfl
theorem bX12_doubts_0 : bL cX12_doubts 0 [42, 27, 182, 1, 112, 61, 28, 156, 0, 5, 28, 172, 3, 62, 3, 54, 4, 21, 4, 42, 180, 0, 47, 27] := bL_of (by decide +kernel)
theorem dX12_doubts_0 : decode cX12_doubts 0 = .ok (.aload_n 0, 1) := dk42 (k := 0) bX12_doubts_0 rfl
theorem dX12_doubts_1 : decode cX12_doubts 1 = .ok (.iload_n 1, 1) := dk27 (k := 1) bX12_doubts_0 rfl
theorem dX12_doubts_2 : decode cX12_doubts 2 = .ok (.invokevirtual 368, 3) := dk182 (k := 2) bX12_doubts_0 rfl rfl
theorem dX12_doubts_5 : decode cX12_doubts 5 = .ok (.istore_n 2, 1) := dk61 (k := 5) bX12_doubts_0 rfl
theorem dX12_doubts_6 : decode cX12_doubts 6 = .ok (.iload_n 2, 1) := dk28 (k := 6) bX12_doubts_0 rfl
theorem dX12_doubts_7 : decode cX12_doubts 7 = .ok (.ifCond .ge 5, 3) := dk156 (k := 7) bX12_doubts_0 rfl (by decide)
theorem dX12_doubts_10 : decode cX12_doubts 10 = .ok (.iload_n 2, 1) := dk28 (k := 10) bX12_doubts_0 rfl
theorem dX12_doubts_11 : decode cX12_doubts 11 = .ok (.ireturn, 1) := dk172 (k := 11) bX12_doubts_0 rfl
theorem dX12_doubts_12 : decode cX12_doubts 12 = .ok (.iconst 0, 1) := dk3 (k := 12) bX12_doubts_0 rfl
theorem dX12_doubts_13 : decode cX12_doubts 13 = .ok (.istore_n 3, 1) := dk62 (k := 13) bX12_doubts_0 rfl
theorem dX12_doubts_14 : decode cX12_doubts 14 = .ok (.iconst 0, 1) := dk3 (k := 14) bX12_doubts_0 rfl
theorem dX12_doubts_15 : decode cX12_doubts 15 = .ok (.istore 4, 2) := dk54 (k := 15) bX12_doubts_0 rfl rfl
theorem dX12_doubts_17 : decode cX12_doubts 17 = .ok (.iload 4, 2) := dk21 (k := 17) bX12_doubts_0 rfl rfl
theorem dX12_doubts_19 : decode cX12_doubts 19 = .ok (.aload_n 0, 1) := dk42 (k := 19) bX12_doubts_0 rfl
theorem dX12_doubts_20 : decode cX12_doubts 20 = .ok (.getfield 47, 3) := dk180 (k := 20) bX12_doubts_0 rfl rfl
theorem dX12_doubts_23 : decode cX12_doubts 23 = .ok (.iload_n 1, 1) := dk27 (k := 23) bX12_doubts_0 rfl
theorem bX12_doubts_24 : bL cX12_doubts 24 [46, 162, 0, 27, 29, 42, 27, 21, 4, 182, 1, 115, 153, 0, 7, 4, 167, 0, 4, 3, 96, 62, 132, 4, 3] := bL_of (by decide +kernel)
theorem dX12_doubts_24 : decode cX12_doubts 24 = .ok (.iaload, 1) := dk46 (k := 0) bX12_doubts_24 rfl
theorem dX12_doubts_25 : decode cX12_doubts 25 = .ok (.if_icmp .ge 27, 3) := dk162 (k := 1) bX12_doubts_24 rfl (by decide)
theorem dX12_doubts_28 : decode cX12_doubts 28 = .ok (.iload_n 3, 1) := dk29 (k := 4) bX12_doubts_24 rfl
theorem dX12_doubts_29 : decode cX12_doubts 29 = .ok (.aload_n 0, 1) := dk42 (k := 5) bX12_doubts_24 rfl
theorem dX12_doubts_30 : decode cX12_doubts 30 = .ok (.iload_n 1, 1) := dk27 (k := 6) bX12_doubts_24 rfl
theorem dX12_doubts_31 : decode cX12_doubts 31 = .ok (.iload 4, 2) := dk21 (k := 7) bX12_doubts_24 rfl rfl
theorem dX12_doubts_33 : decode cX12_doubts 33 = .ok (.invokevirtual 371, 3) := dk182 (k := 9) bX12_doubts_24 rfl rfl
theorem dX12_doubts_36 : decode cX12_doubts 36 = .ok (.ifCond .eq 7, 3) := dk153 (k := 12) bX12_doubts_24 rfl (by decide)
theorem dX12_doubts_39 : decode cX12_doubts 39 = .ok (.iconst 1, 1) := dk4 (k := 15) bX12_doubts_24 rfl
theorem dX12_doubts_40 : decode cX12_doubts 40 = .ok (.goto 4, 3) := dk167 (k := 16) bX12_doubts_24 rfl (by decide)
theorem dX12_doubts_43 : decode cX12_doubts 43 = .ok (.iconst 0, 1) := dk3 (k := 19) bX12_doubts_24 rfl
theorem dX12_doubts_44 : decode cX12_doubts 44 = .ok (.iadd, 1) := dk96 (k := 20) bX12_doubts_24 rfl
theorem dX12_doubts_45 : decode cX12_doubts 45 = .ok (.istore_n 3, 1) := dk62 (k := 21) bX12_doubts_24 rfl
theorem dX12_doubts_46 : decode cX12_doubts 46 = .ok (.iinc 4 3, 3) := dk132 (k := 22) bX12_doubts_24 rfl rfl (by decide)
theorem bX12_doubts_49 : bL cX12_doubts 49 [167, 255, 224, 29, 172] := bL_of (by decide +kernel)
theorem dX12_doubts_49 : decode cX12_doubts 49 = .ok (.goto (-32), 3) := dk167 (k := 0) bX12_doubts_49 rfl (by decide)
theorem dX12_doubts_52 : decode cX12_doubts 52 = .ok (.iload_n 3, 1) := dk29 (k := 3) bX12_doubts_49 rfl
theorem dX12_doubts_53 : decode cX12_doubts 53 = .ok (.ireturn, 1) := dk172 (k := 4) bX12_doubts_49 rfl
theorem bX12_asksNames_0 : bL cX12_asksNames 0 [27, 184, 1, 101, 153, 0, 14, 42, 182, 0, 73, 153, 0, 7, 28, 154, 0, 6, 16, 254, 172, 42, 180, 0, 47] := bL_of (by decide +kernel)
theorem dX12_asksNames_0 : decode cX12_asksNames 0 = .ok (.iload_n 1, 1) := dk27 (k := 0) bX12_asksNames_0 rfl
theorem dX12_asksNames_1 : decode cX12_asksNames 1 = .ok (.invokestatic 357, 3) := dk184 (k := 1) bX12_asksNames_0 rfl rfl
theorem dX12_asksNames_4 : decode cX12_asksNames 4 = .ok (.ifCond .eq 14, 3) := dk153 (k := 4) bX12_asksNames_0 rfl (by decide)
theorem dX12_asksNames_7 : decode cX12_asksNames 7 = .ok (.aload_n 0, 1) := dk42 (k := 7) bX12_asksNames_0 rfl
theorem dX12_asksNames_8 : decode cX12_asksNames 8 = .ok (.invokevirtual 73, 3) := dk182 (k := 8) bX12_asksNames_0 rfl rfl
theorem dX12_asksNames_11 : decode cX12_asksNames 11 = .ok (.ifCond .eq 7, 3) := dk153 (k := 11) bX12_asksNames_0 rfl (by decide)
theorem dX12_asksNames_14 : decode cX12_asksNames 14 = .ok (.iload_n 2, 1) := dk28 (k := 14) bX12_asksNames_0 rfl
theorem dX12_asksNames_15 : decode cX12_asksNames 15 = .ok (.ifCond .ne 6, 3) := dk154 (k := 15) bX12_asksNames_0 rfl (by decide)
theorem dX12_asksNames_18 : decode cX12_asksNames 18 = .ok (.bipush (-2), 2) := dk16 (k := 18) bX12_asksNames_0 rfl (by decide)
theorem dX12_asksNames_20 : decode cX12_asksNames 20 = .ok (.ireturn, 1) := dk172 (k := 20) bX12_asksNames_0 rfl
theorem dX12_asksNames_21 : decode cX12_asksNames 21 = .ok (.aload_n 0, 1) := dk42 (k := 21) bX12_asksNames_0 rfl
theorem dX12_asksNames_22 : decode cX12_asksNames 22 = .ok (.getfield 47, 3) := dk180 (k := 22) bX12_asksNames_0 rfl rfl
theorem bX12_asksNames_25 : bL cX12_asksNames 25 [27, 46, 2, 160, 0, 6, 16, 250, 172, 42, 180, 0, 47, 27, 46, 5, 112, 153, 0, 6, 16, 254, 172, 3] := bL_of (by decide +kernel)
theorem dX12_asksNames_25 : decode cX12_asksNames 25 = .ok (.iload_n 1, 1) := dk27 (k := 0) bX12_asksNames_25 rfl
theorem dX12_asksNames_26 : decode cX12_asksNames 26 = .ok (.iaload, 1) := dk46 (k := 1) bX12_asksNames_25 rfl
theorem dX12_asksNames_27 : decode cX12_asksNames 27 = .ok (.iconst (-1), 1) := dk2 (k := 2) bX12_asksNames_25 rfl
theorem dX12_asksNames_28 : decode cX12_asksNames 28 = .ok (.if_icmp .ne 6, 3) := dk160 (k := 3) bX12_asksNames_25 rfl (by decide)
theorem dX12_asksNames_31 : decode cX12_asksNames 31 = .ok (.bipush (-6), 2) := dk16 (k := 6) bX12_asksNames_25 rfl (by decide)
theorem dX12_asksNames_33 : decode cX12_asksNames 33 = .ok (.ireturn, 1) := dk172 (k := 8) bX12_asksNames_25 rfl
theorem dX12_asksNames_34 : decode cX12_asksNames 34 = .ok (.aload_n 0, 1) := dk42 (k := 9) bX12_asksNames_25 rfl
theorem dX12_asksNames_35 : decode cX12_asksNames 35 = .ok (.getfield 47, 3) := dk180 (k := 10) bX12_asksNames_25 rfl rfl
theorem dX12_asksNames_38 : decode cX12_asksNames 38 = .ok (.iload_n 1, 1) := dk27 (k := 13) bX12_asksNames_25 rfl
theorem dX12_asksNames_39 : decode cX12_asksNames 39 = .ok (.iaload, 1) := dk46 (k := 14) bX12_asksNames_25 rfl
theorem dX12_asksNames_40 : decode cX12_asksNames 40 = .ok (.iconst 2, 1) := dk5 (k := 15) bX12_asksNames_25 rfl
theorem dX12_asksNames_41 : decode cX12_asksNames 41 = .ok (.irem, 1) := dk112 (k := 16) bX12_asksNames_25 rfl
theorem dX12_asksNames_42 : decode cX12_asksNames 42 = .ok (.ifCond .eq 6, 3) := dk153 (k := 17) bX12_asksNames_25 rfl (by decide)
theorem dX12_asksNames_45 : decode cX12_asksNames 45 = .ok (.bipush (-2), 2) := dk16 (k := 20) bX12_asksNames_25 rfl (by decide)
theorem dX12_asksNames_47 : decode cX12_asksNames 47 = .ok (.ireturn, 1) := dk172 (k := 22) bX12_asksNames_25 rfl
theorem dX12_asksNames_48 : decode cX12_asksNames 48 = .ok (.iconst 0, 1) := dk3 (k := 23) bX12_asksNames_25 rfl
theorem bX12_asksNames_49 : bL cX12_asksNames 49 [62, 29, 42, 180, 0, 47, 27, 46, 162, 0, 43, 42, 42, 27, 29, 182, 1, 104, 182, 0, 235, 153, 0, 21] := bL_of (by decide +kernel)
theorem dX12_asksNames_49 : decode cX12_asksNames 49 = .ok (.istore_n 3, 1) := dk62 (k := 0) bX12_asksNames_49 rfl
theorem dX12_asksNames_50 : decode cX12_asksNames 50 = .ok (.iload_n 3, 1) := dk29 (k := 1) bX12_asksNames_49 rfl
theorem dX12_asksNames_51 : decode cX12_asksNames 51 = .ok (.aload_n 0, 1) := dk42 (k := 2) bX12_asksNames_49 rfl
theorem dX12_asksNames_52 : decode cX12_asksNames 52 = .ok (.getfield 47, 3) := dk180 (k := 3) bX12_asksNames_49 rfl rfl
theorem dX12_asksNames_55 : decode cX12_asksNames 55 = .ok (.iload_n 1, 1) := dk27 (k := 6) bX12_asksNames_49 rfl
theorem dX12_asksNames_56 : decode cX12_asksNames 56 = .ok (.iaload, 1) := dk46 (k := 7) bX12_asksNames_49 rfl
theorem dX12_asksNames_57 : decode cX12_asksNames 57 = .ok (.if_icmp .ge 43, 3) := dk162 (k := 8) bX12_asksNames_49 rfl (by decide)
theorem dX12_asksNames_60 : decode cX12_asksNames 60 = .ok (.aload_n 0, 1) := dk42 (k := 11) bX12_asksNames_49 rfl
theorem dX12_asksNames_61 : decode cX12_asksNames 61 = .ok (.aload_n 0, 1) := dk42 (k := 12) bX12_asksNames_49 rfl
theorem dX12_asksNames_62 : decode cX12_asksNames 62 = .ok (.iload_n 1, 1) := dk27 (k := 13) bX12_asksNames_49 rfl
theorem dX12_asksNames_63 : decode cX12_asksNames 63 = .ok (.iload_n 3, 1) := dk29 (k := 14) bX12_asksNames_49 rfl
theorem dX12_asksNames_64 : decode cX12_asksNames 64 = .ok (.invokevirtual 360, 3) := dk182 (k := 15) bX12_asksNames_49 rfl rfl
theorem dX12_asksNames_67 : decode cX12_asksNames 67 = .ok (.invokevirtual 235, 3) := dk182 (k := 18) bX12_asksNames_49 rfl rfl
theorem dX12_asksNames_70 : decode cX12_asksNames 70 = .ok (.ifCond .eq 21, 3) := dk153 (k := 21) bX12_asksNames_49 rfl (by decide)
theorem bX12_asksNames_73 : bL cX12_asksNames 73 [42, 27, 29, 4, 96, 182, 1, 104, 9, 20, 1, 91, 184, 0, 65, 154, 0, 6, 16, 254, 172, 132, 3, 2] := bL_of (by decide +kernel)
theorem dX12_asksNames_73 : decode cX12_asksNames 73 = .ok (.aload_n 0, 1) := dk42 (k := 0) bX12_asksNames_73 rfl
theorem dX12_asksNames_74 : decode cX12_asksNames 74 = .ok (.iload_n 1, 1) := dk27 (k := 1) bX12_asksNames_73 rfl
theorem dX12_asksNames_75 : decode cX12_asksNames 75 = .ok (.iload_n 3, 1) := dk29 (k := 2) bX12_asksNames_73 rfl
theorem dX12_asksNames_76 : decode cX12_asksNames 76 = .ok (.iconst 1, 1) := dk4 (k := 3) bX12_asksNames_73 rfl
theorem dX12_asksNames_77 : decode cX12_asksNames 77 = .ok (.iadd, 1) := dk96 (k := 4) bX12_asksNames_73 rfl
theorem dX12_asksNames_78 : decode cX12_asksNames 78 = .ok (.invokevirtual 360, 3) := dk182 (k := 5) bX12_asksNames_73 rfl rfl
theorem dX12_asksNames_81 : decode cX12_asksNames 81 = .ok (.lconst 0, 1) := dk9 (k := 8) bX12_asksNames_73 rfl
theorem dX12_asksNames_82 : decode cX12_asksNames 82 = .ok (.ldc2_w 347, 3) := dk20 (k := 9) bX12_asksNames_73 rfl rfl
theorem dX12_asksNames_85 : decode cX12_asksNames 85 = .ok (.invokestatic 65, 3) := dk184 (k := 12) bX12_asksNames_73 rfl rfl
theorem dX12_asksNames_88 : decode cX12_asksNames 88 = .ok (.ifCond .ne 6, 3) := dk154 (k := 15) bX12_asksNames_73 rfl (by decide)
theorem dX12_asksNames_91 : decode cX12_asksNames 91 = .ok (.bipush (-2), 2) := dk16 (k := 18) bX12_asksNames_73 rfl (by decide)
theorem dX12_asksNames_93 : decode cX12_asksNames 93 = .ok (.ireturn, 1) := dk172 (k := 20) bX12_asksNames_73 rfl
theorem dX12_asksNames_94 : decode cX12_asksNames 94 = .ok (.iinc 3 2, 3) := dk132 (k := 21) bX12_asksNames_73 rfl rfl (by decide)
theorem bX12_asksNames_97 : bL cX12_asksNames 97 [167, 255, 209, 3, 172] := bL_of (by decide +kernel)
theorem dX12_asksNames_97 : decode cX12_asksNames 97 = .ok (.goto (-47), 3) := dk167 (k := 0) bX12_asksNames_97 rfl (by decide)
theorem dX12_asksNames_100 : decode cX12_asksNames 100 = .ok (.iconst 0, 1) := dk3 (k := 3) bX12_asksNames_97 rfl
theorem dX12_asksNames_101 : decode cX12_asksNames 101 = .ok (.ireturn, 1) := dk172 (k := 4) bX12_asksNames_97 rfl
theorem bX12_hasName_0 : bL cX12_hasName 0 [42, 27, 28, 4, 96, 182, 1, 104, 42, 42, 27, 28, 182, 1, 104, 136, 4, 182, 0, 220, 133, 148, 156, 0, 7] := bL_of (by decide +kernel)
theorem dX12_hasName_0 : decode cX12_hasName 0 = .ok (.aload_n 0, 1) := dk42 (k := 0) bX12_hasName_0 rfl
theorem dX12_hasName_1 : decode cX12_hasName 1 = .ok (.iload_n 1, 1) := dk27 (k := 1) bX12_hasName_0 rfl
theorem dX12_hasName_2 : decode cX12_hasName 2 = .ok (.iload_n 2, 1) := dk28 (k := 2) bX12_hasName_0 rfl
theorem dX12_hasName_3 : decode cX12_hasName 3 = .ok (.iconst 1, 1) := dk4 (k := 3) bX12_hasName_0 rfl
theorem dX12_hasName_4 : decode cX12_hasName 4 = .ok (.iadd, 1) := dk96 (k := 4) bX12_hasName_0 rfl
theorem dX12_hasName_5 : decode cX12_hasName 5 = .ok (.invokevirtual 360, 3) := dk182 (k := 5) bX12_hasName_0 rfl rfl
theorem dX12_hasName_8 : decode cX12_hasName 8 = .ok (.aload_n 0, 1) := dk42 (k := 8) bX12_hasName_0 rfl
theorem dX12_hasName_9 : decode cX12_hasName 9 = .ok (.aload_n 0, 1) := dk42 (k := 9) bX12_hasName_0 rfl
theorem dX12_hasName_10 : decode cX12_hasName 10 = .ok (.iload_n 1, 1) := dk27 (k := 10) bX12_hasName_0 rfl
theorem dX12_hasName_11 : decode cX12_hasName 11 = .ok (.iload_n 2, 1) := dk28 (k := 11) bX12_hasName_0 rfl
theorem dX12_hasName_12 : decode cX12_hasName 12 = .ok (.invokevirtual 360, 3) := dk182 (k := 12) bX12_hasName_0 rfl rfl
theorem dX12_hasName_15 : decode cX12_hasName 15 = .ok (.l2i, 1) := dk136 (k := 15) bX12_hasName_0 rfl
theorem dX12_hasName_16 : decode cX12_hasName 16 = .ok (.iconst 1, 1) := dk4 (k := 16) bX12_hasName_0 rfl
theorem dX12_hasName_17 : decode cX12_hasName 17 = .ok (.invokevirtual 220, 3) := dk182 (k := 17) bX12_hasName_0 rfl rfl
theorem dX12_hasName_20 : decode cX12_hasName 20 = .ok (.i2l, 1) := dk133 (k := 20) bX12_hasName_0 rfl
theorem dX12_hasName_21 : decode cX12_hasName 21 = .ok (.lcmp, 1) := dk148 (k := 21) bX12_hasName_0 rfl
theorem dX12_hasName_22 : decode cX12_hasName 22 = .ok (.ifCond .ge 7, 3) := dk156 (k := 22) bX12_hasName_0 rfl (by decide)
theorem bX12_hasName_25 : bL cX12_hasName 25 [4, 167, 0, 4, 3, 172] := bL_of (by decide +kernel)
theorem dX12_hasName_25 : decode cX12_hasName 25 = .ok (.iconst 1, 1) := dk4 (k := 0) bX12_hasName_25 rfl
theorem dX12_hasName_26 : decode cX12_hasName 26 = .ok (.goto 4, 3) := dk167 (k := 1) bX12_hasName_25 rfl (by decide)
theorem dX12_hasName_29 : decode cX12_hasName 29 = .ok (.iconst 0, 1) := dk3 (k := 4) bX12_hasName_25 rfl
theorem dX12_hasName_30 : decode cX12_hasName 30 = .ok (.ireturn, 1) := dk172 (k := 5) bX12_hasName_25 rfl
theorem bX12_isThere_0 : bL cX12_isThere 0 [3, 62, 29, 28, 162, 0, 47, 42, 27, 29, 182, 1, 104, 42, 27, 28, 182, 1, 104, 148, 154, 0, 25, 42] := bL_of (by decide +kernel)
theorem dX12_isThere_0 : decode cX12_isThere 0 = .ok (.iconst 0, 1) := dk3 (k := 0) bX12_isThere_0 rfl
theorem dX12_isThere_1 : decode cX12_isThere 1 = .ok (.istore_n 3, 1) := dk62 (k := 1) bX12_isThere_0 rfl
theorem dX12_isThere_2 : decode cX12_isThere 2 = .ok (.iload_n 3, 1) := dk29 (k := 2) bX12_isThere_0 rfl
theorem dX12_isThere_3 : decode cX12_isThere 3 = .ok (.iload_n 2, 1) := dk28 (k := 3) bX12_isThere_0 rfl
theorem dX12_isThere_4 : decode cX12_isThere 4 = .ok (.if_icmp .ge 47, 3) := dk162 (k := 4) bX12_isThere_0 rfl (by decide)
theorem dX12_isThere_7 : decode cX12_isThere 7 = .ok (.aload_n 0, 1) := dk42 (k := 7) bX12_isThere_0 rfl
theorem dX12_isThere_8 : decode cX12_isThere 8 = .ok (.iload_n 1, 1) := dk27 (k := 8) bX12_isThere_0 rfl
theorem dX12_isThere_9 : decode cX12_isThere 9 = .ok (.iload_n 3, 1) := dk29 (k := 9) bX12_isThere_0 rfl
theorem dX12_isThere_10 : decode cX12_isThere 10 = .ok (.invokevirtual 360, 3) := dk182 (k := 10) bX12_isThere_0 rfl rfl
theorem dX12_isThere_13 : decode cX12_isThere 13 = .ok (.aload_n 0, 1) := dk42 (k := 13) bX12_isThere_0 rfl
theorem dX12_isThere_14 : decode cX12_isThere 14 = .ok (.iload_n 1, 1) := dk27 (k := 14) bX12_isThere_0 rfl
theorem dX12_isThere_15 : decode cX12_isThere 15 = .ok (.iload_n 2, 1) := dk28 (k := 15) bX12_isThere_0 rfl
theorem dX12_isThere_16 : decode cX12_isThere 16 = .ok (.invokevirtual 360, 3) := dk182 (k := 16) bX12_isThere_0 rfl rfl
theorem dX12_isThere_19 : decode cX12_isThere 19 = .ok (.lcmp, 1) := dk148 (k := 19) bX12_isThere_0 rfl
theorem dX12_isThere_20 : decode cX12_isThere 20 = .ok (.ifCond .ne 25, 3) := dk154 (k := 20) bX12_isThere_0 rfl (by decide)
theorem dX12_isThere_23 : decode cX12_isThere 23 = .ok (.aload_n 0, 1) := dk42 (k := 23) bX12_isThere_0 rfl
theorem bX12_isThere_24 : bL cX12_isThere 24 [27, 29, 4, 96, 182, 1, 104, 42, 27, 28, 4, 96, 182, 1, 104, 148, 154, 0, 5, 4, 172, 132, 3, 2] := bL_of (by decide +kernel)
theorem dX12_isThere_24 : decode cX12_isThere 24 = .ok (.iload_n 1, 1) := dk27 (k := 0) bX12_isThere_24 rfl
theorem dX12_isThere_25 : decode cX12_isThere 25 = .ok (.iload_n 3, 1) := dk29 (k := 1) bX12_isThere_24 rfl
theorem dX12_isThere_26 : decode cX12_isThere 26 = .ok (.iconst 1, 1) := dk4 (k := 2) bX12_isThere_24 rfl
theorem dX12_isThere_27 : decode cX12_isThere 27 = .ok (.iadd, 1) := dk96 (k := 3) bX12_isThere_24 rfl
theorem dX12_isThere_28 : decode cX12_isThere 28 = .ok (.invokevirtual 360, 3) := dk182 (k := 4) bX12_isThere_24 rfl rfl
theorem dX12_isThere_31 : decode cX12_isThere 31 = .ok (.aload_n 0, 1) := dk42 (k := 7) bX12_isThere_24 rfl
theorem dX12_isThere_32 : decode cX12_isThere 32 = .ok (.iload_n 1, 1) := dk27 (k := 8) bX12_isThere_24 rfl
theorem dX12_isThere_33 : decode cX12_isThere 33 = .ok (.iload_n 2, 1) := dk28 (k := 9) bX12_isThere_24 rfl
theorem dX12_isThere_34 : decode cX12_isThere 34 = .ok (.iconst 1, 1) := dk4 (k := 10) bX12_isThere_24 rfl
theorem dX12_isThere_35 : decode cX12_isThere 35 = .ok (.iadd, 1) := dk96 (k := 11) bX12_isThere_24 rfl
theorem dX12_isThere_36 : decode cX12_isThere 36 = .ok (.invokevirtual 360, 3) := dk182 (k := 12) bX12_isThere_24 rfl rfl
theorem dX12_isThere_39 : decode cX12_isThere 39 = .ok (.lcmp, 1) := dk148 (k := 15) bX12_isThere_24 rfl
theorem dX12_isThere_40 : decode cX12_isThere 40 = .ok (.ifCond .ne 5, 3) := dk154 (k := 16) bX12_isThere_24 rfl (by decide)
theorem dX12_isThere_43 : decode cX12_isThere 43 = .ok (.iconst 1, 1) := dk4 (k := 19) bX12_isThere_24 rfl
theorem dX12_isThere_44 : decode cX12_isThere 44 = .ok (.ireturn, 1) := dk172 (k := 20) bX12_isThere_24 rfl
theorem dX12_isThere_45 : decode cX12_isThere 45 = .ok (.iinc 3 2, 3) := dk132 (k := 21) bX12_isThere_24 rfl rfl (by decide)
theorem bX12_isThere_48 : bL cX12_isThere 48 [167, 255, 210, 3, 172] := bL_of (by decide +kernel)
theorem dX12_isThere_48 : decode cX12_isThere 48 = .ok (.goto (-46), 3) := dk167 (k := 0) bX12_isThere_48 rfl (by decide)
theorem dX12_isThere_51 : decode cX12_isThere 51 = .ok (.iconst 0, 1) := dk3 (k := 3) bX12_isThere_48 rfl
theorem dX12_isThere_52 : decode cX12_isThere 52 = .ok (.ireturn, 1) := dk172 (k := 4) bX12_isThere_48 rfl
theorem bX12_stands_0 : bL cX12_stands 0 [42, 27, 4, 182, 1, 124, 61, 28, 156, 0, 5, 28, 172, 3, 62, 3, 54, 4, 21, 4, 42, 180, 0, 47] := bL_of (by decide +kernel)
theorem dX12_stands_0 : decode cX12_stands 0 = .ok (.aload_n 0, 1) := dk42 (k := 0) bX12_stands_0 rfl
theorem dX12_stands_1 : decode cX12_stands 1 = .ok (.iload_n 1, 1) := dk27 (k := 1) bX12_stands_0 rfl
theorem dX12_stands_2 : decode cX12_stands 2 = .ok (.iconst 1, 1) := dk4 (k := 2) bX12_stands_0 rfl
theorem dX12_stands_3 : decode cX12_stands 3 = .ok (.invokevirtual 380, 3) := dk182 (k := 3) bX12_stands_0 rfl rfl
theorem dX12_stands_6 : decode cX12_stands 6 = .ok (.istore_n 2, 1) := dk61 (k := 6) bX12_stands_0 rfl
theorem dX12_stands_7 : decode cX12_stands 7 = .ok (.iload_n 2, 1) := dk28 (k := 7) bX12_stands_0 rfl
theorem dX12_stands_8 : decode cX12_stands 8 = .ok (.ifCond .ge 5, 3) := dk156 (k := 8) bX12_stands_0 rfl (by decide)
theorem dX12_stands_11 : decode cX12_stands 11 = .ok (.iload_n 2, 1) := dk28 (k := 11) bX12_stands_0 rfl
theorem dX12_stands_12 : decode cX12_stands 12 = .ok (.ireturn, 1) := dk172 (k := 12) bX12_stands_0 rfl
theorem dX12_stands_13 : decode cX12_stands 13 = .ok (.iconst 0, 1) := dk3 (k := 13) bX12_stands_0 rfl
theorem dX12_stands_14 : decode cX12_stands 14 = .ok (.istore_n 3, 1) := dk62 (k := 14) bX12_stands_0 rfl
theorem dX12_stands_15 : decode cX12_stands 15 = .ok (.iconst 0, 1) := dk3 (k := 15) bX12_stands_0 rfl
theorem dX12_stands_16 : decode cX12_stands 16 = .ok (.istore 4, 2) := dk54 (k := 16) bX12_stands_0 rfl rfl
theorem dX12_stands_18 : decode cX12_stands 18 = .ok (.iload 4, 2) := dk21 (k := 18) bX12_stands_0 rfl rfl
theorem dX12_stands_20 : decode cX12_stands 20 = .ok (.aload_n 0, 1) := dk42 (k := 20) bX12_stands_0 rfl
theorem dX12_stands_21 : decode cX12_stands 21 = .ok (.getfield 47, 3) := dk180 (k := 21) bX12_stands_0 rfl rfl
theorem bX12_stands_24 : bL cX12_stands 24 [27, 46, 162, 0, 37, 29, 42, 27, 21, 4, 182, 1, 128, 153, 0, 17, 42, 27, 21, 4, 182, 1, 131, 154, 0, 7] := bL_of (by decide +kernel)
theorem dX12_stands_24 : decode cX12_stands 24 = .ok (.iload_n 1, 1) := dk27 (k := 0) bX12_stands_24 rfl
theorem dX12_stands_25 : decode cX12_stands 25 = .ok (.iaload, 1) := dk46 (k := 1) bX12_stands_24 rfl
theorem dX12_stands_26 : decode cX12_stands 26 = .ok (.if_icmp .ge 37, 3) := dk162 (k := 2) bX12_stands_24 rfl (by decide)
theorem dX12_stands_29 : decode cX12_stands 29 = .ok (.iload_n 3, 1) := dk29 (k := 5) bX12_stands_24 rfl
theorem dX12_stands_30 : decode cX12_stands 30 = .ok (.aload_n 0, 1) := dk42 (k := 6) bX12_stands_24 rfl
theorem dX12_stands_31 : decode cX12_stands 31 = .ok (.iload_n 1, 1) := dk27 (k := 7) bX12_stands_24 rfl
theorem dX12_stands_32 : decode cX12_stands 32 = .ok (.iload 4, 2) := dk21 (k := 8) bX12_stands_24 rfl rfl
theorem dX12_stands_34 : decode cX12_stands 34 = .ok (.invokevirtual 384, 3) := dk182 (k := 10) bX12_stands_24 rfl rfl
theorem dX12_stands_37 : decode cX12_stands 37 = .ok (.ifCond .eq 17, 3) := dk153 (k := 13) bX12_stands_24 rfl (by decide)
theorem dX12_stands_40 : decode cX12_stands 40 = .ok (.aload_n 0, 1) := dk42 (k := 16) bX12_stands_24 rfl
theorem dX12_stands_41 : decode cX12_stands 41 = .ok (.iload_n 1, 1) := dk27 (k := 17) bX12_stands_24 rfl
theorem dX12_stands_42 : decode cX12_stands 42 = .ok (.iload 4, 2) := dk21 (k := 18) bX12_stands_24 rfl rfl
theorem dX12_stands_44 : decode cX12_stands 44 = .ok (.invokevirtual 387, 3) := dk182 (k := 20) bX12_stands_24 rfl rfl
theorem dX12_stands_47 : decode cX12_stands 47 = .ok (.ifCond .ne 7, 3) := dk154 (k := 23) bX12_stands_24 rfl (by decide)
theorem bX12_stands_50 : bL cX12_stands 50 [4, 167, 0, 4, 3, 96, 62, 132, 4, 2, 167, 255, 214, 29, 172] := bL_of (by decide +kernel)
theorem dX12_stands_50 : decode cX12_stands 50 = .ok (.iconst 1, 1) := dk4 (k := 0) bX12_stands_50 rfl
theorem dX12_stands_51 : decode cX12_stands 51 = .ok (.goto 4, 3) := dk167 (k := 1) bX12_stands_50 rfl (by decide)
theorem dX12_stands_54 : decode cX12_stands 54 = .ok (.iconst 0, 1) := dk3 (k := 4) bX12_stands_50 rfl
theorem dX12_stands_55 : decode cX12_stands 55 = .ok (.iadd, 1) := dk96 (k := 5) bX12_stands_50 rfl
theorem dX12_stands_56 : decode cX12_stands 56 = .ok (.istore_n 3, 1) := dk62 (k := 6) bX12_stands_50 rfl
theorem dX12_stands_57 : decode cX12_stands 57 = .ok (.iinc 4 2, 3) := dk132 (k := 7) bX12_stands_50 rfl rfl (by decide)
theorem dX12_stands_60 : decode cX12_stands 60 = .ok (.goto (-42), 3) := dk167 (k := 10) bX12_stands_50 rfl (by decide)
theorem dX12_stands_63 : decode cX12_stands 63 = .ok (.iload_n 3, 1) := dk29 (k := 13) bX12_stands_50 rfl
theorem dX12_stands_64 : decode cX12_stands 64 = .ok (.ireturn, 1) := dk172 (k := 14) bX12_stands_50 rfl
theorem bX12_struck_0 : bL cX12_struck 0 [42, 27, 28, 133, 9, 10, 184, 0, 65, 182, 1, 124, 62, 29, 156, 0, 5, 29, 172, 3, 54, 4, 3, 54, 5] := bL_of (by decide +kernel)
theorem dX12_struck_0 : decode cX12_struck 0 = .ok (.aload_n 0, 1) := dk42 (k := 0) bX12_struck_0 rfl
theorem dX12_struck_1 : decode cX12_struck 1 = .ok (.iload_n 1, 1) := dk27 (k := 1) bX12_struck_0 rfl
theorem dX12_struck_2 : decode cX12_struck 2 = .ok (.iload_n 2, 1) := dk28 (k := 2) bX12_struck_0 rfl
theorem dX12_struck_3 : decode cX12_struck 3 = .ok (.i2l, 1) := dk133 (k := 3) bX12_struck_0 rfl
theorem dX12_struck_4 : decode cX12_struck 4 = .ok (.lconst 0, 1) := dk9 (k := 4) bX12_struck_0 rfl
theorem dX12_struck_5 : decode cX12_struck 5 = .ok (.lconst 1, 1) := dk10 (k := 5) bX12_struck_0 rfl
theorem dX12_struck_6 : decode cX12_struck 6 = .ok (.invokestatic 65, 3) := dk184 (k := 6) bX12_struck_0 rfl rfl
theorem dX12_struck_9 : decode cX12_struck 9 = .ok (.invokevirtual 380, 3) := dk182 (k := 9) bX12_struck_0 rfl rfl
theorem dX12_struck_12 : decode cX12_struck 12 = .ok (.istore_n 3, 1) := dk62 (k := 12) bX12_struck_0 rfl
theorem dX12_struck_13 : decode cX12_struck 13 = .ok (.iload_n 3, 1) := dk29 (k := 13) bX12_struck_0 rfl
theorem dX12_struck_14 : decode cX12_struck 14 = .ok (.ifCond .ge 5, 3) := dk156 (k := 14) bX12_struck_0 rfl (by decide)
theorem dX12_struck_17 : decode cX12_struck 17 = .ok (.iload_n 3, 1) := dk29 (k := 17) bX12_struck_0 rfl
theorem dX12_struck_18 : decode cX12_struck 18 = .ok (.ireturn, 1) := dk172 (k := 18) bX12_struck_0 rfl
theorem dX12_struck_19 : decode cX12_struck 19 = .ok (.iconst 0, 1) := dk3 (k := 19) bX12_struck_0 rfl
theorem dX12_struck_20 : decode cX12_struck 20 = .ok (.istore 4, 2) := dk54 (k := 20) bX12_struck_0 rfl rfl
theorem dX12_struck_22 : decode cX12_struck 22 = .ok (.iconst 0, 1) := dk3 (k := 22) bX12_struck_0 rfl
theorem dX12_struck_23 : decode cX12_struck 23 = .ok (.istore 5, 2) := dk54 (k := 23) bX12_struck_0 rfl rfl
theorem bX12_struck_25 : bL cX12_struck 25 [21, 5, 42, 180, 0, 47, 27, 46, 162, 0, 62, 21, 4, 28, 4, 160, 0, 21, 42, 27, 21, 5, 182, 1, 128] := bL_of (by decide +kernel)
theorem dX12_struck_25 : decode cX12_struck 25 = .ok (.iload 5, 2) := dk21 (k := 0) bX12_struck_25 rfl rfl
theorem dX12_struck_27 : decode cX12_struck 27 = .ok (.aload_n 0, 1) := dk42 (k := 2) bX12_struck_25 rfl
theorem dX12_struck_28 : decode cX12_struck 28 = .ok (.getfield 47, 3) := dk180 (k := 3) bX12_struck_25 rfl rfl
theorem dX12_struck_31 : decode cX12_struck 31 = .ok (.iload_n 1, 1) := dk27 (k := 6) bX12_struck_25 rfl
theorem dX12_struck_32 : decode cX12_struck 32 = .ok (.iaload, 1) := dk46 (k := 7) bX12_struck_25 rfl
theorem dX12_struck_33 : decode cX12_struck 33 = .ok (.if_icmp .ge 62, 3) := dk162 (k := 8) bX12_struck_25 rfl (by decide)
theorem dX12_struck_36 : decode cX12_struck 36 = .ok (.iload 4, 2) := dk21 (k := 11) bX12_struck_25 rfl rfl
theorem dX12_struck_38 : decode cX12_struck 38 = .ok (.iload_n 2, 1) := dk28 (k := 13) bX12_struck_25 rfl
theorem dX12_struck_39 : decode cX12_struck 39 = .ok (.iconst 1, 1) := dk4 (k := 14) bX12_struck_25 rfl
theorem dX12_struck_40 : decode cX12_struck 40 = .ok (.if_icmp .ne 21, 3) := dk160 (k := 15) bX12_struck_25 rfl (by decide)
theorem dX12_struck_43 : decode cX12_struck 43 = .ok (.aload_n 0, 1) := dk42 (k := 18) bX12_struck_25 rfl
theorem dX12_struck_44 : decode cX12_struck 44 = .ok (.iload_n 1, 1) := dk27 (k := 19) bX12_struck_25 rfl
theorem dX12_struck_45 : decode cX12_struck 45 = .ok (.iload 5, 2) := dk21 (k := 20) bX12_struck_25 rfl rfl
theorem dX12_struck_47 : decode cX12_struck 47 = .ok (.invokevirtual 384, 3) := dk182 (k := 22) bX12_struck_25 rfl rfl
theorem bX12_struck_50 : bL cX12_struck 50 [153, 0, 7, 3, 167, 0, 32, 4, 167, 0, 28, 42, 27, 21, 5, 182, 1, 128, 153, 0, 17, 42, 27, 21, 5] := bL_of (by decide +kernel)
theorem dX12_struck_50 : decode cX12_struck 50 = .ok (.ifCond .eq 7, 3) := dk153 (k := 0) bX12_struck_50 rfl (by decide)
theorem dX12_struck_53 : decode cX12_struck 53 = .ok (.iconst 0, 1) := dk3 (k := 3) bX12_struck_50 rfl
theorem dX12_struck_54 : decode cX12_struck 54 = .ok (.goto 32, 3) := dk167 (k := 4) bX12_struck_50 rfl (by decide)
theorem dX12_struck_57 : decode cX12_struck 57 = .ok (.iconst 1, 1) := dk4 (k := 7) bX12_struck_50 rfl
theorem dX12_struck_58 : decode cX12_struck 58 = .ok (.goto 28, 3) := dk167 (k := 8) bX12_struck_50 rfl (by decide)
theorem dX12_struck_61 : decode cX12_struck 61 = .ok (.aload_n 0, 1) := dk42 (k := 11) bX12_struck_50 rfl
theorem dX12_struck_62 : decode cX12_struck 62 = .ok (.iload_n 1, 1) := dk27 (k := 12) bX12_struck_50 rfl
theorem dX12_struck_63 : decode cX12_struck 63 = .ok (.iload 5, 2) := dk21 (k := 13) bX12_struck_50 rfl rfl
theorem dX12_struck_65 : decode cX12_struck 65 = .ok (.invokevirtual 384, 3) := dk182 (k := 15) bX12_struck_50 rfl rfl
theorem dX12_struck_68 : decode cX12_struck 68 = .ok (.ifCond .eq 17, 3) := dk153 (k := 18) bX12_struck_50 rfl (by decide)
theorem dX12_struck_71 : decode cX12_struck 71 = .ok (.aload_n 0, 1) := dk42 (k := 21) bX12_struck_50 rfl
theorem dX12_struck_72 : decode cX12_struck 72 = .ok (.iload_n 1, 1) := dk27 (k := 22) bX12_struck_50 rfl
theorem dX12_struck_73 : decode cX12_struck 73 = .ok (.iload 5, 2) := dk21 (k := 23) bX12_struck_50 rfl rfl
theorem bX12_struck_75 : bL cX12_struck 75 [182, 1, 131, 153, 0, 7, 4, 167, 0, 4, 3, 96, 54, 4, 132, 5, 2, 167, 255, 189, 21, 4, 172] := bL_of (by decide +kernel)
theorem dX12_struck_75 : decode cX12_struck 75 = .ok (.invokevirtual 387, 3) := dk182 (k := 0) bX12_struck_75 rfl rfl
theorem dX12_struck_78 : decode cX12_struck 78 = .ok (.ifCond .eq 7, 3) := dk153 (k := 3) bX12_struck_75 rfl (by decide)
theorem dX12_struck_81 : decode cX12_struck 81 = .ok (.iconst 1, 1) := dk4 (k := 6) bX12_struck_75 rfl
theorem dX12_struck_82 : decode cX12_struck 82 = .ok (.goto 4, 3) := dk167 (k := 7) bX12_struck_75 rfl (by decide)
theorem dX12_struck_85 : decode cX12_struck 85 = .ok (.iconst 0, 1) := dk3 (k := 10) bX12_struck_75 rfl
theorem dX12_struck_86 : decode cX12_struck 86 = .ok (.iadd, 1) := dk96 (k := 11) bX12_struck_75 rfl
theorem dX12_struck_87 : decode cX12_struck 87 = .ok (.istore 4, 2) := dk54 (k := 12) bX12_struck_75 rfl rfl
theorem dX12_struck_89 : decode cX12_struck 89 = .ok (.iinc 5 2, 3) := dk132 (k := 14) bX12_struck_75 rfl rfl (by decide)
theorem dX12_struck_92 : decode cX12_struck 92 = .ok (.goto (-67), 3) := dk167 (k := 17) bX12_struck_75 rfl (by decide)
theorem dX12_struck_95 : decode cX12_struck 95 = .ok (.iload 4, 2) := dk21 (k := 20) bX12_struck_75 rfl rfl
theorem dX12_struck_97 : decode cX12_struck 97 = .ok (.ireturn, 1) := dk172 (k := 22) bX12_struck_75 rfl
theorem bX12_goMonths_0 : bL cX12_goMonths 0 [42, 182, 0, 240, 31, 55, 4, 3, 54, 6, 3, 54, 7, 21, 7, 29, 162, 0, 101, 3, 54, 8, 42, 180, 0, 9] := bL_of (by decide +kernel)
theorem dX12_goMonths_0 : decode cX12_goMonths 0 = .ok (.aload_n 0, 1) := dk42 (k := 0) bX12_goMonths_0 rfl
theorem dX12_goMonths_1 : decode cX12_goMonths 1 = .ok (.invokevirtual 240, 3) := dk182 (k := 1) bX12_goMonths_0 rfl rfl
theorem dX12_goMonths_4 : decode cX12_goMonths 4 = .ok (.lload_n 1, 1) := dk31 (k := 4) bX12_goMonths_0 rfl
theorem dX12_goMonths_5 : decode cX12_goMonths 5 = .ok (.lstore 4, 2) := dk55 (k := 5) bX12_goMonths_0 rfl rfl
theorem dX12_goMonths_7 : decode cX12_goMonths 7 = .ok (.iconst 0, 1) := dk3 (k := 7) bX12_goMonths_0 rfl
theorem dX12_goMonths_8 : decode cX12_goMonths 8 = .ok (.istore 6, 2) := dk54 (k := 8) bX12_goMonths_0 rfl rfl
theorem dX12_goMonths_10 : decode cX12_goMonths 10 = .ok (.iconst 0, 1) := dk3 (k := 10) bX12_goMonths_0 rfl
theorem dX12_goMonths_11 : decode cX12_goMonths 11 = .ok (.istore 7, 2) := dk54 (k := 11) bX12_goMonths_0 rfl rfl
theorem dX12_goMonths_13 : decode cX12_goMonths 13 = .ok (.iload 7, 2) := dk21 (k := 13) bX12_goMonths_0 rfl rfl
theorem dX12_goMonths_15 : decode cX12_goMonths 15 = .ok (.iload_n 3, 1) := dk29 (k := 15) bX12_goMonths_0 rfl
theorem dX12_goMonths_16 : decode cX12_goMonths 16 = .ok (.if_icmp .ge 101, 3) := dk162 (k := 16) bX12_goMonths_0 rfl (by decide)
theorem dX12_goMonths_19 : decode cX12_goMonths 19 = .ok (.iconst 0, 1) := dk3 (k := 19) bX12_goMonths_0 rfl
theorem dX12_goMonths_20 : decode cX12_goMonths 20 = .ok (.istore 8, 2) := dk54 (k := 20) bX12_goMonths_0 rfl rfl
theorem dX12_goMonths_22 : decode cX12_goMonths 22 = .ok (.aload_n 0, 1) := dk42 (k := 22) bX12_goMonths_0 rfl
theorem dX12_goMonths_23 : decode cX12_goMonths 23 = .ok (.getfield 9, 3) := dk180 (k := 23) bX12_goMonths_0 rfl rfl
theorem bX12_goMonths_26 : bL cX12_goMonths 26 [16, 6, 46, 158, 0, 39, 20, 1, 134, 22, 4, 105, 20, 1, 136, 97, 20, 1, 138, 113, 55, 4, 4, 22, 4] := bL_of (by decide +kernel)
theorem dX12_goMonths_26 : decode cX12_goMonths 26 = .ok (.bipush 6, 2) := dk16 (k := 0) bX12_goMonths_26 rfl (by decide)
theorem dX12_goMonths_28 : decode cX12_goMonths 28 = .ok (.iaload, 1) := dk46 (k := 2) bX12_goMonths_26 rfl
theorem dX12_goMonths_29 : decode cX12_goMonths 29 = .ok (.ifCond .le 39, 3) := dk158 (k := 3) bX12_goMonths_26 rfl (by decide)
theorem dX12_goMonths_32 : decode cX12_goMonths 32 = .ok (.ldc2_w 390, 3) := dk20 (k := 6) bX12_goMonths_26 rfl rfl
theorem dX12_goMonths_35 : decode cX12_goMonths 35 = .ok (.lload 4, 2) := dk22 (k := 9) bX12_goMonths_26 rfl rfl
theorem dX12_goMonths_37 : decode cX12_goMonths 37 = .ok (.lmul, 1) := dk105 (k := 11) bX12_goMonths_26 rfl
theorem dX12_goMonths_38 : decode cX12_goMonths 38 = .ok (.ldc2_w 392, 3) := dk20 (k := 12) bX12_goMonths_26 rfl rfl
theorem dX12_goMonths_41 : decode cX12_goMonths 41 = .ok (.ladd, 1) := dk97 (k := 15) bX12_goMonths_26 rfl
theorem dX12_goMonths_42 : decode cX12_goMonths 42 = .ok (.ldc2_w 394, 3) := dk20 (k := 16) bX12_goMonths_26 rfl rfl
theorem dX12_goMonths_45 : decode cX12_goMonths 45 = .ok (.lrem, 1) := dk113 (k := 19) bX12_goMonths_26 rfl
theorem dX12_goMonths_46 : decode cX12_goMonths 46 = .ok (.lstore 4, 2) := dk55 (k := 20) bX12_goMonths_26 rfl rfl
theorem dX12_goMonths_48 : decode cX12_goMonths 48 = .ok (.iconst 1, 1) := dk4 (k := 22) bX12_goMonths_26 rfl
theorem dX12_goMonths_49 : decode cX12_goMonths 49 = .ok (.lload 4, 2) := dk22 (k := 23) bX12_goMonths_26 rfl rfl
theorem bX12_goMonths_51 : bL cX12_goMonths 51 [20, 1, 140, 109, 42, 180, 0, 9, 16, 6, 46, 133, 113, 136, 120, 54, 8, 42, 42, 42, 182, 1, 7, 21, 8] := bL_of (by decide +kernel)
theorem dX12_goMonths_51 : decode cX12_goMonths 51 = .ok (.ldc2_w 396, 3) := dk20 (k := 0) bX12_goMonths_51 rfl rfl
theorem dX12_goMonths_54 : decode cX12_goMonths 54 = .ok (.ldiv, 1) := dk109 (k := 3) bX12_goMonths_51 rfl
theorem dX12_goMonths_55 : decode cX12_goMonths 55 = .ok (.aload_n 0, 1) := dk42 (k := 4) bX12_goMonths_51 rfl
theorem dX12_goMonths_56 : decode cX12_goMonths 56 = .ok (.getfield 9, 3) := dk180 (k := 5) bX12_goMonths_51 rfl rfl
theorem dX12_goMonths_59 : decode cX12_goMonths 59 = .ok (.bipush 6, 2) := dk16 (k := 8) bX12_goMonths_51 rfl (by decide)
theorem dX12_goMonths_61 : decode cX12_goMonths 61 = .ok (.iaload, 1) := dk46 (k := 10) bX12_goMonths_51 rfl
theorem dX12_goMonths_62 : decode cX12_goMonths 62 = .ok (.i2l, 1) := dk133 (k := 11) bX12_goMonths_51 rfl
theorem dX12_goMonths_63 : decode cX12_goMonths 63 = .ok (.lrem, 1) := dk113 (k := 12) bX12_goMonths_51 rfl
theorem dX12_goMonths_64 : decode cX12_goMonths 64 = .ok (.l2i, 1) := dk136 (k := 13) bX12_goMonths_51 rfl
theorem dX12_goMonths_65 : decode cX12_goMonths 65 = .ok (.ishl, 1) := dk120 (k := 14) bX12_goMonths_51 rfl
theorem dX12_goMonths_66 : decode cX12_goMonths 66 = .ok (.istore 8, 2) := dk54 (k := 15) bX12_goMonths_51 rfl rfl
theorem dX12_goMonths_68 : decode cX12_goMonths 68 = .ok (.aload_n 0, 1) := dk42 (k := 17) bX12_goMonths_51 rfl
theorem dX12_goMonths_69 : decode cX12_goMonths 69 = .ok (.aload_n 0, 1) := dk42 (k := 18) bX12_goMonths_51 rfl
theorem dX12_goMonths_70 : decode cX12_goMonths 70 = .ok (.aload_n 0, 1) := dk42 (k := 19) bX12_goMonths_51 rfl
theorem dX12_goMonths_71 : decode cX12_goMonths 71 = .ok (.invokevirtual 263, 3) := dk182 (k := 20) bX12_goMonths_51 rfl rfl
theorem dX12_goMonths_74 : decode cX12_goMonths 74 = .ok (.iload 8, 2) := dk21 (k := 23) bX12_goMonths_51 rfl rfl
theorem bX12_goMonths_76 : bL cX12_goMonths 76 [128, 3, 182, 1, 14, 182, 1, 17, 153, 0, 27, 42, 182, 0, 194, 154, 0, 6, 167, 0, 17, 132, 6, 1] := bL_of (by decide +kernel)
theorem dX12_goMonths_76 : decode cX12_goMonths 76 = .ok (.ior, 1) := dk128 (k := 0) bX12_goMonths_76 rfl
theorem dX12_goMonths_77 : decode cX12_goMonths 77 = .ok (.iconst 0, 1) := dk3 (k := 1) bX12_goMonths_76 rfl
theorem dX12_goMonths_78 : decode cX12_goMonths 78 = .ok (.invokevirtual 270, 3) := dk182 (k := 2) bX12_goMonths_76 rfl rfl
theorem dX12_goMonths_81 : decode cX12_goMonths 81 = .ok (.invokevirtual 273, 3) := dk182 (k := 5) bX12_goMonths_76 rfl rfl
theorem dX12_goMonths_84 : decode cX12_goMonths 84 = .ok (.ifCond .eq 27, 3) := dk153 (k := 8) bX12_goMonths_76 rfl (by decide)
theorem dX12_goMonths_87 : decode cX12_goMonths 87 = .ok (.aload_n 0, 1) := dk42 (k := 11) bX12_goMonths_76 rfl
theorem dX12_goMonths_88 : decode cX12_goMonths 88 = .ok (.invokevirtual 194, 3) := dk182 (k := 12) bX12_goMonths_76 rfl rfl
theorem dX12_goMonths_91 : decode cX12_goMonths 91 = .ok (.ifCond .ne 6, 3) := dk154 (k := 15) bX12_goMonths_76 rfl (by decide)
theorem dX12_goMonths_94 : decode cX12_goMonths 94 = .ok (.goto 17, 3) := dk167 (k := 18) bX12_goMonths_76 rfl (by decide)
theorem dX12_goMonths_97 : decode cX12_goMonths 97 = .ok (.iinc 6 1, 3) := dk132 (k := 21) bX12_goMonths_76 rfl rfl (by decide)
theorem bX12_goMonths_100 : bL cX12_goMonths 100 [42, 42, 180, 0, 9, 8, 46, 182, 0, 197, 87, 132, 7, 1, 167, 255, 155, 21, 6, 172] := bL_of (by decide +kernel)
theorem dX12_goMonths_100 : decode cX12_goMonths 100 = .ok (.aload_n 0, 1) := dk42 (k := 0) bX12_goMonths_100 rfl
theorem dX12_goMonths_101 : decode cX12_goMonths 101 = .ok (.aload_n 0, 1) := dk42 (k := 1) bX12_goMonths_100 rfl
theorem dX12_goMonths_102 : decode cX12_goMonths 102 = .ok (.getfield 9, 3) := dk180 (k := 2) bX12_goMonths_100 rfl rfl
theorem dX12_goMonths_105 : decode cX12_goMonths 105 = .ok (.iconst 5, 1) := dk8 (k := 5) bX12_goMonths_100 rfl
theorem dX12_goMonths_106 : decode cX12_goMonths 106 = .ok (.iaload, 1) := dk46 (k := 6) bX12_goMonths_100 rfl
theorem dX12_goMonths_107 : decode cX12_goMonths 107 = .ok (.invokevirtual 197, 3) := dk182 (k := 7) bX12_goMonths_100 rfl rfl
theorem dX12_goMonths_110 : decode cX12_goMonths 110 = .ok (.pop, 1) := dk87 (k := 10) bX12_goMonths_100 rfl
theorem dX12_goMonths_111 : decode cX12_goMonths 111 = .ok (.iinc 7 1, 3) := dk132 (k := 11) bX12_goMonths_100 rfl rfl (by decide)
theorem dX12_goMonths_114 : decode cX12_goMonths 114 = .ok (.goto (-101), 3) := dk167 (k := 14) bX12_goMonths_100 rfl (by decide)
theorem dX12_goMonths_117 : decode cX12_goMonths 117 = .ok (.iload 6, 2) := dk21 (k := 17) bX12_goMonths_100 rfl rfl
theorem dX12_goMonths_119 : decode cX12_goMonths 119 = .ok (.ireturn, 1) := dk172 (k := 19) bX12_goMonths_100 rfl
theorem bX12_areMonths_0 : bL cX12_areMonths 0 [42, 182, 0, 73, 153, 0, 31, 27, 133, 9, 20, 1, 142, 184, 0, 65, 153, 0, 19, 28, 133, 9, 20, 0, 156] := bL_of (by decide +kernel)
theorem dX12_areMonths_0 : decode cX12_areMonths 0 = .ok (.aload_n 0, 1) := dk42 (k := 0) bX12_areMonths_0 rfl
theorem dX12_areMonths_1 : decode cX12_areMonths 1 = .ok (.invokevirtual 73, 3) := dk182 (k := 1) bX12_areMonths_0 rfl rfl
theorem dX12_areMonths_4 : decode cX12_areMonths 4 = .ok (.ifCond .eq 31, 3) := dk153 (k := 4) bX12_areMonths_0 rfl (by decide)
theorem dX12_areMonths_7 : decode cX12_areMonths 7 = .ok (.iload_n 1, 1) := dk27 (k := 7) bX12_areMonths_0 rfl
theorem dX12_areMonths_8 : decode cX12_areMonths 8 = .ok (.i2l, 1) := dk133 (k := 8) bX12_areMonths_0 rfl
theorem dX12_areMonths_9 : decode cX12_areMonths 9 = .ok (.lconst 0, 1) := dk9 (k := 9) bX12_areMonths_0 rfl
theorem dX12_areMonths_10 : decode cX12_areMonths 10 = .ok (.ldc2_w 398, 3) := dk20 (k := 10) bX12_areMonths_0 rfl rfl
theorem dX12_areMonths_13 : decode cX12_areMonths 13 = .ok (.invokestatic 65, 3) := dk184 (k := 13) bX12_areMonths_0 rfl rfl
theorem dX12_areMonths_16 : decode cX12_areMonths 16 = .ok (.ifCond .eq 19, 3) := dk153 (k := 16) bX12_areMonths_0 rfl (by decide)
theorem dX12_areMonths_19 : decode cX12_areMonths 19 = .ok (.iload_n 2, 1) := dk28 (k := 19) bX12_areMonths_0 rfl
theorem dX12_areMonths_20 : decode cX12_areMonths 20 = .ok (.i2l, 1) := dk133 (k := 20) bX12_areMonths_0 rfl
theorem dX12_areMonths_21 : decode cX12_areMonths 21 = .ok (.lconst 0, 1) := dk9 (k := 21) bX12_areMonths_0 rfl
theorem dX12_areMonths_22 : decode cX12_areMonths 22 = .ok (.ldc2_w 156, 3) := dk20 (k := 22) bX12_areMonths_0 rfl rfl
theorem bX12_areMonths_25 : bL cX12_areMonths 25 [184, 0, 65, 153, 0, 7, 4, 167, 0, 4, 3, 172] := bL_of (by decide +kernel)
theorem dX12_areMonths_25 : decode cX12_areMonths 25 = .ok (.invokestatic 65, 3) := dk184 (k := 0) bX12_areMonths_25 rfl rfl
theorem dX12_areMonths_28 : decode cX12_areMonths 28 = .ok (.ifCond .eq 7, 3) := dk153 (k := 3) bX12_areMonths_25 rfl (by decide)
theorem dX12_areMonths_31 : decode cX12_areMonths 31 = .ok (.iconst 1, 1) := dk4 (k := 6) bX12_areMonths_25 rfl
theorem dX12_areMonths_32 : decode cX12_areMonths 32 = .ok (.goto 4, 3) := dk167 (k := 7) bX12_areMonths_25 rfl (by decide)
theorem dX12_areMonths_35 : decode cX12_areMonths 35 = .ok (.iconst 0, 1) := dk3 (k := 10) bX12_areMonths_25 rfl
theorem dX12_areMonths_36 : decode cX12_areMonths 36 = .ok (.ireturn, 1) := dk172 (k := 11) bX12_areMonths_25 rfl
theorem bX12_drawn_0 : bL cX12_drawn 0 [42, 27, 28, 182, 1, 144, 153, 0, 15, 29, 133, 9, 20, 0, 63, 184, 0, 65, 154, 0, 6, 16, 254, 172] := bL_of (by decide +kernel)
theorem dX12_drawn_0 : decode cX12_drawn 0 = .ok (.aload_n 0, 1) := dk42 (k := 0) bX12_drawn_0 rfl
theorem dX12_drawn_1 : decode cX12_drawn 1 = .ok (.iload_n 1, 1) := dk27 (k := 1) bX12_drawn_0 rfl
theorem dX12_drawn_2 : decode cX12_drawn 2 = .ok (.iload_n 2, 1) := dk28 (k := 2) bX12_drawn_0 rfl
theorem dX12_drawn_3 : decode cX12_drawn 3 = .ok (.invokevirtual 400, 3) := dk182 (k := 3) bX12_drawn_0 rfl rfl
theorem dX12_drawn_6 : decode cX12_drawn 6 = .ok (.ifCond .eq 15, 3) := dk153 (k := 6) bX12_drawn_0 rfl (by decide)
theorem dX12_drawn_9 : decode cX12_drawn 9 = .ok (.iload_n 3, 1) := dk29 (k := 9) bX12_drawn_0 rfl
theorem dX12_drawn_10 : decode cX12_drawn 10 = .ok (.i2l, 1) := dk133 (k := 10) bX12_drawn_0 rfl
theorem dX12_drawn_11 : decode cX12_drawn 11 = .ok (.lconst 0, 1) := dk9 (k := 11) bX12_drawn_0 rfl
theorem dX12_drawn_12 : decode cX12_drawn 12 = .ok (.ldc2_w 63, 3) := dk20 (k := 12) bX12_drawn_0 rfl rfl
theorem dX12_drawn_15 : decode cX12_drawn 15 = .ok (.invokestatic 65, 3) := dk184 (k := 15) bX12_drawn_0 rfl rfl
theorem dX12_drawn_18 : decode cX12_drawn 18 = .ok (.ifCond .ne 6, 3) := dk154 (k := 18) bX12_drawn_0 rfl (by decide)
theorem dX12_drawn_21 : decode cX12_drawn 21 = .ok (.bipush (-2), 2) := dk16 (k := 21) bX12_drawn_0 rfl (by decide)
theorem dX12_drawn_23 : decode cX12_drawn 23 = .ok (.ireturn, 1) := dk172 (k := 23) bX12_drawn_0 rfl
theorem bX12_drawn_24 : bL cX12_drawn 24 [42, 27, 133, 28, 182, 1, 147, 54, 4, 29, 154, 0, 8, 21, 4, 167, 0, 24, 29, 4, 160, 0, 15, 42] := bL_of (by decide +kernel)
theorem dX12_drawn_24 : decode cX12_drawn 24 = .ok (.aload_n 0, 1) := dk42 (k := 0) bX12_drawn_24 rfl
theorem dX12_drawn_25 : decode cX12_drawn 25 = .ok (.iload_n 1, 1) := dk27 (k := 1) bX12_drawn_24 rfl
theorem dX12_drawn_26 : decode cX12_drawn 26 = .ok (.i2l, 1) := dk133 (k := 2) bX12_drawn_24 rfl
theorem dX12_drawn_27 : decode cX12_drawn 27 = .ok (.iload_n 2, 1) := dk28 (k := 3) bX12_drawn_24 rfl
theorem dX12_drawn_28 : decode cX12_drawn 28 = .ok (.invokevirtual 403, 3) := dk182 (k := 4) bX12_drawn_24 rfl rfl
theorem dX12_drawn_31 : decode cX12_drawn 31 = .ok (.istore 4, 2) := dk54 (k := 7) bX12_drawn_24 rfl rfl
theorem dX12_drawn_33 : decode cX12_drawn 33 = .ok (.iload_n 3, 1) := dk29 (k := 9) bX12_drawn_24 rfl
theorem dX12_drawn_34 : decode cX12_drawn 34 = .ok (.ifCond .ne 8, 3) := dk154 (k := 10) bX12_drawn_24 rfl (by decide)
theorem dX12_drawn_37 : decode cX12_drawn 37 = .ok (.iload 4, 2) := dk21 (k := 13) bX12_drawn_24 rfl rfl
theorem dX12_drawn_39 : decode cX12_drawn 39 = .ok (.goto 24, 3) := dk167 (k := 15) bX12_drawn_24 rfl (by decide)
theorem dX12_drawn_42 : decode cX12_drawn 42 = .ok (.iload_n 3, 1) := dk29 (k := 18) bX12_drawn_24 rfl
theorem dX12_drawn_43 : decode cX12_drawn 43 = .ok (.iconst 1, 1) := dk4 (k := 19) bX12_drawn_24 rfl
theorem dX12_drawn_44 : decode cX12_drawn 44 = .ok (.if_icmp .ne 15, 3) := dk160 (k := 20) bX12_drawn_24 rfl (by decide)
theorem dX12_drawn_47 : decode cX12_drawn 47 = .ok (.aload_n 0, 1) := dk42 (k := 23) bX12_drawn_24 rfl
theorem bX12_drawn_48 : bL cX12_drawn 48 [180, 0, 34, 42, 182, 0, 200, 46, 167, 0, 7, 42, 182, 0, 251, 172] := bL_of (by decide +kernel)
theorem dX12_drawn_48 : decode cX12_drawn 48 = .ok (.getfield 34, 3) := dk180 (k := 0) bX12_drawn_48 rfl rfl
theorem dX12_drawn_51 : decode cX12_drawn 51 = .ok (.aload_n 0, 1) := dk42 (k := 3) bX12_drawn_48 rfl
theorem dX12_drawn_52 : decode cX12_drawn 52 = .ok (.invokevirtual 200, 3) := dk182 (k := 4) bX12_drawn_48 rfl rfl
theorem dX12_drawn_55 : decode cX12_drawn 55 = .ok (.iaload, 1) := dk46 (k := 7) bX12_drawn_48 rfl
theorem dX12_drawn_56 : decode cX12_drawn 56 = .ok (.goto 7, 3) := dk167 (k := 8) bX12_drawn_48 rfl (by decide)
theorem dX12_drawn_59 : decode cX12_drawn 59 = .ok (.aload_n 0, 1) := dk42 (k := 11) bX12_drawn_48 rfl
theorem dX12_drawn_60 : decode cX12_drawn 60 = .ok (.invokevirtual 251, 3) := dk182 (k := 12) bX12_drawn_48 rfl rfl
theorem dX12_drawn_63 : decode cX12_drawn 63 = .ok (.ireturn, 1) := dk172 (k := 15) bX12_drawn_48 rfl
theorem bX12_luck_0 : bL cX12_luck 0 [42, 27, 29, 182, 1, 144, 153, 0, 15, 28, 133, 10, 20, 0, 246, 184, 0, 65, 154, 0, 6, 16, 254, 172] := bL_of (by decide +kernel)
theorem dX12_luck_0 : decode cX12_luck 0 = .ok (.aload_n 0, 1) := dk42 (k := 0) bX12_luck_0 rfl
theorem dX12_luck_1 : decode cX12_luck 1 = .ok (.iload_n 1, 1) := dk27 (k := 1) bX12_luck_0 rfl
theorem dX12_luck_2 : decode cX12_luck 2 = .ok (.iload_n 3, 1) := dk29 (k := 2) bX12_luck_0 rfl
theorem dX12_luck_3 : decode cX12_luck 3 = .ok (.invokevirtual 400, 3) := dk182 (k := 3) bX12_luck_0 rfl rfl
theorem dX12_luck_6 : decode cX12_luck 6 = .ok (.ifCond .eq 15, 3) := dk153 (k := 6) bX12_luck_0 rfl (by decide)
theorem dX12_luck_9 : decode cX12_luck 9 = .ok (.iload_n 2, 1) := dk28 (k := 9) bX12_luck_0 rfl
theorem dX12_luck_10 : decode cX12_luck 10 = .ok (.i2l, 1) := dk133 (k := 10) bX12_luck_0 rfl
theorem dX12_luck_11 : decode cX12_luck 11 = .ok (.lconst 1, 1) := dk10 (k := 11) bX12_luck_0 rfl
theorem dX12_luck_12 : decode cX12_luck 12 = .ok (.ldc2_w 246, 3) := dk20 (k := 12) bX12_luck_0 rfl rfl
theorem dX12_luck_15 : decode cX12_luck 15 = .ok (.invokestatic 65, 3) := dk184 (k := 15) bX12_luck_0 rfl rfl
theorem dX12_luck_18 : decode cX12_luck 18 = .ok (.ifCond .ne 6, 3) := dk154 (k := 18) bX12_luck_0 rfl (by decide)
theorem dX12_luck_21 : decode cX12_luck 21 = .ok (.bipush (-2), 2) := dk16 (k := 21) bX12_luck_0 rfl (by decide)
theorem dX12_luck_23 : decode cX12_luck 23 = .ok (.ireturn, 1) := dk172 (k := 23) bX12_luck_0 rfl
theorem bX12_luck_24 : bL cX12_luck 24 [3, 54, 4, 3, 54, 5, 21, 5, 28, 162, 0, 33, 21, 4, 42, 27, 133, 21, 5, 133, 97, 29, 182, 1, 147] := bL_of (by decide +kernel)
theorem dX12_luck_24 : decode cX12_luck 24 = .ok (.iconst 0, 1) := dk3 (k := 0) bX12_luck_24 rfl
theorem dX12_luck_25 : decode cX12_luck 25 = .ok (.istore 4, 2) := dk54 (k := 1) bX12_luck_24 rfl rfl
theorem dX12_luck_27 : decode cX12_luck 27 = .ok (.iconst 0, 1) := dk3 (k := 3) bX12_luck_24 rfl
theorem dX12_luck_28 : decode cX12_luck 28 = .ok (.istore 5, 2) := dk54 (k := 4) bX12_luck_24 rfl rfl
theorem dX12_luck_30 : decode cX12_luck 30 = .ok (.iload 5, 2) := dk21 (k := 6) bX12_luck_24 rfl rfl
theorem dX12_luck_32 : decode cX12_luck 32 = .ok (.iload_n 2, 1) := dk28 (k := 8) bX12_luck_24 rfl
theorem dX12_luck_33 : decode cX12_luck 33 = .ok (.if_icmp .ge 33, 3) := dk162 (k := 9) bX12_luck_24 rfl (by decide)
theorem dX12_luck_36 : decode cX12_luck 36 = .ok (.iload 4, 2) := dk21 (k := 12) bX12_luck_24 rfl rfl
theorem dX12_luck_38 : decode cX12_luck 38 = .ok (.aload_n 0, 1) := dk42 (k := 14) bX12_luck_24 rfl
theorem dX12_luck_39 : decode cX12_luck 39 = .ok (.iload_n 1, 1) := dk27 (k := 15) bX12_luck_24 rfl
theorem dX12_luck_40 : decode cX12_luck 40 = .ok (.i2l, 1) := dk133 (k := 16) bX12_luck_24 rfl
theorem dX12_luck_41 : decode cX12_luck 41 = .ok (.iload 5, 2) := dk21 (k := 17) bX12_luck_24 rfl rfl
theorem dX12_luck_43 : decode cX12_luck 43 = .ok (.i2l, 1) := dk133 (k := 19) bX12_luck_24 rfl
theorem dX12_luck_44 : decode cX12_luck 44 = .ok (.ladd, 1) := dk97 (k := 20) bX12_luck_24 rfl
theorem dX12_luck_45 : decode cX12_luck 45 = .ok (.iload_n 3, 1) := dk29 (k := 21) bX12_luck_24 rfl
theorem dX12_luck_46 : decode cX12_luck 46 = .ok (.invokevirtual 403, 3) := dk182 (k := 22) bX12_luck_24 rfl rfl
theorem bX12_luck_49 : bL cX12_luck 49 [158, 0, 7, 4, 167, 0, 4, 3, 96, 54, 4, 132, 5, 1, 167, 255, 223, 21, 4, 172] := bL_of (by decide +kernel)
theorem dX12_luck_49 : decode cX12_luck 49 = .ok (.ifCond .le 7, 3) := dk158 (k := 0) bX12_luck_49 rfl (by decide)
theorem dX12_luck_52 : decode cX12_luck 52 = .ok (.iconst 1, 1) := dk4 (k := 3) bX12_luck_49 rfl
theorem dX12_luck_53 : decode cX12_luck 53 = .ok (.goto 4, 3) := dk167 (k := 4) bX12_luck_49 rfl (by decide)
theorem dX12_luck_56 : decode cX12_luck 56 = .ok (.iconst 0, 1) := dk3 (k := 7) bX12_luck_49 rfl
theorem dX12_luck_57 : decode cX12_luck 57 = .ok (.iadd, 1) := dk96 (k := 8) bX12_luck_49 rfl
theorem dX12_luck_58 : decode cX12_luck 58 = .ok (.istore 4, 2) := dk54 (k := 9) bX12_luck_49 rfl rfl
theorem dX12_luck_60 : decode cX12_luck 60 = .ok (.iinc 5 1, 3) := dk132 (k := 11) bX12_luck_49 rfl rfl (by decide)
theorem dX12_luck_63 : decode cX12_luck 63 = .ok (.goto (-33), 3) := dk167 (k := 14) bX12_luck_49 rfl (by decide)
theorem dX12_luck_66 : decode cX12_luck 66 = .ok (.iload 4, 2) := dk21 (k := 17) bX12_luck_49 rfl rfl
theorem dX12_luck_68 : decode cX12_luck 68 = .ok (.ireturn, 1) := dk172 (k := 19) bX12_luck_49 rfl
theorem bX12_tell_0 : bL cX12_tell 0 [42, 27, 182, 1, 93, 154, 0, 6, 16, 254, 172, 42, 180, 0, 9, 16, 8, 46, 158, 0, 6, 16, 251, 172] := bL_of (by decide +kernel)
theorem dX12_tell_0 : decode cX12_tell 0 = .ok (.aload_n 0, 1) := dk42 (k := 0) bX12_tell_0 rfl
theorem dX12_tell_1 : decode cX12_tell 1 = .ok (.iload_n 1, 1) := dk27 (k := 1) bX12_tell_0 rfl
theorem dX12_tell_2 : decode cX12_tell 2 = .ok (.invokevirtual 349, 3) := dk182 (k := 2) bX12_tell_0 rfl rfl
theorem dX12_tell_5 : decode cX12_tell 5 = .ok (.ifCond .ne 6, 3) := dk154 (k := 5) bX12_tell_0 rfl (by decide)
theorem dX12_tell_8 : decode cX12_tell 8 = .ok (.bipush (-2), 2) := dk16 (k := 8) bX12_tell_0 rfl (by decide)
theorem dX12_tell_10 : decode cX12_tell 10 = .ok (.ireturn, 1) := dk172 (k := 10) bX12_tell_0 rfl
theorem dX12_tell_11 : decode cX12_tell 11 = .ok (.aload_n 0, 1) := dk42 (k := 11) bX12_tell_0 rfl
theorem dX12_tell_12 : decode cX12_tell 12 = .ok (.getfield 9, 3) := dk180 (k := 12) bX12_tell_0 rfl rfl
theorem dX12_tell_15 : decode cX12_tell 15 = .ok (.bipush 8, 2) := dk16 (k := 15) bX12_tell_0 rfl (by decide)
theorem dX12_tell_17 : decode cX12_tell 17 = .ok (.iaload, 1) := dk46 (k := 17) bX12_tell_0 rfl
theorem dX12_tell_18 : decode cX12_tell 18 = .ok (.ifCond .le 6, 3) := dk158 (k := 18) bX12_tell_0 rfl (by decide)
theorem dX12_tell_21 : decode cX12_tell 21 = .ok (.bipush (-5), 2) := dk16 (k := 21) bX12_tell_0 rfl (by decide)
theorem dX12_tell_23 : decode cX12_tell 23 = .ok (.ireturn, 1) := dk172 (k := 23) bX12_tell_0 rfl
theorem bX12_tell_24 : bL cX12_tell 24 [42, 180, 0, 9, 6, 46, 61, 42, 180, 0, 9, 6, 27, 79, 28, 172] := bL_of (by decide +kernel)
theorem dX12_tell_24 : decode cX12_tell 24 = .ok (.aload_n 0, 1) := dk42 (k := 0) bX12_tell_24 rfl
theorem dX12_tell_25 : decode cX12_tell 25 = .ok (.getfield 9, 3) := dk180 (k := 1) bX12_tell_24 rfl rfl
theorem dX12_tell_28 : decode cX12_tell 28 = .ok (.iconst 3, 1) := dk6 (k := 4) bX12_tell_24 rfl
theorem dX12_tell_29 : decode cX12_tell 29 = .ok (.iaload, 1) := dk46 (k := 5) bX12_tell_24 rfl
theorem dX12_tell_30 : decode cX12_tell 30 = .ok (.istore_n 2, 1) := dk61 (k := 6) bX12_tell_24 rfl
theorem dX12_tell_31 : decode cX12_tell 31 = .ok (.aload_n 0, 1) := dk42 (k := 7) bX12_tell_24 rfl
theorem dX12_tell_32 : decode cX12_tell 32 = .ok (.getfield 9, 3) := dk180 (k := 8) bX12_tell_24 rfl rfl
theorem dX12_tell_35 : decode cX12_tell 35 = .ok (.iconst 3, 1) := dk6 (k := 11) bX12_tell_24 rfl
theorem dX12_tell_36 : decode cX12_tell 36 = .ok (.iload_n 1, 1) := dk27 (k := 12) bX12_tell_24 rfl
theorem dX12_tell_37 : decode cX12_tell 37 = .ok (.iastore, 1) := dk79 (k := 13) bX12_tell_24 rfl
theorem dX12_tell_38 : decode cX12_tell 38 = .ok (.iload_n 2, 1) := dk28 (k := 14) bX12_tell_24 rfl
theorem dX12_tell_39 : decode cX12_tell 39 = .ok (.ireturn, 1) := dk172 (k := 15) bX12_tell_24 rfl
theorem bX12_likes_0 : bL cX12_likes 0 [42, 27, 133, 182, 0, 235, 153, 0, 27, 28, 133, 9, 20, 0, 63, 184, 0, 65, 153, 0, 15, 29, 133, 9] := bL_of (by decide +kernel)
theorem dX12_likes_0 : decode cX12_likes 0 = .ok (.aload_n 0, 1) := dk42 (k := 0) bX12_likes_0 rfl
theorem dX12_likes_1 : decode cX12_likes 1 = .ok (.iload_n 1, 1) := dk27 (k := 1) bX12_likes_0 rfl
theorem dX12_likes_2 : decode cX12_likes 2 = .ok (.i2l, 1) := dk133 (k := 2) bX12_likes_0 rfl
theorem dX12_likes_3 : decode cX12_likes 3 = .ok (.invokevirtual 235, 3) := dk182 (k := 3) bX12_likes_0 rfl rfl
theorem dX12_likes_6 : decode cX12_likes 6 = .ok (.ifCond .eq 27, 3) := dk153 (k := 6) bX12_likes_0 rfl (by decide)
theorem dX12_likes_9 : decode cX12_likes 9 = .ok (.iload_n 2, 1) := dk28 (k := 9) bX12_likes_0 rfl
theorem dX12_likes_10 : decode cX12_likes 10 = .ok (.i2l, 1) := dk133 (k := 10) bX12_likes_0 rfl
theorem dX12_likes_11 : decode cX12_likes 11 = .ok (.lconst 0, 1) := dk9 (k := 11) bX12_likes_0 rfl
theorem dX12_likes_12 : decode cX12_likes 12 = .ok (.ldc2_w 63, 3) := dk20 (k := 12) bX12_likes_0 rfl rfl
theorem dX12_likes_15 : decode cX12_likes 15 = .ok (.invokestatic 65, 3) := dk184 (k := 15) bX12_likes_0 rfl rfl
theorem dX12_likes_18 : decode cX12_likes 18 = .ok (.ifCond .eq 15, 3) := dk153 (k := 18) bX12_likes_0 rfl (by decide)
theorem dX12_likes_21 : decode cX12_likes 21 = .ok (.iload_n 3, 1) := dk29 (k := 21) bX12_likes_0 rfl
theorem dX12_likes_22 : decode cX12_likes 22 = .ok (.i2l, 1) := dk133 (k := 22) bX12_likes_0 rfl
theorem dX12_likes_23 : decode cX12_likes 23 = .ok (.lconst 0, 1) := dk9 (k := 23) bX12_likes_0 rfl
theorem bX12_likes_24 : bL cX12_likes 24 [20, 0, 71, 184, 0, 65, 154, 0, 6, 16, 254, 172, 42, 180, 0, 9, 16, 8, 46, 158, 0, 6, 16, 251] := bL_of (by decide +kernel)
theorem dX12_likes_24 : decode cX12_likes 24 = .ok (.ldc2_w 71, 3) := dk20 (k := 0) bX12_likes_24 rfl rfl
theorem dX12_likes_27 : decode cX12_likes 27 = .ok (.invokestatic 65, 3) := dk184 (k := 3) bX12_likes_24 rfl rfl
theorem dX12_likes_30 : decode cX12_likes 30 = .ok (.ifCond .ne 6, 3) := dk154 (k := 6) bX12_likes_24 rfl (by decide)
theorem dX12_likes_33 : decode cX12_likes 33 = .ok (.bipush (-2), 2) := dk16 (k := 9) bX12_likes_24 rfl (by decide)
theorem dX12_likes_35 : decode cX12_likes 35 = .ok (.ireturn, 1) := dk172 (k := 11) bX12_likes_24 rfl
theorem dX12_likes_36 : decode cX12_likes 36 = .ok (.aload_n 0, 1) := dk42 (k := 12) bX12_likes_24 rfl
theorem dX12_likes_37 : decode cX12_likes 37 = .ok (.getfield 9, 3) := dk180 (k := 13) bX12_likes_24 rfl rfl
theorem dX12_likes_40 : decode cX12_likes 40 = .ok (.bipush 8, 2) := dk16 (k := 16) bX12_likes_24 rfl (by decide)
theorem dX12_likes_42 : decode cX12_likes 42 = .ok (.iaload, 1) := dk46 (k := 18) bX12_likes_24 rfl
theorem dX12_likes_43 : decode cX12_likes 43 = .ok (.ifCond .le 6, 3) := dk158 (k := 19) bX12_likes_24 rfl (by decide)
theorem dX12_likes_46 : decode cX12_likes 46 = .ok (.bipush (-5), 2) := dk16 (k := 22) bX12_likes_24 rfl (by decide)
theorem bX12_likes_48 : bL cX12_likes 48 [172, 16, 19, 16, 7, 27, 104, 96, 5, 96, 28, 96, 54, 4, 42, 180, 0, 9, 21, 4, 46, 54, 5, 42] := bL_of (by decide +kernel)
theorem dX12_likes_48 : decode cX12_likes 48 = .ok (.ireturn, 1) := dk172 (k := 0) bX12_likes_48 rfl
theorem dX12_likes_49 : decode cX12_likes 49 = .ok (.bipush 19, 2) := dk16 (k := 1) bX12_likes_48 rfl (by decide)
theorem dX12_likes_51 : decode cX12_likes 51 = .ok (.bipush 7, 2) := dk16 (k := 3) bX12_likes_48 rfl (by decide)
theorem dX12_likes_53 : decode cX12_likes 53 = .ok (.iload_n 1, 1) := dk27 (k := 5) bX12_likes_48 rfl
theorem dX12_likes_54 : decode cX12_likes 54 = .ok (.imul, 1) := dk104 (k := 6) bX12_likes_48 rfl
theorem dX12_likes_55 : decode cX12_likes 55 = .ok (.iadd, 1) := dk96 (k := 7) bX12_likes_48 rfl
theorem dX12_likes_56 : decode cX12_likes 56 = .ok (.iconst 2, 1) := dk5 (k := 8) bX12_likes_48 rfl
theorem dX12_likes_57 : decode cX12_likes 57 = .ok (.iadd, 1) := dk96 (k := 9) bX12_likes_48 rfl
theorem dX12_likes_58 : decode cX12_likes 58 = .ok (.iload_n 2, 1) := dk28 (k := 10) bX12_likes_48 rfl
theorem dX12_likes_59 : decode cX12_likes 59 = .ok (.iadd, 1) := dk96 (k := 11) bX12_likes_48 rfl
theorem dX12_likes_60 : decode cX12_likes 60 = .ok (.istore 4, 2) := dk54 (k := 12) bX12_likes_48 rfl rfl
theorem dX12_likes_62 : decode cX12_likes 62 = .ok (.aload_n 0, 1) := dk42 (k := 14) bX12_likes_48 rfl
theorem dX12_likes_63 : decode cX12_likes 63 = .ok (.getfield 9, 3) := dk180 (k := 15) bX12_likes_48 rfl rfl
theorem dX12_likes_66 : decode cX12_likes 66 = .ok (.iload 4, 2) := dk21 (k := 18) bX12_likes_48 rfl rfl
theorem dX12_likes_68 : decode cX12_likes 68 = .ok (.iaload, 1) := dk46 (k := 20) bX12_likes_48 rfl
theorem dX12_likes_69 : decode cX12_likes 69 = .ok (.istore 5, 2) := dk54 (k := 21) bX12_likes_48 rfl rfl
theorem dX12_likes_71 : decode cX12_likes 71 = .ok (.aload_n 0, 1) := dk42 (k := 23) bX12_likes_48 rfl
theorem bX12_likes_72 : bL cX12_likes 72 [180, 0, 9, 21, 4, 29, 79, 21, 5, 172] := bL_of (by decide +kernel)
theorem dX12_likes_72 : decode cX12_likes 72 = .ok (.getfield 9, 3) := dk180 (k := 0) bX12_likes_72 rfl rfl
theorem dX12_likes_75 : decode cX12_likes 75 = .ok (.iload 4, 2) := dk21 (k := 3) bX12_likes_72 rfl rfl
theorem dX12_likes_77 : decode cX12_likes 77 = .ok (.iload_n 3, 1) := dk29 (k := 5) bX12_likes_72 rfl
theorem dX12_likes_78 : decode cX12_likes 78 = .ok (.iastore, 1) := dk79 (k := 6) bX12_likes_72 rfl
theorem dX12_likes_79 : decode cX12_likes 79 = .ok (.iload 5, 2) := dk21 (k := 7) bX12_likes_72 rfl rfl
theorem dX12_likes_81 : decode cX12_likes 81 = .ok (.ireturn, 1) := dk172 (k := 9) bX12_likes_72 rfl
theorem bX12_count_0 : bL cX12_count 0 [3, 61, 27] := bL_of (by decide +kernel)
theorem dX12_count_0 : decode cX12_count 0 = .ok (.iconst 0, 1) := dk3 (k := 0) bX12_count_0 rfl
theorem dX12_count_1 : decode cX12_count 1 = .ok (.istore_n 2, 1) := dk61 (k := 1) bX12_count_0 rfl
theorem dX12_count_2 : decode cX12_count 2 = .ok (.iload_n 1, 1) := dk27 (k := 2) bX12_count_0 rfl
theorem dX12_count_3 : decode cX12_count 3 = .ok (.tableswitch 150 0 9 #[53, 60, 68, 75, 82, 89, 96, 104, 109, 117], 53) := by decide +kernel
theorem bX12_count_56 : bL cX12_count 56 [42, 180, 0, 9, 3, 46, 172, 42, 180, 0, 9, 16, 6, 46, 172, 42, 180, 0, 9, 4, 46, 172, 42, 180, 0, 9] := bL_of (by decide +kernel)
theorem dX12_count_56 : decode cX12_count 56 = .ok (.aload_n 0, 1) := dk42 (k := 0) bX12_count_56 rfl
theorem dX12_count_57 : decode cX12_count 57 = .ok (.getfield 9, 3) := dk180 (k := 1) bX12_count_56 rfl rfl
theorem dX12_count_60 : decode cX12_count 60 = .ok (.iconst 0, 1) := dk3 (k := 4) bX12_count_56 rfl
theorem dX12_count_61 : decode cX12_count 61 = .ok (.iaload, 1) := dk46 (k := 5) bX12_count_56 rfl
theorem dX12_count_62 : decode cX12_count 62 = .ok (.ireturn, 1) := dk172 (k := 6) bX12_count_56 rfl
theorem dX12_count_63 : decode cX12_count 63 = .ok (.aload_n 0, 1) := dk42 (k := 7) bX12_count_56 rfl
theorem dX12_count_64 : decode cX12_count 64 = .ok (.getfield 9, 3) := dk180 (k := 8) bX12_count_56 rfl rfl
theorem dX12_count_67 : decode cX12_count 67 = .ok (.bipush 6, 2) := dk16 (k := 11) bX12_count_56 rfl (by decide)
theorem dX12_count_69 : decode cX12_count 69 = .ok (.iaload, 1) := dk46 (k := 13) bX12_count_56 rfl
theorem dX12_count_70 : decode cX12_count 70 = .ok (.ireturn, 1) := dk172 (k := 14) bX12_count_56 rfl
theorem dX12_count_71 : decode cX12_count 71 = .ok (.aload_n 0, 1) := dk42 (k := 15) bX12_count_56 rfl
theorem dX12_count_72 : decode cX12_count 72 = .ok (.getfield 9, 3) := dk180 (k := 16) bX12_count_56 rfl rfl
theorem dX12_count_75 : decode cX12_count 75 = .ok (.iconst 1, 1) := dk4 (k := 19) bX12_count_56 rfl
theorem dX12_count_76 : decode cX12_count 76 = .ok (.iaload, 1) := dk46 (k := 20) bX12_count_56 rfl
theorem dX12_count_77 : decode cX12_count 77 = .ok (.ireturn, 1) := dk172 (k := 21) bX12_count_56 rfl
theorem dX12_count_78 : decode cX12_count 78 = .ok (.aload_n 0, 1) := dk42 (k := 22) bX12_count_56 rfl
theorem dX12_count_79 : decode cX12_count 79 = .ok (.getfield 9, 3) := dk180 (k := 23) bX12_count_56 rfl rfl
theorem bX12_count_82 : bL cX12_count 82 [5, 46, 172, 42, 180, 0, 9, 6, 46, 172, 42, 180, 0, 9, 8, 46, 172, 42, 180, 0, 9, 16, 7, 46] := bL_of (by decide +kernel)
theorem dX12_count_82 : decode cX12_count 82 = .ok (.iconst 2, 1) := dk5 (k := 0) bX12_count_82 rfl
theorem dX12_count_83 : decode cX12_count 83 = .ok (.iaload, 1) := dk46 (k := 1) bX12_count_82 rfl
theorem dX12_count_84 : decode cX12_count 84 = .ok (.ireturn, 1) := dk172 (k := 2) bX12_count_82 rfl
theorem dX12_count_85 : decode cX12_count 85 = .ok (.aload_n 0, 1) := dk42 (k := 3) bX12_count_82 rfl
theorem dX12_count_86 : decode cX12_count 86 = .ok (.getfield 9, 3) := dk180 (k := 4) bX12_count_82 rfl rfl
theorem dX12_count_89 : decode cX12_count 89 = .ok (.iconst 3, 1) := dk6 (k := 7) bX12_count_82 rfl
theorem dX12_count_90 : decode cX12_count 90 = .ok (.iaload, 1) := dk46 (k := 8) bX12_count_82 rfl
theorem dX12_count_91 : decode cX12_count 91 = .ok (.ireturn, 1) := dk172 (k := 9) bX12_count_82 rfl
theorem dX12_count_92 : decode cX12_count 92 = .ok (.aload_n 0, 1) := dk42 (k := 10) bX12_count_82 rfl
theorem dX12_count_93 : decode cX12_count 93 = .ok (.getfield 9, 3) := dk180 (k := 11) bX12_count_82 rfl rfl
theorem dX12_count_96 : decode cX12_count 96 = .ok (.iconst 5, 1) := dk8 (k := 14) bX12_count_82 rfl
theorem dX12_count_97 : decode cX12_count 97 = .ok (.iaload, 1) := dk46 (k := 15) bX12_count_82 rfl
theorem dX12_count_98 : decode cX12_count 98 = .ok (.ireturn, 1) := dk172 (k := 16) bX12_count_82 rfl
theorem dX12_count_99 : decode cX12_count 99 = .ok (.aload_n 0, 1) := dk42 (k := 17) bX12_count_82 rfl
theorem dX12_count_100 : decode cX12_count 100 = .ok (.getfield 9, 3) := dk180 (k := 18) bX12_count_82 rfl rfl
theorem dX12_count_103 : decode cX12_count 103 = .ok (.bipush 7, 2) := dk16 (k := 21) bX12_count_82 rfl (by decide)
theorem dX12_count_105 : decode cX12_count 105 = .ok (.iaload, 1) := dk46 (k := 23) bX12_count_82 rfl
theorem bX12_count_106 : bL cX12_count 106 [172, 42, 180, 0, 81, 172, 42, 180, 0, 9, 16, 8, 46, 172, 3, 62, 29, 7, 162, 0, 27, 28, 42, 180, 0, 47] := bL_of (by decide +kernel)
theorem dX12_count_106 : decode cX12_count 106 = .ok (.ireturn, 1) := dk172 (k := 0) bX12_count_106 rfl
theorem dX12_count_107 : decode cX12_count 107 = .ok (.aload_n 0, 1) := dk42 (k := 1) bX12_count_106 rfl
theorem dX12_count_108 : decode cX12_count 108 = .ok (.getfield 81, 3) := dk180 (k := 2) bX12_count_106 rfl rfl
theorem dX12_count_111 : decode cX12_count 111 = .ok (.ireturn, 1) := dk172 (k := 5) bX12_count_106 rfl
theorem dX12_count_112 : decode cX12_count 112 = .ok (.aload_n 0, 1) := dk42 (k := 6) bX12_count_106 rfl
theorem dX12_count_113 : decode cX12_count 113 = .ok (.getfield 9, 3) := dk180 (k := 7) bX12_count_106 rfl rfl
theorem dX12_count_116 : decode cX12_count 116 = .ok (.bipush 8, 2) := dk16 (k := 10) bX12_count_106 rfl (by decide)
theorem dX12_count_118 : decode cX12_count 118 = .ok (.iaload, 1) := dk46 (k := 12) bX12_count_106 rfl
theorem dX12_count_119 : decode cX12_count 119 = .ok (.ireturn, 1) := dk172 (k := 13) bX12_count_106 rfl
theorem dX12_count_120 : decode cX12_count 120 = .ok (.iconst 0, 1) := dk3 (k := 14) bX12_count_106 rfl
theorem dX12_count_121 : decode cX12_count 121 = .ok (.istore_n 3, 1) := dk62 (k := 15) bX12_count_106 rfl
theorem dX12_count_122 : decode cX12_count 122 = .ok (.iload_n 3, 1) := dk29 (k := 16) bX12_count_106 rfl
theorem dX12_count_123 : decode cX12_count 123 = .ok (.iconst 4, 1) := dk7 (k := 17) bX12_count_106 rfl
theorem dX12_count_124 : decode cX12_count 124 = .ok (.if_icmp .ge 27, 3) := dk162 (k := 18) bX12_count_106 rfl (by decide)
theorem dX12_count_127 : decode cX12_count 127 = .ok (.iload_n 2, 1) := dk28 (k := 21) bX12_count_106 rfl
theorem dX12_count_128 : decode cX12_count 128 = .ok (.aload_n 0, 1) := dk42 (k := 22) bX12_count_106 rfl
theorem dX12_count_129 : decode cX12_count 129 = .ok (.getfield 47, 3) := dk180 (k := 23) bX12_count_106 rfl rfl
theorem bX12_count_132 : bL cX12_count 132 [29, 46, 2, 160, 0, 7, 3, 167, 0, 4, 4, 96, 61, 132, 3, 1, 167, 255, 230, 28, 172, 2, 172] := bL_of (by decide +kernel)
theorem dX12_count_132 : decode cX12_count 132 = .ok (.iload_n 3, 1) := dk29 (k := 0) bX12_count_132 rfl
theorem dX12_count_133 : decode cX12_count 133 = .ok (.iaload, 1) := dk46 (k := 1) bX12_count_132 rfl
theorem dX12_count_134 : decode cX12_count 134 = .ok (.iconst (-1), 1) := dk2 (k := 2) bX12_count_132 rfl
theorem dX12_count_135 : decode cX12_count 135 = .ok (.if_icmp .ne 7, 3) := dk160 (k := 3) bX12_count_132 rfl (by decide)
theorem dX12_count_138 : decode cX12_count 138 = .ok (.iconst 0, 1) := dk3 (k := 6) bX12_count_132 rfl
theorem dX12_count_139 : decode cX12_count 139 = .ok (.goto 4, 3) := dk167 (k := 7) bX12_count_132 rfl (by decide)
theorem dX12_count_142 : decode cX12_count 142 = .ok (.iconst 1, 1) := dk4 (k := 10) bX12_count_132 rfl
theorem dX12_count_143 : decode cX12_count 143 = .ok (.iadd, 1) := dk96 (k := 11) bX12_count_132 rfl
theorem dX12_count_144 : decode cX12_count 144 = .ok (.istore_n 2, 1) := dk61 (k := 12) bX12_count_132 rfl
theorem dX12_count_145 : decode cX12_count 145 = .ok (.iinc 3 1, 3) := dk132 (k := 13) bX12_count_132 rfl rfl (by decide)
theorem dX12_count_148 : decode cX12_count 148 = .ok (.goto (-26), 3) := dk167 (k := 16) bX12_count_132 rfl (by decide)
theorem dX12_count_151 : decode cX12_count 151 = .ok (.iload_n 2, 1) := dk28 (k := 19) bX12_count_132 rfl
theorem dX12_count_152 : decode cX12_count 152 = .ok (.ireturn, 1) := dk172 (k := 20) bX12_count_132 rfl
theorem dX12_count_153 : decode cX12_count 153 = .ok (.iconst (-1), 1) := dk2 (k := 21) bX12_count_132 rfl
theorem dX12_count_154 : decode cX12_count 154 = .ok (.ireturn, 1) := dk172 (k := 22) bX12_count_132 rfl
theorem bX12_isSlot_0 : bL cX12_isSlot 0 [26, 133, 9, 20, 1, 86, 184, 0, 65, 172] := bL_of (by decide +kernel)
theorem dX12_isSlot_0 : decode cX12_isSlot 0 = .ok (.iload_n 0, 1) := dk26 (k := 0) bX12_isSlot_0 rfl
theorem dX12_isSlot_1 : decode cX12_isSlot 1 = .ok (.i2l, 1) := dk133 (k := 1) bX12_isSlot_0 rfl
theorem dX12_isSlot_2 : decode cX12_isSlot 2 = .ok (.lconst 0, 1) := dk9 (k := 2) bX12_isSlot_0 rfl
theorem dX12_isSlot_3 : decode cX12_isSlot 3 = .ok (.ldc2_w 342, 3) := dk20 (k := 3) bX12_isSlot_0 rfl rfl
theorem dX12_isSlot_6 : decode cX12_isSlot 6 = .ok (.invokestatic 65, 3) := dk184 (k := 6) bX12_isSlot_0 rfl rfl
theorem dX12_isSlot_9 : decode cX12_isSlot 9 = .ok (.ireturn, 1) := dk172 (k := 9) bX12_isSlot_0 rfl
theorem bX12_cut_0 : bL cX12_cut 0 [16, 64, 16, 8, 28, 120, 100, 62, 30, 29, 121, 29, 123, 173] := bL_of (by decide +kernel)
theorem dX12_cut_0 : decode cX12_cut 0 = .ok (.bipush 64, 2) := dk16 (k := 0) bX12_cut_0 rfl (by decide)
theorem dX12_cut_2 : decode cX12_cut 2 = .ok (.bipush 8, 2) := dk16 (k := 2) bX12_cut_0 rfl (by decide)
theorem dX12_cut_4 : decode cX12_cut 4 = .ok (.iload_n 2, 1) := dk28 (k := 4) bX12_cut_0 rfl
theorem dX12_cut_5 : decode cX12_cut 5 = .ok (.ishl, 1) := dk120 (k := 5) bX12_cut_0 rfl
theorem dX12_cut_6 : decode cX12_cut 6 = .ok (.isub, 1) := dk100 (k := 6) bX12_cut_0 rfl
theorem dX12_cut_7 : decode cX12_cut 7 = .ok (.istore_n 3, 1) := dk62 (k := 7) bX12_cut_0 rfl
theorem dX12_cut_8 : decode cX12_cut 8 = .ok (.lload_n 0, 1) := dk30 (k := 8) bX12_cut_0 rfl
theorem dX12_cut_9 : decode cX12_cut 9 = .ok (.iload_n 3, 1) := dk29 (k := 9) bX12_cut_0 rfl
theorem dX12_cut_10 : decode cX12_cut 10 = .ok (.lshl, 1) := dk121 (k := 10) bX12_cut_0 rfl
theorem dX12_cut_11 : decode cX12_cut 11 = .ok (.iload_n 3, 1) := dk29 (k := 11) bX12_cut_0 rfl
theorem dX12_cut_12 : decode cX12_cut 12 = .ok (.lshr, 1) := dk123 (k := 12) bX12_cut_0 rfl
theorem dX12_cut_13 : decode cX12_cut 13 = .ok (.lreturn, 1) := dk173 (k := 13) bX12_cut_0 rfl
theorem bX12_row_0 : bL cX12_row 0 [27, 184, 1, 101, 153, 0, 21, 28, 133, 9, 20, 1, 86, 184, 0, 65, 153, 0, 9, 29, 16, 60, 164, 0, 6] := bL_of (by decide +kernel)
theorem dX12_row_0 : decode cX12_row 0 = .ok (.iload_n 1, 1) := dk27 (k := 0) bX12_row_0 rfl
theorem dX12_row_1 : decode cX12_row 1 = .ok (.invokestatic 357, 3) := dk184 (k := 1) bX12_row_0 rfl rfl
theorem dX12_row_4 : decode cX12_row 4 = .ok (.ifCond .eq 21, 3) := dk153 (k := 4) bX12_row_0 rfl (by decide)
theorem dX12_row_7 : decode cX12_row 7 = .ok (.iload_n 2, 1) := dk28 (k := 7) bX12_row_0 rfl
theorem dX12_row_8 : decode cX12_row 8 = .ok (.i2l, 1) := dk133 (k := 8) bX12_row_0 rfl
theorem dX12_row_9 : decode cX12_row 9 = .ok (.lconst 0, 1) := dk9 (k := 9) bX12_row_0 rfl
theorem dX12_row_10 : decode cX12_row 10 = .ok (.ldc2_w 342, 3) := dk20 (k := 10) bX12_row_0 rfl rfl
theorem dX12_row_13 : decode cX12_row 13 = .ok (.invokestatic 65, 3) := dk184 (k := 13) bX12_row_0 rfl rfl
theorem dX12_row_16 : decode cX12_row 16 = .ok (.ifCond .eq 9, 3) := dk153 (k := 16) bX12_row_0 rfl (by decide)
theorem dX12_row_19 : decode cX12_row 19 = .ok (.iload_n 3, 1) := dk29 (k := 19) bX12_row_0 rfl
theorem dX12_row_20 : decode cX12_row 20 = .ok (.bipush 60, 2) := dk16 (k := 20) bX12_row_0 rfl (by decide)
theorem dX12_row_22 : decode cX12_row 22 = .ok (.if_icmp .le 6, 3) := dk164 (k := 22) bX12_row_0 rfl (by decide)
theorem bX12_row_25 : bL cX12_row 25 [16, 254, 172, 29, 156, 0, 6, 16, 253, 172, 42, 180, 0, 47, 27, 29, 79, 42, 180, 0, 50, 27, 28, 79] := bL_of (by decide +kernel)
theorem dX12_row_25 : decode cX12_row 25 = .ok (.bipush (-2), 2) := dk16 (k := 0) bX12_row_25 rfl (by decide)
theorem dX12_row_27 : decode cX12_row 27 = .ok (.ireturn, 1) := dk172 (k := 2) bX12_row_25 rfl
theorem dX12_row_28 : decode cX12_row 28 = .ok (.iload_n 3, 1) := dk29 (k := 3) bX12_row_25 rfl
theorem dX12_row_29 : decode cX12_row 29 = .ok (.ifCond .ge 6, 3) := dk156 (k := 4) bX12_row_25 rfl (by decide)
theorem dX12_row_32 : decode cX12_row 32 = .ok (.bipush (-3), 2) := dk16 (k := 7) bX12_row_25 rfl (by decide)
theorem dX12_row_34 : decode cX12_row 34 = .ok (.ireturn, 1) := dk172 (k := 9) bX12_row_25 rfl
theorem dX12_row_35 : decode cX12_row 35 = .ok (.aload_n 0, 1) := dk42 (k := 10) bX12_row_25 rfl
theorem dX12_row_36 : decode cX12_row 36 = .ok (.getfield 47, 3) := dk180 (k := 11) bX12_row_25 rfl rfl
theorem dX12_row_39 : decode cX12_row 39 = .ok (.iload_n 1, 1) := dk27 (k := 14) bX12_row_25 rfl
theorem dX12_row_40 : decode cX12_row 40 = .ok (.iload_n 3, 1) := dk29 (k := 15) bX12_row_25 rfl
theorem dX12_row_41 : decode cX12_row 41 = .ok (.iastore, 1) := dk79 (k := 16) bX12_row_25 rfl
theorem dX12_row_42 : decode cX12_row 42 = .ok (.aload_n 0, 1) := dk42 (k := 17) bX12_row_25 rfl
theorem dX12_row_43 : decode cX12_row 43 = .ok (.getfield 50, 3) := dk180 (k := 18) bX12_row_25 rfl rfl
theorem dX12_row_46 : decode cX12_row 46 = .ok (.iload_n 1, 1) := dk27 (k := 21) bX12_row_25 rfl
theorem dX12_row_47 : decode cX12_row 47 = .ok (.iload_n 2, 1) := dk28 (k := 22) bX12_row_25 rfl
theorem dX12_row_48 : decode cX12_row 48 = .ok (.iastore, 1) := dk79 (k := 23) bX12_row_25 rfl
theorem bX12_row_49 : bL cX12_row 49 [3, 54, 4, 21, 4, 16, 60, 162, 0, 22, 42, 180, 0, 53, 16, 60, 27, 104, 21, 4, 96, 9, 80, 132, 4, 1] := bL_of (by decide +kernel)
theorem dX12_row_49 : decode cX12_row 49 = .ok (.iconst 0, 1) := dk3 (k := 0) bX12_row_49 rfl
theorem dX12_row_50 : decode cX12_row 50 = .ok (.istore 4, 2) := dk54 (k := 1) bX12_row_49 rfl rfl
theorem dX12_row_52 : decode cX12_row 52 = .ok (.iload 4, 2) := dk21 (k := 3) bX12_row_49 rfl rfl
theorem dX12_row_54 : decode cX12_row 54 = .ok (.bipush 60, 2) := dk16 (k := 5) bX12_row_49 rfl (by decide)
theorem dX12_row_56 : decode cX12_row 56 = .ok (.if_icmp .ge 22, 3) := dk162 (k := 7) bX12_row_49 rfl (by decide)
theorem dX12_row_59 : decode cX12_row 59 = .ok (.aload_n 0, 1) := dk42 (k := 10) bX12_row_49 rfl
theorem dX12_row_60 : decode cX12_row 60 = .ok (.getfield 53, 3) := dk180 (k := 11) bX12_row_49 rfl rfl
theorem dX12_row_63 : decode cX12_row 63 = .ok (.bipush 60, 2) := dk16 (k := 14) bX12_row_49 rfl (by decide)
theorem dX12_row_65 : decode cX12_row 65 = .ok (.iload_n 1, 1) := dk27 (k := 16) bX12_row_49 rfl
theorem dX12_row_66 : decode cX12_row 66 = .ok (.imul, 1) := dk104 (k := 17) bX12_row_49 rfl
theorem dX12_row_67 : decode cX12_row 67 = .ok (.iload 4, 2) := dk21 (k := 18) bX12_row_49 rfl rfl
theorem dX12_row_69 : decode cX12_row 69 = .ok (.iadd, 1) := dk96 (k := 20) bX12_row_49 rfl
theorem dX12_row_70 : decode cX12_row 70 = .ok (.lconst 0, 1) := dk9 (k := 21) bX12_row_49 rfl
theorem dX12_row_71 : decode cX12_row 71 = .ok (.lastore, 1) := dk80 (k := 22) bX12_row_49 rfl
theorem dX12_row_72 : decode cX12_row 72 = .ok (.iinc 4 1, 3) := dk132 (k := 23) bX12_row_49 rfl rfl (by decide)
theorem bX12_row_75 : bL cX12_row 75 [167, 255, 233, 3, 172] := bL_of (by decide +kernel)
theorem dX12_row_75 : decode cX12_row 75 = .ok (.goto (-23), 3) := dk167 (k := 0) bX12_row_75 rfl (by decide)
theorem dX12_row_78 : decode cX12_row 78 = .ok (.iconst 0, 1) := dk3 (k := 3) bX12_row_75 rfl
theorem dX12_row_79 : decode cX12_row 79 = .ok (.ireturn, 1) := dk172 (k := 4) bX12_row_75 rfl
theorem bX12_write_0 : bL cX12_write 0 [27, 184, 1, 101, 154, 0, 6, 16, 254, 172, 42, 180, 0, 47, 27, 46, 2, 160, 0, 6, 16, 250, 172, 28] := bL_of (by decide +kernel)
theorem dX12_write_0 : decode cX12_write 0 = .ok (.iload_n 1, 1) := dk27 (k := 0) bX12_write_0 rfl
theorem dX12_write_1 : decode cX12_write 1 = .ok (.invokestatic 357, 3) := dk184 (k := 1) bX12_write_0 rfl rfl
theorem dX12_write_4 : decode cX12_write 4 = .ok (.ifCond .ne 6, 3) := dk154 (k := 4) bX12_write_0 rfl (by decide)
theorem dX12_write_7 : decode cX12_write 7 = .ok (.bipush (-2), 2) := dk16 (k := 7) bX12_write_0 rfl (by decide)
theorem dX12_write_9 : decode cX12_write 9 = .ok (.ireturn, 1) := dk172 (k := 9) bX12_write_0 rfl
theorem dX12_write_10 : decode cX12_write 10 = .ok (.aload_n 0, 1) := dk42 (k := 10) bX12_write_0 rfl
theorem dX12_write_11 : decode cX12_write 11 = .ok (.getfield 47, 3) := dk180 (k := 11) bX12_write_0 rfl rfl
theorem dX12_write_14 : decode cX12_write 14 = .ok (.iload_n 1, 1) := dk27 (k := 14) bX12_write_0 rfl
theorem dX12_write_15 : decode cX12_write 15 = .ok (.iaload, 1) := dk46 (k := 15) bX12_write_0 rfl
theorem dX12_write_16 : decode cX12_write 16 = .ok (.iconst (-1), 1) := dk2 (k := 16) bX12_write_0 rfl
theorem dX12_write_17 : decode cX12_write 17 = .ok (.if_icmp .ne 6, 3) := dk160 (k := 17) bX12_write_0 rfl (by decide)
theorem dX12_write_20 : decode cX12_write 20 = .ok (.bipush (-6), 2) := dk16 (k := 20) bX12_write_0 rfl (by decide)
theorem dX12_write_22 : decode cX12_write 22 = .ok (.ireturn, 1) := dk172 (k := 22) bX12_write_0 rfl
theorem dX12_write_23 : decode cX12_write 23 = .ok (.iload_n 2, 1) := dk28 (k := 23) bX12_write_0 rfl
theorem bX12_write_24 : bL cX12_write 24 [133, 9, 42, 180, 0, 47, 27, 46, 4, 100, 133, 184, 0, 65, 154, 0, 6, 16, 249, 172, 42, 180, 0, 53] := bL_of (by decide +kernel)
theorem dX12_write_24 : decode cX12_write 24 = .ok (.i2l, 1) := dk133 (k := 0) bX12_write_24 rfl
theorem dX12_write_25 : decode cX12_write 25 = .ok (.lconst 0, 1) := dk9 (k := 1) bX12_write_24 rfl
theorem dX12_write_26 : decode cX12_write 26 = .ok (.aload_n 0, 1) := dk42 (k := 2) bX12_write_24 rfl
theorem dX12_write_27 : decode cX12_write 27 = .ok (.getfield 47, 3) := dk180 (k := 3) bX12_write_24 rfl rfl
theorem dX12_write_30 : decode cX12_write 30 = .ok (.iload_n 1, 1) := dk27 (k := 6) bX12_write_24 rfl
theorem dX12_write_31 : decode cX12_write 31 = .ok (.iaload, 1) := dk46 (k := 7) bX12_write_24 rfl
theorem dX12_write_32 : decode cX12_write 32 = .ok (.iconst 1, 1) := dk4 (k := 8) bX12_write_24 rfl
theorem dX12_write_33 : decode cX12_write 33 = .ok (.isub, 1) := dk100 (k := 9) bX12_write_24 rfl
theorem dX12_write_34 : decode cX12_write 34 = .ok (.i2l, 1) := dk133 (k := 10) bX12_write_24 rfl
theorem dX12_write_35 : decode cX12_write 35 = .ok (.invokestatic 65, 3) := dk184 (k := 11) bX12_write_24 rfl rfl
theorem dX12_write_38 : decode cX12_write 38 = .ok (.ifCond .ne 6, 3) := dk154 (k := 14) bX12_write_24 rfl (by decide)
theorem dX12_write_41 : decode cX12_write 41 = .ok (.bipush (-7), 2) := dk16 (k := 17) bX12_write_24 rfl (by decide)
theorem dX12_write_43 : decode cX12_write 43 = .ok (.ireturn, 1) := dk172 (k := 19) bX12_write_24 rfl
theorem dX12_write_44 : decode cX12_write 44 = .ok (.aload_n 0, 1) := dk42 (k := 20) bX12_write_24 rfl
theorem dX12_write_45 : decode cX12_write 45 = .ok (.getfield 53, 3) := dk180 (k := 21) bX12_write_24 rfl rfl
theorem bX12_write_48 : bL cX12_write 48 [16, 60, 27, 104, 28, 96, 33, 42, 180, 0, 50, 27, 46, 184, 1, 151, 80, 3, 172] := bL_of (by decide +kernel)
theorem dX12_write_48 : decode cX12_write 48 = .ok (.bipush 60, 2) := dk16 (k := 0) bX12_write_48 rfl (by decide)
theorem dX12_write_50 : decode cX12_write 50 = .ok (.iload_n 1, 1) := dk27 (k := 2) bX12_write_48 rfl
theorem dX12_write_51 : decode cX12_write 51 = .ok (.imul, 1) := dk104 (k := 3) bX12_write_48 rfl
theorem dX12_write_52 : decode cX12_write 52 = .ok (.iload_n 2, 1) := dk28 (k := 4) bX12_write_48 rfl
theorem dX12_write_53 : decode cX12_write 53 = .ok (.iadd, 1) := dk96 (k := 5) bX12_write_48 rfl
theorem dX12_write_54 : decode cX12_write 54 = .ok (.lload_n 3, 1) := dk33 (k := 6) bX12_write_48 rfl
theorem dX12_write_55 : decode cX12_write 55 = .ok (.aload_n 0, 1) := dk42 (k := 7) bX12_write_48 rfl
theorem dX12_write_56 : decode cX12_write 56 = .ok (.getfield 50, 3) := dk180 (k := 8) bX12_write_48 rfl rfl
theorem dX12_write_59 : decode cX12_write 59 = .ok (.iload_n 1, 1) := dk27 (k := 11) bX12_write_48 rfl
theorem dX12_write_60 : decode cX12_write 60 = .ok (.iaload, 1) := dk46 (k := 12) bX12_write_48 rfl
theorem dX12_write_61 : decode cX12_write 61 = .ok (.invokestatic 407, 3) := dk184 (k := 13) bX12_write_48 rfl rfl
theorem dX12_write_64 : decode cX12_write 64 = .ok (.lastore, 1) := dk80 (k := 16) bX12_write_48 rfl
theorem dX12_write_65 : decode cX12_write 65 = .ok (.iconst 0, 1) := dk3 (k := 17) bX12_write_48 rfl
theorem dX12_write_66 : decode cX12_write 66 = .ok (.ireturn, 1) := dk172 (k := 18) bX12_write_48 rfl
theorem bX12_paste_0 : bL cX12_paste 0 [27, 184, 1, 101, 153, 0, 10, 29, 184, 1, 101, 154, 0, 6, 16, 254, 172, 42, 180, 0, 47, 27, 46, 2] := bL_of (by decide +kernel)
theorem dX12_paste_0 : decode cX12_paste 0 = .ok (.iload_n 1, 1) := dk27 (k := 0) bX12_paste_0 rfl
theorem dX12_paste_1 : decode cX12_paste 1 = .ok (.invokestatic 357, 3) := dk184 (k := 1) bX12_paste_0 rfl rfl
theorem dX12_paste_4 : decode cX12_paste 4 = .ok (.ifCond .eq 10, 3) := dk153 (k := 4) bX12_paste_0 rfl (by decide)
theorem dX12_paste_7 : decode cX12_paste 7 = .ok (.iload_n 3, 1) := dk29 (k := 7) bX12_paste_0 rfl
theorem dX12_paste_8 : decode cX12_paste 8 = .ok (.invokestatic 357, 3) := dk184 (k := 8) bX12_paste_0 rfl rfl
theorem dX12_paste_11 : decode cX12_paste 11 = .ok (.ifCond .ne 6, 3) := dk154 (k := 11) bX12_paste_0 rfl (by decide)
theorem dX12_paste_14 : decode cX12_paste 14 = .ok (.bipush (-2), 2) := dk16 (k := 14) bX12_paste_0 rfl (by decide)
theorem dX12_paste_16 : decode cX12_paste 16 = .ok (.ireturn, 1) := dk172 (k := 16) bX12_paste_0 rfl
theorem dX12_paste_17 : decode cX12_paste 17 = .ok (.aload_n 0, 1) := dk42 (k := 17) bX12_paste_0 rfl
theorem dX12_paste_18 : decode cX12_paste 18 = .ok (.getfield 47, 3) := dk180 (k := 18) bX12_paste_0 rfl rfl
theorem dX12_paste_21 : decode cX12_paste 21 = .ok (.iload_n 1, 1) := dk27 (k := 21) bX12_paste_0 rfl
theorem dX12_paste_22 : decode cX12_paste 22 = .ok (.iaload, 1) := dk46 (k := 22) bX12_paste_0 rfl
theorem dX12_paste_23 : decode cX12_paste 23 = .ok (.iconst (-1), 1) := dk2 (k := 23) bX12_paste_0 rfl
theorem bX12_paste_24 : bL cX12_paste 24 [159, 0, 13, 42, 180, 0, 47, 29, 46, 2, 160, 0, 6, 16, 250, 172, 42, 180, 0, 50, 27, 46, 42, 180, 0, 50] := bL_of (by decide +kernel)
theorem dX12_paste_24 : decode cX12_paste 24 = .ok (.if_icmp .eq 13, 3) := dk159 (k := 0) bX12_paste_24 rfl (by decide)
theorem dX12_paste_27 : decode cX12_paste 27 = .ok (.aload_n 0, 1) := dk42 (k := 3) bX12_paste_24 rfl
theorem dX12_paste_28 : decode cX12_paste 28 = .ok (.getfield 47, 3) := dk180 (k := 4) bX12_paste_24 rfl rfl
theorem dX12_paste_31 : decode cX12_paste 31 = .ok (.iload_n 3, 1) := dk29 (k := 7) bX12_paste_24 rfl
theorem dX12_paste_32 : decode cX12_paste 32 = .ok (.iaload, 1) := dk46 (k := 8) bX12_paste_24 rfl
theorem dX12_paste_33 : decode cX12_paste 33 = .ok (.iconst (-1), 1) := dk2 (k := 9) bX12_paste_24 rfl
theorem dX12_paste_34 : decode cX12_paste 34 = .ok (.if_icmp .ne 6, 3) := dk160 (k := 10) bX12_paste_24 rfl (by decide)
theorem dX12_paste_37 : decode cX12_paste 37 = .ok (.bipush (-6), 2) := dk16 (k := 13) bX12_paste_24 rfl (by decide)
theorem dX12_paste_39 : decode cX12_paste 39 = .ok (.ireturn, 1) := dk172 (k := 15) bX12_paste_24 rfl
theorem dX12_paste_40 : decode cX12_paste 40 = .ok (.aload_n 0, 1) := dk42 (k := 16) bX12_paste_24 rfl
theorem dX12_paste_41 : decode cX12_paste 41 = .ok (.getfield 50, 3) := dk180 (k := 17) bX12_paste_24 rfl rfl
theorem dX12_paste_44 : decode cX12_paste 44 = .ok (.iload_n 1, 1) := dk27 (k := 20) bX12_paste_24 rfl
theorem dX12_paste_45 : decode cX12_paste 45 = .ok (.iaload, 1) := dk46 (k := 21) bX12_paste_24 rfl
theorem dX12_paste_46 : decode cX12_paste 46 = .ok (.aload_n 0, 1) := dk42 (k := 22) bX12_paste_24 rfl
theorem dX12_paste_47 : decode cX12_paste 47 = .ok (.getfield 50, 3) := dk180 (k := 23) bX12_paste_24 rfl rfl
theorem bX12_paste_50 : bL cX12_paste 50 [29, 46, 159, 0, 6, 16, 248, 172, 28, 155, 0, 48, 21, 4, 155, 0, 43, 21, 5, 155, 0, 38, 28, 133] := bL_of (by decide +kernel)
theorem dX12_paste_50 : decode cX12_paste 50 = .ok (.iload_n 3, 1) := dk29 (k := 0) bX12_paste_50 rfl
theorem dX12_paste_51 : decode cX12_paste 51 = .ok (.iaload, 1) := dk46 (k := 1) bX12_paste_50 rfl
theorem dX12_paste_52 : decode cX12_paste 52 = .ok (.if_icmp .eq 6, 3) := dk159 (k := 2) bX12_paste_50 rfl (by decide)
theorem dX12_paste_55 : decode cX12_paste 55 = .ok (.bipush (-8), 2) := dk16 (k := 5) bX12_paste_50 rfl (by decide)
theorem dX12_paste_57 : decode cX12_paste 57 = .ok (.ireturn, 1) := dk172 (k := 7) bX12_paste_50 rfl
theorem dX12_paste_58 : decode cX12_paste 58 = .ok (.iload_n 2, 1) := dk28 (k := 8) bX12_paste_50 rfl
theorem dX12_paste_59 : decode cX12_paste 59 = .ok (.ifCond .lt 48, 3) := dk155 (k := 9) bX12_paste_50 rfl (by decide)
theorem dX12_paste_62 : decode cX12_paste 62 = .ok (.iload 4, 2) := dk21 (k := 12) bX12_paste_50 rfl rfl
theorem dX12_paste_64 : decode cX12_paste 64 = .ok (.ifCond .lt 43, 3) := dk155 (k := 14) bX12_paste_50 rfl (by decide)
theorem dX12_paste_67 : decode cX12_paste 67 = .ok (.iload 5, 2) := dk21 (k := 17) bX12_paste_50 rfl rfl
theorem dX12_paste_69 : decode cX12_paste 69 = .ok (.ifCond .lt 38, 3) := dk155 (k := 19) bX12_paste_50 rfl (by decide)
theorem dX12_paste_72 : decode cX12_paste 72 = .ok (.iload_n 2, 1) := dk28 (k := 22) bX12_paste_50 rfl
theorem dX12_paste_73 : decode cX12_paste 73 = .ok (.i2l, 1) := dk133 (k := 23) bX12_paste_50 rfl
theorem bX12_paste_74 : bL cX12_paste 74 [21, 5, 133, 97, 42, 180, 0, 47, 27, 46, 133, 148, 157, 0, 21, 21, 4, 133, 21, 5, 133, 97, 42, 180, 0, 47] := bL_of (by decide +kernel)
theorem dX12_paste_74 : decode cX12_paste 74 = .ok (.iload 5, 2) := dk21 (k := 0) bX12_paste_74 rfl rfl
theorem dX12_paste_76 : decode cX12_paste 76 = .ok (.i2l, 1) := dk133 (k := 2) bX12_paste_74 rfl
theorem dX12_paste_77 : decode cX12_paste 77 = .ok (.ladd, 1) := dk97 (k := 3) bX12_paste_74 rfl
theorem dX12_paste_78 : decode cX12_paste 78 = .ok (.aload_n 0, 1) := dk42 (k := 4) bX12_paste_74 rfl
theorem dX12_paste_79 : decode cX12_paste 79 = .ok (.getfield 47, 3) := dk180 (k := 5) bX12_paste_74 rfl rfl
theorem dX12_paste_82 : decode cX12_paste 82 = .ok (.iload_n 1, 1) := dk27 (k := 8) bX12_paste_74 rfl
theorem dX12_paste_83 : decode cX12_paste 83 = .ok (.iaload, 1) := dk46 (k := 9) bX12_paste_74 rfl
theorem dX12_paste_84 : decode cX12_paste 84 = .ok (.i2l, 1) := dk133 (k := 10) bX12_paste_74 rfl
theorem dX12_paste_85 : decode cX12_paste 85 = .ok (.lcmp, 1) := dk148 (k := 11) bX12_paste_74 rfl
theorem dX12_paste_86 : decode cX12_paste 86 = .ok (.ifCond .gt 21, 3) := dk157 (k := 12) bX12_paste_74 rfl (by decide)
theorem dX12_paste_89 : decode cX12_paste 89 = .ok (.iload 4, 2) := dk21 (k := 15) bX12_paste_74 rfl rfl
theorem dX12_paste_91 : decode cX12_paste 91 = .ok (.i2l, 1) := dk133 (k := 17) bX12_paste_74 rfl
theorem dX12_paste_92 : decode cX12_paste 92 = .ok (.iload 5, 2) := dk21 (k := 18) bX12_paste_74 rfl rfl
theorem dX12_paste_94 : decode cX12_paste 94 = .ok (.i2l, 1) := dk133 (k := 20) bX12_paste_74 rfl
theorem dX12_paste_95 : decode cX12_paste 95 = .ok (.ladd, 1) := dk97 (k := 21) bX12_paste_74 rfl
theorem dX12_paste_96 : decode cX12_paste 96 = .ok (.aload_n 0, 1) := dk42 (k := 22) bX12_paste_74 rfl
theorem dX12_paste_97 : decode cX12_paste 97 = .ok (.getfield 47, 3) := dk180 (k := 23) bX12_paste_74 rfl rfl
theorem bX12_paste_100 : bL cX12_paste 100 [29, 46, 133, 148, 158, 0, 6, 16, 249, 172, 3, 54, 6, 21, 6, 21, 5, 162, 0, 30, 42, 180, 0, 57] := bL_of (by decide +kernel)
theorem dX12_paste_100 : decode cX12_paste 100 = .ok (.iload_n 3, 1) := dk29 (k := 0) bX12_paste_100 rfl
theorem dX12_paste_101 : decode cX12_paste 101 = .ok (.iaload, 1) := dk46 (k := 1) bX12_paste_100 rfl
theorem dX12_paste_102 : decode cX12_paste 102 = .ok (.i2l, 1) := dk133 (k := 2) bX12_paste_100 rfl
theorem dX12_paste_103 : decode cX12_paste 103 = .ok (.lcmp, 1) := dk148 (k := 3) bX12_paste_100 rfl
theorem dX12_paste_104 : decode cX12_paste 104 = .ok (.ifCond .le 6, 3) := dk158 (k := 4) bX12_paste_100 rfl (by decide)
theorem dX12_paste_107 : decode cX12_paste 107 = .ok (.bipush (-7), 2) := dk16 (k := 7) bX12_paste_100 rfl (by decide)
theorem dX12_paste_109 : decode cX12_paste 109 = .ok (.ireturn, 1) := dk172 (k := 9) bX12_paste_100 rfl
theorem dX12_paste_110 : decode cX12_paste 110 = .ok (.iconst 0, 1) := dk3 (k := 10) bX12_paste_100 rfl
theorem dX12_paste_111 : decode cX12_paste 111 = .ok (.istore 6, 2) := dk54 (k := 11) bX12_paste_100 rfl rfl
theorem dX12_paste_113 : decode cX12_paste 113 = .ok (.iload 6, 2) := dk21 (k := 13) bX12_paste_100 rfl rfl
theorem dX12_paste_115 : decode cX12_paste 115 = .ok (.iload 5, 2) := dk21 (k := 15) bX12_paste_100 rfl rfl
theorem dX12_paste_117 : decode cX12_paste 117 = .ok (.if_icmp .ge 30, 3) := dk162 (k := 17) bX12_paste_100 rfl (by decide)
theorem dX12_paste_120 : decode cX12_paste 120 = .ok (.aload_n 0, 1) := dk42 (k := 20) bX12_paste_100 rfl
theorem dX12_paste_121 : decode cX12_paste 121 = .ok (.getfield 57, 3) := dk180 (k := 21) bX12_paste_100 rfl rfl
theorem bX12_paste_124 : bL cX12_paste 124 [21, 6, 42, 180, 0, 53, 16, 60, 27, 104, 28, 96, 21, 6, 96, 47, 80, 132, 6, 1, 167, 255, 225, 3] := bL_of (by decide +kernel)
theorem dX12_paste_124 : decode cX12_paste 124 = .ok (.iload 6, 2) := dk21 (k := 0) bX12_paste_124 rfl rfl
theorem dX12_paste_126 : decode cX12_paste 126 = .ok (.aload_n 0, 1) := dk42 (k := 2) bX12_paste_124 rfl
theorem dX12_paste_127 : decode cX12_paste 127 = .ok (.getfield 53, 3) := dk180 (k := 3) bX12_paste_124 rfl rfl
theorem dX12_paste_130 : decode cX12_paste 130 = .ok (.bipush 60, 2) := dk16 (k := 6) bX12_paste_124 rfl (by decide)
theorem dX12_paste_132 : decode cX12_paste 132 = .ok (.iload_n 1, 1) := dk27 (k := 8) bX12_paste_124 rfl
theorem dX12_paste_133 : decode cX12_paste 133 = .ok (.imul, 1) := dk104 (k := 9) bX12_paste_124 rfl
theorem dX12_paste_134 : decode cX12_paste 134 = .ok (.iload_n 2, 1) := dk28 (k := 10) bX12_paste_124 rfl
theorem dX12_paste_135 : decode cX12_paste 135 = .ok (.iadd, 1) := dk96 (k := 11) bX12_paste_124 rfl
theorem dX12_paste_136 : decode cX12_paste 136 = .ok (.iload 6, 2) := dk21 (k := 12) bX12_paste_124 rfl rfl
theorem dX12_paste_138 : decode cX12_paste 138 = .ok (.iadd, 1) := dk96 (k := 14) bX12_paste_124 rfl
theorem dX12_paste_139 : decode cX12_paste 139 = .ok (.laload, 1) := dk47 (k := 15) bX12_paste_124 rfl
theorem dX12_paste_140 : decode cX12_paste 140 = .ok (.lastore, 1) := dk80 (k := 16) bX12_paste_124 rfl
theorem dX12_paste_141 : decode cX12_paste 141 = .ok (.iinc 6 1, 3) := dk132 (k := 17) bX12_paste_124 rfl rfl (by decide)
theorem dX12_paste_144 : decode cX12_paste 144 = .ok (.goto (-31), 3) := dk167 (k := 20) bX12_paste_124 rfl (by decide)
theorem dX12_paste_147 : decode cX12_paste 147 = .ok (.iconst 0, 1) := dk3 (k := 23) bX12_paste_124 rfl
theorem bX12_paste_148 : bL cX12_paste 148 [54, 6, 21, 6, 21, 5, 162, 0, 31, 42, 180, 0, 53, 16, 60, 29, 104, 21, 4, 96, 21, 6, 96, 42] := bL_of (by decide +kernel)
theorem dX12_paste_148 : decode cX12_paste 148 = .ok (.istore 6, 2) := dk54 (k := 0) bX12_paste_148 rfl rfl
theorem dX12_paste_150 : decode cX12_paste 150 = .ok (.iload 6, 2) := dk21 (k := 2) bX12_paste_148 rfl rfl
theorem dX12_paste_152 : decode cX12_paste 152 = .ok (.iload 5, 2) := dk21 (k := 4) bX12_paste_148 rfl rfl
theorem dX12_paste_154 : decode cX12_paste 154 = .ok (.if_icmp .ge 31, 3) := dk162 (k := 6) bX12_paste_148 rfl (by decide)
theorem dX12_paste_157 : decode cX12_paste 157 = .ok (.aload_n 0, 1) := dk42 (k := 9) bX12_paste_148 rfl
theorem dX12_paste_158 : decode cX12_paste 158 = .ok (.getfield 53, 3) := dk180 (k := 10) bX12_paste_148 rfl rfl
theorem dX12_paste_161 : decode cX12_paste 161 = .ok (.bipush 60, 2) := dk16 (k := 13) bX12_paste_148 rfl (by decide)
theorem dX12_paste_163 : decode cX12_paste 163 = .ok (.iload_n 3, 1) := dk29 (k := 15) bX12_paste_148 rfl
theorem dX12_paste_164 : decode cX12_paste 164 = .ok (.imul, 1) := dk104 (k := 16) bX12_paste_148 rfl
theorem dX12_paste_165 : decode cX12_paste 165 = .ok (.iload 4, 2) := dk21 (k := 17) bX12_paste_148 rfl rfl
theorem dX12_paste_167 : decode cX12_paste 167 = .ok (.iadd, 1) := dk96 (k := 19) bX12_paste_148 rfl
theorem dX12_paste_168 : decode cX12_paste 168 = .ok (.iload 6, 2) := dk21 (k := 20) bX12_paste_148 rfl rfl
theorem dX12_paste_170 : decode cX12_paste 170 = .ok (.iadd, 1) := dk96 (k := 22) bX12_paste_148 rfl
theorem dX12_paste_171 : decode cX12_paste 171 = .ok (.aload_n 0, 1) := dk42 (k := 23) bX12_paste_148 rfl
theorem bX12_paste_172 : bL cX12_paste 172 [180, 0, 57, 21, 6, 47, 80, 132, 6, 1, 167, 255, 224, 3, 172] := bL_of (by decide +kernel)
theorem dX12_paste_172 : decode cX12_paste 172 = .ok (.getfield 57, 3) := dk180 (k := 0) bX12_paste_172 rfl rfl
theorem dX12_paste_175 : decode cX12_paste 175 = .ok (.iload 6, 2) := dk21 (k := 3) bX12_paste_172 rfl rfl
theorem dX12_paste_177 : decode cX12_paste 177 = .ok (.laload, 1) := dk47 (k := 5) bX12_paste_172 rfl
theorem dX12_paste_178 : decode cX12_paste 178 = .ok (.lastore, 1) := dk80 (k := 6) bX12_paste_172 rfl
theorem dX12_paste_179 : decode cX12_paste 179 = .ok (.iinc 6 1, 3) := dk132 (k := 7) bX12_paste_172 rfl rfl (by decide)
theorem dX12_paste_182 : decode cX12_paste 182 = .ok (.goto (-32), 3) := dk167 (k := 10) bX12_paste_172 rfl (by decide)
theorem dX12_paste_185 : decode cX12_paste 185 = .ok (.iconst 0, 1) := dk3 (k := 13) bX12_paste_172 rfl
theorem dX12_paste_186 : decode cX12_paste 186 = .ok (.ireturn, 1) := dk172 (k := 14) bX12_paste_172 rfl
theorem bJ6_bitCount_0f7a4_0 : bL cJ6_bitCount_0f7a4 0 [26, 26, 4, 124, 19, 1, 9, 126, 100, 59, 26, 19, 1, 10, 126, 26, 5, 124, 19, 1, 10, 126, 96, 59] := bL_of (by decide +kernel)
theorem dJ6_bitCount_0f7a4_0 : decode cJ6_bitCount_0f7a4 0 = .ok (.iload_n 0, 1) := dk26 (k := 0) bJ6_bitCount_0f7a4_0 rfl
theorem dJ6_bitCount_0f7a4_1 : decode cJ6_bitCount_0f7a4 1 = .ok (.iload_n 0, 1) := dk26 (k := 1) bJ6_bitCount_0f7a4_0 rfl
theorem dJ6_bitCount_0f7a4_2 : decode cJ6_bitCount_0f7a4 2 = .ok (.iconst 1, 1) := dk4 (k := 2) bJ6_bitCount_0f7a4_0 rfl
theorem dJ6_bitCount_0f7a4_3 : decode cJ6_bitCount_0f7a4 3 = .ok (.iushr, 1) := dk124 (k := 3) bJ6_bitCount_0f7a4_0 rfl
theorem dJ6_bitCount_0f7a4_4 : decode cJ6_bitCount_0f7a4 4 = .ok (.ldc_w 265, 3) := dk19 (k := 4) bJ6_bitCount_0f7a4_0 rfl rfl
theorem dJ6_bitCount_0f7a4_7 : decode cJ6_bitCount_0f7a4 7 = .ok (.iand, 1) := dk126 (k := 7) bJ6_bitCount_0f7a4_0 rfl
theorem dJ6_bitCount_0f7a4_8 : decode cJ6_bitCount_0f7a4 8 = .ok (.isub, 1) := dk100 (k := 8) bJ6_bitCount_0f7a4_0 rfl
theorem dJ6_bitCount_0f7a4_9 : decode cJ6_bitCount_0f7a4 9 = .ok (.istore_n 0, 1) := dk59 (k := 9) bJ6_bitCount_0f7a4_0 rfl
theorem dJ6_bitCount_0f7a4_10 : decode cJ6_bitCount_0f7a4 10 = .ok (.iload_n 0, 1) := dk26 (k := 10) bJ6_bitCount_0f7a4_0 rfl
theorem dJ6_bitCount_0f7a4_11 : decode cJ6_bitCount_0f7a4 11 = .ok (.ldc_w 266, 3) := dk19 (k := 11) bJ6_bitCount_0f7a4_0 rfl rfl
theorem dJ6_bitCount_0f7a4_14 : decode cJ6_bitCount_0f7a4 14 = .ok (.iand, 1) := dk126 (k := 14) bJ6_bitCount_0f7a4_0 rfl
theorem dJ6_bitCount_0f7a4_15 : decode cJ6_bitCount_0f7a4 15 = .ok (.iload_n 0, 1) := dk26 (k := 15) bJ6_bitCount_0f7a4_0 rfl
theorem dJ6_bitCount_0f7a4_16 : decode cJ6_bitCount_0f7a4 16 = .ok (.iconst 2, 1) := dk5 (k := 16) bJ6_bitCount_0f7a4_0 rfl
theorem dJ6_bitCount_0f7a4_17 : decode cJ6_bitCount_0f7a4 17 = .ok (.iushr, 1) := dk124 (k := 17) bJ6_bitCount_0f7a4_0 rfl
theorem dJ6_bitCount_0f7a4_18 : decode cJ6_bitCount_0f7a4 18 = .ok (.ldc_w 266, 3) := dk19 (k := 18) bJ6_bitCount_0f7a4_0 rfl rfl
theorem dJ6_bitCount_0f7a4_21 : decode cJ6_bitCount_0f7a4 21 = .ok (.iand, 1) := dk126 (k := 21) bJ6_bitCount_0f7a4_0 rfl
theorem dJ6_bitCount_0f7a4_22 : decode cJ6_bitCount_0f7a4 22 = .ok (.iadd, 1) := dk96 (k := 22) bJ6_bitCount_0f7a4_0 rfl
theorem dJ6_bitCount_0f7a4_23 : decode cJ6_bitCount_0f7a4 23 = .ok (.istore_n 0, 1) := dk59 (k := 23) bJ6_bitCount_0f7a4_0 rfl
theorem bJ6_bitCount_0f7a4_24 : bL cJ6_bitCount_0f7a4 24 [26, 26, 7, 124, 96, 19, 1, 11, 126, 59, 26, 26, 16, 8, 124, 96, 59, 26, 26, 16, 16, 124, 96, 59] := bL_of (by decide +kernel)
theorem dJ6_bitCount_0f7a4_24 : decode cJ6_bitCount_0f7a4 24 = .ok (.iload_n 0, 1) := dk26 (k := 0) bJ6_bitCount_0f7a4_24 rfl
theorem dJ6_bitCount_0f7a4_25 : decode cJ6_bitCount_0f7a4 25 = .ok (.iload_n 0, 1) := dk26 (k := 1) bJ6_bitCount_0f7a4_24 rfl
theorem dJ6_bitCount_0f7a4_26 : decode cJ6_bitCount_0f7a4 26 = .ok (.iconst 4, 1) := dk7 (k := 2) bJ6_bitCount_0f7a4_24 rfl
theorem dJ6_bitCount_0f7a4_27 : decode cJ6_bitCount_0f7a4 27 = .ok (.iushr, 1) := dk124 (k := 3) bJ6_bitCount_0f7a4_24 rfl
theorem dJ6_bitCount_0f7a4_28 : decode cJ6_bitCount_0f7a4 28 = .ok (.iadd, 1) := dk96 (k := 4) bJ6_bitCount_0f7a4_24 rfl
theorem dJ6_bitCount_0f7a4_29 : decode cJ6_bitCount_0f7a4 29 = .ok (.ldc_w 267, 3) := dk19 (k := 5) bJ6_bitCount_0f7a4_24 rfl rfl
theorem dJ6_bitCount_0f7a4_32 : decode cJ6_bitCount_0f7a4 32 = .ok (.iand, 1) := dk126 (k := 8) bJ6_bitCount_0f7a4_24 rfl
theorem dJ6_bitCount_0f7a4_33 : decode cJ6_bitCount_0f7a4 33 = .ok (.istore_n 0, 1) := dk59 (k := 9) bJ6_bitCount_0f7a4_24 rfl
theorem dJ6_bitCount_0f7a4_34 : decode cJ6_bitCount_0f7a4 34 = .ok (.iload_n 0, 1) := dk26 (k := 10) bJ6_bitCount_0f7a4_24 rfl
theorem dJ6_bitCount_0f7a4_35 : decode cJ6_bitCount_0f7a4 35 = .ok (.iload_n 0, 1) := dk26 (k := 11) bJ6_bitCount_0f7a4_24 rfl
theorem dJ6_bitCount_0f7a4_36 : decode cJ6_bitCount_0f7a4 36 = .ok (.bipush 8, 2) := dk16 (k := 12) bJ6_bitCount_0f7a4_24 rfl (by decide)
theorem dJ6_bitCount_0f7a4_38 : decode cJ6_bitCount_0f7a4 38 = .ok (.iushr, 1) := dk124 (k := 14) bJ6_bitCount_0f7a4_24 rfl
theorem dJ6_bitCount_0f7a4_39 : decode cJ6_bitCount_0f7a4 39 = .ok (.iadd, 1) := dk96 (k := 15) bJ6_bitCount_0f7a4_24 rfl
theorem dJ6_bitCount_0f7a4_40 : decode cJ6_bitCount_0f7a4 40 = .ok (.istore_n 0, 1) := dk59 (k := 16) bJ6_bitCount_0f7a4_24 rfl
theorem dJ6_bitCount_0f7a4_41 : decode cJ6_bitCount_0f7a4 41 = .ok (.iload_n 0, 1) := dk26 (k := 17) bJ6_bitCount_0f7a4_24 rfl
theorem dJ6_bitCount_0f7a4_42 : decode cJ6_bitCount_0f7a4 42 = .ok (.iload_n 0, 1) := dk26 (k := 18) bJ6_bitCount_0f7a4_24 rfl
theorem dJ6_bitCount_0f7a4_43 : decode cJ6_bitCount_0f7a4 43 = .ok (.bipush 16, 2) := dk16 (k := 19) bJ6_bitCount_0f7a4_24 rfl (by decide)
theorem dJ6_bitCount_0f7a4_45 : decode cJ6_bitCount_0f7a4 45 = .ok (.iushr, 1) := dk124 (k := 21) bJ6_bitCount_0f7a4_24 rfl
theorem dJ6_bitCount_0f7a4_46 : decode cJ6_bitCount_0f7a4 46 = .ok (.iadd, 1) := dk96 (k := 22) bJ6_bitCount_0f7a4_24 rfl
theorem dJ6_bitCount_0f7a4_47 : decode cJ6_bitCount_0f7a4 47 = .ok (.istore_n 0, 1) := dk59 (k := 23) bJ6_bitCount_0f7a4_24 rfl
theorem bJ6_bitCount_0f7a4_48 : bL cJ6_bitCount_0f7a4 48 [26, 16, 63, 126, 172] := bL_of (by decide +kernel)
theorem dJ6_bitCount_0f7a4_48 : decode cJ6_bitCount_0f7a4 48 = .ok (.iload_n 0, 1) := dk26 (k := 0) bJ6_bitCount_0f7a4_48 rfl
theorem dJ6_bitCount_0f7a4_49 : decode cJ6_bitCount_0f7a4 49 = .ok (.bipush 63, 2) := dk16 (k := 1) bJ6_bitCount_0f7a4_48 rfl (by decide)
theorem dJ6_bitCount_0f7a4_51 : decode cJ6_bitCount_0f7a4 51 = .ok (.iand, 1) := dk126 (k := 3) bJ6_bitCount_0f7a4_48 rfl
theorem dJ6_bitCount_0f7a4_52 : decode cJ6_bitCount_0f7a4 52 = .ok (.ireturn, 1) := dk172 (k := 4) bJ6_bitCount_0f7a4_48 rfl
theorem bJ9_abs_0f7a4_0 : bL cJ9_abs_0f7a4 0 [26, 156, 0, 8, 26, 116, 167, 0, 4, 26, 172] := bL_of (by decide +kernel)
theorem dJ9_abs_0f7a4_0 : decode cJ9_abs_0f7a4 0 = .ok (.iload_n 0, 1) := dk26 (k := 0) bJ9_abs_0f7a4_0 rfl
theorem dJ9_abs_0f7a4_1 : decode cJ9_abs_0f7a4 1 = .ok (.ifCond .ge 8, 3) := dk156 (k := 1) bJ9_abs_0f7a4_0 rfl (by decide)
theorem dJ9_abs_0f7a4_4 : decode cJ9_abs_0f7a4 4 = .ok (.iload_n 0, 1) := dk26 (k := 4) bJ9_abs_0f7a4_0 rfl
theorem dJ9_abs_0f7a4_5 : decode cJ9_abs_0f7a4 5 = .ok (.ineg, 1) := dk116 (k := 5) bJ9_abs_0f7a4_0 rfl
theorem dJ9_abs_0f7a4_6 : decode cJ9_abs_0f7a4 6 = .ok (.goto 4, 3) := dk167 (k := 6) bJ9_abs_0f7a4_0 rfl (by decide)
theorem dJ9_abs_0f7a4_9 : decode cJ9_abs_0f7a4 9 = .ok (.iload_n 0, 1) := dk26 (k := 9) bJ9_abs_0f7a4_0 rfl
theorem dJ9_abs_0f7a4_10 : decode cJ9_abs_0f7a4 10 = .ok (.ireturn, 1) := dk172 (k := 10) bJ9_abs_0f7a4_0 rfl
theorem bJ9_max_7cf53_0 : bL cJ9_max_7cf53 0 [26, 27, 161, 0, 7, 26, 167, 0, 4, 27, 172] := bL_of (by decide +kernel)
theorem dJ9_max_7cf53_0 : decode cJ9_max_7cf53 0 = .ok (.iload_n 0, 1) := dk26 (k := 0) bJ9_max_7cf53_0 rfl
theorem dJ9_max_7cf53_1 : decode cJ9_max_7cf53 1 = .ok (.iload_n 1, 1) := dk27 (k := 1) bJ9_max_7cf53_0 rfl
theorem dJ9_max_7cf53_2 : decode cJ9_max_7cf53 2 = .ok (.if_icmp .lt 7, 3) := dk161 (k := 2) bJ9_max_7cf53_0 rfl (by decide)
theorem dJ9_max_7cf53_5 : decode cJ9_max_7cf53 5 = .ok (.iload_n 0, 1) := dk26 (k := 5) bJ9_max_7cf53_0 rfl
theorem dJ9_max_7cf53_6 : decode cJ9_max_7cf53 6 = .ok (.goto 4, 3) := dk167 (k := 6) bJ9_max_7cf53_0 rfl (by decide)
theorem dJ9_max_7cf53_9 : decode cJ9_max_7cf53 9 = .ok (.iload_n 1, 1) := dk27 (k := 9) bJ9_max_7cf53_0 rfl
theorem dJ9_max_7cf53_10 : decode cJ9_max_7cf53 10 = .ok (.ireturn, 1) := dk172 (k := 10) bJ9_max_7cf53_0 rfl
theorem bJ9_min_7cf53_0 : bL cJ9_min_7cf53 0 [26, 27, 163, 0, 7, 26, 167, 0, 4, 27, 172] := bL_of (by decide +kernel)
theorem dJ9_min_7cf53_0 : decode cJ9_min_7cf53 0 = .ok (.iload_n 0, 1) := dk26 (k := 0) bJ9_min_7cf53_0 rfl
theorem dJ9_min_7cf53_1 : decode cJ9_min_7cf53 1 = .ok (.iload_n 1, 1) := dk27 (k := 1) bJ9_min_7cf53_0 rfl
theorem dJ9_min_7cf53_2 : decode cJ9_min_7cf53 2 = .ok (.if_icmp .gt 7, 3) := dk163 (k := 2) bJ9_min_7cf53_0 rfl (by decide)
theorem dJ9_min_7cf53_5 : decode cJ9_min_7cf53 5 = .ok (.iload_n 0, 1) := dk26 (k := 5) bJ9_min_7cf53_0 rfl
theorem dJ9_min_7cf53_6 : decode cJ9_min_7cf53 6 = .ok (.goto 4, 3) := dk167 (k := 6) bJ9_min_7cf53_0 rfl (by decide)
theorem dJ9_min_7cf53_9 : decode cJ9_min_7cf53 9 = .ok (.iload_n 1, 1) := dk27 (k := 9) bJ9_min_7cf53_0 rfl
theorem dJ9_min_7cf53_10 : decode cJ9_min_7cf53 10 = .ok (.ireturn, 1) := dk172 (k := 10) bJ9_min_7cf53_0 rfl
theorem bJ0_length_8abf5_0 : bL cJ0_length_8abf5 0 [42, 180, 0, 9, 190, 42, 182, 1, 79, 122, 172] := bL_of (by decide +kernel)
theorem dJ0_length_8abf5_0 : decode cJ0_length_8abf5 0 = .ok (.aload_n 0, 1) := dk42 (k := 0) bJ0_length_8abf5_0 rfl
theorem dJ0_length_8abf5_1 : decode cJ0_length_8abf5 1 = .ok (.getfield 9, 3) := dk180 (k := 1) bJ0_length_8abf5_0 rfl rfl
theorem dJ0_length_8abf5_4 : decode cJ0_length_8abf5 4 = .ok (.arraylength, 1) := dk190 (k := 4) bJ0_length_8abf5_0 rfl
theorem dJ0_length_8abf5_5 : decode cJ0_length_8abf5 5 = .ok (.aload_n 0, 1) := dk42 (k := 5) bJ0_length_8abf5_0 rfl
theorem dJ0_length_8abf5_6 : decode cJ0_length_8abf5 6 = .ok (.invokevirtual 335, 3) := dk182 (k := 6) bJ0_length_8abf5_0 rfl rfl
theorem dJ0_length_8abf5_9 : decode cJ0_length_8abf5 9 = .ok (.ishr, 1) := dk122 (k := 9) bJ0_length_8abf5_0 rfl
theorem dJ0_length_8abf5_10 : decode cJ0_length_8abf5 10 = .ok (.ireturn, 1) := dk172 (k := 10) bJ0_length_8abf5_0 rfl
theorem bJ0_charAt_5068e_0 : bL cJ0_charAt_5068e 0 [42, 182, 1, 236, 153, 0, 12, 42, 180, 0, 9, 27, 184, 1, 239, 172, 42, 180, 0, 9, 27, 184, 1, 242] := bL_of (by decide +kernel)
theorem dJ0_charAt_5068e_0 : decode cJ0_charAt_5068e 0 = .ok (.aload_n 0, 1) := dk42 (k := 0) bJ0_charAt_5068e_0 rfl
theorem dJ0_charAt_5068e_1 : decode cJ0_charAt_5068e 1 = .ok (.invokevirtual 492, 3) := dk182 (k := 1) bJ0_charAt_5068e_0 rfl rfl
theorem dJ0_charAt_5068e_4 : decode cJ0_charAt_5068e 4 = .ok (.ifCond .eq 12, 3) := dk153 (k := 4) bJ0_charAt_5068e_0 rfl (by decide)
theorem dJ0_charAt_5068e_7 : decode cJ0_charAt_5068e 7 = .ok (.aload_n 0, 1) := dk42 (k := 7) bJ0_charAt_5068e_0 rfl
theorem dJ0_charAt_5068e_8 : decode cJ0_charAt_5068e 8 = .ok (.getfield 9, 3) := dk180 (k := 8) bJ0_charAt_5068e_0 rfl rfl
theorem dJ0_charAt_5068e_11 : decode cJ0_charAt_5068e 11 = .ok (.iload_n 1, 1) := dk27 (k := 11) bJ0_charAt_5068e_0 rfl
theorem dJ0_charAt_5068e_12 : decode cJ0_charAt_5068e 12 = .ok (.invokestatic 495, 3) := dk184 (k := 12) bJ0_charAt_5068e_0 rfl rfl
theorem dJ0_charAt_5068e_15 : decode cJ0_charAt_5068e 15 = .ok (.ireturn, 1) := dk172 (k := 15) bJ0_charAt_5068e_0 rfl
theorem dJ0_charAt_5068e_16 : decode cJ0_charAt_5068e 16 = .ok (.aload_n 0, 1) := dk42 (k := 16) bJ0_charAt_5068e_0 rfl
theorem dJ0_charAt_5068e_17 : decode cJ0_charAt_5068e 17 = .ok (.getfield 9, 3) := dk180 (k := 17) bJ0_charAt_5068e_0 rfl rfl
theorem dJ0_charAt_5068e_20 : decode cJ0_charAt_5068e 20 = .ok (.iload_n 1, 1) := dk27 (k := 20) bJ0_charAt_5068e_0 rfl
theorem dJ0_charAt_5068e_21 : decode cJ0_charAt_5068e 21 = .ok (.invokestatic 498, 3) := dk184 (k := 21) bJ0_charAt_5068e_0 rfl rfl
theorem bJ0_charAt_5068e_24 : bL cJ0_charAt_5068e 24 [172] := bL_of (by decide +kernel)
theorem dJ0_charAt_5068e_24 : decode cJ0_charAt_5068e 24 = .ok (.ireturn, 1) := dk172 (k := 0) bJ0_charAt_5068e_24 rfl
theorem bJ0_coder_7d493_0 : bL cJ0_coder_7d493 0 [178, 0, 38, 153, 0, 10, 42, 180, 0, 15, 167, 0, 4, 4, 172] := bL_of (by decide +kernel)
theorem dJ0_coder_7d493_0 : decode cJ0_coder_7d493 0 = .ok (.getstatic 38, 3) := dk178 (k := 0) bJ0_coder_7d493_0 rfl rfl
theorem dJ0_coder_7d493_3 : decode cJ0_coder_7d493 3 = .ok (.ifCond .eq 10, 3) := dk153 (k := 3) bJ0_coder_7d493_0 rfl (by decide)
theorem dJ0_coder_7d493_6 : decode cJ0_coder_7d493 6 = .ok (.aload_n 0, 1) := dk42 (k := 6) bJ0_coder_7d493_0 rfl
theorem dJ0_coder_7d493_7 : decode cJ0_coder_7d493 7 = .ok (.getfield 15, 3) := dk180 (k := 7) bJ0_coder_7d493_0 rfl rfl
theorem dJ0_coder_7d493_10 : decode cJ0_coder_7d493 10 = .ok (.goto 4, 3) := dk167 (k := 10) bJ0_coder_7d493_0 rfl (by decide)
theorem dJ0_coder_7d493_13 : decode cJ0_coder_7d493 13 = .ok (.iconst 1, 1) := dk4 (k := 13) bJ0_coder_7d493_0 rfl
theorem dJ0_coder_7d493_14 : decode cJ0_coder_7d493 14 = .ok (.ireturn, 1) := dk172 (k := 14) bJ0_coder_7d493_0 rfl
theorem bJ0_isLatin1_aae02_0 : bL cJ0_isLatin1_aae02 0 [178, 0, 38, 153, 0, 14, 42, 180, 0, 15, 154, 0, 7, 4, 167, 0, 4, 3, 172] := bL_of (by decide +kernel)
theorem dJ0_isLatin1_aae02_0 : decode cJ0_isLatin1_aae02 0 = .ok (.getstatic 38, 3) := dk178 (k := 0) bJ0_isLatin1_aae02_0 rfl rfl
theorem dJ0_isLatin1_aae02_3 : decode cJ0_isLatin1_aae02 3 = .ok (.ifCond .eq 14, 3) := dk153 (k := 3) bJ0_isLatin1_aae02_0 rfl (by decide)
theorem dJ0_isLatin1_aae02_6 : decode cJ0_isLatin1_aae02 6 = .ok (.aload_n 0, 1) := dk42 (k := 6) bJ0_isLatin1_aae02_0 rfl
theorem dJ0_isLatin1_aae02_7 : decode cJ0_isLatin1_aae02 7 = .ok (.getfield 15, 3) := dk180 (k := 7) bJ0_isLatin1_aae02_0 rfl rfl
theorem dJ0_isLatin1_aae02_10 : decode cJ0_isLatin1_aae02 10 = .ok (.ifCond .ne 7, 3) := dk154 (k := 10) bJ0_isLatin1_aae02_0 rfl (by decide)
theorem dJ0_isLatin1_aae02_13 : decode cJ0_isLatin1_aae02 13 = .ok (.iconst 1, 1) := dk4 (k := 13) bJ0_isLatin1_aae02_0 rfl
theorem dJ0_isLatin1_aae02_14 : decode cJ0_isLatin1_aae02 14 = .ok (.goto 4, 3) := dk167 (k := 14) bJ0_isLatin1_aae02_0 rfl (by decide)
theorem dJ0_isLatin1_aae02_17 : decode cJ0_isLatin1_aae02 17 = .ok (.iconst 0, 1) := dk3 (k := 17) bJ0_isLatin1_aae02_0 rfl
theorem dJ0_isLatin1_aae02_18 : decode cJ0_isLatin1_aae02 18 = .ok (.ireturn, 1) := dk172 (k := 18) bJ0_isLatin1_aae02_0 rfl
theorem bJ0_checkIndex_df160_0 : bL cJ0_checkIndex_df160 0 [26, 27, 178, 4, 29, 184, 4, 35, 87, 177] := bL_of (by decide +kernel)
theorem dJ0_checkIndex_df160_0 : decode cJ0_checkIndex_df160 0 = .ok (.iload_n 0, 1) := dk26 (k := 0) bJ0_checkIndex_df160_0 rfl
theorem dJ0_checkIndex_df160_1 : decode cJ0_checkIndex_df160 1 = .ok (.iload_n 1, 1) := dk27 (k := 1) bJ0_checkIndex_df160_0 rfl
theorem dJ0_checkIndex_df160_2 : decode cJ0_checkIndex_df160 2 = .ok (.getstatic 1053, 3) := dk178 (k := 2) bJ0_checkIndex_df160_0 rfl rfl
theorem dJ0_checkIndex_df160_5 : decode cJ0_checkIndex_df160 5 = .ok (.invokestatic 1059, 3) := dk184 (k := 5) bJ0_checkIndex_df160_0 rfl rfl
theorem dJ0_checkIndex_df160_8 : decode cJ0_checkIndex_df160 8 = .ok (.pop, 1) := dk87 (k := 8) bJ0_checkIndex_df160_0 rfl
theorem dJ0_checkIndex_df160_9 : decode cJ0_checkIndex_df160 9 = .ok (.return_, 1) := dk177 (k := 9) bJ0_checkIndex_df160_0 rfl
theorem bJ1_charAt_3b067_0 : bL cJ1_charAt_3b067 0 [27, 42, 190, 184, 0, 9, 42, 27, 51, 17, 0, 255, 126, 146, 172] := bL_of (by decide +kernel)
theorem dJ1_charAt_3b067_0 : decode cJ1_charAt_3b067 0 = .ok (.iload_n 1, 1) := dk27 (k := 0) bJ1_charAt_3b067_0 rfl
theorem dJ1_charAt_3b067_1 : decode cJ1_charAt_3b067 1 = .ok (.aload_n 0, 1) := dk42 (k := 1) bJ1_charAt_3b067_0 rfl
theorem dJ1_charAt_3b067_2 : decode cJ1_charAt_3b067 2 = .ok (.arraylength, 1) := dk190 (k := 2) bJ1_charAt_3b067_0 rfl
theorem dJ1_charAt_3b067_3 : decode cJ1_charAt_3b067 3 = .ok (.invokestatic 9, 3) := dk184 (k := 3) bJ1_charAt_3b067_0 rfl rfl
theorem dJ1_charAt_3b067_6 : decode cJ1_charAt_3b067 6 = .ok (.aload_n 0, 1) := dk42 (k := 6) bJ1_charAt_3b067_0 rfl
theorem dJ1_charAt_3b067_7 : decode cJ1_charAt_3b067 7 = .ok (.iload_n 1, 1) := dk27 (k := 7) bJ1_charAt_3b067_0 rfl
theorem dJ1_charAt_3b067_8 : decode cJ1_charAt_3b067 8 = .ok (.baload, 1) := dk51 (k := 8) bJ1_charAt_3b067_0 rfl
theorem dJ1_charAt_3b067_9 : decode cJ1_charAt_3b067 9 = .ok (.sipush 255, 3) := dk17 (k := 9) bJ1_charAt_3b067_0 rfl (by decide)
theorem dJ1_charAt_3b067_12 : decode cJ1_charAt_3b067 12 = .ok (.iand, 1) := dk126 (k := 12) bJ1_charAt_3b067_0 rfl
theorem dJ1_charAt_3b067_13 : decode cJ1_charAt_3b067 13 = .ok (.i2c, 1) := dk146 (k := 13) bJ1_charAt_3b067_0 rfl
theorem dJ1_charAt_3b067_14 : decode cJ1_charAt_3b067 14 = .ok (.ireturn, 1) := dk172 (k := 14) bJ1_charAt_3b067_0 rfl
theorem bJ2_getChar_3b067_0 : bL cJ2_getChar_3b067 0 [178, 0, 44, 154, 0, 25, 27, 155, 0, 11, 27, 42, 184, 0, 48, 161, 0, 13, 187, 0, 52, 89, 18, 54] := bL_of (by decide +kernel)
theorem dJ2_getChar_3b067_0 : decode cJ2_getChar_3b067 0 = .ok (.getstatic 44, 3) := dk178 (k := 0) bJ2_getChar_3b067_0 rfl rfl
theorem dJ2_getChar_3b067_3 : decode cJ2_getChar_3b067 3 = .ok (.ifCond .ne 25, 3) := dk154 (k := 3) bJ2_getChar_3b067_0 rfl (by decide)
theorem dJ2_getChar_3b067_6 : decode cJ2_getChar_3b067 6 = .ok (.iload_n 1, 1) := dk27 (k := 6) bJ2_getChar_3b067_0 rfl
theorem dJ2_getChar_3b067_7 : decode cJ2_getChar_3b067 7 = .ok (.ifCond .lt 11, 3) := dk155 (k := 7) bJ2_getChar_3b067_0 rfl (by decide)
theorem dJ2_getChar_3b067_10 : decode cJ2_getChar_3b067 10 = .ok (.iload_n 1, 1) := dk27 (k := 10) bJ2_getChar_3b067_0 rfl
theorem dJ2_getChar_3b067_11 : decode cJ2_getChar_3b067 11 = .ok (.aload_n 0, 1) := dk42 (k := 11) bJ2_getChar_3b067_0 rfl
theorem dJ2_getChar_3b067_12 : decode cJ2_getChar_3b067 12 = .ok (.invokestatic 48, 3) := dk184 (k := 12) bJ2_getChar_3b067_0 rfl rfl
theorem dJ2_getChar_3b067_15 : decode cJ2_getChar_3b067 15 = .ok (.if_icmp .lt 13, 3) := dk161 (k := 15) bJ2_getChar_3b067_0 rfl (by decide)
theorem dJ2_getChar_3b067_18 : decode cJ2_getChar_3b067 18 = .ok (.new 52, 3) := dk187 (k := 18) bJ2_getChar_3b067_0 rfl rfl
theorem dJ2_getChar_3b067_21 : decode cJ2_getChar_3b067 21 = .ok (.dup, 1) := dk89 (k := 21) bJ2_getChar_3b067_0 rfl
theorem dJ2_getChar_3b067_22 : decode cJ2_getChar_3b067 22 = .ok (.ldc 54, 2) := dk18 (k := 22) bJ2_getChar_3b067_0 rfl rfl
theorem bJ2_getChar_3b067_24 : bL cJ2_getChar_3b067 24 [183, 0, 56, 191, 27, 4, 120, 60, 42, 27, 132, 1, 1, 51, 17, 0, 255, 126, 178, 0, 59, 120, 42, 27] := bL_of (by decide +kernel)
theorem dJ2_getChar_3b067_24 : decode cJ2_getChar_3b067 24 = .ok (.invokespecial 56, 3) := dk183 (k := 0) bJ2_getChar_3b067_24 rfl rfl
theorem dJ2_getChar_3b067_27 : decode cJ2_getChar_3b067 27 = .ok (.athrow, 1) := dk191 (k := 3) bJ2_getChar_3b067_24 rfl
theorem dJ2_getChar_3b067_28 : decode cJ2_getChar_3b067 28 = .ok (.iload_n 1, 1) := dk27 (k := 4) bJ2_getChar_3b067_24 rfl
theorem dJ2_getChar_3b067_29 : decode cJ2_getChar_3b067 29 = .ok (.iconst 1, 1) := dk4 (k := 5) bJ2_getChar_3b067_24 rfl
theorem dJ2_getChar_3b067_30 : decode cJ2_getChar_3b067 30 = .ok (.ishl, 1) := dk120 (k := 6) bJ2_getChar_3b067_24 rfl
theorem dJ2_getChar_3b067_31 : decode cJ2_getChar_3b067 31 = .ok (.istore_n 1, 1) := dk60 (k := 7) bJ2_getChar_3b067_24 rfl
theorem dJ2_getChar_3b067_32 : decode cJ2_getChar_3b067 32 = .ok (.aload_n 0, 1) := dk42 (k := 8) bJ2_getChar_3b067_24 rfl
theorem dJ2_getChar_3b067_33 : decode cJ2_getChar_3b067 33 = .ok (.iload_n 1, 1) := dk27 (k := 9) bJ2_getChar_3b067_24 rfl
theorem dJ2_getChar_3b067_34 : decode cJ2_getChar_3b067 34 = .ok (.iinc 1 1, 3) := dk132 (k := 10) bJ2_getChar_3b067_24 rfl rfl (by decide)
theorem dJ2_getChar_3b067_37 : decode cJ2_getChar_3b067 37 = .ok (.baload, 1) := dk51 (k := 13) bJ2_getChar_3b067_24 rfl
theorem dJ2_getChar_3b067_38 : decode cJ2_getChar_3b067 38 = .ok (.sipush 255, 3) := dk17 (k := 14) bJ2_getChar_3b067_24 rfl (by decide)
theorem dJ2_getChar_3b067_41 : decode cJ2_getChar_3b067 41 = .ok (.iand, 1) := dk126 (k := 17) bJ2_getChar_3b067_24 rfl
theorem dJ2_getChar_3b067_42 : decode cJ2_getChar_3b067 42 = .ok (.getstatic 59, 3) := dk178 (k := 18) bJ2_getChar_3b067_24 rfl rfl
theorem dJ2_getChar_3b067_45 : decode cJ2_getChar_3b067 45 = .ok (.ishl, 1) := dk120 (k := 21) bJ2_getChar_3b067_24 rfl
theorem dJ2_getChar_3b067_46 : decode cJ2_getChar_3b067 46 = .ok (.aload_n 0, 1) := dk42 (k := 22) bJ2_getChar_3b067_24 rfl
theorem dJ2_getChar_3b067_47 : decode cJ2_getChar_3b067 47 = .ok (.iload_n 1, 1) := dk27 (k := 23) bJ2_getChar_3b067_24 rfl
theorem bJ2_getChar_3b067_48 : bL cJ2_getChar_3b067 48 [51, 17, 0, 255, 126, 178, 0, 63, 120, 128, 146, 172] := bL_of (by decide +kernel)
theorem dJ2_getChar_3b067_48 : decode cJ2_getChar_3b067 48 = .ok (.baload, 1) := dk51 (k := 0) bJ2_getChar_3b067_48 rfl
theorem dJ2_getChar_3b067_49 : decode cJ2_getChar_3b067 49 = .ok (.sipush 255, 3) := dk17 (k := 1) bJ2_getChar_3b067_48 rfl (by decide)
theorem dJ2_getChar_3b067_52 : decode cJ2_getChar_3b067 52 = .ok (.iand, 1) := dk126 (k := 4) bJ2_getChar_3b067_48 rfl
theorem dJ2_getChar_3b067_53 : decode cJ2_getChar_3b067 53 = .ok (.getstatic 63, 3) := dk178 (k := 5) bJ2_getChar_3b067_48 rfl rfl
theorem dJ2_getChar_3b067_56 : decode cJ2_getChar_3b067 56 = .ok (.ishl, 1) := dk120 (k := 8) bJ2_getChar_3b067_48 rfl
theorem dJ2_getChar_3b067_57 : decode cJ2_getChar_3b067 57 = .ok (.ior, 1) := dk128 (k := 9) bJ2_getChar_3b067_48 rfl
theorem dJ2_getChar_3b067_58 : decode cJ2_getChar_3b067 58 = .ok (.i2c, 1) := dk146 (k := 10) bJ2_getChar_3b067_48 rfl
theorem dJ2_getChar_3b067_59 : decode cJ2_getChar_3b067 59 = .ok (.ireturn, 1) := dk172 (k := 11) bJ2_getChar_3b067_48 rfl
theorem bJ2_length_9d52b_0 : bL cJ2_length_9d52b 0 [42, 190, 4, 122, 172] := bL_of (by decide +kernel)
theorem dJ2_length_9d52b_0 : decode cJ2_length_9d52b 0 = .ok (.aload_n 0, 1) := dk42 (k := 0) bJ2_length_9d52b_0 rfl
theorem dJ2_length_9d52b_1 : decode cJ2_length_9d52b 1 = .ok (.arraylength, 1) := dk190 (k := 1) bJ2_length_9d52b_0 rfl
theorem dJ2_length_9d52b_2 : decode cJ2_length_9d52b 2 = .ok (.iconst 1, 1) := dk4 (k := 2) bJ2_length_9d52b_0 rfl
theorem dJ2_length_9d52b_3 : decode cJ2_length_9d52b 3 = .ok (.ishr, 1) := dk122 (k := 3) bJ2_length_9d52b_0 rfl
theorem dJ2_length_9d52b_4 : decode cJ2_length_9d52b 4 = .ok (.ireturn, 1) := dk172 (k := 4) bJ2_length_9d52b_0 rfl
theorem bJ2_charAt_3b067_0 : bL cJ2_charAt_3b067 0 [27, 42, 184, 0, 67, 42, 27, 184, 0, 71, 172] := bL_of (by decide +kernel)
theorem dJ2_charAt_3b067_0 : decode cJ2_charAt_3b067 0 = .ok (.iload_n 1, 1) := dk27 (k := 0) bJ2_charAt_3b067_0 rfl
theorem dJ2_charAt_3b067_1 : decode cJ2_charAt_3b067 1 = .ok (.aload_n 0, 1) := dk42 (k := 1) bJ2_charAt_3b067_0 rfl
theorem dJ2_charAt_3b067_2 : decode cJ2_charAt_3b067 2 = .ok (.invokestatic 67, 3) := dk184 (k := 2) bJ2_charAt_3b067_0 rfl rfl
theorem dJ2_charAt_3b067_5 : decode cJ2_charAt_3b067 5 = .ok (.aload_n 0, 1) := dk42 (k := 5) bJ2_charAt_3b067_0 rfl
theorem dJ2_charAt_3b067_6 : decode cJ2_charAt_3b067 6 = .ok (.iload_n 1, 1) := dk27 (k := 6) bJ2_charAt_3b067_0 rfl
theorem dJ2_charAt_3b067_7 : decode cJ2_charAt_3b067 7 = .ok (.invokestatic 71, 3) := dk184 (k := 7) bJ2_charAt_3b067_0 rfl rfl
theorem dJ2_charAt_3b067_10 : decode cJ2_charAt_3b067 10 = .ok (.ireturn, 1) := dk172 (k := 10) bJ2_charAt_3b067_0 rfl
theorem bJ2_checkIndex_2214a_0 : bL cJ2_checkIndex_2214a 0 [26, 43, 184, 0, 48, 184, 1, 158, 177] := bL_of (by decide +kernel)
theorem dJ2_checkIndex_2214a_0 : decode cJ2_checkIndex_2214a 0 = .ok (.iload_n 0, 1) := dk26 (k := 0) bJ2_checkIndex_2214a_0 rfl
theorem dJ2_checkIndex_2214a_1 : decode cJ2_checkIndex_2214a 1 = .ok (.aload_n 1, 1) := dk43 (k := 1) bJ2_checkIndex_2214a_0 rfl
theorem dJ2_checkIndex_2214a_2 : decode cJ2_checkIndex_2214a 2 = .ok (.invokestatic 48, 3) := dk184 (k := 2) bJ2_checkIndex_2214a_0 rfl rfl
theorem dJ2_checkIndex_2214a_5 : decode cJ2_checkIndex_2214a 5 = .ok (.invokestatic 414, 3) := dk184 (k := 5) bJ2_checkIndex_2214a_0 rfl rfl
theorem dJ2_checkIndex_2214a_8 : decode cJ2_checkIndex_2214a 8 = .ok (.return_, 1) := dk177 (k := 8) bJ2_checkIndex_2214a_0 rfl
theorem bJ3_checkIndex_8e157_0 : bL cJ3_checkIndex_8e157 0 [26, 155, 0, 8, 26, 27, 161, 0, 10, 44, 26, 27, 184, 0, 95, 191, 26, 172] := bL_of (by decide +kernel)
theorem dJ3_checkIndex_8e157_0 : decode cJ3_checkIndex_8e157 0 = .ok (.iload_n 0, 1) := dk26 (k := 0) bJ3_checkIndex_8e157_0 rfl
theorem dJ3_checkIndex_8e157_1 : decode cJ3_checkIndex_8e157 1 = .ok (.ifCond .lt 8, 3) := dk155 (k := 1) bJ3_checkIndex_8e157_0 rfl (by decide)
theorem dJ3_checkIndex_8e157_4 : decode cJ3_checkIndex_8e157 4 = .ok (.iload_n 0, 1) := dk26 (k := 4) bJ3_checkIndex_8e157_0 rfl
theorem dJ3_checkIndex_8e157_5 : decode cJ3_checkIndex_8e157 5 = .ok (.iload_n 1, 1) := dk27 (k := 5) bJ3_checkIndex_8e157_0 rfl
theorem dJ3_checkIndex_8e157_6 : decode cJ3_checkIndex_8e157 6 = .ok (.if_icmp .lt 10, 3) := dk161 (k := 6) bJ3_checkIndex_8e157_0 rfl (by decide)
theorem dJ3_checkIndex_8e157_9 : decode cJ3_checkIndex_8e157 9 = .ok (.aload_n 2, 1) := dk44 (k := 9) bJ3_checkIndex_8e157_0 rfl
theorem dJ3_checkIndex_8e157_10 : decode cJ3_checkIndex_8e157 10 = .ok (.iload_n 0, 1) := dk26 (k := 10) bJ3_checkIndex_8e157_0 rfl
theorem dJ3_checkIndex_8e157_11 : decode cJ3_checkIndex_8e157 11 = .ok (.iload_n 1, 1) := dk27 (k := 11) bJ3_checkIndex_8e157_0 rfl
theorem dJ3_checkIndex_8e157_12 : decode cJ3_checkIndex_8e157 12 = .ok (.invokestatic 95, 3) := dk184 (k := 12) bJ3_checkIndex_8e157_0 rfl rfl
theorem dJ3_checkIndex_8e157_15 : decode cJ3_checkIndex_8e157 15 = .ok (.athrow, 1) := dk191 (k := 15) bJ3_checkIndex_8e157_0 rfl
theorem dJ3_checkIndex_8e157_16 : decode cJ3_checkIndex_8e157 16 = .ok (.iload_n 0, 1) := dk26 (k := 16) bJ3_checkIndex_8e157_0 rfl
theorem dJ3_checkIndex_8e157_17 : decode cJ3_checkIndex_8e157 17 = .ok (.ireturn, 1) := dk172 (k := 17) bJ3_checkIndex_8e157_0 rfl
