theorem bX0_init_0 : bL cX0_init 0 [42, 183, 0, 3, 42, 43, 181, 0, 9, 42, 44, 181, 0, 15, 177] := bL_of (by decide +kernel)
theorem dX0_init_0 : decode cX0_init 0 = .ok (.aload_n 0, 1) := dk42 (k := 0) bX0_init_0 rfl
theorem dX0_init_1 : decode cX0_init 1 = .ok (.invokespecial 3, 3) := dk183 (k := 1) bX0_init_0 rfl rfl
theorem dX0_init_4 : decode cX0_init 4 = .ok (.aload_n 0, 1) := dk42 (k := 4) bX0_init_0 rfl
theorem dX0_init_5 : decode cX0_init 5 = .ok (.aload_n 1, 1) := dk43 (k := 5) bX0_init_0 rfl
theorem dX0_init_6 : decode cX0_init 6 = .ok (.putfield 9, 3) := dk181 (k := 6) bX0_init_0 rfl rfl
theorem dX0_init_9 : decode cX0_init 9 = .ok (.aload_n 0, 1) := dk42 (k := 9) bX0_init_0 rfl
theorem dX0_init_10 : decode cX0_init 10 = .ok (.aload_n 2, 1) := dk44 (k := 10) bX0_init_0 rfl
theorem dX0_init_11 : decode cX0_init 11 = .ok (.putfield 15, 3) := dk181 (k := 11) bX0_init_0 rfl rfl
theorem dX0_init_14 : decode cX0_init 14 = .ok (.return_, 1) := dk177 (k := 14) bX0_init_0 rfl
theorem bX0_gainAfter_0 : bL cX0_gainAfter 0 [42, 180, 0, 15, 42, 180, 0, 9, 180, 0, 19, 182, 0, 24, 3, 62, 29, 28, 162, 0, 17, 42, 180, 0, 15] := bL_of (by decide +kernel)
theorem dX0_gainAfter_0 : decode cX0_gainAfter 0 = .ok (.aload_n 0, 1) := dk42 (k := 0) bX0_gainAfter_0 rfl
theorem dX0_gainAfter_1 : decode cX0_gainAfter 1 = .ok (.getfield 15, 3) := dk180 (k := 1) bX0_gainAfter_0 rfl rfl
theorem dX0_gainAfter_4 : decode cX0_gainAfter 4 = .ok (.aload_n 0, 1) := dk42 (k := 4) bX0_gainAfter_0 rfl
theorem dX0_gainAfter_5 : decode cX0_gainAfter 5 = .ok (.getfield 9, 3) := dk180 (k := 5) bX0_gainAfter_0 rfl rfl
theorem dX0_gainAfter_8 : decode cX0_gainAfter 8 = .ok (.getfield 19, 3) := dk180 (k := 8) bX0_gainAfter_0 rfl rfl
theorem dX0_gainAfter_11 : decode cX0_gainAfter 11 = .ok (.invokevirtual 24, 3) := dk182 (k := 11) bX0_gainAfter_0 rfl rfl
theorem dX0_gainAfter_14 : decode cX0_gainAfter 14 = .ok (.iconst 0, 1) := dk3 (k := 14) bX0_gainAfter_0 rfl
theorem dX0_gainAfter_15 : decode cX0_gainAfter 15 = .ok (.istore_n 3, 1) := dk62 (k := 15) bX0_gainAfter_0 rfl
theorem dX0_gainAfter_16 : decode cX0_gainAfter 16 = .ok (.iload_n 3, 1) := dk29 (k := 16) bX0_gainAfter_0 rfl
theorem dX0_gainAfter_17 : decode cX0_gainAfter 17 = .ok (.iload_n 2, 1) := dk28 (k := 17) bX0_gainAfter_0 rfl
theorem dX0_gainAfter_18 : decode cX0_gainAfter 18 = .ok (.if_icmp .ge 17, 3) := dk162 (k := 18) bX0_gainAfter_0 rfl (by decide)
theorem dX0_gainAfter_21 : decode cX0_gainAfter 21 = .ok (.aload_n 0, 1) := dk42 (k := 21) bX0_gainAfter_0 rfl
theorem dX0_gainAfter_22 : decode cX0_gainAfter 22 = .ok (.getfield 15, 3) := dk180 (k := 22) bX0_gainAfter_0 rfl rfl
theorem bX0_gainAfter_25 : bL cX0_gainAfter 25 [182, 0, 30, 87, 132, 3, 1, 167, 255, 240, 42, 180, 0, 9, 180, 0, 34, 42, 180, 0, 15, 27, 182, 0, 38] := bL_of (by decide +kernel)
theorem dX0_gainAfter_25 : decode cX0_gainAfter 25 = .ok (.invokevirtual 30, 3) := dk182 (k := 0) bX0_gainAfter_25 rfl rfl
theorem dX0_gainAfter_28 : decode cX0_gainAfter 28 = .ok (.pop, 1) := dk87 (k := 3) bX0_gainAfter_25 rfl
theorem dX0_gainAfter_29 : decode cX0_gainAfter 29 = .ok (.iinc 3 1, 3) := dk132 (k := 4) bX0_gainAfter_25 rfl rfl (by decide)
theorem dX0_gainAfter_32 : decode cX0_gainAfter 32 = .ok (.goto (-16), 3) := dk167 (k := 7) bX0_gainAfter_25 rfl (by decide)
theorem dX0_gainAfter_35 : decode cX0_gainAfter 35 = .ok (.aload_n 0, 1) := dk42 (k := 10) bX0_gainAfter_25 rfl
theorem dX0_gainAfter_36 : decode cX0_gainAfter 36 = .ok (.getfield 9, 3) := dk180 (k := 11) bX0_gainAfter_25 rfl rfl
theorem dX0_gainAfter_39 : decode cX0_gainAfter 39 = .ok (.getfield 34, 3) := dk180 (k := 14) bX0_gainAfter_25 rfl rfl
theorem dX0_gainAfter_42 : decode cX0_gainAfter 42 = .ok (.aload_n 0, 1) := dk42 (k := 17) bX0_gainAfter_25 rfl
theorem dX0_gainAfter_43 : decode cX0_gainAfter 43 = .ok (.getfield 15, 3) := dk180 (k := 18) bX0_gainAfter_25 rfl rfl
theorem dX0_gainAfter_46 : decode cX0_gainAfter 46 = .ok (.iload_n 1, 1) := dk27 (k := 21) bX0_gainAfter_25 rfl
theorem dX0_gainAfter_47 : decode cX0_gainAfter 47 = .ok (.invokevirtual 38, 3) := dk182 (k := 22) bX0_gainAfter_25 rfl rfl
theorem bX0_gainAfter_50 : bL cX0_gainAfter 50 [172] := bL_of (by decide +kernel)
theorem dX0_gainAfter_50 : decode cX0_gainAfter 50 = .ok (.ireturn, 1) := dk172 (k := 0) bX0_gainAfter_50 rfl
theorem bX0_wishedFeet_0 : bL cX0_wishedFeet 0 [42, 180, 0, 15, 42, 180, 0, 9, 180, 0, 19, 182, 0, 24, 3, 61, 42, 180, 0, 9, 180, 0, 34, 42] := bL_of (by decide +kernel)
theorem dX0_wishedFeet_0 : decode cX0_wishedFeet 0 = .ok (.aload_n 0, 1) := dk42 (k := 0) bX0_wishedFeet_0 rfl
theorem dX0_wishedFeet_1 : decode cX0_wishedFeet 1 = .ok (.getfield 15, 3) := dk180 (k := 1) bX0_wishedFeet_0 rfl rfl
theorem dX0_wishedFeet_4 : decode cX0_wishedFeet 4 = .ok (.aload_n 0, 1) := dk42 (k := 4) bX0_wishedFeet_0 rfl
theorem dX0_wishedFeet_5 : decode cX0_wishedFeet 5 = .ok (.getfield 9, 3) := dk180 (k := 5) bX0_wishedFeet_0 rfl rfl
theorem dX0_wishedFeet_8 : decode cX0_wishedFeet 8 = .ok (.getfield 19, 3) := dk180 (k := 8) bX0_wishedFeet_0 rfl rfl
theorem dX0_wishedFeet_11 : decode cX0_wishedFeet 11 = .ok (.invokevirtual 24, 3) := dk182 (k := 11) bX0_wishedFeet_0 rfl rfl
theorem dX0_wishedFeet_14 : decode cX0_wishedFeet 14 = .ok (.iconst 0, 1) := dk3 (k := 14) bX0_wishedFeet_0 rfl
theorem dX0_wishedFeet_15 : decode cX0_wishedFeet 15 = .ok (.istore_n 2, 1) := dk61 (k := 15) bX0_wishedFeet_0 rfl
theorem dX0_wishedFeet_16 : decode cX0_wishedFeet 16 = .ok (.aload_n 0, 1) := dk42 (k := 16) bX0_wishedFeet_0 rfl
theorem dX0_wishedFeet_17 : decode cX0_wishedFeet 17 = .ok (.getfield 9, 3) := dk180 (k := 17) bX0_wishedFeet_0 rfl rfl
theorem dX0_wishedFeet_20 : decode cX0_wishedFeet 20 = .ok (.getfield 34, 3) := dk180 (k := 20) bX0_wishedFeet_0 rfl rfl
theorem dX0_wishedFeet_23 : decode cX0_wishedFeet 23 = .ok (.aload_n 0, 1) := dk42 (k := 23) bX0_wishedFeet_0 rfl
theorem bX0_wishedFeet_24 : bL cX0_wishedFeet 24 [180, 0, 15, 27, 182, 0, 38, 62, 4, 54, 4, 21, 4, 16, 20, 163, 0, 46, 42, 180, 0, 15, 182, 0, 30] := bL_of (by decide +kernel)
theorem dX0_wishedFeet_24 : decode cX0_wishedFeet 24 = .ok (.getfield 15, 3) := dk180 (k := 0) bX0_wishedFeet_24 rfl rfl
theorem dX0_wishedFeet_27 : decode cX0_wishedFeet 27 = .ok (.iload_n 1, 1) := dk27 (k := 3) bX0_wishedFeet_24 rfl
theorem dX0_wishedFeet_28 : decode cX0_wishedFeet 28 = .ok (.invokevirtual 38, 3) := dk182 (k := 4) bX0_wishedFeet_24 rfl rfl
theorem dX0_wishedFeet_31 : decode cX0_wishedFeet 31 = .ok (.istore_n 3, 1) := dk62 (k := 7) bX0_wishedFeet_24 rfl
theorem dX0_wishedFeet_32 : decode cX0_wishedFeet 32 = .ok (.iconst 1, 1) := dk4 (k := 8) bX0_wishedFeet_24 rfl
theorem dX0_wishedFeet_33 : decode cX0_wishedFeet 33 = .ok (.istore 4, 2) := dk54 (k := 9) bX0_wishedFeet_24 rfl rfl
theorem dX0_wishedFeet_35 : decode cX0_wishedFeet 35 = .ok (.iload 4, 2) := dk21 (k := 11) bX0_wishedFeet_24 rfl rfl
theorem dX0_wishedFeet_37 : decode cX0_wishedFeet 37 = .ok (.bipush 20, 2) := dk16 (k := 13) bX0_wishedFeet_24 rfl (by decide)
theorem dX0_wishedFeet_39 : decode cX0_wishedFeet 39 = .ok (.if_icmp .gt 46, 3) := dk163 (k := 15) bX0_wishedFeet_24 rfl (by decide)
theorem dX0_wishedFeet_42 : decode cX0_wishedFeet 42 = .ok (.aload_n 0, 1) := dk42 (k := 18) bX0_wishedFeet_24 rfl
theorem dX0_wishedFeet_43 : decode cX0_wishedFeet 43 = .ok (.getfield 15, 3) := dk180 (k := 19) bX0_wishedFeet_24 rfl rfl
theorem dX0_wishedFeet_46 : decode cX0_wishedFeet 46 = .ok (.invokevirtual 30, 3) := dk182 (k := 22) bX0_wishedFeet_24 rfl rfl
theorem bX0_wishedFeet_49 : bL cX0_wishedFeet 49 [87, 42, 180, 0, 9, 180, 0, 34, 42, 180, 0, 15, 27, 182, 0, 38, 54, 5, 21, 5, 29, 164, 0, 9] := bL_of (by decide +kernel)
theorem dX0_wishedFeet_49 : decode cX0_wishedFeet 49 = .ok (.pop, 1) := dk87 (k := 0) bX0_wishedFeet_49 rfl
theorem dX0_wishedFeet_50 : decode cX0_wishedFeet 50 = .ok (.aload_n 0, 1) := dk42 (k := 1) bX0_wishedFeet_49 rfl
theorem dX0_wishedFeet_51 : decode cX0_wishedFeet 51 = .ok (.getfield 9, 3) := dk180 (k := 2) bX0_wishedFeet_49 rfl rfl
theorem dX0_wishedFeet_54 : decode cX0_wishedFeet 54 = .ok (.getfield 34, 3) := dk180 (k := 5) bX0_wishedFeet_49 rfl rfl
theorem dX0_wishedFeet_57 : decode cX0_wishedFeet 57 = .ok (.aload_n 0, 1) := dk42 (k := 8) bX0_wishedFeet_49 rfl
theorem dX0_wishedFeet_58 : decode cX0_wishedFeet 58 = .ok (.getfield 15, 3) := dk180 (k := 9) bX0_wishedFeet_49 rfl rfl
theorem dX0_wishedFeet_61 : decode cX0_wishedFeet 61 = .ok (.iload_n 1, 1) := dk27 (k := 12) bX0_wishedFeet_49 rfl
theorem dX0_wishedFeet_62 : decode cX0_wishedFeet 62 = .ok (.invokevirtual 38, 3) := dk182 (k := 13) bX0_wishedFeet_49 rfl rfl
theorem dX0_wishedFeet_65 : decode cX0_wishedFeet 65 = .ok (.istore 5, 2) := dk54 (k := 16) bX0_wishedFeet_49 rfl rfl
theorem dX0_wishedFeet_67 : decode cX0_wishedFeet 67 = .ok (.iload 5, 2) := dk21 (k := 18) bX0_wishedFeet_49 rfl rfl
theorem dX0_wishedFeet_69 : decode cX0_wishedFeet 69 = .ok (.iload_n 3, 1) := dk29 (k := 20) bX0_wishedFeet_49 rfl
theorem dX0_wishedFeet_70 : decode cX0_wishedFeet 70 = .ok (.if_icmp .le 9, 3) := dk164 (k := 21) bX0_wishedFeet_49 rfl (by decide)
theorem bX0_wishedFeet_73 : bL cX0_wishedFeet 73 [21, 5, 62, 21, 4, 61, 132, 4, 1, 167, 255, 209, 28, 172] := bL_of (by decide +kernel)
theorem dX0_wishedFeet_73 : decode cX0_wishedFeet 73 = .ok (.iload 5, 2) := dk21 (k := 0) bX0_wishedFeet_73 rfl rfl
theorem dX0_wishedFeet_75 : decode cX0_wishedFeet 75 = .ok (.istore_n 3, 1) := dk62 (k := 2) bX0_wishedFeet_73 rfl
theorem dX0_wishedFeet_76 : decode cX0_wishedFeet 76 = .ok (.iload 4, 2) := dk21 (k := 3) bX0_wishedFeet_73 rfl rfl
theorem dX0_wishedFeet_78 : decode cX0_wishedFeet 78 = .ok (.istore_n 2, 1) := dk61 (k := 5) bX0_wishedFeet_73 rfl
theorem dX0_wishedFeet_79 : decode cX0_wishedFeet 79 = .ok (.iinc 4 1, 3) := dk132 (k := 6) bX0_wishedFeet_73 rfl rfl (by decide)
theorem dX0_wishedFeet_82 : decode cX0_wishedFeet 82 = .ok (.goto (-47), 3) := dk167 (k := 9) bX0_wishedFeet_73 rfl (by decide)
theorem dX0_wishedFeet_85 : decode cX0_wishedFeet 85 = .ok (.iload_n 2, 1) := dk28 (k := 12) bX0_wishedFeet_73 rfl
theorem dX0_wishedFeet_86 : decode cX0_wishedFeet 86 = .ok (.ireturn, 1) := dk172 (k := 13) bX0_wishedFeet_73 rfl
theorem bX0_namesOnTrial_0 : bL cX0_namesOnTrial 0 [42, 180, 0, 9, 180, 0, 34, 42, 180, 0, 9, 180, 0, 34, 42, 180, 0, 9, 180, 0, 34, 42, 180, 0, 15] := bL_of (by decide +kernel)
theorem dX0_namesOnTrial_0 : decode cX0_namesOnTrial 0 = .ok (.aload_n 0, 1) := dk42 (k := 0) bX0_namesOnTrial_0 rfl
theorem dX0_namesOnTrial_1 : decode cX0_namesOnTrial 1 = .ok (.getfield 9, 3) := dk180 (k := 1) bX0_namesOnTrial_0 rfl rfl
theorem dX0_namesOnTrial_4 : decode cX0_namesOnTrial 4 = .ok (.getfield 34, 3) := dk180 (k := 4) bX0_namesOnTrial_0 rfl rfl
theorem dX0_namesOnTrial_7 : decode cX0_namesOnTrial 7 = .ok (.aload_n 0, 1) := dk42 (k := 7) bX0_namesOnTrial_0 rfl
theorem dX0_namesOnTrial_8 : decode cX0_namesOnTrial 8 = .ok (.getfield 9, 3) := dk180 (k := 8) bX0_namesOnTrial_0 rfl rfl
theorem dX0_namesOnTrial_11 : decode cX0_namesOnTrial 11 = .ok (.getfield 34, 3) := dk180 (k := 11) bX0_namesOnTrial_0 rfl rfl
theorem dX0_namesOnTrial_14 : decode cX0_namesOnTrial 14 = .ok (.aload_n 0, 1) := dk42 (k := 14) bX0_namesOnTrial_0 rfl
theorem dX0_namesOnTrial_15 : decode cX0_namesOnTrial 15 = .ok (.getfield 9, 3) := dk180 (k := 15) bX0_namesOnTrial_0 rfl rfl
theorem dX0_namesOnTrial_18 : decode cX0_namesOnTrial 18 = .ok (.getfield 34, 3) := dk180 (k := 18) bX0_namesOnTrial_0 rfl rfl
theorem dX0_namesOnTrial_21 : decode cX0_namesOnTrial 21 = .ok (.aload_n 0, 1) := dk42 (k := 21) bX0_namesOnTrial_0 rfl
theorem dX0_namesOnTrial_22 : decode cX0_namesOnTrial 22 = .ok (.getfield 15, 3) := dk180 (k := 22) bX0_namesOnTrial_0 rfl rfl
theorem bX0_namesOnTrial_25 : bL cX0_namesOnTrial 25 [2, 182, 0, 44, 3, 182, 0, 47, 182, 0, 51, 172] := bL_of (by decide +kernel)
theorem dX0_namesOnTrial_25 : decode cX0_namesOnTrial 25 = .ok (.iconst (-1), 1) := dk2 (k := 0) bX0_namesOnTrial_25 rfl
theorem dX0_namesOnTrial_26 : decode cX0_namesOnTrial 26 = .ok (.invokevirtual 44, 3) := dk182 (k := 1) bX0_namesOnTrial_25 rfl rfl
theorem dX0_namesOnTrial_29 : decode cX0_namesOnTrial 29 = .ok (.iconst 0, 1) := dk3 (k := 4) bX0_namesOnTrial_25 rfl
theorem dX0_namesOnTrial_30 : decode cX0_namesOnTrial 30 = .ok (.invokevirtual 47, 3) := dk182 (k := 5) bX0_namesOnTrial_25 rfl rfl
theorem dX0_namesOnTrial_33 : decode cX0_namesOnTrial 33 = .ok (.invokevirtual 51, 3) := dk182 (k := 8) bX0_namesOnTrial_25 rfl rfl
theorem dX0_namesOnTrial_36 : decode cX0_namesOnTrial 36 = .ok (.ireturn, 1) := dk172 (k := 11) bX0_namesOnTrial_25 rfl
theorem bX0_followLaw_0 : bL cX0_followLaw 0 [42, 180, 0, 15, 42, 180, 0, 9, 180, 0, 19, 182, 0, 24, 3, 61, 28, 16, 60, 162, 0, 29, 42, 182, 0, 55] := bL_of (by decide +kernel)
theorem dX0_followLaw_0 : decode cX0_followLaw 0 = .ok (.aload_n 0, 1) := dk42 (k := 0) bX0_followLaw_0 rfl
theorem dX0_followLaw_1 : decode cX0_followLaw 1 = .ok (.getfield 15, 3) := dk180 (k := 1) bX0_followLaw_0 rfl rfl
theorem dX0_followLaw_4 : decode cX0_followLaw 4 = .ok (.aload_n 0, 1) := dk42 (k := 4) bX0_followLaw_0 rfl
theorem dX0_followLaw_5 : decode cX0_followLaw 5 = .ok (.getfield 9, 3) := dk180 (k := 5) bX0_followLaw_0 rfl rfl
theorem dX0_followLaw_8 : decode cX0_followLaw 8 = .ok (.getfield 19, 3) := dk180 (k := 8) bX0_followLaw_0 rfl rfl
theorem dX0_followLaw_11 : decode cX0_followLaw 11 = .ok (.invokevirtual 24, 3) := dk182 (k := 11) bX0_followLaw_0 rfl rfl
theorem dX0_followLaw_14 : decode cX0_followLaw 14 = .ok (.iconst 0, 1) := dk3 (k := 14) bX0_followLaw_0 rfl
theorem dX0_followLaw_15 : decode cX0_followLaw 15 = .ok (.istore_n 2, 1) := dk61 (k := 15) bX0_followLaw_0 rfl
theorem dX0_followLaw_16 : decode cX0_followLaw 16 = .ok (.iload_n 2, 1) := dk28 (k := 16) bX0_followLaw_0 rfl
theorem dX0_followLaw_17 : decode cX0_followLaw 17 = .ok (.bipush 60, 2) := dk16 (k := 17) bX0_followLaw_0 rfl (by decide)
theorem dX0_followLaw_19 : decode cX0_followLaw 19 = .ok (.if_icmp .ge 29, 3) := dk162 (k := 19) bX0_followLaw_0 rfl (by decide)
theorem dX0_followLaw_22 : decode cX0_followLaw 22 = .ok (.aload_n 0, 1) := dk42 (k := 22) bX0_followLaw_0 rfl
theorem dX0_followLaw_23 : decode cX0_followLaw 23 = .ok (.invokevirtual 55, 3) := dk182 (k := 23) bX0_followLaw_0 rfl rfl
theorem bX0_followLaw_26 : bL cX0_followLaw 26 [27, 161, 0, 13, 42, 180, 0, 15, 182, 0, 30, 154, 0, 5, 28, 172, 132, 2, 1, 167, 255, 227, 16, 60] := bL_of (by decide +kernel)
theorem dX0_followLaw_26 : decode cX0_followLaw 26 = .ok (.iload_n 1, 1) := dk27 (k := 0) bX0_followLaw_26 rfl
theorem dX0_followLaw_27 : decode cX0_followLaw 27 = .ok (.if_icmp .lt 13, 3) := dk161 (k := 1) bX0_followLaw_26 rfl (by decide)
theorem dX0_followLaw_30 : decode cX0_followLaw 30 = .ok (.aload_n 0, 1) := dk42 (k := 4) bX0_followLaw_26 rfl
theorem dX0_followLaw_31 : decode cX0_followLaw 31 = .ok (.getfield 15, 3) := dk180 (k := 5) bX0_followLaw_26 rfl rfl
theorem dX0_followLaw_34 : decode cX0_followLaw 34 = .ok (.invokevirtual 30, 3) := dk182 (k := 8) bX0_followLaw_26 rfl rfl
theorem dX0_followLaw_37 : decode cX0_followLaw 37 = .ok (.ifCond .ne 5, 3) := dk154 (k := 11) bX0_followLaw_26 rfl (by decide)
theorem dX0_followLaw_40 : decode cX0_followLaw 40 = .ok (.iload_n 2, 1) := dk28 (k := 14) bX0_followLaw_26 rfl
theorem dX0_followLaw_41 : decode cX0_followLaw 41 = .ok (.ireturn, 1) := dk172 (k := 15) bX0_followLaw_26 rfl
theorem dX0_followLaw_42 : decode cX0_followLaw 42 = .ok (.iinc 2 1, 3) := dk132 (k := 16) bX0_followLaw_26 rfl rfl (by decide)
theorem dX0_followLaw_45 : decode cX0_followLaw 45 = .ok (.goto (-29), 3) := dk167 (k := 19) bX0_followLaw_26 rfl (by decide)
theorem dX0_followLaw_48 : decode cX0_followLaw 48 = .ok (.bipush 60, 2) := dk16 (k := 22) bX0_followLaw_26 rfl (by decide)
theorem bX0_followLaw_50 : bL cX0_followLaw 50 [172] := bL_of (by decide +kernel)
theorem dX0_followLaw_50 : decode cX0_followLaw 50 = .ok (.ireturn, 1) := dk172 (k := 0) bX0_followLaw_50 rfl
theorem bX0_greatestLaw_0 : bL cX0_greatestLaw 0 [42, 180, 0, 15, 42, 180, 0, 9, 180, 0, 19, 182, 0, 24, 17, 3, 231, 61, 3, 62, 29, 27, 162, 0, 40] := bL_of (by decide +kernel)
theorem dX0_greatestLaw_0 : decode cX0_greatestLaw 0 = .ok (.aload_n 0, 1) := dk42 (k := 0) bX0_greatestLaw_0 rfl
theorem dX0_greatestLaw_1 : decode cX0_greatestLaw 1 = .ok (.getfield 15, 3) := dk180 (k := 1) bX0_greatestLaw_0 rfl rfl
theorem dX0_greatestLaw_4 : decode cX0_greatestLaw 4 = .ok (.aload_n 0, 1) := dk42 (k := 4) bX0_greatestLaw_0 rfl
theorem dX0_greatestLaw_5 : decode cX0_greatestLaw 5 = .ok (.getfield 9, 3) := dk180 (k := 5) bX0_greatestLaw_0 rfl rfl
theorem dX0_greatestLaw_8 : decode cX0_greatestLaw 8 = .ok (.getfield 19, 3) := dk180 (k := 8) bX0_greatestLaw_0 rfl rfl
theorem dX0_greatestLaw_11 : decode cX0_greatestLaw 11 = .ok (.invokevirtual 24, 3) := dk182 (k := 11) bX0_greatestLaw_0 rfl rfl
theorem dX0_greatestLaw_14 : decode cX0_greatestLaw 14 = .ok (.sipush 999, 3) := dk17 (k := 14) bX0_greatestLaw_0 rfl (by decide)
theorem dX0_greatestLaw_17 : decode cX0_greatestLaw 17 = .ok (.istore_n 2, 1) := dk61 (k := 17) bX0_greatestLaw_0 rfl
theorem dX0_greatestLaw_18 : decode cX0_greatestLaw 18 = .ok (.iconst 0, 1) := dk3 (k := 18) bX0_greatestLaw_0 rfl
theorem dX0_greatestLaw_19 : decode cX0_greatestLaw 19 = .ok (.istore_n 3, 1) := dk62 (k := 19) bX0_greatestLaw_0 rfl
theorem dX0_greatestLaw_20 : decode cX0_greatestLaw 20 = .ok (.iload_n 3, 1) := dk29 (k := 20) bX0_greatestLaw_0 rfl
theorem dX0_greatestLaw_21 : decode cX0_greatestLaw 21 = .ok (.iload_n 1, 1) := dk27 (k := 21) bX0_greatestLaw_0 rfl
theorem dX0_greatestLaw_22 : decode cX0_greatestLaw 22 = .ok (.if_icmp .ge 40, 3) := dk162 (k := 22) bX0_greatestLaw_0 rfl (by decide)
theorem bX0_greatestLaw_25 : bL cX0_greatestLaw 25 [42, 182, 0, 55, 54, 4, 21, 4, 4, 161, 0, 13, 42, 180, 0, 15, 182, 0, 30, 154, 0, 5, 2, 172] := bL_of (by decide +kernel)
theorem dX0_greatestLaw_25 : decode cX0_greatestLaw 25 = .ok (.aload_n 0, 1) := dk42 (k := 0) bX0_greatestLaw_25 rfl
theorem dX0_greatestLaw_26 : decode cX0_greatestLaw 26 = .ok (.invokevirtual 55, 3) := dk182 (k := 1) bX0_greatestLaw_25 rfl rfl
theorem dX0_greatestLaw_29 : decode cX0_greatestLaw 29 = .ok (.istore 4, 2) := dk54 (k := 4) bX0_greatestLaw_25 rfl rfl
theorem dX0_greatestLaw_31 : decode cX0_greatestLaw 31 = .ok (.iload 4, 2) := dk21 (k := 6) bX0_greatestLaw_25 rfl rfl
theorem dX0_greatestLaw_33 : decode cX0_greatestLaw 33 = .ok (.iconst 1, 1) := dk4 (k := 8) bX0_greatestLaw_25 rfl
theorem dX0_greatestLaw_34 : decode cX0_greatestLaw 34 = .ok (.if_icmp .lt 13, 3) := dk161 (k := 9) bX0_greatestLaw_25 rfl (by decide)
theorem dX0_greatestLaw_37 : decode cX0_greatestLaw 37 = .ok (.aload_n 0, 1) := dk42 (k := 12) bX0_greatestLaw_25 rfl
theorem dX0_greatestLaw_38 : decode cX0_greatestLaw 38 = .ok (.getfield 15, 3) := dk180 (k := 13) bX0_greatestLaw_25 rfl rfl
theorem dX0_greatestLaw_41 : decode cX0_greatestLaw 41 = .ok (.invokevirtual 30, 3) := dk182 (k := 16) bX0_greatestLaw_25 rfl rfl
theorem dX0_greatestLaw_44 : decode cX0_greatestLaw 44 = .ok (.ifCond .ne 5, 3) := dk154 (k := 19) bX0_greatestLaw_25 rfl (by decide)
theorem dX0_greatestLaw_47 : decode cX0_greatestLaw 47 = .ok (.iconst (-1), 1) := dk2 (k := 22) bX0_greatestLaw_25 rfl
theorem dX0_greatestLaw_48 : decode cX0_greatestLaw 48 = .ok (.ireturn, 1) := dk172 (k := 23) bX0_greatestLaw_25 rfl
theorem bX0_greatestLaw_49 : bL cX0_greatestLaw 49 [28, 21, 4, 184, 0, 59, 61, 132, 3, 1, 167, 255, 217, 28, 172] := bL_of (by decide +kernel)
theorem dX0_greatestLaw_49 : decode cX0_greatestLaw 49 = .ok (.iload_n 2, 1) := dk28 (k := 0) bX0_greatestLaw_49 rfl
theorem dX0_greatestLaw_50 : decode cX0_greatestLaw 50 = .ok (.iload 4, 2) := dk21 (k := 1) bX0_greatestLaw_49 rfl rfl
theorem dX0_greatestLaw_52 : decode cX0_greatestLaw 52 = .ok (.invokestatic 59, 3) := dk184 (k := 3) bX0_greatestLaw_49 rfl rfl
theorem dX0_greatestLaw_55 : decode cX0_greatestLaw 55 = .ok (.istore_n 2, 1) := dk61 (k := 6) bX0_greatestLaw_49 rfl
theorem dX0_greatestLaw_56 : decode cX0_greatestLaw 56 = .ok (.iinc 3 1, 3) := dk132 (k := 7) bX0_greatestLaw_49 rfl rfl (by decide)
theorem dX0_greatestLaw_59 : decode cX0_greatestLaw 59 = .ok (.goto (-39), 3) := dk167 (k := 10) bX0_greatestLaw_49 rfl (by decide)
theorem dX0_greatestLaw_62 : decode cX0_greatestLaw 62 = .ok (.iload_n 2, 1) := dk28 (k := 13) bX0_greatestLaw_49 rfl
theorem dX0_greatestLaw_63 : decode cX0_greatestLaw 63 = .ok (.ireturn, 1) := dk172 (k := 14) bX0_greatestLaw_49 rfl
theorem bX0_drawMonths_0 : bL cX0_drawMonths 0 [42, 180, 0, 15, 42, 180, 0, 9, 180, 0, 19, 182, 0, 24, 42, 180, 0, 9, 180, 0, 34, 180, 0, 64] := bL_of (by decide +kernel)
theorem dX0_drawMonths_0 : decode cX0_drawMonths 0 = .ok (.aload_n 0, 1) := dk42 (k := 0) bX0_drawMonths_0 rfl
theorem dX0_drawMonths_1 : decode cX0_drawMonths 1 = .ok (.getfield 15, 3) := dk180 (k := 1) bX0_drawMonths_0 rfl rfl
theorem dX0_drawMonths_4 : decode cX0_drawMonths 4 = .ok (.aload_n 0, 1) := dk42 (k := 4) bX0_drawMonths_0 rfl
theorem dX0_drawMonths_5 : decode cX0_drawMonths 5 = .ok (.getfield 9, 3) := dk180 (k := 5) bX0_drawMonths_0 rfl rfl
theorem dX0_drawMonths_8 : decode cX0_drawMonths 8 = .ok (.getfield 19, 3) := dk180 (k := 8) bX0_drawMonths_0 rfl rfl
theorem dX0_drawMonths_11 : decode cX0_drawMonths 11 = .ok (.invokevirtual 24, 3) := dk182 (k := 11) bX0_drawMonths_0 rfl rfl
theorem dX0_drawMonths_14 : decode cX0_drawMonths 14 = .ok (.aload_n 0, 1) := dk42 (k := 14) bX0_drawMonths_0 rfl
theorem dX0_drawMonths_15 : decode cX0_drawMonths 15 = .ok (.getfield 9, 3) := dk180 (k := 15) bX0_drawMonths_0 rfl rfl
theorem dX0_drawMonths_18 : decode cX0_drawMonths 18 = .ok (.getfield 34, 3) := dk180 (k := 18) bX0_drawMonths_0 rfl rfl
theorem dX0_drawMonths_21 : decode cX0_drawMonths 21 = .ok (.getfield 64, 3) := dk180 (k := 21) bX0_drawMonths_0 rfl rfl
theorem bX0_drawMonths_24 : bL cX0_drawMonths 24 [54, 4, 21, 4, 4, 162, 0, 5, 3, 172, 27, 133, 55, 5, 3, 54, 7, 42, 180, 0, 9, 180, 0, 34] := bL_of (by decide +kernel)
theorem dX0_drawMonths_24 : decode cX0_drawMonths 24 = .ok (.istore 4, 2) := dk54 (k := 0) bX0_drawMonths_24 rfl rfl
theorem dX0_drawMonths_26 : decode cX0_drawMonths 26 = .ok (.iload 4, 2) := dk21 (k := 2) bX0_drawMonths_24 rfl rfl
theorem dX0_drawMonths_28 : decode cX0_drawMonths 28 = .ok (.iconst 1, 1) := dk4 (k := 4) bX0_drawMonths_24 rfl
theorem dX0_drawMonths_29 : decode cX0_drawMonths 29 = .ok (.if_icmp .ge 5, 3) := dk162 (k := 5) bX0_drawMonths_24 rfl (by decide)
theorem dX0_drawMonths_32 : decode cX0_drawMonths 32 = .ok (.iconst 0, 1) := dk3 (k := 8) bX0_drawMonths_24 rfl
theorem dX0_drawMonths_33 : decode cX0_drawMonths 33 = .ok (.ireturn, 1) := dk172 (k := 9) bX0_drawMonths_24 rfl
theorem dX0_drawMonths_34 : decode cX0_drawMonths 34 = .ok (.iload_n 1, 1) := dk27 (k := 10) bX0_drawMonths_24 rfl
theorem dX0_drawMonths_35 : decode cX0_drawMonths 35 = .ok (.i2l, 1) := dk133 (k := 11) bX0_drawMonths_24 rfl
theorem dX0_drawMonths_36 : decode cX0_drawMonths 36 = .ok (.lstore 5, 2) := dk55 (k := 12) bX0_drawMonths_24 rfl rfl
theorem dX0_drawMonths_38 : decode cX0_drawMonths 38 = .ok (.iconst 0, 1) := dk3 (k := 14) bX0_drawMonths_24 rfl
theorem dX0_drawMonths_39 : decode cX0_drawMonths 39 = .ok (.istore 7, 2) := dk54 (k := 15) bX0_drawMonths_24 rfl rfl
theorem dX0_drawMonths_41 : decode cX0_drawMonths 41 = .ok (.aload_n 0, 1) := dk42 (k := 17) bX0_drawMonths_24 rfl
theorem dX0_drawMonths_42 : decode cX0_drawMonths 42 = .ok (.getfield 9, 3) := dk180 (k := 18) bX0_drawMonths_24 rfl rfl
theorem dX0_drawMonths_45 : decode cX0_drawMonths 45 = .ok (.getfield 34, 3) := dk180 (k := 21) bX0_drawMonths_24 rfl rfl
theorem bX0_drawMonths_48 : bL cX0_drawMonths 48 [42, 180, 0, 15, 2, 182, 0, 44, 54, 8, 3, 54, 9, 21, 9, 28, 162, 0, 114, 21, 7, 29, 162, 0, 108] := bL_of (by decide +kernel)
theorem dX0_drawMonths_48 : decode cX0_drawMonths 48 = .ok (.aload_n 0, 1) := dk42 (k := 0) bX0_drawMonths_48 rfl
theorem dX0_drawMonths_49 : decode cX0_drawMonths 49 = .ok (.getfield 15, 3) := dk180 (k := 1) bX0_drawMonths_48 rfl rfl
theorem dX0_drawMonths_52 : decode cX0_drawMonths 52 = .ok (.iconst (-1), 1) := dk2 (k := 4) bX0_drawMonths_48 rfl
theorem dX0_drawMonths_53 : decode cX0_drawMonths 53 = .ok (.invokevirtual 44, 3) := dk182 (k := 5) bX0_drawMonths_48 rfl rfl
theorem dX0_drawMonths_56 : decode cX0_drawMonths 56 = .ok (.istore 8, 2) := dk54 (k := 8) bX0_drawMonths_48 rfl rfl
theorem dX0_drawMonths_58 : decode cX0_drawMonths 58 = .ok (.iconst 0, 1) := dk3 (k := 10) bX0_drawMonths_48 rfl
theorem dX0_drawMonths_59 : decode cX0_drawMonths 59 = .ok (.istore 9, 2) := dk54 (k := 11) bX0_drawMonths_48 rfl rfl
theorem dX0_drawMonths_61 : decode cX0_drawMonths 61 = .ok (.iload 9, 2) := dk21 (k := 13) bX0_drawMonths_48 rfl rfl
theorem dX0_drawMonths_63 : decode cX0_drawMonths 63 = .ok (.iload_n 2, 1) := dk28 (k := 15) bX0_drawMonths_48 rfl
theorem dX0_drawMonths_64 : decode cX0_drawMonths 64 = .ok (.if_icmp .ge 114, 3) := dk162 (k := 16) bX0_drawMonths_48 rfl (by decide)
theorem dX0_drawMonths_67 : decode cX0_drawMonths 67 = .ok (.iload 7, 2) := dk21 (k := 19) bX0_drawMonths_48 rfl rfl
theorem dX0_drawMonths_69 : decode cX0_drawMonths 69 = .ok (.iload_n 3, 1) := dk29 (k := 21) bX0_drawMonths_48 rfl
theorem dX0_drawMonths_70 : decode cX0_drawMonths 70 = .ok (.if_icmp .ge 108, 3) := dk162 (k := 22) bX0_drawMonths_48 rfl (by decide)
theorem bX0_drawMonths_73 : bL cX0_drawMonths 73 [20, 0, 68, 22, 5, 105, 20, 0, 70, 97, 20, 0, 72, 127, 55, 5, 4, 22, 5, 20, 0, 74, 109, 21, 4] := bL_of (by decide +kernel)
theorem dX0_drawMonths_73 : decode cX0_drawMonths 73 = .ok (.ldc2_w 68, 3) := dk20 (k := 0) bX0_drawMonths_73 rfl rfl
theorem dX0_drawMonths_76 : decode cX0_drawMonths 76 = .ok (.lload 5, 2) := dk22 (k := 3) bX0_drawMonths_73 rfl rfl
theorem dX0_drawMonths_78 : decode cX0_drawMonths 78 = .ok (.lmul, 1) := dk105 (k := 5) bX0_drawMonths_73 rfl
theorem dX0_drawMonths_79 : decode cX0_drawMonths 79 = .ok (.ldc2_w 70, 3) := dk20 (k := 6) bX0_drawMonths_73 rfl rfl
theorem dX0_drawMonths_82 : decode cX0_drawMonths 82 = .ok (.ladd, 1) := dk97 (k := 9) bX0_drawMonths_73 rfl
theorem dX0_drawMonths_83 : decode cX0_drawMonths 83 = .ok (.ldc2_w 72, 3) := dk20 (k := 10) bX0_drawMonths_73 rfl rfl
theorem dX0_drawMonths_86 : decode cX0_drawMonths 86 = .ok (.land, 1) := dk127 (k := 13) bX0_drawMonths_73 rfl
theorem dX0_drawMonths_87 : decode cX0_drawMonths 87 = .ok (.lstore 5, 2) := dk55 (k := 14) bX0_drawMonths_73 rfl rfl
theorem dX0_drawMonths_89 : decode cX0_drawMonths 89 = .ok (.iconst 1, 1) := dk4 (k := 16) bX0_drawMonths_73 rfl
theorem dX0_drawMonths_90 : decode cX0_drawMonths 90 = .ok (.lload 5, 2) := dk22 (k := 17) bX0_drawMonths_73 rfl rfl
theorem dX0_drawMonths_92 : decode cX0_drawMonths 92 = .ok (.ldc2_w 74, 3) := dk20 (k := 19) bX0_drawMonths_73 rfl rfl
theorem dX0_drawMonths_95 : decode cX0_drawMonths 95 = .ok (.ldiv, 1) := dk109 (k := 22) bX0_drawMonths_73 rfl
theorem dX0_drawMonths_96 : decode cX0_drawMonths 96 = .ok (.iload 4, 2) := dk21 (k := 23) bX0_drawMonths_73 rfl rfl
theorem bX0_drawMonths_98 : bL cX0_drawMonths 98 [133, 113, 136, 120, 54, 10, 42, 180, 0, 9, 21, 8, 21, 10, 128, 3, 182, 0, 76, 153, 0, 55, 42, 180, 0, 15] := bL_of (by decide +kernel)
theorem dX0_drawMonths_98 : decode cX0_drawMonths 98 = .ok (.i2l, 1) := dk133 (k := 0) bX0_drawMonths_98 rfl
theorem dX0_drawMonths_99 : decode cX0_drawMonths 99 = .ok (.lrem, 1) := dk113 (k := 1) bX0_drawMonths_98 rfl
theorem dX0_drawMonths_100 : decode cX0_drawMonths 100 = .ok (.l2i, 1) := dk136 (k := 2) bX0_drawMonths_98 rfl
theorem dX0_drawMonths_101 : decode cX0_drawMonths 101 = .ok (.ishl, 1) := dk120 (k := 3) bX0_drawMonths_98 rfl
theorem dX0_drawMonths_102 : decode cX0_drawMonths 102 = .ok (.istore 10, 2) := dk54 (k := 4) bX0_drawMonths_98 rfl rfl
theorem dX0_drawMonths_104 : decode cX0_drawMonths 104 = .ok (.aload_n 0, 1) := dk42 (k := 6) bX0_drawMonths_98 rfl
theorem dX0_drawMonths_105 : decode cX0_drawMonths 105 = .ok (.getfield 9, 3) := dk180 (k := 7) bX0_drawMonths_98 rfl rfl
theorem dX0_drawMonths_108 : decode cX0_drawMonths 108 = .ok (.iload 8, 2) := dk21 (k := 10) bX0_drawMonths_98 rfl rfl
theorem dX0_drawMonths_110 : decode cX0_drawMonths 110 = .ok (.iload 10, 2) := dk21 (k := 12) bX0_drawMonths_98 rfl rfl
theorem dX0_drawMonths_112 : decode cX0_drawMonths 112 = .ok (.ior, 1) := dk128 (k := 14) bX0_drawMonths_98 rfl
theorem dX0_drawMonths_113 : decode cX0_drawMonths 113 = .ok (.iconst 0, 1) := dk3 (k := 15) bX0_drawMonths_98 rfl
theorem dX0_drawMonths_114 : decode cX0_drawMonths 114 = .ok (.invokevirtual 76, 3) := dk182 (k := 16) bX0_drawMonths_98 rfl rfl
theorem dX0_drawMonths_117 : decode cX0_drawMonths 117 = .ok (.ifCond .eq 55, 3) := dk153 (k := 19) bX0_drawMonths_98 rfl (by decide)
theorem dX0_drawMonths_120 : decode cX0_drawMonths 120 = .ok (.aload_n 0, 1) := dk42 (k := 22) bX0_drawMonths_98 rfl
theorem dX0_drawMonths_121 : decode cX0_drawMonths 121 = .ok (.getfield 15, 3) := dk180 (k := 23) bX0_drawMonths_98 rfl rfl
theorem bX0_drawMonths_124 : bL cX0_drawMonths 124 [182, 0, 30, 153, 0, 45, 132, 7, 1, 42, 180, 0, 15, 42, 180, 0, 15, 42, 180, 0, 9, 180, 0, 80] := bL_of (by decide +kernel)
theorem dX0_drawMonths_124 : decode cX0_drawMonths 124 = .ok (.invokevirtual 30, 3) := dk182 (k := 0) bX0_drawMonths_124 rfl rfl
theorem dX0_drawMonths_127 : decode cX0_drawMonths 127 = .ok (.ifCond .eq 45, 3) := dk153 (k := 3) bX0_drawMonths_124 rfl (by decide)
theorem dX0_drawMonths_130 : decode cX0_drawMonths 130 = .ok (.iinc 7 1, 3) := dk132 (k := 6) bX0_drawMonths_124 rfl rfl (by decide)
theorem dX0_drawMonths_133 : decode cX0_drawMonths 133 = .ok (.aload_n 0, 1) := dk42 (k := 9) bX0_drawMonths_124 rfl
theorem dX0_drawMonths_134 : decode cX0_drawMonths 134 = .ok (.getfield 15, 3) := dk180 (k := 10) bX0_drawMonths_124 rfl rfl
theorem dX0_drawMonths_137 : decode cX0_drawMonths 137 = .ok (.aload_n 0, 1) := dk42 (k := 13) bX0_drawMonths_124 rfl
theorem dX0_drawMonths_138 : decode cX0_drawMonths 138 = .ok (.getfield 15, 3) := dk180 (k := 14) bX0_drawMonths_124 rfl rfl
theorem dX0_drawMonths_141 : decode cX0_drawMonths 141 = .ok (.aload_n 0, 1) := dk42 (k := 17) bX0_drawMonths_124 rfl
theorem dX0_drawMonths_142 : decode cX0_drawMonths 142 = .ok (.getfield 9, 3) := dk180 (k := 18) bX0_drawMonths_124 rfl rfl
theorem dX0_drawMonths_145 : decode cX0_drawMonths 145 = .ok (.getfield 80, 3) := dk180 (k := 21) bX0_drawMonths_124 rfl rfl
theorem bX0_drawMonths_148 : bL cX0_drawMonths 148 [182, 0, 83, 4, 182, 0, 86, 42, 180, 0, 9, 180, 0, 34, 42, 180, 0, 15, 2, 182, 0, 44, 54, 8] := bL_of (by decide +kernel)
theorem dX0_drawMonths_148 : decode cX0_drawMonths 148 = .ok (.invokevirtual 83, 3) := dk182 (k := 0) bX0_drawMonths_148 rfl rfl
theorem dX0_drawMonths_151 : decode cX0_drawMonths 151 = .ok (.iconst 1, 1) := dk4 (k := 3) bX0_drawMonths_148 rfl
theorem dX0_drawMonths_152 : decode cX0_drawMonths 152 = .ok (.invokevirtual 86, 3) := dk182 (k := 4) bX0_drawMonths_148 rfl rfl
theorem dX0_drawMonths_155 : decode cX0_drawMonths 155 = .ok (.aload_n 0, 1) := dk42 (k := 7) bX0_drawMonths_148 rfl
theorem dX0_drawMonths_156 : decode cX0_drawMonths 156 = .ok (.getfield 9, 3) := dk180 (k := 8) bX0_drawMonths_148 rfl rfl
theorem dX0_drawMonths_159 : decode cX0_drawMonths 159 = .ok (.getfield 34, 3) := dk180 (k := 11) bX0_drawMonths_148 rfl rfl
theorem dX0_drawMonths_162 : decode cX0_drawMonths 162 = .ok (.aload_n 0, 1) := dk42 (k := 14) bX0_drawMonths_148 rfl
theorem dX0_drawMonths_163 : decode cX0_drawMonths 163 = .ok (.getfield 15, 3) := dk180 (k := 15) bX0_drawMonths_148 rfl rfl
theorem dX0_drawMonths_166 : decode cX0_drawMonths 166 = .ok (.iconst (-1), 1) := dk2 (k := 18) bX0_drawMonths_148 rfl
theorem dX0_drawMonths_167 : decode cX0_drawMonths 167 = .ok (.invokevirtual 44, 3) := dk182 (k := 19) bX0_drawMonths_148 rfl rfl
theorem dX0_drawMonths_170 : decode cX0_drawMonths 170 = .ok (.istore 8, 2) := dk54 (k := 22) bX0_drawMonths_148 rfl rfl
theorem bX0_drawMonths_172 : bL cX0_drawMonths 172 [132, 9, 1, 167, 255, 142, 21, 7, 172] := bL_of (by decide +kernel)
theorem dX0_drawMonths_172 : decode cX0_drawMonths 172 = .ok (.iinc 9 1, 3) := dk132 (k := 0) bX0_drawMonths_172 rfl rfl (by decide)
theorem dX0_drawMonths_175 : decode cX0_drawMonths 175 = .ok (.goto (-114), 3) := dk167 (k := 3) bX0_drawMonths_172 rfl (by decide)
theorem dX0_drawMonths_178 : decode cX0_drawMonths 178 = .ok (.iload 7, 2) := dk21 (k := 6) bX0_drawMonths_172 rfl rfl
theorem dX0_drawMonths_180 : decode cX0_drawMonths 180 = .ok (.ireturn, 1) := dk172 (k := 8) bX0_drawMonths_172 rfl
theorem bX1_init_0 : bL cX1_init 0 [42, 183, 0, 3, 42, 16, 10] := bL_of (by decide +kernel)
theorem dX1_init_0 : decode cX1_init 0 = .ok (.aload_n 0, 1) := dk42 (k := 0) bX1_init_0 rfl
theorem dX1_init_1 : decode cX1_init 1 = .ok (.invokespecial 3, 3) := dk183 (k := 1) bX1_init_0 rfl rfl
theorem dX1_init_4 : decode cX1_init 4 = .ok (.aload_n 0, 1) := dk42 (k := 4) bX1_init_0 rfl
theorem dX1_init_5 : decode cX1_init 5 = .ok (.bipush 10, 2) := dk16 (k := 5) bX1_init_0 rfl (by decide)
theorem dX1_init_7 : decode cX1_init 7 = .ok (.newarray .int, 2) := by decide +kernel
theorem bX1_init_9 : bL cX1_init 9 [181, 0, 9, 177] := bL_of (by decide +kernel)
theorem dX1_init_9 : decode cX1_init 9 = .ok (.putfield 9, 3) := dk181 (k := 0) bX1_init_9 rfl rfl
theorem dX1_init_12 : decode cX1_init 12 = .ok (.return_, 1) := dk177 (k := 3) bX1_init_9 rfl
theorem bX1_clear_0 : bL cX1_clear 0 [42, 3, 181, 0, 15, 42, 3, 181, 0, 19, 42, 3, 181, 0, 22, 42, 3, 181, 0, 25, 177] := bL_of (by decide +kernel)
theorem dX1_clear_0 : decode cX1_clear 0 = .ok (.aload_n 0, 1) := dk42 (k := 0) bX1_clear_0 rfl
theorem dX1_clear_1 : decode cX1_clear 1 = .ok (.iconst 0, 1) := dk3 (k := 1) bX1_clear_0 rfl
theorem dX1_clear_2 : decode cX1_clear 2 = .ok (.putfield 15, 3) := dk181 (k := 2) bX1_clear_0 rfl rfl
theorem dX1_clear_5 : decode cX1_clear 5 = .ok (.aload_n 0, 1) := dk42 (k := 5) bX1_clear_0 rfl
theorem dX1_clear_6 : decode cX1_clear 6 = .ok (.iconst 0, 1) := dk3 (k := 6) bX1_clear_0 rfl
theorem dX1_clear_7 : decode cX1_clear 7 = .ok (.putfield 19, 3) := dk181 (k := 7) bX1_clear_0 rfl rfl
theorem dX1_clear_10 : decode cX1_clear 10 = .ok (.aload_n 0, 1) := dk42 (k := 10) bX1_clear_0 rfl
theorem dX1_clear_11 : decode cX1_clear 11 = .ok (.iconst 0, 1) := dk3 (k := 11) bX1_clear_0 rfl
theorem dX1_clear_12 : decode cX1_clear 12 = .ok (.putfield 22, 3) := dk181 (k := 12) bX1_clear_0 rfl rfl
theorem dX1_clear_15 : decode cX1_clear 15 = .ok (.aload_n 0, 1) := dk42 (k := 15) bX1_clear_0 rfl
theorem dX1_clear_16 : decode cX1_clear 16 = .ok (.iconst 0, 1) := dk3 (k := 16) bX1_clear_0 rfl
theorem dX1_clear_17 : decode cX1_clear 17 = .ok (.putfield 25, 3) := dk181 (k := 17) bX1_clear_0 rfl rfl
theorem dX1_clear_20 : decode cX1_clear 20 = .ok (.return_, 1) := dk177 (k := 20) bX1_clear_0 rfl
theorem bX1_copyFrom_0 : bL cX1_copyFrom 0 [3, 61, 28, 16, 10, 162, 0, 21, 42, 180, 0, 9, 28, 43, 180, 0, 9, 28, 46, 79, 132, 2, 1, 167, 255, 235] := bL_of (by decide +kernel)
theorem dX1_copyFrom_0 : decode cX1_copyFrom 0 = .ok (.iconst 0, 1) := dk3 (k := 0) bX1_copyFrom_0 rfl
theorem dX1_copyFrom_1 : decode cX1_copyFrom 1 = .ok (.istore_n 2, 1) := dk61 (k := 1) bX1_copyFrom_0 rfl
theorem dX1_copyFrom_2 : decode cX1_copyFrom 2 = .ok (.iload_n 2, 1) := dk28 (k := 2) bX1_copyFrom_0 rfl
theorem dX1_copyFrom_3 : decode cX1_copyFrom 3 = .ok (.bipush 10, 2) := dk16 (k := 3) bX1_copyFrom_0 rfl (by decide)
theorem dX1_copyFrom_5 : decode cX1_copyFrom 5 = .ok (.if_icmp .ge 21, 3) := dk162 (k := 5) bX1_copyFrom_0 rfl (by decide)
theorem dX1_copyFrom_8 : decode cX1_copyFrom 8 = .ok (.aload_n 0, 1) := dk42 (k := 8) bX1_copyFrom_0 rfl
theorem dX1_copyFrom_9 : decode cX1_copyFrom 9 = .ok (.getfield 9, 3) := dk180 (k := 9) bX1_copyFrom_0 rfl rfl
theorem dX1_copyFrom_12 : decode cX1_copyFrom 12 = .ok (.iload_n 2, 1) := dk28 (k := 12) bX1_copyFrom_0 rfl
theorem dX1_copyFrom_13 : decode cX1_copyFrom 13 = .ok (.aload_n 1, 1) := dk43 (k := 13) bX1_copyFrom_0 rfl
theorem dX1_copyFrom_14 : decode cX1_copyFrom 14 = .ok (.getfield 9, 3) := dk180 (k := 14) bX1_copyFrom_0 rfl rfl
theorem dX1_copyFrom_17 : decode cX1_copyFrom 17 = .ok (.iload_n 2, 1) := dk28 (k := 17) bX1_copyFrom_0 rfl
theorem dX1_copyFrom_18 : decode cX1_copyFrom 18 = .ok (.iaload, 1) := dk46 (k := 18) bX1_copyFrom_0 rfl
theorem dX1_copyFrom_19 : decode cX1_copyFrom 19 = .ok (.iastore, 1) := dk79 (k := 19) bX1_copyFrom_0 rfl
theorem dX1_copyFrom_20 : decode cX1_copyFrom 20 = .ok (.iinc 2 1, 3) := dk132 (k := 20) bX1_copyFrom_0 rfl rfl (by decide)
theorem dX1_copyFrom_23 : decode cX1_copyFrom 23 = .ok (.goto (-21), 3) := dk167 (k := 23) bX1_copyFrom_0 rfl (by decide)
theorem bX1_copyFrom_26 : bL cX1_copyFrom 26 [42, 43, 180, 0, 15, 181, 0, 15, 42, 43, 180, 0, 19, 181, 0, 19, 42, 43, 180, 0, 22, 181, 0, 22] := bL_of (by decide +kernel)
theorem dX1_copyFrom_26 : decode cX1_copyFrom 26 = .ok (.aload_n 0, 1) := dk42 (k := 0) bX1_copyFrom_26 rfl
theorem dX1_copyFrom_27 : decode cX1_copyFrom 27 = .ok (.aload_n 1, 1) := dk43 (k := 1) bX1_copyFrom_26 rfl
theorem dX1_copyFrom_28 : decode cX1_copyFrom 28 = .ok (.getfield 15, 3) := dk180 (k := 2) bX1_copyFrom_26 rfl rfl
theorem dX1_copyFrom_31 : decode cX1_copyFrom 31 = .ok (.putfield 15, 3) := dk181 (k := 5) bX1_copyFrom_26 rfl rfl
theorem dX1_copyFrom_34 : decode cX1_copyFrom 34 = .ok (.aload_n 0, 1) := dk42 (k := 8) bX1_copyFrom_26 rfl
theorem dX1_copyFrom_35 : decode cX1_copyFrom 35 = .ok (.aload_n 1, 1) := dk43 (k := 9) bX1_copyFrom_26 rfl
theorem dX1_copyFrom_36 : decode cX1_copyFrom 36 = .ok (.getfield 19, 3) := dk180 (k := 10) bX1_copyFrom_26 rfl rfl
theorem dX1_copyFrom_39 : decode cX1_copyFrom 39 = .ok (.putfield 19, 3) := dk181 (k := 13) bX1_copyFrom_26 rfl rfl
theorem dX1_copyFrom_42 : decode cX1_copyFrom 42 = .ok (.aload_n 0, 1) := dk42 (k := 16) bX1_copyFrom_26 rfl
theorem dX1_copyFrom_43 : decode cX1_copyFrom 43 = .ok (.aload_n 1, 1) := dk43 (k := 17) bX1_copyFrom_26 rfl
theorem dX1_copyFrom_44 : decode cX1_copyFrom 44 = .ok (.getfield 22, 3) := dk180 (k := 18) bX1_copyFrom_26 rfl rfl
theorem dX1_copyFrom_47 : decode cX1_copyFrom 47 = .ok (.putfield 22, 3) := dk181 (k := 21) bX1_copyFrom_26 rfl rfl
theorem bX1_copyFrom_50 : bL cX1_copyFrom 50 [42, 43, 180, 0, 25, 181, 0, 25, 177] := bL_of (by decide +kernel)
theorem dX1_copyFrom_50 : decode cX1_copyFrom 50 = .ok (.aload_n 0, 1) := dk42 (k := 0) bX1_copyFrom_50 rfl
theorem dX1_copyFrom_51 : decode cX1_copyFrom 51 = .ok (.aload_n 1, 1) := dk43 (k := 1) bX1_copyFrom_50 rfl
theorem dX1_copyFrom_52 : decode cX1_copyFrom 52 = .ok (.getfield 25, 3) := dk180 (k := 2) bX1_copyFrom_50 rfl rfl
theorem dX1_copyFrom_55 : decode cX1_copyFrom 55 = .ok (.putfield 25, 3) := dk181 (k := 5) bX1_copyFrom_50 rfl rfl
theorem dX1_copyFrom_58 : decode cX1_copyFrom 58 = .ok (.return_, 1) := dk177 (k := 8) bX1_copyFrom_50 rfl
theorem bX1_addCell_0 : bL cX1_addCell 0 [42, 180, 0, 15, 155, 0, 35, 42, 180, 0, 15, 42, 180, 0, 9, 190, 162, 0, 23, 42, 180, 0, 9, 42] := bL_of (by decide +kernel)
theorem dX1_addCell_0 : decode cX1_addCell 0 = .ok (.aload_n 0, 1) := dk42 (k := 0) bX1_addCell_0 rfl
theorem dX1_addCell_1 : decode cX1_addCell 1 = .ok (.getfield 15, 3) := dk180 (k := 1) bX1_addCell_0 rfl rfl
theorem dX1_addCell_4 : decode cX1_addCell 4 = .ok (.ifCond .lt 35, 3) := dk155 (k := 4) bX1_addCell_0 rfl (by decide)
theorem dX1_addCell_7 : decode cX1_addCell 7 = .ok (.aload_n 0, 1) := dk42 (k := 7) bX1_addCell_0 rfl
theorem dX1_addCell_8 : decode cX1_addCell 8 = .ok (.getfield 15, 3) := dk180 (k := 8) bX1_addCell_0 rfl rfl
theorem dX1_addCell_11 : decode cX1_addCell 11 = .ok (.aload_n 0, 1) := dk42 (k := 11) bX1_addCell_0 rfl
theorem dX1_addCell_12 : decode cX1_addCell 12 = .ok (.getfield 9, 3) := dk180 (k := 12) bX1_addCell_0 rfl rfl
theorem dX1_addCell_15 : decode cX1_addCell 15 = .ok (.arraylength, 1) := dk190 (k := 15) bX1_addCell_0 rfl
theorem dX1_addCell_16 : decode cX1_addCell 16 = .ok (.if_icmp .ge 23, 3) := dk162 (k := 16) bX1_addCell_0 rfl (by decide)
theorem dX1_addCell_19 : decode cX1_addCell 19 = .ok (.aload_n 0, 1) := dk42 (k := 19) bX1_addCell_0 rfl
theorem dX1_addCell_20 : decode cX1_addCell 20 = .ok (.getfield 9, 3) := dk180 (k := 20) bX1_addCell_0 rfl rfl
theorem dX1_addCell_23 : decode cX1_addCell 23 = .ok (.aload_n 0, 1) := dk42 (k := 23) bX1_addCell_0 rfl
theorem bX1_addCell_24 : bL cX1_addCell 24 [180, 0, 15, 27, 79, 42, 89, 180, 0, 15, 4, 96, 181, 0, 15, 177] := bL_of (by decide +kernel)
theorem dX1_addCell_24 : decode cX1_addCell 24 = .ok (.getfield 15, 3) := dk180 (k := 0) bX1_addCell_24 rfl rfl
theorem dX1_addCell_27 : decode cX1_addCell 27 = .ok (.iload_n 1, 1) := dk27 (k := 3) bX1_addCell_24 rfl
theorem dX1_addCell_28 : decode cX1_addCell 28 = .ok (.iastore, 1) := dk79 (k := 4) bX1_addCell_24 rfl
theorem dX1_addCell_29 : decode cX1_addCell 29 = .ok (.aload_n 0, 1) := dk42 (k := 5) bX1_addCell_24 rfl
theorem dX1_addCell_30 : decode cX1_addCell 30 = .ok (.dup, 1) := dk89 (k := 6) bX1_addCell_24 rfl
theorem dX1_addCell_31 : decode cX1_addCell 31 = .ok (.getfield 15, 3) := dk180 (k := 7) bX1_addCell_24 rfl rfl
theorem dX1_addCell_34 : decode cX1_addCell 34 = .ok (.iconst 1, 1) := dk4 (k := 10) bX1_addCell_24 rfl
theorem dX1_addCell_35 : decode cX1_addCell 35 = .ok (.iadd, 1) := dk96 (k := 11) bX1_addCell_24 rfl
theorem dX1_addCell_36 : decode cX1_addCell 36 = .ok (.putfield 15, 3) := dk181 (k := 12) bX1_addCell_24 rfl rfl
theorem dX1_addCell_39 : decode cX1_addCell 39 = .ok (.return_, 1) := dk177 (k := 15) bX1_addCell_24 rfl
theorem bX1_has_0 : bL cX1_has 0 [27, 155, 0, 24, 27, 42, 180, 0, 15, 162, 0, 16, 27, 42, 180, 0, 9, 190, 162, 0, 7, 4, 167, 0, 4] := bL_of (by decide +kernel)
theorem dX1_has_0 : decode cX1_has 0 = .ok (.iload_n 1, 1) := dk27 (k := 0) bX1_has_0 rfl
theorem dX1_has_1 : decode cX1_has 1 = .ok (.ifCond .lt 24, 3) := dk155 (k := 1) bX1_has_0 rfl (by decide)
theorem dX1_has_4 : decode cX1_has 4 = .ok (.iload_n 1, 1) := dk27 (k := 4) bX1_has_0 rfl
theorem dX1_has_5 : decode cX1_has 5 = .ok (.aload_n 0, 1) := dk42 (k := 5) bX1_has_0 rfl
theorem dX1_has_6 : decode cX1_has 6 = .ok (.getfield 15, 3) := dk180 (k := 6) bX1_has_0 rfl rfl
theorem dX1_has_9 : decode cX1_has 9 = .ok (.if_icmp .ge 16, 3) := dk162 (k := 9) bX1_has_0 rfl (by decide)
theorem dX1_has_12 : decode cX1_has 12 = .ok (.iload_n 1, 1) := dk27 (k := 12) bX1_has_0 rfl
theorem dX1_has_13 : decode cX1_has 13 = .ok (.aload_n 0, 1) := dk42 (k := 13) bX1_has_0 rfl
theorem dX1_has_14 : decode cX1_has 14 = .ok (.getfield 9, 3) := dk180 (k := 14) bX1_has_0 rfl rfl
theorem dX1_has_17 : decode cX1_has 17 = .ok (.arraylength, 1) := dk190 (k := 17) bX1_has_0 rfl
theorem dX1_has_18 : decode cX1_has 18 = .ok (.if_icmp .ge 7, 3) := dk162 (k := 18) bX1_has_0 rfl (by decide)
theorem dX1_has_21 : decode cX1_has 21 = .ok (.iconst 1, 1) := dk4 (k := 21) bX1_has_0 rfl
theorem dX1_has_22 : decode cX1_has 22 = .ok (.goto 4, 3) := dk167 (k := 22) bX1_has_0 rfl (by decide)
theorem bX1_has_25 : bL cX1_has 25 [3, 172] := bL_of (by decide +kernel)
theorem dX1_has_25 : decode cX1_has 25 = .ok (.iconst 0, 1) := dk3 (k := 0) bX1_has_25 rfl
theorem dX1_has_26 : decode cX1_has 26 = .ok (.ireturn, 1) := dk172 (k := 1) bX1_has_25 rfl
theorem bX1_heightOf_0 : bL cX1_heightOf 0 [27, 155, 0, 29, 27, 42, 180, 0, 15, 162, 0, 21, 27, 42, 180, 0, 9, 190, 162, 0, 12, 42, 180, 0, 9] := bL_of (by decide +kernel)
theorem dX1_heightOf_0 : decode cX1_heightOf 0 = .ok (.iload_n 1, 1) := dk27 (k := 0) bX1_heightOf_0 rfl
theorem dX1_heightOf_1 : decode cX1_heightOf 1 = .ok (.ifCond .lt 29, 3) := dk155 (k := 1) bX1_heightOf_0 rfl (by decide)
theorem dX1_heightOf_4 : decode cX1_heightOf 4 = .ok (.iload_n 1, 1) := dk27 (k := 4) bX1_heightOf_0 rfl
theorem dX1_heightOf_5 : decode cX1_heightOf 5 = .ok (.aload_n 0, 1) := dk42 (k := 5) bX1_heightOf_0 rfl
theorem dX1_heightOf_6 : decode cX1_heightOf 6 = .ok (.getfield 15, 3) := dk180 (k := 6) bX1_heightOf_0 rfl rfl
theorem dX1_heightOf_9 : decode cX1_heightOf 9 = .ok (.if_icmp .ge 21, 3) := dk162 (k := 9) bX1_heightOf_0 rfl (by decide)
theorem dX1_heightOf_12 : decode cX1_heightOf 12 = .ok (.iload_n 1, 1) := dk27 (k := 12) bX1_heightOf_0 rfl
theorem dX1_heightOf_13 : decode cX1_heightOf 13 = .ok (.aload_n 0, 1) := dk42 (k := 13) bX1_heightOf_0 rfl
theorem dX1_heightOf_14 : decode cX1_heightOf 14 = .ok (.getfield 9, 3) := dk180 (k := 14) bX1_heightOf_0 rfl rfl
theorem dX1_heightOf_17 : decode cX1_heightOf 17 = .ok (.arraylength, 1) := dk190 (k := 17) bX1_heightOf_0 rfl
theorem dX1_heightOf_18 : decode cX1_heightOf 18 = .ok (.if_icmp .ge 12, 3) := dk162 (k := 18) bX1_heightOf_0 rfl (by decide)
theorem dX1_heightOf_21 : decode cX1_heightOf 21 = .ok (.aload_n 0, 1) := dk42 (k := 21) bX1_heightOf_0 rfl
theorem dX1_heightOf_22 : decode cX1_heightOf 22 = .ok (.getfield 9, 3) := dk180 (k := 22) bX1_heightOf_0 rfl rfl
theorem bX1_heightOf_25 : bL cX1_heightOf 25 [27, 46, 167, 0, 4, 3, 172] := bL_of (by decide +kernel)
theorem dX1_heightOf_25 : decode cX1_heightOf 25 = .ok (.iload_n 1, 1) := dk27 (k := 0) bX1_heightOf_25 rfl
theorem dX1_heightOf_26 : decode cX1_heightOf 26 = .ok (.iaload, 1) := dk46 (k := 1) bX1_heightOf_25 rfl
theorem dX1_heightOf_27 : decode cX1_heightOf 27 = .ok (.goto 4, 3) := dk167 (k := 2) bX1_heightOf_25 rfl (by decide)
theorem dX1_heightOf_30 : decode cX1_heightOf 30 = .ok (.iconst 0, 1) := dk3 (k := 5) bX1_heightOf_25 rfl
theorem dX1_heightOf_31 : decode cX1_heightOf 31 = .ok (.ireturn, 1) := dk172 (k := 6) bX1_heightOf_25 rfl
theorem bX1_change_0 : bL cX1_change 0 [42, 27, 182, 0, 29, 153, 0, 13, 42, 180, 0, 9, 27, 92, 46, 28, 96, 79, 177] := bL_of (by decide +kernel)
theorem dX1_change_0 : decode cX1_change 0 = .ok (.aload_n 0, 1) := dk42 (k := 0) bX1_change_0 rfl
theorem dX1_change_1 : decode cX1_change 1 = .ok (.iload_n 1, 1) := dk27 (k := 1) bX1_change_0 rfl
theorem dX1_change_2 : decode cX1_change 2 = .ok (.invokevirtual 29, 3) := dk182 (k := 2) bX1_change_0 rfl rfl
theorem dX1_change_5 : decode cX1_change 5 = .ok (.ifCond .eq 13, 3) := dk153 (k := 5) bX1_change_0 rfl (by decide)
theorem dX1_change_8 : decode cX1_change 8 = .ok (.aload_n 0, 1) := dk42 (k := 8) bX1_change_0 rfl
theorem dX1_change_9 : decode cX1_change 9 = .ok (.getfield 9, 3) := dk180 (k := 9) bX1_change_0 rfl rfl
theorem dX1_change_12 : decode cX1_change 12 = .ok (.iload_n 1, 1) := dk27 (k := 12) bX1_change_0 rfl
theorem dX1_change_13 : decode cX1_change 13 = .ok (.dup2, 1) := dk92 (k := 13) bX1_change_0 rfl
theorem dX1_change_14 : decode cX1_change 14 = .ok (.iaload, 1) := dk46 (k := 14) bX1_change_0 rfl
theorem dX1_change_15 : decode cX1_change 15 = .ok (.iload_n 2, 1) := dk28 (k := 15) bX1_change_0 rfl
theorem dX1_change_16 : decode cX1_change 16 = .ok (.iadd, 1) := dk96 (k := 16) bX1_change_0 rfl
theorem dX1_change_17 : decode cX1_change 17 = .ok (.iastore, 1) := dk79 (k := 17) bX1_change_0 rfl
theorem dX1_change_18 : decode cX1_change 18 = .ok (.return_, 1) := dk177 (k := 18) bX1_change_0 rfl
theorem bX1_topCell_0 : bL cX1_topCell 0 [2, 60, 3, 61, 28, 42, 180, 0, 15, 162, 0, 43, 42, 28, 182, 0, 33, 42, 27, 182, 0, 33, 100, 62] := bL_of (by decide +kernel)
theorem dX1_topCell_0 : decode cX1_topCell 0 = .ok (.iconst (-1), 1) := dk2 (k := 0) bX1_topCell_0 rfl
theorem dX1_topCell_1 : decode cX1_topCell 1 = .ok (.istore_n 1, 1) := dk60 (k := 1) bX1_topCell_0 rfl
theorem dX1_topCell_2 : decode cX1_topCell 2 = .ok (.iconst 0, 1) := dk3 (k := 2) bX1_topCell_0 rfl
theorem dX1_topCell_3 : decode cX1_topCell 3 = .ok (.istore_n 2, 1) := dk61 (k := 3) bX1_topCell_0 rfl
theorem dX1_topCell_4 : decode cX1_topCell 4 = .ok (.iload_n 2, 1) := dk28 (k := 4) bX1_topCell_0 rfl
theorem dX1_topCell_5 : decode cX1_topCell 5 = .ok (.aload_n 0, 1) := dk42 (k := 5) bX1_topCell_0 rfl
theorem dX1_topCell_6 : decode cX1_topCell 6 = .ok (.getfield 15, 3) := dk180 (k := 6) bX1_topCell_0 rfl rfl
theorem dX1_topCell_9 : decode cX1_topCell 9 = .ok (.if_icmp .ge 43, 3) := dk162 (k := 9) bX1_topCell_0 rfl (by decide)
theorem dX1_topCell_12 : decode cX1_topCell 12 = .ok (.aload_n 0, 1) := dk42 (k := 12) bX1_topCell_0 rfl
theorem dX1_topCell_13 : decode cX1_topCell 13 = .ok (.iload_n 2, 1) := dk28 (k := 13) bX1_topCell_0 rfl
theorem dX1_topCell_14 : decode cX1_topCell 14 = .ok (.invokevirtual 33, 3) := dk182 (k := 14) bX1_topCell_0 rfl rfl
theorem dX1_topCell_17 : decode cX1_topCell 17 = .ok (.aload_n 0, 1) := dk42 (k := 17) bX1_topCell_0 rfl
theorem dX1_topCell_18 : decode cX1_topCell 18 = .ok (.iload_n 1, 1) := dk27 (k := 18) bX1_topCell_0 rfl
theorem dX1_topCell_19 : decode cX1_topCell 19 = .ok (.invokevirtual 33, 3) := dk182 (k := 19) bX1_topCell_0 rfl rfl
theorem dX1_topCell_22 : decode cX1_topCell 22 = .ok (.isub, 1) := dk100 (k := 22) bX1_topCell_0 rfl
theorem dX1_topCell_23 : decode cX1_topCell 23 = .ok (.istore_n 3, 1) := dk62 (k := 23) bX1_topCell_0 rfl
theorem bX1_topCell_24 : bL cX1_topCell 24 [27, 2, 159, 0, 18, 29, 157, 0, 14, 29, 154, 0, 12, 42, 180, 0, 25, 153, 0, 5, 28, 60, 132, 2, 1] := bL_of (by decide +kernel)
theorem dX1_topCell_24 : decode cX1_topCell 24 = .ok (.iload_n 1, 1) := dk27 (k := 0) bX1_topCell_24 rfl
theorem dX1_topCell_25 : decode cX1_topCell 25 = .ok (.iconst (-1), 1) := dk2 (k := 1) bX1_topCell_24 rfl
theorem dX1_topCell_26 : decode cX1_topCell 26 = .ok (.if_icmp .eq 18, 3) := dk159 (k := 2) bX1_topCell_24 rfl (by decide)
theorem dX1_topCell_29 : decode cX1_topCell 29 = .ok (.iload_n 3, 1) := dk29 (k := 5) bX1_topCell_24 rfl
theorem dX1_topCell_30 : decode cX1_topCell 30 = .ok (.ifCond .gt 14, 3) := dk157 (k := 6) bX1_topCell_24 rfl (by decide)
theorem dX1_topCell_33 : decode cX1_topCell 33 = .ok (.iload_n 3, 1) := dk29 (k := 9) bX1_topCell_24 rfl
theorem dX1_topCell_34 : decode cX1_topCell 34 = .ok (.ifCond .ne 12, 3) := dk154 (k := 10) bX1_topCell_24 rfl (by decide)
theorem dX1_topCell_37 : decode cX1_topCell 37 = .ok (.aload_n 0, 1) := dk42 (k := 13) bX1_topCell_24 rfl
theorem dX1_topCell_38 : decode cX1_topCell 38 = .ok (.getfield 25, 3) := dk180 (k := 14) bX1_topCell_24 rfl rfl
theorem dX1_topCell_41 : decode cX1_topCell 41 = .ok (.ifCond .eq 5, 3) := dk153 (k := 17) bX1_topCell_24 rfl (by decide)
theorem dX1_topCell_44 : decode cX1_topCell 44 = .ok (.iload_n 2, 1) := dk28 (k := 20) bX1_topCell_24 rfl
theorem dX1_topCell_45 : decode cX1_topCell 45 = .ok (.istore_n 1, 1) := dk60 (k := 21) bX1_topCell_24 rfl
theorem dX1_topCell_46 : decode cX1_topCell 46 = .ok (.iinc 2 1, 3) := dk132 (k := 22) bX1_topCell_24 rfl rfl (by decide)
theorem bX1_topCell_49 : bL cX1_topCell 49 [167, 255, 211, 27, 172] := bL_of (by decide +kernel)
theorem dX1_topCell_49 : decode cX1_topCell 49 = .ok (.goto (-45), 3) := dk167 (k := 0) bX1_topCell_49 rfl (by decide)
theorem dX1_topCell_52 : decode cX1_topCell 52 = .ok (.iload_n 1, 1) := dk27 (k := 3) bX1_topCell_49 rfl
theorem dX1_topCell_53 : decode cX1_topCell 53 = .ok (.ireturn, 1) := dk172 (k := 4) bX1_topCell_49 rfl
theorem bX1_topHeight_0 : bL cX1_topHeight 0 [3, 60, 3, 61, 28, 42, 180, 0, 15, 162, 0, 22, 42, 28, 182, 0, 33, 62, 29, 27, 164, 0, 5, 29] := bL_of (by decide +kernel)
theorem dX1_topHeight_0 : decode cX1_topHeight 0 = .ok (.iconst 0, 1) := dk3 (k := 0) bX1_topHeight_0 rfl
theorem dX1_topHeight_1 : decode cX1_topHeight 1 = .ok (.istore_n 1, 1) := dk60 (k := 1) bX1_topHeight_0 rfl
theorem dX1_topHeight_2 : decode cX1_topHeight 2 = .ok (.iconst 0, 1) := dk3 (k := 2) bX1_topHeight_0 rfl
theorem dX1_topHeight_3 : decode cX1_topHeight 3 = .ok (.istore_n 2, 1) := dk61 (k := 3) bX1_topHeight_0 rfl
theorem dX1_topHeight_4 : decode cX1_topHeight 4 = .ok (.iload_n 2, 1) := dk28 (k := 4) bX1_topHeight_0 rfl
theorem dX1_topHeight_5 : decode cX1_topHeight 5 = .ok (.aload_n 0, 1) := dk42 (k := 5) bX1_topHeight_0 rfl
theorem dX1_topHeight_6 : decode cX1_topHeight 6 = .ok (.getfield 15, 3) := dk180 (k := 6) bX1_topHeight_0 rfl rfl
theorem dX1_topHeight_9 : decode cX1_topHeight 9 = .ok (.if_icmp .ge 22, 3) := dk162 (k := 9) bX1_topHeight_0 rfl (by decide)
theorem dX1_topHeight_12 : decode cX1_topHeight 12 = .ok (.aload_n 0, 1) := dk42 (k := 12) bX1_topHeight_0 rfl
theorem dX1_topHeight_13 : decode cX1_topHeight 13 = .ok (.iload_n 2, 1) := dk28 (k := 13) bX1_topHeight_0 rfl
theorem dX1_topHeight_14 : decode cX1_topHeight 14 = .ok (.invokevirtual 33, 3) := dk182 (k := 14) bX1_topHeight_0 rfl rfl
theorem dX1_topHeight_17 : decode cX1_topHeight 17 = .ok (.istore_n 3, 1) := dk62 (k := 17) bX1_topHeight_0 rfl
theorem dX1_topHeight_18 : decode cX1_topHeight 18 = .ok (.iload_n 3, 1) := dk29 (k := 18) bX1_topHeight_0 rfl
theorem dX1_topHeight_19 : decode cX1_topHeight 19 = .ok (.iload_n 1, 1) := dk27 (k := 19) bX1_topHeight_0 rfl
theorem dX1_topHeight_20 : decode cX1_topHeight 20 = .ok (.if_icmp .le 5, 3) := dk164 (k := 20) bX1_topHeight_0 rfl (by decide)
theorem dX1_topHeight_23 : decode cX1_topHeight 23 = .ok (.iload_n 3, 1) := dk29 (k := 23) bX1_topHeight_0 rfl
theorem bX1_topHeight_24 : bL cX1_topHeight 24 [60, 132, 2, 1, 167, 255, 232, 27, 172] := bL_of (by decide +kernel)
theorem dX1_topHeight_24 : decode cX1_topHeight 24 = .ok (.istore_n 1, 1) := dk60 (k := 0) bX1_topHeight_24 rfl
theorem dX1_topHeight_25 : decode cX1_topHeight 25 = .ok (.iinc 2 1, 3) := dk132 (k := 1) bX1_topHeight_24 rfl rfl (by decide)
theorem dX1_topHeight_28 : decode cX1_topHeight 28 = .ok (.goto (-24), 3) := dk167 (k := 4) bX1_topHeight_24 rfl (by decide)
theorem dX1_topHeight_31 : decode cX1_topHeight 31 = .ok (.iload_n 1, 1) := dk27 (k := 7) bX1_topHeight_24 rfl
theorem dX1_topHeight_32 : decode cX1_topHeight 32 = .ok (.ireturn, 1) := dk172 (k := 8) bX1_topHeight_24 rfl
theorem bX1_feetInAll_0 : bL cX1_feetInAll 0 [3, 60, 3, 61, 28, 42, 180, 0, 15, 162, 0, 17, 27, 42, 28, 182, 0, 33, 96, 60, 132, 2, 1, 167, 255, 237] := bL_of (by decide +kernel)
theorem dX1_feetInAll_0 : decode cX1_feetInAll 0 = .ok (.iconst 0, 1) := dk3 (k := 0) bX1_feetInAll_0 rfl
theorem dX1_feetInAll_1 : decode cX1_feetInAll 1 = .ok (.istore_n 1, 1) := dk60 (k := 1) bX1_feetInAll_0 rfl
theorem dX1_feetInAll_2 : decode cX1_feetInAll 2 = .ok (.iconst 0, 1) := dk3 (k := 2) bX1_feetInAll_0 rfl
theorem dX1_feetInAll_3 : decode cX1_feetInAll 3 = .ok (.istore_n 2, 1) := dk61 (k := 3) bX1_feetInAll_0 rfl
theorem dX1_feetInAll_4 : decode cX1_feetInAll 4 = .ok (.iload_n 2, 1) := dk28 (k := 4) bX1_feetInAll_0 rfl
theorem dX1_feetInAll_5 : decode cX1_feetInAll 5 = .ok (.aload_n 0, 1) := dk42 (k := 5) bX1_feetInAll_0 rfl
theorem dX1_feetInAll_6 : decode cX1_feetInAll 6 = .ok (.getfield 15, 3) := dk180 (k := 6) bX1_feetInAll_0 rfl rfl
theorem dX1_feetInAll_9 : decode cX1_feetInAll 9 = .ok (.if_icmp .ge 17, 3) := dk162 (k := 9) bX1_feetInAll_0 rfl (by decide)
theorem dX1_feetInAll_12 : decode cX1_feetInAll 12 = .ok (.iload_n 1, 1) := dk27 (k := 12) bX1_feetInAll_0 rfl
theorem dX1_feetInAll_13 : decode cX1_feetInAll 13 = .ok (.aload_n 0, 1) := dk42 (k := 13) bX1_feetInAll_0 rfl
theorem dX1_feetInAll_14 : decode cX1_feetInAll 14 = .ok (.iload_n 2, 1) := dk28 (k := 14) bX1_feetInAll_0 rfl
theorem dX1_feetInAll_15 : decode cX1_feetInAll 15 = .ok (.invokevirtual 33, 3) := dk182 (k := 15) bX1_feetInAll_0 rfl rfl
theorem dX1_feetInAll_18 : decode cX1_feetInAll 18 = .ok (.iadd, 1) := dk96 (k := 18) bX1_feetInAll_0 rfl
theorem dX1_feetInAll_19 : decode cX1_feetInAll 19 = .ok (.istore_n 1, 1) := dk60 (k := 19) bX1_feetInAll_0 rfl
theorem dX1_feetInAll_20 : decode cX1_feetInAll 20 = .ok (.iinc 2 1, 3) := dk132 (k := 20) bX1_feetInAll_0 rfl rfl (by decide)
theorem dX1_feetInAll_23 : decode cX1_feetInAll 23 = .ok (.goto (-19), 3) := dk167 (k := 23) bX1_feetInAll_0 rfl (by decide)
theorem bX1_feetInAll_26 : bL cX1_feetInAll 26 [27, 172] := bL_of (by decide +kernel)
theorem dX1_feetInAll_26 : decode cX1_feetInAll 26 = .ok (.iload_n 1, 1) := dk27 (k := 0) bX1_feetInAll_26 rfl
theorem dX1_feetInAll_27 : decode cX1_feetInAll 27 = .ok (.ireturn, 1) := dk172 (k := 1) bX1_feetInAll_26 rfl
theorem bX1_shadedHours_0 : bL cX1_shadedHours 0 [27, 155, 0, 20, 27, 42, 180, 0, 15, 162, 0, 12, 27, 42, 180, 0, 9, 190, 161, 0, 5, 3, 172, 3] := bL_of (by decide +kernel)
theorem dX1_shadedHours_0 : decode cX1_shadedHours 0 = .ok (.iload_n 1, 1) := dk27 (k := 0) bX1_shadedHours_0 rfl
theorem dX1_shadedHours_1 : decode cX1_shadedHours 1 = .ok (.ifCond .lt 20, 3) := dk155 (k := 1) bX1_shadedHours_0 rfl (by decide)
theorem dX1_shadedHours_4 : decode cX1_shadedHours 4 = .ok (.iload_n 1, 1) := dk27 (k := 4) bX1_shadedHours_0 rfl
theorem dX1_shadedHours_5 : decode cX1_shadedHours 5 = .ok (.aload_n 0, 1) := dk42 (k := 5) bX1_shadedHours_0 rfl
theorem dX1_shadedHours_6 : decode cX1_shadedHours 6 = .ok (.getfield 15, 3) := dk180 (k := 6) bX1_shadedHours_0 rfl rfl
theorem dX1_shadedHours_9 : decode cX1_shadedHours 9 = .ok (.if_icmp .ge 12, 3) := dk162 (k := 9) bX1_shadedHours_0 rfl (by decide)
theorem dX1_shadedHours_12 : decode cX1_shadedHours 12 = .ok (.iload_n 1, 1) := dk27 (k := 12) bX1_shadedHours_0 rfl
theorem dX1_shadedHours_13 : decode cX1_shadedHours 13 = .ok (.aload_n 0, 1) := dk42 (k := 13) bX1_shadedHours_0 rfl
theorem dX1_shadedHours_14 : decode cX1_shadedHours 14 = .ok (.getfield 9, 3) := dk180 (k := 14) bX1_shadedHours_0 rfl rfl
theorem dX1_shadedHours_17 : decode cX1_shadedHours 17 = .ok (.arraylength, 1) := dk190 (k := 17) bX1_shadedHours_0 rfl
theorem dX1_shadedHours_18 : decode cX1_shadedHours 18 = .ok (.if_icmp .lt 5, 3) := dk161 (k := 18) bX1_shadedHours_0 rfl (by decide)
theorem dX1_shadedHours_21 : decode cX1_shadedHours 21 = .ok (.iconst 0, 1) := dk3 (k := 21) bX1_shadedHours_0 rfl
theorem dX1_shadedHours_22 : decode cX1_shadedHours 22 = .ok (.ireturn, 1) := dk172 (k := 22) bX1_shadedHours_0 rfl
theorem dX1_shadedHours_23 : decode cX1_shadedHours 23 = .ok (.iconst 0, 1) := dk3 (k := 23) bX1_shadedHours_0 rfl
theorem bX1_shadedHours_24 : bL cX1_shadedHours 24 [62, 4, 54, 4, 21, 4, 16, 10, 162, 0, 84, 27, 28, 21, 4, 104, 96, 54, 5, 21, 5, 155, 0, 71] := bL_of (by decide +kernel)
theorem dX1_shadedHours_24 : decode cX1_shadedHours 24 = .ok (.istore_n 3, 1) := dk62 (k := 0) bX1_shadedHours_24 rfl
theorem dX1_shadedHours_25 : decode cX1_shadedHours 25 = .ok (.iconst 1, 1) := dk4 (k := 1) bX1_shadedHours_24 rfl
theorem dX1_shadedHours_26 : decode cX1_shadedHours 26 = .ok (.istore 4, 2) := dk54 (k := 2) bX1_shadedHours_24 rfl rfl
theorem dX1_shadedHours_28 : decode cX1_shadedHours 28 = .ok (.iload 4, 2) := dk21 (k := 4) bX1_shadedHours_24 rfl rfl
theorem dX1_shadedHours_30 : decode cX1_shadedHours 30 = .ok (.bipush 10, 2) := dk16 (k := 6) bX1_shadedHours_24 rfl (by decide)
theorem dX1_shadedHours_32 : decode cX1_shadedHours 32 = .ok (.if_icmp .ge 84, 3) := dk162 (k := 8) bX1_shadedHours_24 rfl (by decide)
theorem dX1_shadedHours_35 : decode cX1_shadedHours 35 = .ok (.iload_n 1, 1) := dk27 (k := 11) bX1_shadedHours_24 rfl
theorem dX1_shadedHours_36 : decode cX1_shadedHours 36 = .ok (.iload_n 2, 1) := dk28 (k := 12) bX1_shadedHours_24 rfl
theorem dX1_shadedHours_37 : decode cX1_shadedHours 37 = .ok (.iload 4, 2) := dk21 (k := 13) bX1_shadedHours_24 rfl rfl
theorem dX1_shadedHours_39 : decode cX1_shadedHours 39 = .ok (.imul, 1) := dk104 (k := 15) bX1_shadedHours_24 rfl
theorem dX1_shadedHours_40 : decode cX1_shadedHours 40 = .ok (.iadd, 1) := dk96 (k := 16) bX1_shadedHours_24 rfl
theorem dX1_shadedHours_41 : decode cX1_shadedHours 41 = .ok (.istore 5, 2) := dk54 (k := 17) bX1_shadedHours_24 rfl rfl
theorem dX1_shadedHours_43 : decode cX1_shadedHours 43 = .ok (.iload 5, 2) := dk21 (k := 19) bX1_shadedHours_24 rfl rfl
theorem dX1_shadedHours_45 : decode cX1_shadedHours 45 = .ok (.ifCond .lt 71, 3) := dk155 (k := 21) bX1_shadedHours_24 rfl (by decide)
theorem bX1_shadedHours_48 : bL cX1_shadedHours 48 [21, 5, 42, 180, 0, 15, 162, 0, 62, 21, 5, 42, 180, 0, 9, 190, 161, 0, 6, 167, 0, 49, 42, 180, 0, 9] := bL_of (by decide +kernel)
theorem dX1_shadedHours_48 : decode cX1_shadedHours 48 = .ok (.iload 5, 2) := dk21 (k := 0) bX1_shadedHours_48 rfl rfl
theorem dX1_shadedHours_50 : decode cX1_shadedHours 50 = .ok (.aload_n 0, 1) := dk42 (k := 2) bX1_shadedHours_48 rfl
theorem dX1_shadedHours_51 : decode cX1_shadedHours 51 = .ok (.getfield 15, 3) := dk180 (k := 3) bX1_shadedHours_48 rfl rfl
theorem dX1_shadedHours_54 : decode cX1_shadedHours 54 = .ok (.if_icmp .ge 62, 3) := dk162 (k := 6) bX1_shadedHours_48 rfl (by decide)
theorem dX1_shadedHours_57 : decode cX1_shadedHours 57 = .ok (.iload 5, 2) := dk21 (k := 9) bX1_shadedHours_48 rfl rfl
theorem dX1_shadedHours_59 : decode cX1_shadedHours 59 = .ok (.aload_n 0, 1) := dk42 (k := 11) bX1_shadedHours_48 rfl
theorem dX1_shadedHours_60 : decode cX1_shadedHours 60 = .ok (.getfield 9, 3) := dk180 (k := 12) bX1_shadedHours_48 rfl rfl
theorem dX1_shadedHours_63 : decode cX1_shadedHours 63 = .ok (.arraylength, 1) := dk190 (k := 15) bX1_shadedHours_48 rfl
theorem dX1_shadedHours_64 : decode cX1_shadedHours 64 = .ok (.if_icmp .lt 6, 3) := dk161 (k := 16) bX1_shadedHours_48 rfl (by decide)
theorem dX1_shadedHours_67 : decode cX1_shadedHours 67 = .ok (.goto 49, 3) := dk167 (k := 19) bX1_shadedHours_48 rfl (by decide)
theorem dX1_shadedHours_70 : decode cX1_shadedHours 70 = .ok (.aload_n 0, 1) := dk42 (k := 22) bX1_shadedHours_48 rfl
theorem dX1_shadedHours_71 : decode cX1_shadedHours 71 = .ok (.getfield 9, 3) := dk180 (k := 23) bX1_shadedHours_48 rfl rfl
theorem bX1_shadedHours_74 : bL cX1_shadedHours 74 [21, 5, 46, 42, 180, 0, 9, 27, 46, 100, 54, 6, 21, 6, 158, 0, 22, 21, 6, 4, 100, 21, 4, 108] := bL_of (by decide +kernel)
theorem dX1_shadedHours_74 : decode cX1_shadedHours 74 = .ok (.iload 5, 2) := dk21 (k := 0) bX1_shadedHours_74 rfl rfl
theorem dX1_shadedHours_76 : decode cX1_shadedHours 76 = .ok (.iaload, 1) := dk46 (k := 2) bX1_shadedHours_74 rfl
theorem dX1_shadedHours_77 : decode cX1_shadedHours 77 = .ok (.aload_n 0, 1) := dk42 (k := 3) bX1_shadedHours_74 rfl
theorem dX1_shadedHours_78 : decode cX1_shadedHours 78 = .ok (.getfield 9, 3) := dk180 (k := 4) bX1_shadedHours_74 rfl rfl
theorem dX1_shadedHours_81 : decode cX1_shadedHours 81 = .ok (.iload_n 1, 1) := dk27 (k := 7) bX1_shadedHours_74 rfl
theorem dX1_shadedHours_82 : decode cX1_shadedHours 82 = .ok (.iaload, 1) := dk46 (k := 8) bX1_shadedHours_74 rfl
theorem dX1_shadedHours_83 : decode cX1_shadedHours 83 = .ok (.isub, 1) := dk100 (k := 9) bX1_shadedHours_74 rfl
theorem dX1_shadedHours_84 : decode cX1_shadedHours 84 = .ok (.istore 6, 2) := dk54 (k := 10) bX1_shadedHours_74 rfl rfl
theorem dX1_shadedHours_86 : decode cX1_shadedHours 86 = .ok (.iload 6, 2) := dk21 (k := 12) bX1_shadedHours_74 rfl rfl
theorem dX1_shadedHours_88 : decode cX1_shadedHours 88 = .ok (.ifCond .le 22, 3) := dk158 (k := 14) bX1_shadedHours_74 rfl (by decide)
theorem dX1_shadedHours_91 : decode cX1_shadedHours 91 = .ok (.iload 6, 2) := dk21 (k := 17) bX1_shadedHours_74 rfl rfl
theorem dX1_shadedHours_93 : decode cX1_shadedHours 93 = .ok (.iconst 1, 1) := dk4 (k := 19) bX1_shadedHours_74 rfl
theorem dX1_shadedHours_94 : decode cX1_shadedHours 94 = .ok (.isub, 1) := dk100 (k := 20) bX1_shadedHours_74 rfl
theorem dX1_shadedHours_95 : decode cX1_shadedHours 95 = .ok (.iload 4, 2) := dk21 (k := 21) bX1_shadedHours_74 rfl rfl
theorem dX1_shadedHours_97 : decode cX1_shadedHours 97 = .ok (.idiv, 1) := dk108 (k := 23) bX1_shadedHours_74 rfl
theorem bX1_shadedHours_98 : bL cX1_shadedHours 98 [29, 164, 0, 11, 21, 6, 4, 100, 21, 4, 108, 62, 132, 4, 1, 167, 255, 171, 29, 16, 9, 162, 0, 7] := bL_of (by decide +kernel)
theorem dX1_shadedHours_98 : decode cX1_shadedHours 98 = .ok (.iload_n 3, 1) := dk29 (k := 0) bX1_shadedHours_98 rfl
theorem dX1_shadedHours_99 : decode cX1_shadedHours 99 = .ok (.if_icmp .le 11, 3) := dk164 (k := 1) bX1_shadedHours_98 rfl (by decide)
theorem dX1_shadedHours_102 : decode cX1_shadedHours 102 = .ok (.iload 6, 2) := dk21 (k := 4) bX1_shadedHours_98 rfl rfl
theorem dX1_shadedHours_104 : decode cX1_shadedHours 104 = .ok (.iconst 1, 1) := dk4 (k := 6) bX1_shadedHours_98 rfl
theorem dX1_shadedHours_105 : decode cX1_shadedHours 105 = .ok (.isub, 1) := dk100 (k := 7) bX1_shadedHours_98 rfl
theorem dX1_shadedHours_106 : decode cX1_shadedHours 106 = .ok (.iload 4, 2) := dk21 (k := 8) bX1_shadedHours_98 rfl rfl
theorem dX1_shadedHours_108 : decode cX1_shadedHours 108 = .ok (.idiv, 1) := dk108 (k := 10) bX1_shadedHours_98 rfl
theorem dX1_shadedHours_109 : decode cX1_shadedHours 109 = .ok (.istore_n 3, 1) := dk62 (k := 11) bX1_shadedHours_98 rfl
theorem dX1_shadedHours_110 : decode cX1_shadedHours 110 = .ok (.iinc 4 1, 3) := dk132 (k := 12) bX1_shadedHours_98 rfl rfl (by decide)
theorem dX1_shadedHours_113 : decode cX1_shadedHours 113 = .ok (.goto (-85), 3) := dk167 (k := 15) bX1_shadedHours_98 rfl (by decide)
theorem dX1_shadedHours_116 : decode cX1_shadedHours 116 = .ok (.iload_n 3, 1) := dk29 (k := 18) bX1_shadedHours_98 rfl
theorem dX1_shadedHours_117 : decode cX1_shadedHours 117 = .ok (.bipush 9, 2) := dk16 (k := 19) bX1_shadedHours_98 rfl (by decide)
theorem dX1_shadedHours_119 : decode cX1_shadedHours 119 = .ok (.if_icmp .ge 7, 3) := dk162 (k := 21) bX1_shadedHours_98 rfl (by decide)
theorem bX1_shadedHours_122 : bL cX1_shadedHours 122 [29, 167, 0, 5, 16, 9, 172] := bL_of (by decide +kernel)
theorem dX1_shadedHours_122 : decode cX1_shadedHours 122 = .ok (.iload_n 3, 1) := dk29 (k := 0) bX1_shadedHours_122 rfl
theorem dX1_shadedHours_123 : decode cX1_shadedHours 123 = .ok (.goto 5, 3) := dk167 (k := 1) bX1_shadedHours_122 rfl (by decide)
theorem dX1_shadedHours_126 : decode cX1_shadedHours 126 = .ok (.bipush 9, 2) := dk16 (k := 4) bX1_shadedHours_122 rfl (by decide)
theorem dX1_shadedHours_128 : decode cX1_shadedHours 128 = .ok (.ireturn, 1) := dk172 (k := 6) bX1_shadedHours_122 rfl
theorem bX1_isShaded_0 : bL cX1_isShaded 0 [28, 158, 0, 21, 28, 42, 27, 2, 182, 0, 37, 163, 0, 7, 4, 167, 0, 23, 3, 167, 0, 19, 28, 116] := bL_of (by decide +kernel)
theorem dX1_isShaded_0 : decode cX1_isShaded 0 = .ok (.iload_n 2, 1) := dk28 (k := 0) bX1_isShaded_0 rfl
theorem dX1_isShaded_1 : decode cX1_isShaded 1 = .ok (.ifCond .le 21, 3) := dk158 (k := 1) bX1_isShaded_0 rfl (by decide)
theorem dX1_isShaded_4 : decode cX1_isShaded 4 = .ok (.iload_n 2, 1) := dk28 (k := 4) bX1_isShaded_0 rfl
theorem dX1_isShaded_5 : decode cX1_isShaded 5 = .ok (.aload_n 0, 1) := dk42 (k := 5) bX1_isShaded_0 rfl
theorem dX1_isShaded_6 : decode cX1_isShaded 6 = .ok (.iload_n 1, 1) := dk27 (k := 6) bX1_isShaded_0 rfl
theorem dX1_isShaded_7 : decode cX1_isShaded 7 = .ok (.iconst (-1), 1) := dk2 (k := 7) bX1_isShaded_0 rfl
theorem dX1_isShaded_8 : decode cX1_isShaded 8 = .ok (.invokevirtual 37, 3) := dk182 (k := 8) bX1_isShaded_0 rfl rfl
theorem dX1_isShaded_11 : decode cX1_isShaded 11 = .ok (.if_icmp .gt 7, 3) := dk163 (k := 11) bX1_isShaded_0 rfl (by decide)
theorem dX1_isShaded_14 : decode cX1_isShaded 14 = .ok (.iconst 1, 1) := dk4 (k := 14) bX1_isShaded_0 rfl
theorem dX1_isShaded_15 : decode cX1_isShaded 15 = .ok (.goto 23, 3) := dk167 (k := 15) bX1_isShaded_0 rfl (by decide)
theorem dX1_isShaded_18 : decode cX1_isShaded 18 = .ok (.iconst 0, 1) := dk3 (k := 18) bX1_isShaded_0 rfl
theorem dX1_isShaded_19 : decode cX1_isShaded 19 = .ok (.goto 19, 3) := dk167 (k := 19) bX1_isShaded_0 rfl (by decide)
theorem dX1_isShaded_22 : decode cX1_isShaded 22 = .ok (.iload_n 2, 1) := dk28 (k := 22) bX1_isShaded_0 rfl
theorem dX1_isShaded_23 : decode cX1_isShaded 23 = .ok (.ineg, 1) := dk116 (k := 23) bX1_isShaded_0 rfl
theorem bX1_isShaded_24 : bL cX1_isShaded 24 [42, 27, 4, 182, 0, 37, 163, 0, 7, 4, 167, 0, 4, 3, 172] := bL_of (by decide +kernel)
theorem dX1_isShaded_24 : decode cX1_isShaded 24 = .ok (.aload_n 0, 1) := dk42 (k := 0) bX1_isShaded_24 rfl
theorem dX1_isShaded_25 : decode cX1_isShaded 25 = .ok (.iload_n 1, 1) := dk27 (k := 1) bX1_isShaded_24 rfl
theorem dX1_isShaded_26 : decode cX1_isShaded 26 = .ok (.iconst 1, 1) := dk4 (k := 2) bX1_isShaded_24 rfl
theorem dX1_isShaded_27 : decode cX1_isShaded 27 = .ok (.invokevirtual 37, 3) := dk182 (k := 3) bX1_isShaded_24 rfl rfl
theorem dX1_isShaded_30 : decode cX1_isShaded 30 = .ok (.if_icmp .gt 7, 3) := dk163 (k := 6) bX1_isShaded_24 rfl (by decide)
theorem dX1_isShaded_33 : decode cX1_isShaded 33 = .ok (.iconst 1, 1) := dk4 (k := 9) bX1_isShaded_24 rfl
theorem dX1_isShaded_34 : decode cX1_isShaded 34 = .ok (.goto 4, 3) := dk167 (k := 10) bX1_isShaded_24 rfl (by decide)
theorem dX1_isShaded_37 : decode cX1_isShaded 37 = .ok (.iconst 0, 1) := dk3 (k := 13) bX1_isShaded_24 rfl
theorem dX1_isShaded_38 : decode cX1_isShaded 38 = .ok (.ireturn, 1) := dk172 (k := 14) bX1_isShaded_24 rfl
theorem bX1_lightOf_0 : bL cX1_lightOf 0 [16, 18, 42, 27, 2, 182, 0, 37, 100, 42, 27, 4, 182, 0, 37, 100, 172] := bL_of (by decide +kernel)
theorem dX1_lightOf_0 : decode cX1_lightOf 0 = .ok (.bipush 18, 2) := dk16 (k := 0) bX1_lightOf_0 rfl (by decide)
theorem dX1_lightOf_2 : decode cX1_lightOf 2 = .ok (.aload_n 0, 1) := dk42 (k := 2) bX1_lightOf_0 rfl
theorem dX1_lightOf_3 : decode cX1_lightOf 3 = .ok (.iload_n 1, 1) := dk27 (k := 3) bX1_lightOf_0 rfl
theorem dX1_lightOf_4 : decode cX1_lightOf 4 = .ok (.iconst (-1), 1) := dk2 (k := 4) bX1_lightOf_0 rfl
theorem dX1_lightOf_5 : decode cX1_lightOf 5 = .ok (.invokevirtual 37, 3) := dk182 (k := 5) bX1_lightOf_0 rfl rfl
theorem dX1_lightOf_8 : decode cX1_lightOf 8 = .ok (.isub, 1) := dk100 (k := 8) bX1_lightOf_0 rfl
theorem dX1_lightOf_9 : decode cX1_lightOf 9 = .ok (.aload_n 0, 1) := dk42 (k := 9) bX1_lightOf_0 rfl
theorem dX1_lightOf_10 : decode cX1_lightOf 10 = .ok (.iload_n 1, 1) := dk27 (k := 10) bX1_lightOf_0 rfl
theorem dX1_lightOf_11 : decode cX1_lightOf 11 = .ok (.iconst 1, 1) := dk4 (k := 11) bX1_lightOf_0 rfl
theorem dX1_lightOf_12 : decode cX1_lightOf 12 = .ok (.invokevirtual 37, 3) := dk182 (k := 12) bX1_lightOf_0 rfl rfl
theorem dX1_lightOf_15 : decode cX1_lightOf 15 = .ok (.isub, 1) := dk100 (k := 15) bX1_lightOf_0 rfl
theorem dX1_lightOf_16 : decode cX1_lightOf 16 = .ok (.ireturn, 1) := dk172 (k := 16) bX1_lightOf_0 rfl
theorem bX1_shadedCells_0 : bL cX1_shadedCells 0 [3, 61, 3, 62, 29, 42, 180, 0, 15, 162, 0, 24, 42, 29, 27, 182, 0, 41, 153, 0, 9, 28, 4, 29] := bL_of (by decide +kernel)
theorem dX1_shadedCells_0 : decode cX1_shadedCells 0 = .ok (.iconst 0, 1) := dk3 (k := 0) bX1_shadedCells_0 rfl
theorem dX1_shadedCells_1 : decode cX1_shadedCells 1 = .ok (.istore_n 2, 1) := dk61 (k := 1) bX1_shadedCells_0 rfl
theorem dX1_shadedCells_2 : decode cX1_shadedCells 2 = .ok (.iconst 0, 1) := dk3 (k := 2) bX1_shadedCells_0 rfl
theorem dX1_shadedCells_3 : decode cX1_shadedCells 3 = .ok (.istore_n 3, 1) := dk62 (k := 3) bX1_shadedCells_0 rfl
theorem dX1_shadedCells_4 : decode cX1_shadedCells 4 = .ok (.iload_n 3, 1) := dk29 (k := 4) bX1_shadedCells_0 rfl
theorem dX1_shadedCells_5 : decode cX1_shadedCells 5 = .ok (.aload_n 0, 1) := dk42 (k := 5) bX1_shadedCells_0 rfl
theorem dX1_shadedCells_6 : decode cX1_shadedCells 6 = .ok (.getfield 15, 3) := dk180 (k := 6) bX1_shadedCells_0 rfl rfl
theorem dX1_shadedCells_9 : decode cX1_shadedCells 9 = .ok (.if_icmp .ge 24, 3) := dk162 (k := 9) bX1_shadedCells_0 rfl (by decide)
theorem dX1_shadedCells_12 : decode cX1_shadedCells 12 = .ok (.aload_n 0, 1) := dk42 (k := 12) bX1_shadedCells_0 rfl
theorem dX1_shadedCells_13 : decode cX1_shadedCells 13 = .ok (.iload_n 3, 1) := dk29 (k := 13) bX1_shadedCells_0 rfl
theorem dX1_shadedCells_14 : decode cX1_shadedCells 14 = .ok (.iload_n 1, 1) := dk27 (k := 14) bX1_shadedCells_0 rfl
theorem dX1_shadedCells_15 : decode cX1_shadedCells 15 = .ok (.invokevirtual 41, 3) := dk182 (k := 15) bX1_shadedCells_0 rfl rfl
theorem dX1_shadedCells_18 : decode cX1_shadedCells 18 = .ok (.ifCond .eq 9, 3) := dk153 (k := 18) bX1_shadedCells_0 rfl (by decide)
theorem dX1_shadedCells_21 : decode cX1_shadedCells 21 = .ok (.iload_n 2, 1) := dk28 (k := 21) bX1_shadedCells_0 rfl
theorem dX1_shadedCells_22 : decode cX1_shadedCells 22 = .ok (.iconst 1, 1) := dk4 (k := 22) bX1_shadedCells_0 rfl
theorem dX1_shadedCells_23 : decode cX1_shadedCells 23 = .ok (.iload_n 3, 1) := dk29 (k := 23) bX1_shadedCells_0 rfl
theorem bX1_shadedCells_24 : bL cX1_shadedCells 24 [120, 128, 61, 132, 3, 1, 167, 255, 230, 28, 172] := bL_of (by decide +kernel)
theorem dX1_shadedCells_24 : decode cX1_shadedCells 24 = .ok (.ishl, 1) := dk120 (k := 0) bX1_shadedCells_24 rfl
theorem dX1_shadedCells_25 : decode cX1_shadedCells 25 = .ok (.ior, 1) := dk128 (k := 1) bX1_shadedCells_24 rfl
theorem dX1_shadedCells_26 : decode cX1_shadedCells 26 = .ok (.istore_n 2, 1) := dk61 (k := 2) bX1_shadedCells_24 rfl
theorem dX1_shadedCells_27 : decode cX1_shadedCells 27 = .ok (.iinc 3 1, 3) := dk132 (k := 3) bX1_shadedCells_24 rfl rfl (by decide)
theorem dX1_shadedCells_30 : decode cX1_shadedCells 30 = .ok (.goto (-26), 3) := dk167 (k := 6) bX1_shadedCells_24 rfl (by decide)
theorem dX1_shadedCells_33 : decode cX1_shadedCells 33 = .ok (.iload_n 2, 1) := dk28 (k := 9) bX1_shadedCells_24 rfl
theorem dX1_shadedCells_34 : decode cX1_shadedCells 34 = .ok (.ireturn, 1) := dk172 (k := 10) bX1_shadedCells_24 rfl
theorem bX1_snowyCells_0 : bL cX1_snowyCells 0 [3, 60, 3, 61, 28, 42, 180, 0, 15, 162, 0, 27, 42, 28, 182, 0, 33, 42, 180, 0, 19, 161, 0, 9] := bL_of (by decide +kernel)
theorem dX1_snowyCells_0 : decode cX1_snowyCells 0 = .ok (.iconst 0, 1) := dk3 (k := 0) bX1_snowyCells_0 rfl
theorem dX1_snowyCells_1 : decode cX1_snowyCells 1 = .ok (.istore_n 1, 1) := dk60 (k := 1) bX1_snowyCells_0 rfl
theorem dX1_snowyCells_2 : decode cX1_snowyCells 2 = .ok (.iconst 0, 1) := dk3 (k := 2) bX1_snowyCells_0 rfl
theorem dX1_snowyCells_3 : decode cX1_snowyCells 3 = .ok (.istore_n 2, 1) := dk61 (k := 3) bX1_snowyCells_0 rfl
theorem dX1_snowyCells_4 : decode cX1_snowyCells 4 = .ok (.iload_n 2, 1) := dk28 (k := 4) bX1_snowyCells_0 rfl
theorem dX1_snowyCells_5 : decode cX1_snowyCells 5 = .ok (.aload_n 0, 1) := dk42 (k := 5) bX1_snowyCells_0 rfl
theorem dX1_snowyCells_6 : decode cX1_snowyCells 6 = .ok (.getfield 15, 3) := dk180 (k := 6) bX1_snowyCells_0 rfl rfl
theorem dX1_snowyCells_9 : decode cX1_snowyCells 9 = .ok (.if_icmp .ge 27, 3) := dk162 (k := 9) bX1_snowyCells_0 rfl (by decide)
theorem dX1_snowyCells_12 : decode cX1_snowyCells 12 = .ok (.aload_n 0, 1) := dk42 (k := 12) bX1_snowyCells_0 rfl
theorem dX1_snowyCells_13 : decode cX1_snowyCells 13 = .ok (.iload_n 2, 1) := dk28 (k := 13) bX1_snowyCells_0 rfl
theorem dX1_snowyCells_14 : decode cX1_snowyCells 14 = .ok (.invokevirtual 33, 3) := dk182 (k := 14) bX1_snowyCells_0 rfl rfl
theorem dX1_snowyCells_17 : decode cX1_snowyCells 17 = .ok (.aload_n 0, 1) := dk42 (k := 17) bX1_snowyCells_0 rfl
theorem dX1_snowyCells_18 : decode cX1_snowyCells 18 = .ok (.getfield 19, 3) := dk180 (k := 18) bX1_snowyCells_0 rfl rfl
theorem dX1_snowyCells_21 : decode cX1_snowyCells 21 = .ok (.if_icmp .lt 9, 3) := dk161 (k := 21) bX1_snowyCells_0 rfl (by decide)
theorem bX1_snowyCells_24 : bL cX1_snowyCells 24 [27, 4, 28, 120, 128, 60, 132, 2, 1, 167, 255, 227, 27, 172] := bL_of (by decide +kernel)
theorem dX1_snowyCells_24 : decode cX1_snowyCells 24 = .ok (.iload_n 1, 1) := dk27 (k := 0) bX1_snowyCells_24 rfl
theorem dX1_snowyCells_25 : decode cX1_snowyCells 25 = .ok (.iconst 1, 1) := dk4 (k := 1) bX1_snowyCells_24 rfl
theorem dX1_snowyCells_26 : decode cX1_snowyCells 26 = .ok (.iload_n 2, 1) := dk28 (k := 2) bX1_snowyCells_24 rfl
theorem dX1_snowyCells_27 : decode cX1_snowyCells 27 = .ok (.ishl, 1) := dk120 (k := 3) bX1_snowyCells_24 rfl
theorem dX1_snowyCells_28 : decode cX1_snowyCells 28 = .ok (.ior, 1) := dk128 (k := 4) bX1_snowyCells_24 rfl
theorem dX1_snowyCells_29 : decode cX1_snowyCells 29 = .ok (.istore_n 1, 1) := dk60 (k := 5) bX1_snowyCells_24 rfl
theorem dX1_snowyCells_30 : decode cX1_snowyCells 30 = .ok (.iinc 2 1, 3) := dk132 (k := 6) bX1_snowyCells_24 rfl rfl (by decide)
theorem dX1_snowyCells_33 : decode cX1_snowyCells 33 = .ok (.goto (-29), 3) := dk167 (k := 9) bX1_snowyCells_24 rfl (by decide)
theorem dX1_snowyCells_36 : decode cX1_snowyCells 36 = .ok (.iload_n 1, 1) := dk27 (k := 12) bX1_snowyCells_24 rfl
theorem dX1_snowyCells_37 : decode cX1_snowyCells 37 = .ok (.ireturn, 1) := dk172 (k := 13) bX1_snowyCells_24 rfl
theorem bX1_lower_0 : bL cX1_lower 0 [42, 182, 0, 45, 60, 42, 27, 182, 0, 33, 154, 0, 5, 3, 172, 42, 27, 2, 182, 0, 49, 4, 172] := bL_of (by decide +kernel)
theorem dX1_lower_0 : decode cX1_lower 0 = .ok (.aload_n 0, 1) := dk42 (k := 0) bX1_lower_0 rfl
theorem dX1_lower_1 : decode cX1_lower 1 = .ok (.invokevirtual 45, 3) := dk182 (k := 1) bX1_lower_0 rfl rfl
theorem dX1_lower_4 : decode cX1_lower 4 = .ok (.istore_n 1, 1) := dk60 (k := 4) bX1_lower_0 rfl
theorem dX1_lower_5 : decode cX1_lower 5 = .ok (.aload_n 0, 1) := dk42 (k := 5) bX1_lower_0 rfl
theorem dX1_lower_6 : decode cX1_lower 6 = .ok (.iload_n 1, 1) := dk27 (k := 6) bX1_lower_0 rfl
theorem dX1_lower_7 : decode cX1_lower 7 = .ok (.invokevirtual 33, 3) := dk182 (k := 7) bX1_lower_0 rfl rfl
theorem dX1_lower_10 : decode cX1_lower 10 = .ok (.ifCond .ne 5, 3) := dk154 (k := 10) bX1_lower_0 rfl (by decide)
theorem dX1_lower_13 : decode cX1_lower 13 = .ok (.iconst 0, 1) := dk3 (k := 13) bX1_lower_0 rfl
theorem dX1_lower_14 : decode cX1_lower 14 = .ok (.ireturn, 1) := dk172 (k := 14) bX1_lower_0 rfl
theorem dX1_lower_15 : decode cX1_lower 15 = .ok (.aload_n 0, 1) := dk42 (k := 15) bX1_lower_0 rfl
theorem dX1_lower_16 : decode cX1_lower 16 = .ok (.iload_n 1, 1) := dk27 (k := 16) bX1_lower_0 rfl
theorem dX1_lower_17 : decode cX1_lower 17 = .ok (.iconst (-1), 1) := dk2 (k := 17) bX1_lower_0 rfl
theorem dX1_lower_18 : decode cX1_lower 18 = .ok (.invokevirtual 49, 3) := dk182 (k := 18) bX1_lower_0 rfl rfl
theorem dX1_lower_21 : decode cX1_lower 21 = .ok (.iconst 1, 1) := dk4 (k := 21) bX1_lower_0 rfl
theorem dX1_lower_22 : decode cX1_lower 22 = .ok (.ireturn, 1) := dk172 (k := 22) bX1_lower_0 rfl
theorem bX1_wayDown_0 : bL cX1_wayDown 0 [42, 27, 182, 0, 33, 28, 100, 62, 42, 27, 4, 100, 182, 0, 29, 153, 0, 18, 42, 27, 4, 100, 182, 0, 33] := bL_of (by decide +kernel)
theorem dX1_wayDown_0 : decode cX1_wayDown 0 = .ok (.aload_n 0, 1) := dk42 (k := 0) bX1_wayDown_0 rfl
theorem dX1_wayDown_1 : decode cX1_wayDown 1 = .ok (.iload_n 1, 1) := dk27 (k := 1) bX1_wayDown_0 rfl
theorem dX1_wayDown_2 : decode cX1_wayDown 2 = .ok (.invokevirtual 33, 3) := dk182 (k := 2) bX1_wayDown_0 rfl rfl
theorem dX1_wayDown_5 : decode cX1_wayDown 5 = .ok (.iload_n 2, 1) := dk28 (k := 5) bX1_wayDown_0 rfl
theorem dX1_wayDown_6 : decode cX1_wayDown 6 = .ok (.isub, 1) := dk100 (k := 6) bX1_wayDown_0 rfl
theorem dX1_wayDown_7 : decode cX1_wayDown 7 = .ok (.istore_n 3, 1) := dk62 (k := 7) bX1_wayDown_0 rfl
theorem dX1_wayDown_8 : decode cX1_wayDown 8 = .ok (.aload_n 0, 1) := dk42 (k := 8) bX1_wayDown_0 rfl
theorem dX1_wayDown_9 : decode cX1_wayDown 9 = .ok (.iload_n 1, 1) := dk27 (k := 9) bX1_wayDown_0 rfl
theorem dX1_wayDown_10 : decode cX1_wayDown 10 = .ok (.iconst 1, 1) := dk4 (k := 10) bX1_wayDown_0 rfl
theorem dX1_wayDown_11 : decode cX1_wayDown 11 = .ok (.isub, 1) := dk100 (k := 11) bX1_wayDown_0 rfl
theorem dX1_wayDown_12 : decode cX1_wayDown 12 = .ok (.invokevirtual 29, 3) := dk182 (k := 12) bX1_wayDown_0 rfl rfl
theorem dX1_wayDown_15 : decode cX1_wayDown 15 = .ok (.ifCond .eq 18, 3) := dk153 (k := 15) bX1_wayDown_0 rfl (by decide)
theorem dX1_wayDown_18 : decode cX1_wayDown 18 = .ok (.aload_n 0, 1) := dk42 (k := 18) bX1_wayDown_0 rfl
theorem dX1_wayDown_19 : decode cX1_wayDown 19 = .ok (.iload_n 1, 1) := dk27 (k := 19) bX1_wayDown_0 rfl
theorem dX1_wayDown_20 : decode cX1_wayDown 20 = .ok (.iconst 1, 1) := dk4 (k := 20) bX1_wayDown_0 rfl
theorem dX1_wayDown_21 : decode cX1_wayDown 21 = .ok (.isub, 1) := dk100 (k := 21) bX1_wayDown_0 rfl
theorem dX1_wayDown_22 : decode cX1_wayDown 22 = .ok (.invokevirtual 33, 3) := dk182 (k := 22) bX1_wayDown_0 rfl rfl
theorem bX1_wayDown_25 : bL cX1_wayDown 25 [29, 162, 0, 7, 4, 167, 0, 4, 3, 54, 4, 42, 27, 4, 96, 182, 0, 29, 153, 0, 18, 42, 27, 4] := bL_of (by decide +kernel)
theorem dX1_wayDown_25 : decode cX1_wayDown 25 = .ok (.iload_n 3, 1) := dk29 (k := 0) bX1_wayDown_25 rfl
theorem dX1_wayDown_26 : decode cX1_wayDown 26 = .ok (.if_icmp .ge 7, 3) := dk162 (k := 1) bX1_wayDown_25 rfl (by decide)
theorem dX1_wayDown_29 : decode cX1_wayDown 29 = .ok (.iconst 1, 1) := dk4 (k := 4) bX1_wayDown_25 rfl
theorem dX1_wayDown_30 : decode cX1_wayDown 30 = .ok (.goto 4, 3) := dk167 (k := 5) bX1_wayDown_25 rfl (by decide)
theorem dX1_wayDown_33 : decode cX1_wayDown 33 = .ok (.iconst 0, 1) := dk3 (k := 8) bX1_wayDown_25 rfl
theorem dX1_wayDown_34 : decode cX1_wayDown 34 = .ok (.istore 4, 2) := dk54 (k := 9) bX1_wayDown_25 rfl rfl
theorem dX1_wayDown_36 : decode cX1_wayDown 36 = .ok (.aload_n 0, 1) := dk42 (k := 11) bX1_wayDown_25 rfl
theorem dX1_wayDown_37 : decode cX1_wayDown 37 = .ok (.iload_n 1, 1) := dk27 (k := 12) bX1_wayDown_25 rfl
theorem dX1_wayDown_38 : decode cX1_wayDown 38 = .ok (.iconst 1, 1) := dk4 (k := 13) bX1_wayDown_25 rfl
theorem dX1_wayDown_39 : decode cX1_wayDown 39 = .ok (.iadd, 1) := dk96 (k := 14) bX1_wayDown_25 rfl
theorem dX1_wayDown_40 : decode cX1_wayDown 40 = .ok (.invokevirtual 29, 3) := dk182 (k := 15) bX1_wayDown_25 rfl rfl
theorem dX1_wayDown_43 : decode cX1_wayDown 43 = .ok (.ifCond .eq 18, 3) := dk153 (k := 18) bX1_wayDown_25 rfl (by decide)
theorem dX1_wayDown_46 : decode cX1_wayDown 46 = .ok (.aload_n 0, 1) := dk42 (k := 21) bX1_wayDown_25 rfl
theorem dX1_wayDown_47 : decode cX1_wayDown 47 = .ok (.iload_n 1, 1) := dk27 (k := 22) bX1_wayDown_25 rfl
theorem dX1_wayDown_48 : decode cX1_wayDown 48 = .ok (.iconst 1, 1) := dk4 (k := 23) bX1_wayDown_25 rfl
theorem bX1_wayDown_49 : bL cX1_wayDown 49 [96, 182, 0, 33, 29, 162, 0, 7, 4, 167, 0, 4, 3, 54, 5, 21, 4, 153, 0, 29, 21, 5, 153, 0, 20] := bL_of (by decide +kernel)
theorem dX1_wayDown_49 : decode cX1_wayDown 49 = .ok (.iadd, 1) := dk96 (k := 0) bX1_wayDown_49 rfl
theorem dX1_wayDown_50 : decode cX1_wayDown 50 = .ok (.invokevirtual 33, 3) := dk182 (k := 1) bX1_wayDown_49 rfl rfl
theorem dX1_wayDown_53 : decode cX1_wayDown 53 = .ok (.iload_n 3, 1) := dk29 (k := 4) bX1_wayDown_49 rfl
theorem dX1_wayDown_54 : decode cX1_wayDown 54 = .ok (.if_icmp .ge 7, 3) := dk162 (k := 5) bX1_wayDown_49 rfl (by decide)
theorem dX1_wayDown_57 : decode cX1_wayDown 57 = .ok (.iconst 1, 1) := dk4 (k := 8) bX1_wayDown_49 rfl
theorem dX1_wayDown_58 : decode cX1_wayDown 58 = .ok (.goto 4, 3) := dk167 (k := 9) bX1_wayDown_49 rfl (by decide)
theorem dX1_wayDown_61 : decode cX1_wayDown 61 = .ok (.iconst 0, 1) := dk3 (k := 12) bX1_wayDown_49 rfl
theorem dX1_wayDown_62 : decode cX1_wayDown 62 = .ok (.istore 5, 2) := dk54 (k := 13) bX1_wayDown_49 rfl rfl
theorem dX1_wayDown_64 : decode cX1_wayDown 64 = .ok (.iload 4, 2) := dk21 (k := 15) bX1_wayDown_49 rfl rfl
theorem dX1_wayDown_66 : decode cX1_wayDown 66 = .ok (.ifCond .eq 29, 3) := dk153 (k := 17) bX1_wayDown_49 rfl (by decide)
theorem dX1_wayDown_69 : decode cX1_wayDown 69 = .ok (.iload 5, 2) := dk21 (k := 20) bX1_wayDown_49 rfl rfl
theorem dX1_wayDown_71 : decode cX1_wayDown 71 = .ok (.ifCond .eq 20, 3) := dk153 (k := 22) bX1_wayDown_49 rfl (by decide)
theorem bX1_wayDown_74 : bL cX1_wayDown 74 [42, 27, 4, 100, 182, 0, 33, 42, 27, 4, 96, 182, 0, 33, 163, 0, 7, 27, 4, 100, 172, 21, 5, 153, 0, 9] := bL_of (by decide +kernel)
theorem dX1_wayDown_74 : decode cX1_wayDown 74 = .ok (.aload_n 0, 1) := dk42 (k := 0) bX1_wayDown_74 rfl
theorem dX1_wayDown_75 : decode cX1_wayDown 75 = .ok (.iload_n 1, 1) := dk27 (k := 1) bX1_wayDown_74 rfl
theorem dX1_wayDown_76 : decode cX1_wayDown 76 = .ok (.iconst 1, 1) := dk4 (k := 2) bX1_wayDown_74 rfl
theorem dX1_wayDown_77 : decode cX1_wayDown 77 = .ok (.isub, 1) := dk100 (k := 3) bX1_wayDown_74 rfl
theorem dX1_wayDown_78 : decode cX1_wayDown 78 = .ok (.invokevirtual 33, 3) := dk182 (k := 4) bX1_wayDown_74 rfl rfl
theorem dX1_wayDown_81 : decode cX1_wayDown 81 = .ok (.aload_n 0, 1) := dk42 (k := 7) bX1_wayDown_74 rfl
theorem dX1_wayDown_82 : decode cX1_wayDown 82 = .ok (.iload_n 1, 1) := dk27 (k := 8) bX1_wayDown_74 rfl
theorem dX1_wayDown_83 : decode cX1_wayDown 83 = .ok (.iconst 1, 1) := dk4 (k := 9) bX1_wayDown_74 rfl
theorem dX1_wayDown_84 : decode cX1_wayDown 84 = .ok (.iadd, 1) := dk96 (k := 10) bX1_wayDown_74 rfl
theorem dX1_wayDown_85 : decode cX1_wayDown 85 = .ok (.invokevirtual 33, 3) := dk182 (k := 11) bX1_wayDown_74 rfl rfl
theorem dX1_wayDown_88 : decode cX1_wayDown 88 = .ok (.if_icmp .gt 7, 3) := dk163 (k := 14) bX1_wayDown_74 rfl (by decide)
theorem dX1_wayDown_91 : decode cX1_wayDown 91 = .ok (.iload_n 1, 1) := dk27 (k := 17) bX1_wayDown_74 rfl
theorem dX1_wayDown_92 : decode cX1_wayDown 92 = .ok (.iconst 1, 1) := dk4 (k := 18) bX1_wayDown_74 rfl
theorem dX1_wayDown_93 : decode cX1_wayDown 93 = .ok (.isub, 1) := dk100 (k := 19) bX1_wayDown_74 rfl
theorem dX1_wayDown_94 : decode cX1_wayDown 94 = .ok (.ireturn, 1) := dk172 (k := 20) bX1_wayDown_74 rfl
theorem dX1_wayDown_95 : decode cX1_wayDown 95 = .ok (.iload 5, 2) := dk21 (k := 21) bX1_wayDown_74 rfl rfl
theorem dX1_wayDown_97 : decode cX1_wayDown 97 = .ok (.ifCond .eq 9, 3) := dk153 (k := 23) bX1_wayDown_74 rfl (by decide)
theorem bX1_wayDown_100 : bL cX1_wayDown 100 [27, 4, 96, 167, 0, 4, 2, 172] := bL_of (by decide +kernel)
theorem dX1_wayDown_100 : decode cX1_wayDown 100 = .ok (.iload_n 1, 1) := dk27 (k := 0) bX1_wayDown_100 rfl
theorem dX1_wayDown_101 : decode cX1_wayDown 101 = .ok (.iconst 1, 1) := dk4 (k := 1) bX1_wayDown_100 rfl
theorem dX1_wayDown_102 : decode cX1_wayDown 102 = .ok (.iadd, 1) := dk96 (k := 2) bX1_wayDown_100 rfl
theorem dX1_wayDown_103 : decode cX1_wayDown 103 = .ok (.goto 4, 3) := dk167 (k := 3) bX1_wayDown_100 rfl (by decide)
theorem dX1_wayDown_106 : decode cX1_wayDown 106 = .ok (.iconst (-1), 1) := dk2 (k := 6) bX1_wayDown_100 rfl
theorem dX1_wayDown_107 : decode cX1_wayDown 107 = .ok (.ireturn, 1) := dk172 (k := 7) bX1_wayDown_100 rfl
theorem bX1_descend_0 : bL cX1_descend 0 [27, 62, 3, 54, 4, 21, 4, 16, 10, 162, 0, 28, 42, 29, 28, 182, 0, 53, 54, 5, 21, 5, 2, 160, 0, 5] := bL_of (by decide +kernel)
theorem dX1_descend_0 : decode cX1_descend 0 = .ok (.iload_n 1, 1) := dk27 (k := 0) bX1_descend_0 rfl
theorem dX1_descend_1 : decode cX1_descend 1 = .ok (.istore_n 3, 1) := dk62 (k := 1) bX1_descend_0 rfl
theorem dX1_descend_2 : decode cX1_descend 2 = .ok (.iconst 0, 1) := dk3 (k := 2) bX1_descend_0 rfl
theorem dX1_descend_3 : decode cX1_descend 3 = .ok (.istore 4, 2) := dk54 (k := 3) bX1_descend_0 rfl rfl
theorem dX1_descend_5 : decode cX1_descend 5 = .ok (.iload 4, 2) := dk21 (k := 5) bX1_descend_0 rfl rfl
theorem dX1_descend_7 : decode cX1_descend 7 = .ok (.bipush 10, 2) := dk16 (k := 7) bX1_descend_0 rfl (by decide)
theorem dX1_descend_9 : decode cX1_descend 9 = .ok (.if_icmp .ge 28, 3) := dk162 (k := 9) bX1_descend_0 rfl (by decide)
theorem dX1_descend_12 : decode cX1_descend 12 = .ok (.aload_n 0, 1) := dk42 (k := 12) bX1_descend_0 rfl
theorem dX1_descend_13 : decode cX1_descend 13 = .ok (.iload_n 3, 1) := dk29 (k := 13) bX1_descend_0 rfl
theorem dX1_descend_14 : decode cX1_descend 14 = .ok (.iload_n 2, 1) := dk28 (k := 14) bX1_descend_0 rfl
theorem dX1_descend_15 : decode cX1_descend 15 = .ok (.invokevirtual 53, 3) := dk182 (k := 15) bX1_descend_0 rfl rfl
theorem dX1_descend_18 : decode cX1_descend 18 = .ok (.istore 5, 2) := dk54 (k := 18) bX1_descend_0 rfl rfl
theorem dX1_descend_20 : decode cX1_descend 20 = .ok (.iload 5, 2) := dk21 (k := 20) bX1_descend_0 rfl rfl
theorem dX1_descend_22 : decode cX1_descend 22 = .ok (.iconst (-1), 1) := dk2 (k := 22) bX1_descend_0 rfl
theorem dX1_descend_23 : decode cX1_descend 23 = .ok (.if_icmp .ne 5, 3) := dk160 (k := 23) bX1_descend_0 rfl (by decide)
theorem bX1_descend_26 : bL cX1_descend 26 [29, 172, 21, 5, 62, 132, 4, 1, 167, 255, 227, 29, 172] := bL_of (by decide +kernel)
theorem dX1_descend_26 : decode cX1_descend 26 = .ok (.iload_n 3, 1) := dk29 (k := 0) bX1_descend_26 rfl
theorem dX1_descend_27 : decode cX1_descend 27 = .ok (.ireturn, 1) := dk172 (k := 1) bX1_descend_26 rfl
theorem dX1_descend_28 : decode cX1_descend 28 = .ok (.iload 5, 2) := dk21 (k := 2) bX1_descend_26 rfl rfl
theorem dX1_descend_30 : decode cX1_descend 30 = .ok (.istore_n 3, 1) := dk62 (k := 4) bX1_descend_26 rfl
theorem dX1_descend_31 : decode cX1_descend 31 = .ok (.iinc 4 1, 3) := dk132 (k := 5) bX1_descend_26 rfl rfl (by decide)
theorem dX1_descend_34 : decode cX1_descend 34 = .ok (.goto (-29), 3) := dk167 (k := 8) bX1_descend_26 rfl (by decide)
theorem dX1_descend_37 : decode cX1_descend 37 = .ok (.iload_n 3, 1) := dk29 (k := 11) bX1_descend_26 rfl
theorem dX1_descend_38 : decode cX1_descend 38 = .ok (.ireturn, 1) := dk172 (k := 12) bX1_descend_26 rfl
theorem bX1_waterEnd_0 : bL cX1_waterEnd 0 [42, 27, 3, 182, 0, 56, 172] := bL_of (by decide +kernel)
theorem dX1_waterEnd_0 : decode cX1_waterEnd 0 = .ok (.aload_n 0, 1) := dk42 (k := 0) bX1_waterEnd_0 rfl
theorem dX1_waterEnd_1 : decode cX1_waterEnd 1 = .ok (.iload_n 1, 1) := dk27 (k := 1) bX1_waterEnd_0 rfl
theorem dX1_waterEnd_2 : decode cX1_waterEnd 2 = .ok (.iconst 0, 1) := dk3 (k := 2) bX1_waterEnd_0 rfl
theorem dX1_waterEnd_3 : decode cX1_waterEnd 3 = .ok (.invokevirtual 56, 3) := dk182 (k := 3) bX1_waterEnd_0 rfl rfl
theorem dX1_waterEnd_6 : decode cX1_waterEnd 6 = .ok (.ireturn, 1) := dk172 (k := 6) bX1_waterEnd_0 rfl
theorem bX1_stayOf_0 : bL cX1_stayOf 0 [42, 27, 42, 180, 0, 22, 4, 100, 182, 0, 56, 61, 42, 28, 182, 0, 33, 16, 99, 161, 0, 7, 2, 167, 0, 4] := bL_of (by decide +kernel)
theorem dX1_stayOf_0 : decode cX1_stayOf 0 = .ok (.aload_n 0, 1) := dk42 (k := 0) bX1_stayOf_0 rfl
theorem dX1_stayOf_1 : decode cX1_stayOf 1 = .ok (.iload_n 1, 1) := dk27 (k := 1) bX1_stayOf_0 rfl
theorem dX1_stayOf_2 : decode cX1_stayOf 2 = .ok (.aload_n 0, 1) := dk42 (k := 2) bX1_stayOf_0 rfl
theorem dX1_stayOf_3 : decode cX1_stayOf 3 = .ok (.getfield 22, 3) := dk180 (k := 3) bX1_stayOf_0 rfl rfl
theorem dX1_stayOf_6 : decode cX1_stayOf 6 = .ok (.iconst 1, 1) := dk4 (k := 6) bX1_stayOf_0 rfl
theorem dX1_stayOf_7 : decode cX1_stayOf 7 = .ok (.isub, 1) := dk100 (k := 7) bX1_stayOf_0 rfl
theorem dX1_stayOf_8 : decode cX1_stayOf 8 = .ok (.invokevirtual 56, 3) := dk182 (k := 8) bX1_stayOf_0 rfl rfl
theorem dX1_stayOf_11 : decode cX1_stayOf 11 = .ok (.istore_n 2, 1) := dk61 (k := 11) bX1_stayOf_0 rfl
theorem dX1_stayOf_12 : decode cX1_stayOf 12 = .ok (.aload_n 0, 1) := dk42 (k := 12) bX1_stayOf_0 rfl
theorem dX1_stayOf_13 : decode cX1_stayOf 13 = .ok (.iload_n 2, 1) := dk28 (k := 13) bX1_stayOf_0 rfl
theorem dX1_stayOf_14 : decode cX1_stayOf 14 = .ok (.invokevirtual 33, 3) := dk182 (k := 14) bX1_stayOf_0 rfl rfl
theorem dX1_stayOf_17 : decode cX1_stayOf 17 = .ok (.bipush 99, 2) := dk16 (k := 17) bX1_stayOf_0 rfl (by decide)
theorem dX1_stayOf_19 : decode cX1_stayOf 19 = .ok (.if_icmp .lt 7, 3) := dk161 (k := 19) bX1_stayOf_0 rfl (by decide)
theorem dX1_stayOf_22 : decode cX1_stayOf 22 = .ok (.iconst (-1), 1) := dk2 (k := 22) bX1_stayOf_0 rfl
theorem dX1_stayOf_23 : decode cX1_stayOf 23 = .ok (.goto 4, 3) := dk167 (k := 23) bX1_stayOf_0 rfl (by decide)
theorem bX1_stayOf_26 : bL cX1_stayOf 26 [28, 172] := bL_of (by decide +kernel)
theorem dX1_stayOf_26 : decode cX1_stayOf 26 = .ok (.iload_n 2, 1) := dk28 (k := 0) bX1_stayOf_26 rfl
theorem dX1_stayOf_27 : decode cX1_stayOf 27 = .ok (.ireturn, 1) := dk172 (k := 1) bX1_stayOf_26 rfl
theorem bX1_drainedTo_0 : bL cX1_drainedTo 0 [3, 61, 3, 62, 29, 42, 180, 0, 15, 162, 0, 24, 42, 29, 182, 0, 59, 27, 160, 0, 9, 28, 4, 29] := bL_of (by decide +kernel)
theorem dX1_drainedTo_0 : decode cX1_drainedTo 0 = .ok (.iconst 0, 1) := dk3 (k := 0) bX1_drainedTo_0 rfl
theorem dX1_drainedTo_1 : decode cX1_drainedTo 1 = .ok (.istore_n 2, 1) := dk61 (k := 1) bX1_drainedTo_0 rfl
theorem dX1_drainedTo_2 : decode cX1_drainedTo 2 = .ok (.iconst 0, 1) := dk3 (k := 2) bX1_drainedTo_0 rfl
theorem dX1_drainedTo_3 : decode cX1_drainedTo 3 = .ok (.istore_n 3, 1) := dk62 (k := 3) bX1_drainedTo_0 rfl
theorem dX1_drainedTo_4 : decode cX1_drainedTo 4 = .ok (.iload_n 3, 1) := dk29 (k := 4) bX1_drainedTo_0 rfl
theorem dX1_drainedTo_5 : decode cX1_drainedTo 5 = .ok (.aload_n 0, 1) := dk42 (k := 5) bX1_drainedTo_0 rfl
theorem dX1_drainedTo_6 : decode cX1_drainedTo 6 = .ok (.getfield 15, 3) := dk180 (k := 6) bX1_drainedTo_0 rfl rfl
theorem dX1_drainedTo_9 : decode cX1_drainedTo 9 = .ok (.if_icmp .ge 24, 3) := dk162 (k := 9) bX1_drainedTo_0 rfl (by decide)
theorem dX1_drainedTo_12 : decode cX1_drainedTo 12 = .ok (.aload_n 0, 1) := dk42 (k := 12) bX1_drainedTo_0 rfl
theorem dX1_drainedTo_13 : decode cX1_drainedTo 13 = .ok (.iload_n 3, 1) := dk29 (k := 13) bX1_drainedTo_0 rfl
theorem dX1_drainedTo_14 : decode cX1_drainedTo 14 = .ok (.invokevirtual 59, 3) := dk182 (k := 14) bX1_drainedTo_0 rfl rfl
theorem dX1_drainedTo_17 : decode cX1_drainedTo 17 = .ok (.iload_n 1, 1) := dk27 (k := 17) bX1_drainedTo_0 rfl
theorem dX1_drainedTo_18 : decode cX1_drainedTo 18 = .ok (.if_icmp .ne 9, 3) := dk160 (k := 18) bX1_drainedTo_0 rfl (by decide)
theorem dX1_drainedTo_21 : decode cX1_drainedTo 21 = .ok (.iload_n 2, 1) := dk28 (k := 21) bX1_drainedTo_0 rfl
theorem dX1_drainedTo_22 : decode cX1_drainedTo 22 = .ok (.iconst 1, 1) := dk4 (k := 22) bX1_drainedTo_0 rfl
theorem dX1_drainedTo_23 : decode cX1_drainedTo 23 = .ok (.iload_n 3, 1) := dk29 (k := 23) bX1_drainedTo_0 rfl
theorem bX1_drainedTo_24 : bL cX1_drainedTo 24 [120, 128, 61, 132, 3, 1, 167, 255, 230, 28, 172] := bL_of (by decide +kernel)
theorem dX1_drainedTo_24 : decode cX1_drainedTo 24 = .ok (.ishl, 1) := dk120 (k := 0) bX1_drainedTo_24 rfl
theorem dX1_drainedTo_25 : decode cX1_drainedTo 25 = .ok (.ior, 1) := dk128 (k := 1) bX1_drainedTo_24 rfl
theorem dX1_drainedTo_26 : decode cX1_drainedTo 26 = .ok (.istore_n 2, 1) := dk61 (k := 2) bX1_drainedTo_24 rfl
theorem dX1_drainedTo_27 : decode cX1_drainedTo 27 = .ok (.iinc 3 1, 3) := dk132 (k := 3) bX1_drainedTo_24 rfl rfl (by decide)
theorem dX1_drainedTo_30 : decode cX1_drainedTo 30 = .ok (.goto (-26), 3) := dk167 (k := 6) bX1_drainedTo_24 rfl (by decide)
theorem dX1_drainedTo_33 : decode cX1_drainedTo 33 = .ok (.iload_n 2, 1) := dk28 (k := 9) bX1_drainedTo_24 rfl
theorem dX1_drainedTo_34 : decode cX1_drainedTo 34 = .ok (.ireturn, 1) := dk172 (k := 10) bX1_drainedTo_24 rfl
theorem bX1_waterEnds_0 : bL cX1_waterEnds 0 [3, 60, 3, 61, 28, 42, 180, 0, 15, 162, 0, 19, 27, 4, 42, 28, 182, 0, 59, 120, 128, 60, 132, 2, 1] := bL_of (by decide +kernel)
theorem dX1_waterEnds_0 : decode cX1_waterEnds 0 = .ok (.iconst 0, 1) := dk3 (k := 0) bX1_waterEnds_0 rfl
theorem dX1_waterEnds_1 : decode cX1_waterEnds 1 = .ok (.istore_n 1, 1) := dk60 (k := 1) bX1_waterEnds_0 rfl
theorem dX1_waterEnds_2 : decode cX1_waterEnds 2 = .ok (.iconst 0, 1) := dk3 (k := 2) bX1_waterEnds_0 rfl
theorem dX1_waterEnds_3 : decode cX1_waterEnds 3 = .ok (.istore_n 2, 1) := dk61 (k := 3) bX1_waterEnds_0 rfl
theorem dX1_waterEnds_4 : decode cX1_waterEnds 4 = .ok (.iload_n 2, 1) := dk28 (k := 4) bX1_waterEnds_0 rfl
theorem dX1_waterEnds_5 : decode cX1_waterEnds 5 = .ok (.aload_n 0, 1) := dk42 (k := 5) bX1_waterEnds_0 rfl
theorem dX1_waterEnds_6 : decode cX1_waterEnds 6 = .ok (.getfield 15, 3) := dk180 (k := 6) bX1_waterEnds_0 rfl rfl
theorem dX1_waterEnds_9 : decode cX1_waterEnds 9 = .ok (.if_icmp .ge 19, 3) := dk162 (k := 9) bX1_waterEnds_0 rfl (by decide)
theorem dX1_waterEnds_12 : decode cX1_waterEnds 12 = .ok (.iload_n 1, 1) := dk27 (k := 12) bX1_waterEnds_0 rfl
theorem dX1_waterEnds_13 : decode cX1_waterEnds 13 = .ok (.iconst 1, 1) := dk4 (k := 13) bX1_waterEnds_0 rfl
theorem dX1_waterEnds_14 : decode cX1_waterEnds 14 = .ok (.aload_n 0, 1) := dk42 (k := 14) bX1_waterEnds_0 rfl
theorem dX1_waterEnds_15 : decode cX1_waterEnds 15 = .ok (.iload_n 2, 1) := dk28 (k := 15) bX1_waterEnds_0 rfl
theorem dX1_waterEnds_16 : decode cX1_waterEnds 16 = .ok (.invokevirtual 59, 3) := dk182 (k := 16) bX1_waterEnds_0 rfl rfl
theorem dX1_waterEnds_19 : decode cX1_waterEnds 19 = .ok (.ishl, 1) := dk120 (k := 19) bX1_waterEnds_0 rfl
theorem dX1_waterEnds_20 : decode cX1_waterEnds 20 = .ok (.ior, 1) := dk128 (k := 20) bX1_waterEnds_0 rfl
theorem dX1_waterEnds_21 : decode cX1_waterEnds 21 = .ok (.istore_n 1, 1) := dk60 (k := 21) bX1_waterEnds_0 rfl
theorem dX1_waterEnds_22 : decode cX1_waterEnds 22 = .ok (.iinc 2 1, 3) := dk132 (k := 22) bX1_waterEnds_0 rfl rfl (by decide)
theorem bX1_waterEnds_25 : bL cX1_waterEnds 25 [167, 255, 235, 27, 172] := bL_of (by decide +kernel)
theorem dX1_waterEnds_25 : decode cX1_waterEnds 25 = .ok (.goto (-21), 3) := dk167 (k := 0) bX1_waterEnds_25 rfl (by decide)
theorem dX1_waterEnds_28 : decode cX1_waterEnds 28 = .ok (.iload_n 1, 1) := dk27 (k := 3) bX1_waterEnds_25 rfl
theorem dX1_waterEnds_29 : decode cX1_waterEnds 29 = .ok (.ireturn, 1) := dk172 (k := 4) bX1_waterEnds_25 rfl
theorem bX1_cliffPairs_0 : bL cX1_cliffPairs 0 [3, 60, 4, 61, 28, 42, 180, 0, 15, 162, 0, 43, 42, 28, 182, 0, 33, 42, 28, 4, 100, 182, 0, 33] := bL_of (by decide +kernel)
theorem dX1_cliffPairs_0 : decode cX1_cliffPairs 0 = .ok (.iconst 0, 1) := dk3 (k := 0) bX1_cliffPairs_0 rfl
theorem dX1_cliffPairs_1 : decode cX1_cliffPairs 1 = .ok (.istore_n 1, 1) := dk60 (k := 1) bX1_cliffPairs_0 rfl
theorem dX1_cliffPairs_2 : decode cX1_cliffPairs 2 = .ok (.iconst 1, 1) := dk4 (k := 2) bX1_cliffPairs_0 rfl
theorem dX1_cliffPairs_3 : decode cX1_cliffPairs 3 = .ok (.istore_n 2, 1) := dk61 (k := 3) bX1_cliffPairs_0 rfl
theorem dX1_cliffPairs_4 : decode cX1_cliffPairs 4 = .ok (.iload_n 2, 1) := dk28 (k := 4) bX1_cliffPairs_0 rfl
theorem dX1_cliffPairs_5 : decode cX1_cliffPairs 5 = .ok (.aload_n 0, 1) := dk42 (k := 5) bX1_cliffPairs_0 rfl
theorem dX1_cliffPairs_6 : decode cX1_cliffPairs 6 = .ok (.getfield 15, 3) := dk180 (k := 6) bX1_cliffPairs_0 rfl rfl
theorem dX1_cliffPairs_9 : decode cX1_cliffPairs 9 = .ok (.if_icmp .ge 43, 3) := dk162 (k := 9) bX1_cliffPairs_0 rfl (by decide)
theorem dX1_cliffPairs_12 : decode cX1_cliffPairs 12 = .ok (.aload_n 0, 1) := dk42 (k := 12) bX1_cliffPairs_0 rfl
theorem dX1_cliffPairs_13 : decode cX1_cliffPairs 13 = .ok (.iload_n 2, 1) := dk28 (k := 13) bX1_cliffPairs_0 rfl
theorem dX1_cliffPairs_14 : decode cX1_cliffPairs 14 = .ok (.invokevirtual 33, 3) := dk182 (k := 14) bX1_cliffPairs_0 rfl rfl
theorem dX1_cliffPairs_17 : decode cX1_cliffPairs 17 = .ok (.aload_n 0, 1) := dk42 (k := 17) bX1_cliffPairs_0 rfl
theorem dX1_cliffPairs_18 : decode cX1_cliffPairs 18 = .ok (.iload_n 2, 1) := dk28 (k := 18) bX1_cliffPairs_0 rfl
theorem dX1_cliffPairs_19 : decode cX1_cliffPairs 19 = .ok (.iconst 1, 1) := dk4 (k := 19) bX1_cliffPairs_0 rfl
theorem dX1_cliffPairs_20 : decode cX1_cliffPairs 20 = .ok (.isub, 1) := dk100 (k := 20) bX1_cliffPairs_0 rfl
theorem dX1_cliffPairs_21 : decode cX1_cliffPairs 21 = .ok (.invokevirtual 33, 3) := dk182 (k := 21) bX1_cliffPairs_0 rfl rfl
theorem bX1_cliffPairs_24 : bL cX1_cliffPairs 24 [100, 62, 29, 42, 180, 0, 22, 163, 0, 12, 29, 116, 42, 180, 0, 22, 164, 0, 6, 132, 1, 1, 132, 2, 1] := bL_of (by decide +kernel)
theorem dX1_cliffPairs_24 : decode cX1_cliffPairs 24 = .ok (.isub, 1) := dk100 (k := 0) bX1_cliffPairs_24 rfl
theorem dX1_cliffPairs_25 : decode cX1_cliffPairs 25 = .ok (.istore_n 3, 1) := dk62 (k := 1) bX1_cliffPairs_24 rfl
theorem dX1_cliffPairs_26 : decode cX1_cliffPairs 26 = .ok (.iload_n 3, 1) := dk29 (k := 2) bX1_cliffPairs_24 rfl
theorem dX1_cliffPairs_27 : decode cX1_cliffPairs 27 = .ok (.aload_n 0, 1) := dk42 (k := 3) bX1_cliffPairs_24 rfl
theorem dX1_cliffPairs_28 : decode cX1_cliffPairs 28 = .ok (.getfield 22, 3) := dk180 (k := 4) bX1_cliffPairs_24 rfl rfl
theorem dX1_cliffPairs_31 : decode cX1_cliffPairs 31 = .ok (.if_icmp .gt 12, 3) := dk163 (k := 7) bX1_cliffPairs_24 rfl (by decide)
theorem dX1_cliffPairs_34 : decode cX1_cliffPairs 34 = .ok (.iload_n 3, 1) := dk29 (k := 10) bX1_cliffPairs_24 rfl
theorem dX1_cliffPairs_35 : decode cX1_cliffPairs 35 = .ok (.ineg, 1) := dk116 (k := 11) bX1_cliffPairs_24 rfl
theorem dX1_cliffPairs_36 : decode cX1_cliffPairs 36 = .ok (.aload_n 0, 1) := dk42 (k := 12) bX1_cliffPairs_24 rfl
theorem dX1_cliffPairs_37 : decode cX1_cliffPairs 37 = .ok (.getfield 22, 3) := dk180 (k := 13) bX1_cliffPairs_24 rfl rfl
theorem dX1_cliffPairs_40 : decode cX1_cliffPairs 40 = .ok (.if_icmp .le 6, 3) := dk164 (k := 16) bX1_cliffPairs_24 rfl (by decide)
theorem dX1_cliffPairs_43 : decode cX1_cliffPairs 43 = .ok (.iinc 1 1, 3) := dk132 (k := 19) bX1_cliffPairs_24 rfl rfl (by decide)
theorem dX1_cliffPairs_46 : decode cX1_cliffPairs 46 = .ok (.iinc 2 1, 3) := dk132 (k := 22) bX1_cliffPairs_24 rfl rfl (by decide)
theorem bX1_cliffPairs_49 : bL cX1_cliffPairs 49 [167, 255, 211, 27, 172] := bL_of (by decide +kernel)
theorem dX1_cliffPairs_49 : decode cX1_cliffPairs 49 = .ok (.goto (-45), 3) := dk167 (k := 0) bX1_cliffPairs_49 rfl (by decide)
theorem dX1_cliffPairs_52 : decode cX1_cliffPairs 52 = .ok (.iload_n 1, 1) := dk27 (k := 3) bX1_cliffPairs_49 rfl
theorem dX1_cliffPairs_53 : decode cX1_cliffPairs 53 = .ok (.ireturn, 1) := dk172 (k := 4) bX1_cliffPairs_49 rfl
theorem bX1_seenFrom_0 : bL cX1_seenFrom 0 [3, 61, 3, 62, 29, 42, 180, 0, 15, 162, 0, 41, 27, 29, 162, 0, 15, 42, 27, 29, 182, 0, 62, 153, 0, 21] := bL_of (by decide +kernel)
theorem dX1_seenFrom_0 : decode cX1_seenFrom 0 = .ok (.iconst 0, 1) := dk3 (k := 0) bX1_seenFrom_0 rfl
theorem dX1_seenFrom_1 : decode cX1_seenFrom 1 = .ok (.istore_n 2, 1) := dk61 (k := 1) bX1_seenFrom_0 rfl
theorem dX1_seenFrom_2 : decode cX1_seenFrom 2 = .ok (.iconst 0, 1) := dk3 (k := 2) bX1_seenFrom_0 rfl
theorem dX1_seenFrom_3 : decode cX1_seenFrom 3 = .ok (.istore_n 3, 1) := dk62 (k := 3) bX1_seenFrom_0 rfl
theorem dX1_seenFrom_4 : decode cX1_seenFrom 4 = .ok (.iload_n 3, 1) := dk29 (k := 4) bX1_seenFrom_0 rfl
theorem dX1_seenFrom_5 : decode cX1_seenFrom 5 = .ok (.aload_n 0, 1) := dk42 (k := 5) bX1_seenFrom_0 rfl
theorem dX1_seenFrom_6 : decode cX1_seenFrom 6 = .ok (.getfield 15, 3) := dk180 (k := 6) bX1_seenFrom_0 rfl rfl
theorem dX1_seenFrom_9 : decode cX1_seenFrom 9 = .ok (.if_icmp .ge 41, 3) := dk162 (k := 9) bX1_seenFrom_0 rfl (by decide)
theorem dX1_seenFrom_12 : decode cX1_seenFrom 12 = .ok (.iload_n 1, 1) := dk27 (k := 12) bX1_seenFrom_0 rfl
theorem dX1_seenFrom_13 : decode cX1_seenFrom 13 = .ok (.iload_n 3, 1) := dk29 (k := 13) bX1_seenFrom_0 rfl
theorem dX1_seenFrom_14 : decode cX1_seenFrom 14 = .ok (.if_icmp .ge 15, 3) := dk162 (k := 14) bX1_seenFrom_0 rfl (by decide)
theorem dX1_seenFrom_17 : decode cX1_seenFrom 17 = .ok (.aload_n 0, 1) := dk42 (k := 17) bX1_seenFrom_0 rfl
theorem dX1_seenFrom_18 : decode cX1_seenFrom 18 = .ok (.iload_n 1, 1) := dk27 (k := 18) bX1_seenFrom_0 rfl
theorem dX1_seenFrom_19 : decode cX1_seenFrom 19 = .ok (.iload_n 3, 1) := dk29 (k := 19) bX1_seenFrom_0 rfl
theorem dX1_seenFrom_20 : decode cX1_seenFrom 20 = .ok (.invokevirtual 62, 3) := dk182 (k := 20) bX1_seenFrom_0 rfl rfl
theorem dX1_seenFrom_23 : decode cX1_seenFrom 23 = .ok (.ifCond .eq 21, 3) := dk153 (k := 23) bX1_seenFrom_0 rfl (by decide)
theorem bX1_seenFrom_26 : bL cX1_seenFrom 26 [167, 0, 12, 42, 29, 27, 182, 0, 62, 153, 0, 9, 28, 4, 29, 120, 128, 61, 132, 3, 1, 167, 255, 213] := bL_of (by decide +kernel)
theorem dX1_seenFrom_26 : decode cX1_seenFrom 26 = .ok (.goto 12, 3) := dk167 (k := 0) bX1_seenFrom_26 rfl (by decide)
theorem dX1_seenFrom_29 : decode cX1_seenFrom 29 = .ok (.aload_n 0, 1) := dk42 (k := 3) bX1_seenFrom_26 rfl
theorem dX1_seenFrom_30 : decode cX1_seenFrom 30 = .ok (.iload_n 3, 1) := dk29 (k := 4) bX1_seenFrom_26 rfl
theorem dX1_seenFrom_31 : decode cX1_seenFrom 31 = .ok (.iload_n 1, 1) := dk27 (k := 5) bX1_seenFrom_26 rfl
theorem dX1_seenFrom_32 : decode cX1_seenFrom 32 = .ok (.invokevirtual 62, 3) := dk182 (k := 6) bX1_seenFrom_26 rfl rfl
theorem dX1_seenFrom_35 : decode cX1_seenFrom 35 = .ok (.ifCond .eq 9, 3) := dk153 (k := 9) bX1_seenFrom_26 rfl (by decide)
theorem dX1_seenFrom_38 : decode cX1_seenFrom 38 = .ok (.iload_n 2, 1) := dk28 (k := 12) bX1_seenFrom_26 rfl
theorem dX1_seenFrom_39 : decode cX1_seenFrom 39 = .ok (.iconst 1, 1) := dk4 (k := 13) bX1_seenFrom_26 rfl
theorem dX1_seenFrom_40 : decode cX1_seenFrom 40 = .ok (.iload_n 3, 1) := dk29 (k := 14) bX1_seenFrom_26 rfl
theorem dX1_seenFrom_41 : decode cX1_seenFrom 41 = .ok (.ishl, 1) := dk120 (k := 15) bX1_seenFrom_26 rfl
theorem dX1_seenFrom_42 : decode cX1_seenFrom 42 = .ok (.ior, 1) := dk128 (k := 16) bX1_seenFrom_26 rfl
theorem dX1_seenFrom_43 : decode cX1_seenFrom 43 = .ok (.istore_n 2, 1) := dk61 (k := 17) bX1_seenFrom_26 rfl
theorem dX1_seenFrom_44 : decode cX1_seenFrom 44 = .ok (.iinc 3 1, 3) := dk132 (k := 18) bX1_seenFrom_26 rfl rfl (by decide)
theorem dX1_seenFrom_47 : decode cX1_seenFrom 47 = .ok (.goto (-43), 3) := dk167 (k := 21) bX1_seenFrom_26 rfl (by decide)
theorem bX1_seenFrom_50 : bL cX1_seenFrom 50 [28, 172] := bL_of (by decide +kernel)
theorem dX1_seenFrom_50 : decode cX1_seenFrom 50 = .ok (.iload_n 2, 1) := dk28 (k := 0) bX1_seenFrom_50 rfl
theorem dX1_seenFrom_51 : decode cX1_seenFrom 51 = .ok (.ireturn, 1) := dk172 (k := 1) bX1_seenFrom_50 rfl
theorem bX1_isOpen_0 : bL cX1_isOpen 0 [42, 28, 182, 0, 33, 42, 27, 182, 0, 33, 100, 62, 27, 4, 96, 54, 4, 21, 4, 28, 162, 0, 36, 42] := bL_of (by decide +kernel)
theorem dX1_isOpen_0 : decode cX1_isOpen 0 = .ok (.aload_n 0, 1) := dk42 (k := 0) bX1_isOpen_0 rfl
theorem dX1_isOpen_1 : decode cX1_isOpen 1 = .ok (.iload_n 2, 1) := dk28 (k := 1) bX1_isOpen_0 rfl
theorem dX1_isOpen_2 : decode cX1_isOpen 2 = .ok (.invokevirtual 33, 3) := dk182 (k := 2) bX1_isOpen_0 rfl rfl
theorem dX1_isOpen_5 : decode cX1_isOpen 5 = .ok (.aload_n 0, 1) := dk42 (k := 5) bX1_isOpen_0 rfl
theorem dX1_isOpen_6 : decode cX1_isOpen 6 = .ok (.iload_n 1, 1) := dk27 (k := 6) bX1_isOpen_0 rfl
theorem dX1_isOpen_7 : decode cX1_isOpen 7 = .ok (.invokevirtual 33, 3) := dk182 (k := 7) bX1_isOpen_0 rfl rfl
theorem dX1_isOpen_10 : decode cX1_isOpen 10 = .ok (.isub, 1) := dk100 (k := 10) bX1_isOpen_0 rfl
theorem dX1_isOpen_11 : decode cX1_isOpen 11 = .ok (.istore_n 3, 1) := dk62 (k := 11) bX1_isOpen_0 rfl
theorem dX1_isOpen_12 : decode cX1_isOpen 12 = .ok (.iload_n 1, 1) := dk27 (k := 12) bX1_isOpen_0 rfl
theorem dX1_isOpen_13 : decode cX1_isOpen 13 = .ok (.iconst 1, 1) := dk4 (k := 13) bX1_isOpen_0 rfl
theorem dX1_isOpen_14 : decode cX1_isOpen 14 = .ok (.iadd, 1) := dk96 (k := 14) bX1_isOpen_0 rfl
theorem dX1_isOpen_15 : decode cX1_isOpen 15 = .ok (.istore 4, 2) := dk54 (k := 15) bX1_isOpen_0 rfl rfl
theorem dX1_isOpen_17 : decode cX1_isOpen 17 = .ok (.iload 4, 2) := dk21 (k := 17) bX1_isOpen_0 rfl rfl
theorem dX1_isOpen_19 : decode cX1_isOpen 19 = .ok (.iload_n 2, 1) := dk28 (k := 19) bX1_isOpen_0 rfl
theorem dX1_isOpen_20 : decode cX1_isOpen 20 = .ok (.if_icmp .ge 36, 3) := dk162 (k := 20) bX1_isOpen_0 rfl (by decide)
theorem dX1_isOpen_23 : decode cX1_isOpen 23 = .ok (.aload_n 0, 1) := dk42 (k := 23) bX1_isOpen_0 rfl
theorem bX1_isOpen_24 : bL cX1_isOpen 24 [21, 4, 182, 0, 33, 42, 27, 182, 0, 33, 100, 28, 27, 100, 104, 29, 21, 4, 27, 100, 104, 164, 0, 5] := bL_of (by decide +kernel)
theorem dX1_isOpen_24 : decode cX1_isOpen 24 = .ok (.iload 4, 2) := dk21 (k := 0) bX1_isOpen_24 rfl rfl
theorem dX1_isOpen_26 : decode cX1_isOpen 26 = .ok (.invokevirtual 33, 3) := dk182 (k := 2) bX1_isOpen_24 rfl rfl
theorem dX1_isOpen_29 : decode cX1_isOpen 29 = .ok (.aload_n 0, 1) := dk42 (k := 5) bX1_isOpen_24 rfl
theorem dX1_isOpen_30 : decode cX1_isOpen 30 = .ok (.iload_n 1, 1) := dk27 (k := 6) bX1_isOpen_24 rfl
theorem dX1_isOpen_31 : decode cX1_isOpen 31 = .ok (.invokevirtual 33, 3) := dk182 (k := 7) bX1_isOpen_24 rfl rfl
theorem dX1_isOpen_34 : decode cX1_isOpen 34 = .ok (.isub, 1) := dk100 (k := 10) bX1_isOpen_24 rfl
theorem dX1_isOpen_35 : decode cX1_isOpen 35 = .ok (.iload_n 2, 1) := dk28 (k := 11) bX1_isOpen_24 rfl
theorem dX1_isOpen_36 : decode cX1_isOpen 36 = .ok (.iload_n 1, 1) := dk27 (k := 12) bX1_isOpen_24 rfl
theorem dX1_isOpen_37 : decode cX1_isOpen 37 = .ok (.isub, 1) := dk100 (k := 13) bX1_isOpen_24 rfl
theorem dX1_isOpen_38 : decode cX1_isOpen 38 = .ok (.imul, 1) := dk104 (k := 14) bX1_isOpen_24 rfl
theorem dX1_isOpen_39 : decode cX1_isOpen 39 = .ok (.iload_n 3, 1) := dk29 (k := 15) bX1_isOpen_24 rfl
theorem dX1_isOpen_40 : decode cX1_isOpen 40 = .ok (.iload 4, 2) := dk21 (k := 16) bX1_isOpen_24 rfl rfl
theorem dX1_isOpen_42 : decode cX1_isOpen 42 = .ok (.iload_n 1, 1) := dk27 (k := 18) bX1_isOpen_24 rfl
theorem dX1_isOpen_43 : decode cX1_isOpen 43 = .ok (.isub, 1) := dk100 (k := 19) bX1_isOpen_24 rfl
theorem dX1_isOpen_44 : decode cX1_isOpen 44 = .ok (.imul, 1) := dk104 (k := 20) bX1_isOpen_24 rfl
theorem dX1_isOpen_45 : decode cX1_isOpen 45 = .ok (.if_icmp .le 5, 3) := dk164 (k := 21) bX1_isOpen_24 rfl (by decide)
theorem bX1_isOpen_48 : bL cX1_isOpen 48 [3, 172, 132, 4, 1, 167, 255, 220, 4, 172] := bL_of (by decide +kernel)
theorem dX1_isOpen_48 : decode cX1_isOpen 48 = .ok (.iconst 0, 1) := dk3 (k := 0) bX1_isOpen_48 rfl
theorem dX1_isOpen_49 : decode cX1_isOpen 49 = .ok (.ireturn, 1) := dk172 (k := 1) bX1_isOpen_48 rfl
theorem dX1_isOpen_50 : decode cX1_isOpen 50 = .ok (.iinc 4 1, 3) := dk132 (k := 2) bX1_isOpen_48 rfl rfl (by decide)
theorem dX1_isOpen_53 : decode cX1_isOpen 53 = .ok (.goto (-36), 3) := dk167 (k := 5) bX1_isOpen_48 rfl (by decide)
theorem dX1_isOpen_56 : decode cX1_isOpen 56 = .ok (.iconst 1, 1) := dk4 (k := 8) bX1_isOpen_48 rfl
theorem dX1_isOpen_57 : decode cX1_isOpen 57 = .ok (.ireturn, 1) := dk172 (k := 9) bX1_isOpen_48 rfl
theorem bX1_bestLookout_0 : bL cX1_bestLookout 0 [2, 60, 3, 61, 3, 62, 29, 42, 180, 0, 15, 162, 0, 30, 42, 29, 182, 0, 65, 184, 0, 68, 54, 4] := bL_of (by decide +kernel)
theorem dX1_bestLookout_0 : decode cX1_bestLookout 0 = .ok (.iconst (-1), 1) := dk2 (k := 0) bX1_bestLookout_0 rfl
theorem dX1_bestLookout_1 : decode cX1_bestLookout 1 = .ok (.istore_n 1, 1) := dk60 (k := 1) bX1_bestLookout_0 rfl
theorem dX1_bestLookout_2 : decode cX1_bestLookout 2 = .ok (.iconst 0, 1) := dk3 (k := 2) bX1_bestLookout_0 rfl
theorem dX1_bestLookout_3 : decode cX1_bestLookout 3 = .ok (.istore_n 2, 1) := dk61 (k := 3) bX1_bestLookout_0 rfl
theorem dX1_bestLookout_4 : decode cX1_bestLookout 4 = .ok (.iconst 0, 1) := dk3 (k := 4) bX1_bestLookout_0 rfl
theorem dX1_bestLookout_5 : decode cX1_bestLookout 5 = .ok (.istore_n 3, 1) := dk62 (k := 5) bX1_bestLookout_0 rfl
theorem dX1_bestLookout_6 : decode cX1_bestLookout 6 = .ok (.iload_n 3, 1) := dk29 (k := 6) bX1_bestLookout_0 rfl
theorem dX1_bestLookout_7 : decode cX1_bestLookout 7 = .ok (.aload_n 0, 1) := dk42 (k := 7) bX1_bestLookout_0 rfl
theorem dX1_bestLookout_8 : decode cX1_bestLookout 8 = .ok (.getfield 15, 3) := dk180 (k := 8) bX1_bestLookout_0 rfl rfl
theorem dX1_bestLookout_11 : decode cX1_bestLookout 11 = .ok (.if_icmp .ge 30, 3) := dk162 (k := 11) bX1_bestLookout_0 rfl (by decide)
theorem dX1_bestLookout_14 : decode cX1_bestLookout 14 = .ok (.aload_n 0, 1) := dk42 (k := 14) bX1_bestLookout_0 rfl
theorem dX1_bestLookout_15 : decode cX1_bestLookout 15 = .ok (.iload_n 3, 1) := dk29 (k := 15) bX1_bestLookout_0 rfl
theorem dX1_bestLookout_16 : decode cX1_bestLookout 16 = .ok (.invokevirtual 65, 3) := dk182 (k := 16) bX1_bestLookout_0 rfl rfl
theorem dX1_bestLookout_19 : decode cX1_bestLookout 19 = .ok (.invokestatic 68, 3) := dk184 (k := 19) bX1_bestLookout_0 rfl rfl
theorem dX1_bestLookout_22 : decode cX1_bestLookout 22 = .ok (.istore 4, 2) := dk54 (k := 22) bX1_bestLookout_0 rfl rfl
theorem bX1_bestLookout_24 : bL cX1_bestLookout 24 [21, 4, 28, 164, 0, 8, 21, 4, 61, 29, 60, 132, 3, 1, 167, 255, 224, 27, 172] := bL_of (by decide +kernel)
theorem dX1_bestLookout_24 : decode cX1_bestLookout 24 = .ok (.iload 4, 2) := dk21 (k := 0) bX1_bestLookout_24 rfl rfl
theorem dX1_bestLookout_26 : decode cX1_bestLookout 26 = .ok (.iload_n 2, 1) := dk28 (k := 2) bX1_bestLookout_24 rfl
theorem dX1_bestLookout_27 : decode cX1_bestLookout 27 = .ok (.if_icmp .le 8, 3) := dk164 (k := 3) bX1_bestLookout_24 rfl (by decide)
theorem dX1_bestLookout_30 : decode cX1_bestLookout 30 = .ok (.iload 4, 2) := dk21 (k := 6) bX1_bestLookout_24 rfl rfl
theorem dX1_bestLookout_32 : decode cX1_bestLookout 32 = .ok (.istore_n 2, 1) := dk61 (k := 8) bX1_bestLookout_24 rfl
theorem dX1_bestLookout_33 : decode cX1_bestLookout 33 = .ok (.iload_n 3, 1) := dk29 (k := 9) bX1_bestLookout_24 rfl
theorem dX1_bestLookout_34 : decode cX1_bestLookout 34 = .ok (.istore_n 1, 1) := dk60 (k := 10) bX1_bestLookout_24 rfl
theorem dX1_bestLookout_35 : decode cX1_bestLookout 35 = .ok (.iinc 3 1, 3) := dk132 (k := 11) bX1_bestLookout_24 rfl rfl (by decide)
theorem dX1_bestLookout_38 : decode cX1_bestLookout 38 = .ok (.goto (-32), 3) := dk167 (k := 14) bX1_bestLookout_24 rfl (by decide)
theorem dX1_bestLookout_41 : decode cX1_bestLookout 41 = .ok (.iload_n 1, 1) := dk27 (k := 17) bX1_bestLookout_24 rfl
theorem dX1_bestLookout_42 : decode cX1_bestLookout 42 = .ok (.ireturn, 1) := dk172 (k := 18) bX1_bestLookout_24 rfl
theorem bX2_init_0 : bL cX2_init 0 [42, 183, 0, 3, 42, 187, 0, 9, 89, 183, 0, 11, 181, 0, 12, 42, 187, 0, 18, 89, 183, 0, 20, 181, 0, 21] := bL_of (by decide +kernel)
theorem dX2_init_0 : decode cX2_init 0 = .ok (.aload_n 0, 1) := dk42 (k := 0) bX2_init_0 rfl
theorem dX2_init_1 : decode cX2_init 1 = .ok (.invokespecial 3, 3) := dk183 (k := 1) bX2_init_0 rfl rfl
theorem dX2_init_4 : decode cX2_init 4 = .ok (.aload_n 0, 1) := dk42 (k := 4) bX2_init_0 rfl
theorem dX2_init_5 : decode cX2_init 5 = .ok (.new 9, 3) := dk187 (k := 5) bX2_init_0 rfl rfl
theorem dX2_init_8 : decode cX2_init 8 = .ok (.dup, 1) := dk89 (k := 8) bX2_init_0 rfl
theorem dX2_init_9 : decode cX2_init 9 = .ok (.invokespecial 11, 3) := dk183 (k := 9) bX2_init_0 rfl rfl
theorem dX2_init_12 : decode cX2_init 12 = .ok (.putfield 12, 3) := dk181 (k := 12) bX2_init_0 rfl rfl
theorem dX2_init_15 : decode cX2_init 15 = .ok (.aload_n 0, 1) := dk42 (k := 15) bX2_init_0 rfl
theorem dX2_init_16 : decode cX2_init 16 = .ok (.new 18, 3) := dk187 (k := 16) bX2_init_0 rfl rfl
theorem dX2_init_19 : decode cX2_init 19 = .ok (.dup, 1) := dk89 (k := 19) bX2_init_0 rfl
theorem dX2_init_20 : decode cX2_init 20 = .ok (.invokespecial 20, 3) := dk183 (k := 20) bX2_init_0 rfl rfl
theorem dX2_init_23 : decode cX2_init 23 = .ok (.putfield 21, 3) := dk181 (k := 23) bX2_init_0 rfl rfl
theorem bX2_init_26 : bL cX2_init 26 [42, 16, 60] := bL_of (by decide +kernel)
theorem dX2_init_26 : decode cX2_init 26 = .ok (.aload_n 0, 1) := dk42 (k := 0) bX2_init_26 rfl
theorem dX2_init_27 : decode cX2_init 27 = .ok (.bipush 60, 2) := dk16 (k := 1) bX2_init_26 rfl (by decide)
theorem dX2_init_29 : decode cX2_init 29 = .ok (.newarray .int, 2) := by decide +kernel
theorem bX2_init_31 : bL cX2_init 31 [181, 0, 25, 177] := bL_of (by decide +kernel)
theorem dX2_init_31 : decode cX2_init 31 = .ok (.putfield 25, 3) := dk181 (k := 0) bX2_init_31 rfl rfl
theorem dX2_init_34 : decode cX2_init 34 = .ok (.return_, 1) := dk177 (k := 3) bX2_init_31 rfl
theorem bX2_clear_0 : bL cX2_clear 0 [42, 180, 0, 12, 182, 0, 29, 42, 180, 0, 21, 182, 0, 32, 42, 3, 181, 0, 33, 42, 3, 181, 0, 37] := bL_of (by decide +kernel)
theorem dX2_clear_0 : decode cX2_clear 0 = .ok (.aload_n 0, 1) := dk42 (k := 0) bX2_clear_0 rfl
theorem dX2_clear_1 : decode cX2_clear 1 = .ok (.getfield 12, 3) := dk180 (k := 1) bX2_clear_0 rfl rfl
theorem dX2_clear_4 : decode cX2_clear 4 = .ok (.invokevirtual 29, 3) := dk182 (k := 4) bX2_clear_0 rfl rfl
theorem dX2_clear_7 : decode cX2_clear 7 = .ok (.aload_n 0, 1) := dk42 (k := 7) bX2_clear_0 rfl
theorem dX2_clear_8 : decode cX2_clear 8 = .ok (.getfield 21, 3) := dk180 (k := 8) bX2_clear_0 rfl rfl
theorem dX2_clear_11 : decode cX2_clear 11 = .ok (.invokevirtual 32, 3) := dk182 (k := 11) bX2_clear_0 rfl rfl
theorem dX2_clear_14 : decode cX2_clear 14 = .ok (.aload_n 0, 1) := dk42 (k := 14) bX2_clear_0 rfl
theorem dX2_clear_15 : decode cX2_clear 15 = .ok (.iconst 0, 1) := dk3 (k := 15) bX2_clear_0 rfl
theorem dX2_clear_16 : decode cX2_clear 16 = .ok (.putfield 33, 3) := dk181 (k := 16) bX2_clear_0 rfl rfl
theorem dX2_clear_19 : decode cX2_clear 19 = .ok (.aload_n 0, 1) := dk42 (k := 19) bX2_clear_0 rfl
theorem dX2_clear_20 : decode cX2_clear 20 = .ok (.iconst 0, 1) := dk3 (k := 20) bX2_clear_0 rfl
theorem dX2_clear_21 : decode cX2_clear 21 = .ok (.putfield 37, 3) := dk181 (k := 21) bX2_clear_0 rfl rfl
theorem bX2_clear_24 : bL cX2_clear 24 [42, 3, 181, 0, 40, 42, 3, 181, 0, 43, 177] := bL_of (by decide +kernel)
theorem dX2_clear_24 : decode cX2_clear 24 = .ok (.aload_n 0, 1) := dk42 (k := 0) bX2_clear_24 rfl
theorem dX2_clear_25 : decode cX2_clear 25 = .ok (.iconst 0, 1) := dk3 (k := 1) bX2_clear_24 rfl
theorem dX2_clear_26 : decode cX2_clear 26 = .ok (.putfield 40, 3) := dk181 (k := 2) bX2_clear_24 rfl rfl
theorem dX2_clear_29 : decode cX2_clear 29 = .ok (.aload_n 0, 1) := dk42 (k := 5) bX2_clear_24 rfl
theorem dX2_clear_30 : decode cX2_clear 30 = .ok (.iconst 0, 1) := dk3 (k := 6) bX2_clear_24 rfl
theorem dX2_clear_31 : decode cX2_clear 31 = .ok (.putfield 43, 3) := dk181 (k := 7) bX2_clear_24 rfl rfl
theorem dX2_clear_34 : decode cX2_clear 34 = .ok (.return_, 1) := dk177 (k := 10) bX2_clear_24 rfl
theorem bX2_copyFrom_0 : bL cX2_copyFrom 0 [42, 180, 0, 12, 43, 180, 0, 12, 182, 0, 46, 42, 180, 0, 21, 43, 180, 0, 21, 182, 0, 50, 3, 61] := bL_of (by decide +kernel)
theorem dX2_copyFrom_0 : decode cX2_copyFrom 0 = .ok (.aload_n 0, 1) := dk42 (k := 0) bX2_copyFrom_0 rfl
theorem dX2_copyFrom_1 : decode cX2_copyFrom 1 = .ok (.getfield 12, 3) := dk180 (k := 1) bX2_copyFrom_0 rfl rfl
theorem dX2_copyFrom_4 : decode cX2_copyFrom 4 = .ok (.aload_n 1, 1) := dk43 (k := 4) bX2_copyFrom_0 rfl
theorem dX2_copyFrom_5 : decode cX2_copyFrom 5 = .ok (.getfield 12, 3) := dk180 (k := 5) bX2_copyFrom_0 rfl rfl
theorem dX2_copyFrom_8 : decode cX2_copyFrom 8 = .ok (.invokevirtual 46, 3) := dk182 (k := 8) bX2_copyFrom_0 rfl rfl
theorem dX2_copyFrom_11 : decode cX2_copyFrom 11 = .ok (.aload_n 0, 1) := dk42 (k := 11) bX2_copyFrom_0 rfl
theorem dX2_copyFrom_12 : decode cX2_copyFrom 12 = .ok (.getfield 21, 3) := dk180 (k := 12) bX2_copyFrom_0 rfl rfl
theorem dX2_copyFrom_15 : decode cX2_copyFrom 15 = .ok (.aload_n 1, 1) := dk43 (k := 15) bX2_copyFrom_0 rfl
theorem dX2_copyFrom_16 : decode cX2_copyFrom 16 = .ok (.getfield 21, 3) := dk180 (k := 16) bX2_copyFrom_0 rfl rfl
theorem dX2_copyFrom_19 : decode cX2_copyFrom 19 = .ok (.invokevirtual 50, 3) := dk182 (k := 19) bX2_copyFrom_0 rfl rfl
theorem dX2_copyFrom_22 : decode cX2_copyFrom 22 = .ok (.iconst 0, 1) := dk3 (k := 22) bX2_copyFrom_0 rfl
theorem dX2_copyFrom_23 : decode cX2_copyFrom 23 = .ok (.istore_n 2, 1) := dk61 (k := 23) bX2_copyFrom_0 rfl
theorem bX2_copyFrom_24 : bL cX2_copyFrom 24 [28, 16, 60, 162, 0, 21, 42, 180, 0, 25, 28, 43, 180, 0, 25, 28, 46, 79, 132, 2, 1, 167, 255, 235] := bL_of (by decide +kernel)
theorem dX2_copyFrom_24 : decode cX2_copyFrom 24 = .ok (.iload_n 2, 1) := dk28 (k := 0) bX2_copyFrom_24 rfl
theorem dX2_copyFrom_25 : decode cX2_copyFrom 25 = .ok (.bipush 60, 2) := dk16 (k := 1) bX2_copyFrom_24 rfl (by decide)
theorem dX2_copyFrom_27 : decode cX2_copyFrom 27 = .ok (.if_icmp .ge 21, 3) := dk162 (k := 3) bX2_copyFrom_24 rfl (by decide)
theorem dX2_copyFrom_30 : decode cX2_copyFrom 30 = .ok (.aload_n 0, 1) := dk42 (k := 6) bX2_copyFrom_24 rfl
theorem dX2_copyFrom_31 : decode cX2_copyFrom 31 = .ok (.getfield 25, 3) := dk180 (k := 7) bX2_copyFrom_24 rfl rfl
theorem dX2_copyFrom_34 : decode cX2_copyFrom 34 = .ok (.iload_n 2, 1) := dk28 (k := 10) bX2_copyFrom_24 rfl
theorem dX2_copyFrom_35 : decode cX2_copyFrom 35 = .ok (.aload_n 1, 1) := dk43 (k := 11) bX2_copyFrom_24 rfl
theorem dX2_copyFrom_36 : decode cX2_copyFrom 36 = .ok (.getfield 25, 3) := dk180 (k := 12) bX2_copyFrom_24 rfl rfl
theorem dX2_copyFrom_39 : decode cX2_copyFrom 39 = .ok (.iload_n 2, 1) := dk28 (k := 15) bX2_copyFrom_24 rfl
theorem dX2_copyFrom_40 : decode cX2_copyFrom 40 = .ok (.iaload, 1) := dk46 (k := 16) bX2_copyFrom_24 rfl
theorem dX2_copyFrom_41 : decode cX2_copyFrom 41 = .ok (.iastore, 1) := dk79 (k := 17) bX2_copyFrom_24 rfl
theorem dX2_copyFrom_42 : decode cX2_copyFrom 42 = .ok (.iinc 2 1, 3) := dk132 (k := 18) bX2_copyFrom_24 rfl rfl (by decide)
theorem dX2_copyFrom_45 : decode cX2_copyFrom 45 = .ok (.goto (-21), 3) := dk167 (k := 21) bX2_copyFrom_24 rfl (by decide)
theorem bX2_copyFrom_48 : bL cX2_copyFrom 48 [42, 43, 180, 0, 33, 181, 0, 33, 42, 43, 180, 0, 37, 181, 0, 37, 42, 43, 180, 0, 40, 181, 0, 40] := bL_of (by decide +kernel)
theorem dX2_copyFrom_48 : decode cX2_copyFrom 48 = .ok (.aload_n 0, 1) := dk42 (k := 0) bX2_copyFrom_48 rfl
theorem dX2_copyFrom_49 : decode cX2_copyFrom 49 = .ok (.aload_n 1, 1) := dk43 (k := 1) bX2_copyFrom_48 rfl
theorem dX2_copyFrom_50 : decode cX2_copyFrom 50 = .ok (.getfield 33, 3) := dk180 (k := 2) bX2_copyFrom_48 rfl rfl
theorem dX2_copyFrom_53 : decode cX2_copyFrom 53 = .ok (.putfield 33, 3) := dk181 (k := 5) bX2_copyFrom_48 rfl rfl
theorem dX2_copyFrom_56 : decode cX2_copyFrom 56 = .ok (.aload_n 0, 1) := dk42 (k := 8) bX2_copyFrom_48 rfl
theorem dX2_copyFrom_57 : decode cX2_copyFrom 57 = .ok (.aload_n 1, 1) := dk43 (k := 9) bX2_copyFrom_48 rfl
theorem dX2_copyFrom_58 : decode cX2_copyFrom 58 = .ok (.getfield 37, 3) := dk180 (k := 10) bX2_copyFrom_48 rfl rfl
theorem dX2_copyFrom_61 : decode cX2_copyFrom 61 = .ok (.putfield 37, 3) := dk181 (k := 13) bX2_copyFrom_48 rfl rfl
theorem dX2_copyFrom_64 : decode cX2_copyFrom 64 = .ok (.aload_n 0, 1) := dk42 (k := 16) bX2_copyFrom_48 rfl
theorem dX2_copyFrom_65 : decode cX2_copyFrom 65 = .ok (.aload_n 1, 1) := dk43 (k := 17) bX2_copyFrom_48 rfl
theorem dX2_copyFrom_66 : decode cX2_copyFrom 66 = .ok (.getfield 40, 3) := dk180 (k := 18) bX2_copyFrom_48 rfl rfl
theorem dX2_copyFrom_69 : decode cX2_copyFrom 69 = .ok (.putfield 40, 3) := dk181 (k := 21) bX2_copyFrom_48 rfl rfl
theorem bX2_copyFrom_72 : bL cX2_copyFrom 72 [42, 43, 180, 0, 43, 181, 0, 43, 177] := bL_of (by decide +kernel)
theorem dX2_copyFrom_72 : decode cX2_copyFrom 72 = .ok (.aload_n 0, 1) := dk42 (k := 0) bX2_copyFrom_72 rfl
theorem dX2_copyFrom_73 : decode cX2_copyFrom 73 = .ok (.aload_n 1, 1) := dk43 (k := 1) bX2_copyFrom_72 rfl
theorem dX2_copyFrom_74 : decode cX2_copyFrom 74 = .ok (.getfield 43, 3) := dk180 (k := 2) bX2_copyFrom_72 rfl rfl
theorem dX2_copyFrom_77 : decode cX2_copyFrom 77 = .ok (.putfield 43, 3) := dk181 (k := 5) bX2_copyFrom_72 rfl rfl
theorem dX2_copyFrom_80 : decode cX2_copyFrom 80 = .ok (.return_, 1) := dk177 (k := 8) bX2_copyFrom_72 rfl
theorem bX2_isTold_0 : bL cX2_isTold 0 [42, 180, 0, 43, 158, 0, 7, 4, 167, 0, 4, 3, 172] := bL_of (by decide +kernel)
theorem dX2_isTold_0 : decode cX2_isTold 0 = .ok (.aload_n 0, 1) := dk42 (k := 0) bX2_isTold_0 rfl
theorem dX2_isTold_1 : decode cX2_isTold 1 = .ok (.getfield 43, 3) := dk180 (k := 1) bX2_isTold_0 rfl rfl
theorem dX2_isTold_4 : decode cX2_isTold 4 = .ok (.ifCond .le 7, 3) := dk158 (k := 4) bX2_isTold_0 rfl (by decide)
theorem dX2_isTold_7 : decode cX2_isTold 7 = .ok (.iconst 1, 1) := dk4 (k := 7) bX2_isTold_0 rfl
theorem dX2_isTold_8 : decode cX2_isTold 8 = .ok (.goto 4, 3) := dk167 (k := 8) bX2_isTold_0 rfl (by decide)
theorem dX2_isTold_11 : decode cX2_isTold 11 = .ok (.iconst 0, 1) := dk3 (k := 11) bX2_isTold_0 rfl
theorem dX2_isTold_12 : decode cX2_isTold 12 = .ok (.ireturn, 1) := dk172 (k := 12) bX2_isTold_0 rfl
theorem bX2_hasSet_0 : bL cX2_hasSet 0 [42, 182, 0, 53, 153, 0, 24, 27, 155, 0, 20, 27, 4, 42, 180, 0, 21, 180, 0, 57, 120, 162, 0, 7] := bL_of (by decide +kernel)
theorem dX2_hasSet_0 : decode cX2_hasSet 0 = .ok (.aload_n 0, 1) := dk42 (k := 0) bX2_hasSet_0 rfl
theorem dX2_hasSet_1 : decode cX2_hasSet 1 = .ok (.invokevirtual 53, 3) := dk182 (k := 1) bX2_hasSet_0 rfl rfl
theorem dX2_hasSet_4 : decode cX2_hasSet 4 = .ok (.ifCond .eq 24, 3) := dk153 (k := 4) bX2_hasSet_0 rfl (by decide)
theorem dX2_hasSet_7 : decode cX2_hasSet 7 = .ok (.iload_n 1, 1) := dk27 (k := 7) bX2_hasSet_0 rfl
theorem dX2_hasSet_8 : decode cX2_hasSet 8 = .ok (.ifCond .lt 20, 3) := dk155 (k := 8) bX2_hasSet_0 rfl (by decide)
theorem dX2_hasSet_11 : decode cX2_hasSet 11 = .ok (.iload_n 1, 1) := dk27 (k := 11) bX2_hasSet_0 rfl
theorem dX2_hasSet_12 : decode cX2_hasSet 12 = .ok (.iconst 1, 1) := dk4 (k := 12) bX2_hasSet_0 rfl
theorem dX2_hasSet_13 : decode cX2_hasSet 13 = .ok (.aload_n 0, 1) := dk42 (k := 13) bX2_hasSet_0 rfl
theorem dX2_hasSet_14 : decode cX2_hasSet 14 = .ok (.getfield 21, 3) := dk180 (k := 14) bX2_hasSet_0 rfl rfl
theorem dX2_hasSet_17 : decode cX2_hasSet 17 = .ok (.getfield 57, 3) := dk180 (k := 17) bX2_hasSet_0 rfl rfl
theorem dX2_hasSet_20 : decode cX2_hasSet 20 = .ok (.ishl, 1) := dk120 (k := 20) bX2_hasSet_0 rfl
theorem dX2_hasSet_21 : decode cX2_hasSet 21 = .ok (.if_icmp .ge 7, 3) := dk162 (k := 21) bX2_hasSet_0 rfl (by decide)
theorem bX2_hasSet_24 : bL cX2_hasSet 24 [4, 167, 0, 4, 3, 172] := bL_of (by decide +kernel)
theorem dX2_hasSet_24 : decode cX2_hasSet 24 = .ok (.iconst 1, 1) := dk4 (k := 0) bX2_hasSet_24 rfl
theorem dX2_hasSet_25 : decode cX2_hasSet 25 = .ok (.goto 4, 3) := dk167 (k := 1) bX2_hasSet_24 rfl (by decide)
theorem dX2_hasSet_28 : decode cX2_hasSet 28 = .ok (.iconst 0, 1) := dk3 (k := 4) bX2_hasSet_24 rfl
theorem dX2_hasSet_29 : decode cX2_hasSet 29 = .ok (.ireturn, 1) := dk172 (k := 5) bX2_hasSet_24 rfl
theorem bX2_hasRoomForAct_0 : bL cX2_hasRoomForAct 0 [42, 180, 0, 33, 155, 0, 16, 42, 180, 0, 33, 16, 60, 162, 0, 7, 4, 167, 0, 4, 3, 172] := bL_of (by decide +kernel)
theorem dX2_hasRoomForAct_0 : decode cX2_hasRoomForAct 0 = .ok (.aload_n 0, 1) := dk42 (k := 0) bX2_hasRoomForAct_0 rfl
theorem dX2_hasRoomForAct_1 : decode cX2_hasRoomForAct 1 = .ok (.getfield 33, 3) := dk180 (k := 1) bX2_hasRoomForAct_0 rfl rfl
theorem dX2_hasRoomForAct_4 : decode cX2_hasRoomForAct 4 = .ok (.ifCond .lt 16, 3) := dk155 (k := 4) bX2_hasRoomForAct_0 rfl (by decide)
theorem dX2_hasRoomForAct_7 : decode cX2_hasRoomForAct 7 = .ok (.aload_n 0, 1) := dk42 (k := 7) bX2_hasRoomForAct_0 rfl
theorem dX2_hasRoomForAct_8 : decode cX2_hasRoomForAct 8 = .ok (.getfield 33, 3) := dk180 (k := 8) bX2_hasRoomForAct_0 rfl rfl
theorem dX2_hasRoomForAct_11 : decode cX2_hasRoomForAct 11 = .ok (.bipush 60, 2) := dk16 (k := 11) bX2_hasRoomForAct_0 rfl (by decide)
theorem dX2_hasRoomForAct_13 : decode cX2_hasRoomForAct 13 = .ok (.if_icmp .ge 7, 3) := dk162 (k := 13) bX2_hasRoomForAct_0 rfl (by decide)
theorem dX2_hasRoomForAct_16 : decode cX2_hasRoomForAct 16 = .ok (.iconst 1, 1) := dk4 (k := 16) bX2_hasRoomForAct_0 rfl
theorem dX2_hasRoomForAct_17 : decode cX2_hasRoomForAct 17 = .ok (.goto 4, 3) := dk167 (k := 17) bX2_hasRoomForAct_0 rfl (by decide)
theorem dX2_hasRoomForAct_20 : decode cX2_hasRoomForAct 20 = .ok (.iconst 0, 1) := dk3 (k := 20) bX2_hasRoomForAct_0 rfl
theorem dX2_hasRoomForAct_21 : decode cX2_hasRoomForAct 21 = .ok (.ireturn, 1) := dk172 (k := 21) bX2_hasRoomForAct_0 rfl
theorem bX2_act_0 : bL cX2_act 0 [42, 182, 0, 60, 153, 0, 36, 42, 180, 0, 12, 27, 28, 182, 0, 63, 42, 180, 0, 25, 42, 180, 0, 33] := bL_of (by decide +kernel)
theorem dX2_act_0 : decode cX2_act 0 = .ok (.aload_n 0, 1) := dk42 (k := 0) bX2_act_0 rfl
theorem dX2_act_1 : decode cX2_act 1 = .ok (.invokevirtual 60, 3) := dk182 (k := 1) bX2_act_0 rfl rfl
theorem dX2_act_4 : decode cX2_act 4 = .ok (.ifCond .eq 36, 3) := dk153 (k := 4) bX2_act_0 rfl (by decide)
theorem dX2_act_7 : decode cX2_act 7 = .ok (.aload_n 0, 1) := dk42 (k := 7) bX2_act_0 rfl
theorem dX2_act_8 : decode cX2_act 8 = .ok (.getfield 12, 3) := dk180 (k := 8) bX2_act_0 rfl rfl
theorem dX2_act_11 : decode cX2_act 11 = .ok (.iload_n 1, 1) := dk27 (k := 11) bX2_act_0 rfl
theorem dX2_act_12 : decode cX2_act 12 = .ok (.iload_n 2, 1) := dk28 (k := 12) bX2_act_0 rfl
theorem dX2_act_13 : decode cX2_act 13 = .ok (.invokevirtual 63, 3) := dk182 (k := 13) bX2_act_0 rfl rfl
theorem dX2_act_16 : decode cX2_act 16 = .ok (.aload_n 0, 1) := dk42 (k := 16) bX2_act_0 rfl
theorem dX2_act_17 : decode cX2_act 17 = .ok (.getfield 25, 3) := dk180 (k := 17) bX2_act_0 rfl rfl
theorem dX2_act_20 : decode cX2_act 20 = .ok (.aload_n 0, 1) := dk42 (k := 20) bX2_act_0 rfl
theorem dX2_act_21 : decode cX2_act 21 = .ok (.getfield 33, 3) := dk180 (k := 21) bX2_act_0 rfl rfl
theorem bX2_act_24 : bL cX2_act 24 [28, 27, 4, 96, 104, 79, 42, 89, 180, 0, 33, 4, 96, 181, 0, 33, 177] := bL_of (by decide +kernel)
theorem dX2_act_24 : decode cX2_act 24 = .ok (.iload_n 2, 1) := dk28 (k := 0) bX2_act_24 rfl
theorem dX2_act_25 : decode cX2_act 25 = .ok (.iload_n 1, 1) := dk27 (k := 1) bX2_act_24 rfl
theorem dX2_act_26 : decode cX2_act 26 = .ok (.iconst 1, 1) := dk4 (k := 2) bX2_act_24 rfl
theorem dX2_act_27 : decode cX2_act 27 = .ok (.iadd, 1) := dk96 (k := 3) bX2_act_24 rfl
theorem dX2_act_28 : decode cX2_act 28 = .ok (.imul, 1) := dk104 (k := 4) bX2_act_24 rfl
theorem dX2_act_29 : decode cX2_act 29 = .ok (.iastore, 1) := dk79 (k := 5) bX2_act_24 rfl
theorem dX2_act_30 : decode cX2_act 30 = .ok (.aload_n 0, 1) := dk42 (k := 6) bX2_act_24 rfl
theorem dX2_act_31 : decode cX2_act 31 = .ok (.dup, 1) := dk89 (k := 7) bX2_act_24 rfl
theorem dX2_act_32 : decode cX2_act 32 = .ok (.getfield 33, 3) := dk180 (k := 8) bX2_act_24 rfl rfl
theorem dX2_act_35 : decode cX2_act 35 = .ok (.iconst 1, 1) := dk4 (k := 11) bX2_act_24 rfl
theorem dX2_act_36 : decode cX2_act 36 = .ok (.iadd, 1) := dk96 (k := 12) bX2_act_24 rfl
theorem dX2_act_37 : decode cX2_act 37 = .ok (.putfield 33, 3) := dk181 (k := 13) bX2_act_24 rfl rfl
theorem dX2_act_40 : decode cX2_act 40 = .ok (.return_, 1) := dk177 (k := 16) bX2_act_24 rfl
theorem bX2_takeBack_0 : bL cX2_takeBack 0 [42, 180, 0, 33, 4, 161, 0, 12, 42, 180, 0, 33, 16, 60, 164, 0, 5, 3, 172, 42, 89, 180, 0, 33] := bL_of (by decide +kernel)
theorem dX2_takeBack_0 : decode cX2_takeBack 0 = .ok (.aload_n 0, 1) := dk42 (k := 0) bX2_takeBack_0 rfl
theorem dX2_takeBack_1 : decode cX2_takeBack 1 = .ok (.getfield 33, 3) := dk180 (k := 1) bX2_takeBack_0 rfl rfl
theorem dX2_takeBack_4 : decode cX2_takeBack 4 = .ok (.iconst 1, 1) := dk4 (k := 4) bX2_takeBack_0 rfl
theorem dX2_takeBack_5 : decode cX2_takeBack 5 = .ok (.if_icmp .lt 12, 3) := dk161 (k := 5) bX2_takeBack_0 rfl (by decide)
theorem dX2_takeBack_8 : decode cX2_takeBack 8 = .ok (.aload_n 0, 1) := dk42 (k := 8) bX2_takeBack_0 rfl
theorem dX2_takeBack_9 : decode cX2_takeBack 9 = .ok (.getfield 33, 3) := dk180 (k := 9) bX2_takeBack_0 rfl rfl
theorem dX2_takeBack_12 : decode cX2_takeBack 12 = .ok (.bipush 60, 2) := dk16 (k := 12) bX2_takeBack_0 rfl (by decide)
theorem dX2_takeBack_14 : decode cX2_takeBack 14 = .ok (.if_icmp .le 5, 3) := dk164 (k := 14) bX2_takeBack_0 rfl (by decide)
theorem dX2_takeBack_17 : decode cX2_takeBack 17 = .ok (.iconst 0, 1) := dk3 (k := 17) bX2_takeBack_0 rfl
theorem dX2_takeBack_18 : decode cX2_takeBack 18 = .ok (.ireturn, 1) := dk172 (k := 18) bX2_takeBack_0 rfl
theorem dX2_takeBack_19 : decode cX2_takeBack 19 = .ok (.aload_n 0, 1) := dk42 (k := 19) bX2_takeBack_0 rfl
theorem dX2_takeBack_20 : decode cX2_takeBack 20 = .ok (.dup, 1) := dk89 (k := 20) bX2_takeBack_0 rfl
theorem dX2_takeBack_21 : decode cX2_takeBack 21 = .ok (.getfield 33, 3) := dk180 (k := 21) bX2_takeBack_0 rfl rfl
theorem bX2_takeBack_24 : bL cX2_takeBack 24 [4, 100, 181, 0, 33, 42, 180, 0, 25, 42, 180, 0, 33, 46, 60, 27, 156, 0, 18, 42, 180, 0, 12, 27] := bL_of (by decide +kernel)
theorem dX2_takeBack_24 : decode cX2_takeBack 24 = .ok (.iconst 1, 1) := dk4 (k := 0) bX2_takeBack_24 rfl
theorem dX2_takeBack_25 : decode cX2_takeBack 25 = .ok (.isub, 1) := dk100 (k := 1) bX2_takeBack_24 rfl
theorem dX2_takeBack_26 : decode cX2_takeBack 26 = .ok (.putfield 33, 3) := dk181 (k := 2) bX2_takeBack_24 rfl rfl
theorem dX2_takeBack_29 : decode cX2_takeBack 29 = .ok (.aload_n 0, 1) := dk42 (k := 5) bX2_takeBack_24 rfl
theorem dX2_takeBack_30 : decode cX2_takeBack 30 = .ok (.getfield 25, 3) := dk180 (k := 6) bX2_takeBack_24 rfl rfl
theorem dX2_takeBack_33 : decode cX2_takeBack 33 = .ok (.aload_n 0, 1) := dk42 (k := 9) bX2_takeBack_24 rfl
theorem dX2_takeBack_34 : decode cX2_takeBack 34 = .ok (.getfield 33, 3) := dk180 (k := 10) bX2_takeBack_24 rfl rfl
theorem dX2_takeBack_37 : decode cX2_takeBack 37 = .ok (.iaload, 1) := dk46 (k := 13) bX2_takeBack_24 rfl
theorem dX2_takeBack_38 : decode cX2_takeBack 38 = .ok (.istore_n 1, 1) := dk60 (k := 14) bX2_takeBack_24 rfl
theorem dX2_takeBack_39 : decode cX2_takeBack 39 = .ok (.iload_n 1, 1) := dk27 (k := 15) bX2_takeBack_24 rfl
theorem dX2_takeBack_40 : decode cX2_takeBack 40 = .ok (.ifCond .ge 18, 3) := dk156 (k := 16) bX2_takeBack_24 rfl (by decide)
theorem dX2_takeBack_43 : decode cX2_takeBack 43 = .ok (.aload_n 0, 1) := dk42 (k := 19) bX2_takeBack_24 rfl
theorem dX2_takeBack_44 : decode cX2_takeBack 44 = .ok (.getfield 12, 3) := dk180 (k := 20) bX2_takeBack_24 rfl rfl
theorem dX2_takeBack_47 : decode cX2_takeBack 47 = .ok (.iload_n 1, 1) := dk27 (k := 23) bX2_takeBack_24 rfl
theorem bX2_takeBack_48 : bL cX2_takeBack 48 [116, 4, 100, 4, 182, 0, 63, 167, 0, 14, 42, 180, 0, 12, 27, 4, 100, 2, 182, 0, 63, 4, 172] := bL_of (by decide +kernel)
theorem dX2_takeBack_48 : decode cX2_takeBack 48 = .ok (.ineg, 1) := dk116 (k := 0) bX2_takeBack_48 rfl
theorem dX2_takeBack_49 : decode cX2_takeBack 49 = .ok (.iconst 1, 1) := dk4 (k := 1) bX2_takeBack_48 rfl
theorem dX2_takeBack_50 : decode cX2_takeBack 50 = .ok (.isub, 1) := dk100 (k := 2) bX2_takeBack_48 rfl
theorem dX2_takeBack_51 : decode cX2_takeBack 51 = .ok (.iconst 1, 1) := dk4 (k := 3) bX2_takeBack_48 rfl
theorem dX2_takeBack_52 : decode cX2_takeBack 52 = .ok (.invokevirtual 63, 3) := dk182 (k := 4) bX2_takeBack_48 rfl rfl
theorem dX2_takeBack_55 : decode cX2_takeBack 55 = .ok (.goto 14, 3) := dk167 (k := 7) bX2_takeBack_48 rfl (by decide)
theorem dX2_takeBack_58 : decode cX2_takeBack 58 = .ok (.aload_n 0, 1) := dk42 (k := 10) bX2_takeBack_48 rfl
theorem dX2_takeBack_59 : decode cX2_takeBack 59 = .ok (.getfield 12, 3) := dk180 (k := 11) bX2_takeBack_48 rfl rfl
theorem dX2_takeBack_62 : decode cX2_takeBack 62 = .ok (.iload_n 1, 1) := dk27 (k := 14) bX2_takeBack_48 rfl
theorem dX2_takeBack_63 : decode cX2_takeBack 63 = .ok (.iconst 1, 1) := dk4 (k := 15) bX2_takeBack_48 rfl
theorem dX2_takeBack_64 : decode cX2_takeBack 64 = .ok (.isub, 1) := dk100 (k := 16) bX2_takeBack_48 rfl
theorem dX2_takeBack_65 : decode cX2_takeBack 65 = .ok (.iconst (-1), 1) := dk2 (k := 17) bX2_takeBack_48 rfl
theorem dX2_takeBack_66 : decode cX2_takeBack 66 = .ok (.invokevirtual 63, 3) := dk182 (k := 18) bX2_takeBack_48 rfl rfl
theorem dX2_takeBack_69 : decode cX2_takeBack 69 = .ok (.iconst 1, 1) := dk4 (k := 21) bX2_takeBack_48 rfl
theorem dX2_takeBack_70 : decode cX2_takeBack 70 = .ok (.ireturn, 1) := dk172 (k := 22) bX2_takeBack_48 rfl
theorem bX2_isEnough_0 : bL cX2_isEnough 0 [42, 180, 0, 21, 42, 180, 0, 21, 27, 28, 182, 0, 67, 182, 0, 71, 42, 180, 0, 37, 161, 0, 7, 4] := bL_of (by decide +kernel)
theorem dX2_isEnough_0 : decode cX2_isEnough 0 = .ok (.aload_n 0, 1) := dk42 (k := 0) bX2_isEnough_0 rfl
theorem dX2_isEnough_1 : decode cX2_isEnough 1 = .ok (.getfield 21, 3) := dk180 (k := 1) bX2_isEnough_0 rfl rfl
theorem dX2_isEnough_4 : decode cX2_isEnough 4 = .ok (.aload_n 0, 1) := dk42 (k := 4) bX2_isEnough_0 rfl
theorem dX2_isEnough_5 : decode cX2_isEnough 5 = .ok (.getfield 21, 3) := dk180 (k := 5) bX2_isEnough_0 rfl rfl
theorem dX2_isEnough_8 : decode cX2_isEnough 8 = .ok (.iload_n 1, 1) := dk27 (k := 8) bX2_isEnough_0 rfl
theorem dX2_isEnough_9 : decode cX2_isEnough 9 = .ok (.iload_n 2, 1) := dk28 (k := 9) bX2_isEnough_0 rfl
theorem dX2_isEnough_10 : decode cX2_isEnough 10 = .ok (.invokevirtual 67, 3) := dk182 (k := 10) bX2_isEnough_0 rfl rfl
theorem dX2_isEnough_13 : decode cX2_isEnough 13 = .ok (.invokevirtual 71, 3) := dk182 (k := 13) bX2_isEnough_0 rfl rfl
theorem dX2_isEnough_16 : decode cX2_isEnough 16 = .ok (.aload_n 0, 1) := dk42 (k := 16) bX2_isEnough_0 rfl
theorem dX2_isEnough_17 : decode cX2_isEnough 17 = .ok (.getfield 37, 3) := dk180 (k := 17) bX2_isEnough_0 rfl rfl
theorem dX2_isEnough_20 : decode cX2_isEnough 20 = .ok (.if_icmp .lt 7, 3) := dk161 (k := 20) bX2_isEnough_0 rfl (by decide)
theorem dX2_isEnough_23 : decode cX2_isEnough 23 = .ok (.iconst 1, 1) := dk4 (k := 23) bX2_isEnough_0 rfl
theorem bX2_isEnough_24 : bL cX2_isEnough 24 [167, 0, 4, 3, 172] := bL_of (by decide +kernel)
theorem dX2_isEnough_24 : decode cX2_isEnough 24 = .ok (.goto 4, 3) := dk167 (k := 0) bX2_isEnough_24 rfl (by decide)
theorem dX2_isEnough_27 : decode cX2_isEnough 27 = .ok (.iconst 0, 1) := dk3 (k := 3) bX2_isEnough_24 rfl
theorem dX2_isEnough_28 : decode cX2_isEnough 28 = .ok (.ireturn, 1) := dk172 (k := 4) bX2_isEnough_24 rfl
theorem bX3_init_0 : bL cX3_init 0 [42, 183, 0, 3, 42, 16, 56] := bL_of (by decide +kernel)
theorem dX3_init_0 : decode cX3_init 0 = .ok (.aload_n 0, 1) := dk42 (k := 0) bX3_init_0 rfl
theorem dX3_init_1 : decode cX3_init 1 = .ok (.invokespecial 3, 3) := dk183 (k := 1) bX3_init_0 rfl rfl
theorem dX3_init_4 : decode cX3_init 4 = .ok (.aload_n 0, 1) := dk42 (k := 4) bX3_init_0 rfl
theorem dX3_init_5 : decode cX3_init 5 = .ok (.bipush 56, 2) := dk16 (k := 5) bX3_init_0 rfl (by decide)
theorem dX3_init_7 : decode cX3_init 7 = .ok (.newarray .int, 2) := by decide +kernel
theorem bX3_init_9 : bL cX3_init 9 [181, 0, 9, 42, 16, 8] := bL_of (by decide +kernel)
theorem dX3_init_9 : decode cX3_init 9 = .ok (.putfield 9, 3) := dk181 (k := 0) bX3_init_9 rfl rfl
theorem dX3_init_12 : decode cX3_init 12 = .ok (.aload_n 0, 1) := dk42 (k := 3) bX3_init_9 rfl
theorem dX3_init_13 : decode cX3_init 13 = .ok (.bipush 8, 2) := dk16 (k := 4) bX3_init_9 rfl (by decide)
theorem dX3_init_15 : decode cX3_init 15 = .ok (.newarray .int, 2) := by decide +kernel
theorem bX3_init_17 : bL cX3_init 17 [181, 0, 15, 42, 16, 8] := bL_of (by decide +kernel)
theorem dX3_init_17 : decode cX3_init 17 = .ok (.putfield 15, 3) := dk181 (k := 0) bX3_init_17 rfl rfl
theorem dX3_init_20 : decode cX3_init 20 = .ok (.aload_n 0, 1) := dk42 (k := 3) bX3_init_17 rfl
theorem dX3_init_21 : decode cX3_init 21 = .ok (.bipush 8, 2) := dk16 (k := 4) bX3_init_17 rfl (by decide)
theorem dX3_init_23 : decode cX3_init 23 = .ok (.newarray .int, 2) := by decide +kernel
theorem bX3_init_25 : bL cX3_init 25 [181, 0, 18, 177] := bL_of (by decide +kernel)
theorem dX3_init_25 : decode cX3_init 25 = .ok (.putfield 18, 3) := dk181 (k := 0) bX3_init_25 rfl rfl
theorem dX3_init_28 : decode cX3_init 28 = .ok (.return_, 1) := dk177 (k := 3) bX3_init_25 rfl
theorem bX3_clear_0 : bL cX3_clear 0 [42, 3, 181, 0, 21, 3, 60, 27, 42, 180, 0, 9, 190, 162, 0, 16, 42, 180, 0, 9, 27, 3, 79, 132, 1, 1] := bL_of (by decide +kernel)
theorem dX3_clear_0 : decode cX3_clear 0 = .ok (.aload_n 0, 1) := dk42 (k := 0) bX3_clear_0 rfl
theorem dX3_clear_1 : decode cX3_clear 1 = .ok (.iconst 0, 1) := dk3 (k := 1) bX3_clear_0 rfl
theorem dX3_clear_2 : decode cX3_clear 2 = .ok (.putfield 21, 3) := dk181 (k := 2) bX3_clear_0 rfl rfl
theorem dX3_clear_5 : decode cX3_clear 5 = .ok (.iconst 0, 1) := dk3 (k := 5) bX3_clear_0 rfl
theorem dX3_clear_6 : decode cX3_clear 6 = .ok (.istore_n 1, 1) := dk60 (k := 6) bX3_clear_0 rfl
theorem dX3_clear_7 : decode cX3_clear 7 = .ok (.iload_n 1, 1) := dk27 (k := 7) bX3_clear_0 rfl
theorem dX3_clear_8 : decode cX3_clear 8 = .ok (.aload_n 0, 1) := dk42 (k := 8) bX3_clear_0 rfl
theorem dX3_clear_9 : decode cX3_clear 9 = .ok (.getfield 9, 3) := dk180 (k := 9) bX3_clear_0 rfl rfl
theorem dX3_clear_12 : decode cX3_clear 12 = .ok (.arraylength, 1) := dk190 (k := 12) bX3_clear_0 rfl
theorem dX3_clear_13 : decode cX3_clear 13 = .ok (.if_icmp .ge 16, 3) := dk162 (k := 13) bX3_clear_0 rfl (by decide)
theorem dX3_clear_16 : decode cX3_clear 16 = .ok (.aload_n 0, 1) := dk42 (k := 16) bX3_clear_0 rfl
theorem dX3_clear_17 : decode cX3_clear 17 = .ok (.getfield 9, 3) := dk180 (k := 17) bX3_clear_0 rfl rfl
theorem dX3_clear_20 : decode cX3_clear 20 = .ok (.iload_n 1, 1) := dk27 (k := 20) bX3_clear_0 rfl
theorem dX3_clear_21 : decode cX3_clear 21 = .ok (.iconst 0, 1) := dk3 (k := 21) bX3_clear_0 rfl
theorem dX3_clear_22 : decode cX3_clear 22 = .ok (.iastore, 1) := dk79 (k := 22) bX3_clear_0 rfl
theorem dX3_clear_23 : decode cX3_clear 23 = .ok (.iinc 1 1, 3) := dk132 (k := 23) bX3_clear_0 rfl rfl (by decide)
theorem bX3_clear_26 : bL cX3_clear 26 [167, 255, 237, 177] := bL_of (by decide +kernel)
theorem dX3_clear_26 : decode cX3_clear 26 = .ok (.goto (-19), 3) := dk167 (k := 0) bX3_clear_26 rfl (by decide)
theorem dX3_clear_29 : decode cX3_clear 29 = .ok (.return_, 1) := dk177 (k := 3) bX3_clear_26 rfl
theorem bX3_copyFrom_0 : bL cX3_copyFrom 0 [3, 61, 28, 42, 180, 0, 9, 190, 162, 0, 21, 42, 180, 0, 9, 28, 43, 180, 0, 9, 28, 46, 79, 132, 2, 1] := bL_of (by decide +kernel)
theorem dX3_copyFrom_0 : decode cX3_copyFrom 0 = .ok (.iconst 0, 1) := dk3 (k := 0) bX3_copyFrom_0 rfl
theorem dX3_copyFrom_1 : decode cX3_copyFrom 1 = .ok (.istore_n 2, 1) := dk61 (k := 1) bX3_copyFrom_0 rfl
theorem dX3_copyFrom_2 : decode cX3_copyFrom 2 = .ok (.iload_n 2, 1) := dk28 (k := 2) bX3_copyFrom_0 rfl
theorem dX3_copyFrom_3 : decode cX3_copyFrom 3 = .ok (.aload_n 0, 1) := dk42 (k := 3) bX3_copyFrom_0 rfl
theorem dX3_copyFrom_4 : decode cX3_copyFrom 4 = .ok (.getfield 9, 3) := dk180 (k := 4) bX3_copyFrom_0 rfl rfl
theorem dX3_copyFrom_7 : decode cX3_copyFrom 7 = .ok (.arraylength, 1) := dk190 (k := 7) bX3_copyFrom_0 rfl
theorem dX3_copyFrom_8 : decode cX3_copyFrom 8 = .ok (.if_icmp .ge 21, 3) := dk162 (k := 8) bX3_copyFrom_0 rfl (by decide)
theorem dX3_copyFrom_11 : decode cX3_copyFrom 11 = .ok (.aload_n 0, 1) := dk42 (k := 11) bX3_copyFrom_0 rfl
theorem dX3_copyFrom_12 : decode cX3_copyFrom 12 = .ok (.getfield 9, 3) := dk180 (k := 12) bX3_copyFrom_0 rfl rfl
theorem dX3_copyFrom_15 : decode cX3_copyFrom 15 = .ok (.iload_n 2, 1) := dk28 (k := 15) bX3_copyFrom_0 rfl
theorem dX3_copyFrom_16 : decode cX3_copyFrom 16 = .ok (.aload_n 1, 1) := dk43 (k := 16) bX3_copyFrom_0 rfl
theorem dX3_copyFrom_17 : decode cX3_copyFrom 17 = .ok (.getfield 9, 3) := dk180 (k := 17) bX3_copyFrom_0 rfl rfl
theorem dX3_copyFrom_20 : decode cX3_copyFrom 20 = .ok (.iload_n 2, 1) := dk28 (k := 20) bX3_copyFrom_0 rfl
theorem dX3_copyFrom_21 : decode cX3_copyFrom 21 = .ok (.iaload, 1) := dk46 (k := 21) bX3_copyFrom_0 rfl
theorem dX3_copyFrom_22 : decode cX3_copyFrom 22 = .ok (.iastore, 1) := dk79 (k := 22) bX3_copyFrom_0 rfl
theorem dX3_copyFrom_23 : decode cX3_copyFrom 23 = .ok (.iinc 2 1, 3) := dk132 (k := 23) bX3_copyFrom_0 rfl rfl (by decide)
theorem bX3_copyFrom_26 : bL cX3_copyFrom 26 [167, 255, 232, 42, 43, 180, 0, 21, 181, 0, 21, 177] := bL_of (by decide +kernel)
theorem dX3_copyFrom_26 : decode cX3_copyFrom 26 = .ok (.goto (-24), 3) := dk167 (k := 0) bX3_copyFrom_26 rfl (by decide)
theorem dX3_copyFrom_29 : decode cX3_copyFrom 29 = .ok (.aload_n 0, 1) := dk42 (k := 3) bX3_copyFrom_26 rfl
theorem dX3_copyFrom_30 : decode cX3_copyFrom 30 = .ok (.aload_n 1, 1) := dk43 (k := 4) bX3_copyFrom_26 rfl
theorem dX3_copyFrom_31 : decode cX3_copyFrom 31 = .ok (.getfield 21, 3) := dk180 (k := 5) bX3_copyFrom_26 rfl rfl
theorem dX3_copyFrom_34 : decode cX3_copyFrom 34 = .ok (.putfield 21, 3) := dk181 (k := 8) bX3_copyFrom_26 rfl rfl
theorem dX3_copyFrom_37 : decode cX3_copyFrom 37 = .ok (.return_, 1) := dk177 (k := 11) bX3_copyFrom_26 rfl
theorem bX3_has_0 : bL cX3_has 0 [27, 155, 0, 21, 27, 42, 180, 0, 21, 162, 0, 13, 27, 16, 8, 162, 0, 7, 4, 167, 0, 4, 3, 172] := bL_of (by decide +kernel)
theorem dX3_has_0 : decode cX3_has 0 = .ok (.iload_n 1, 1) := dk27 (k := 0) bX3_has_0 rfl
theorem dX3_has_1 : decode cX3_has 1 = .ok (.ifCond .lt 21, 3) := dk155 (k := 1) bX3_has_0 rfl (by decide)
theorem dX3_has_4 : decode cX3_has 4 = .ok (.iload_n 1, 1) := dk27 (k := 4) bX3_has_0 rfl
theorem dX3_has_5 : decode cX3_has 5 = .ok (.aload_n 0, 1) := dk42 (k := 5) bX3_has_0 rfl
theorem dX3_has_6 : decode cX3_has 6 = .ok (.getfield 21, 3) := dk180 (k := 6) bX3_has_0 rfl rfl
theorem dX3_has_9 : decode cX3_has 9 = .ok (.if_icmp .ge 13, 3) := dk162 (k := 9) bX3_has_0 rfl (by decide)
theorem dX3_has_12 : decode cX3_has 12 = .ok (.iload_n 1, 1) := dk27 (k := 12) bX3_has_0 rfl
theorem dX3_has_13 : decode cX3_has 13 = .ok (.bipush 8, 2) := dk16 (k := 13) bX3_has_0 rfl (by decide)
theorem dX3_has_15 : decode cX3_has 15 = .ok (.if_icmp .ge 7, 3) := dk162 (k := 15) bX3_has_0 rfl (by decide)
theorem dX3_has_18 : decode cX3_has 18 = .ok (.iconst 1, 1) := dk4 (k := 18) bX3_has_0 rfl
theorem dX3_has_19 : decode cX3_has 19 = .ok (.goto 4, 3) := dk167 (k := 19) bX3_has_0 rfl (by decide)
theorem dX3_has_22 : decode cX3_has 22 = .ok (.iconst 0, 1) := dk3 (k := 22) bX3_has_0 rfl
theorem dX3_has_23 : decode cX3_has 23 = .ok (.ireturn, 1) := dk172 (k := 23) bX3_has_0 rfl
theorem bX3_fact_0 : bL cX3_fact 0 [27, 155, 0, 23, 27, 16, 8, 162, 0, 17, 28, 155, 0, 13, 28, 16, 7, 162, 0, 7, 4, 167, 0, 4] := bL_of (by decide +kernel)
theorem dX3_fact_0 : decode cX3_fact 0 = .ok (.iload_n 1, 1) := dk27 (k := 0) bX3_fact_0 rfl
theorem dX3_fact_1 : decode cX3_fact 1 = .ok (.ifCond .lt 23, 3) := dk155 (k := 1) bX3_fact_0 rfl (by decide)
theorem dX3_fact_4 : decode cX3_fact 4 = .ok (.iload_n 1, 1) := dk27 (k := 4) bX3_fact_0 rfl
theorem dX3_fact_5 : decode cX3_fact 5 = .ok (.bipush 8, 2) := dk16 (k := 5) bX3_fact_0 rfl (by decide)
theorem dX3_fact_7 : decode cX3_fact 7 = .ok (.if_icmp .ge 17, 3) := dk162 (k := 7) bX3_fact_0 rfl (by decide)
theorem dX3_fact_10 : decode cX3_fact 10 = .ok (.iload_n 2, 1) := dk28 (k := 10) bX3_fact_0 rfl
theorem dX3_fact_11 : decode cX3_fact 11 = .ok (.ifCond .lt 13, 3) := dk155 (k := 11) bX3_fact_0 rfl (by decide)
theorem dX3_fact_14 : decode cX3_fact 14 = .ok (.iload_n 2, 1) := dk28 (k := 14) bX3_fact_0 rfl
theorem dX3_fact_15 : decode cX3_fact 15 = .ok (.bipush 7, 2) := dk16 (k := 15) bX3_fact_0 rfl (by decide)
theorem dX3_fact_17 : decode cX3_fact 17 = .ok (.if_icmp .ge 7, 3) := dk162 (k := 17) bX3_fact_0 rfl (by decide)
theorem dX3_fact_20 : decode cX3_fact 20 = .ok (.iconst 1, 1) := dk4 (k := 20) bX3_fact_0 rfl
theorem dX3_fact_21 : decode cX3_fact 21 = .ok (.goto 4, 3) := dk167 (k := 21) bX3_fact_0 rfl (by decide)
theorem bX3_fact_24 : bL cX3_fact 24 [3, 62, 29, 153, 0, 17, 42, 180, 0, 9, 27, 16, 7, 104, 28, 96, 46, 167, 0, 4, 3, 172] := bL_of (by decide +kernel)
theorem dX3_fact_24 : decode cX3_fact 24 = .ok (.iconst 0, 1) := dk3 (k := 0) bX3_fact_24 rfl
theorem dX3_fact_25 : decode cX3_fact 25 = .ok (.istore_n 3, 1) := dk62 (k := 1) bX3_fact_24 rfl
theorem dX3_fact_26 : decode cX3_fact 26 = .ok (.iload_n 3, 1) := dk29 (k := 2) bX3_fact_24 rfl
theorem dX3_fact_27 : decode cX3_fact 27 = .ok (.ifCond .eq 17, 3) := dk153 (k := 3) bX3_fact_24 rfl (by decide)
theorem dX3_fact_30 : decode cX3_fact 30 = .ok (.aload_n 0, 1) := dk42 (k := 6) bX3_fact_24 rfl
theorem dX3_fact_31 : decode cX3_fact 31 = .ok (.getfield 9, 3) := dk180 (k := 7) bX3_fact_24 rfl rfl
theorem dX3_fact_34 : decode cX3_fact 34 = .ok (.iload_n 1, 1) := dk27 (k := 10) bX3_fact_24 rfl
theorem dX3_fact_35 : decode cX3_fact 35 = .ok (.bipush 7, 2) := dk16 (k := 11) bX3_fact_24 rfl (by decide)
theorem dX3_fact_37 : decode cX3_fact 37 = .ok (.imul, 1) := dk104 (k := 13) bX3_fact_24 rfl
theorem dX3_fact_38 : decode cX3_fact 38 = .ok (.iload_n 2, 1) := dk28 (k := 14) bX3_fact_24 rfl
theorem dX3_fact_39 : decode cX3_fact 39 = .ok (.iadd, 1) := dk96 (k := 15) bX3_fact_24 rfl
theorem dX3_fact_40 : decode cX3_fact 40 = .ok (.iaload, 1) := dk46 (k := 16) bX3_fact_24 rfl
theorem dX3_fact_41 : decode cX3_fact 41 = .ok (.goto 4, 3) := dk167 (k := 17) bX3_fact_24 rfl (by decide)
theorem dX3_fact_44 : decode cX3_fact 44 = .ok (.iconst 0, 1) := dk3 (k := 20) bX3_fact_24 rfl
theorem dX3_fact_45 : decode cX3_fact 45 = .ok (.ireturn, 1) := dk172 (k := 21) bX3_fact_24 rfl
theorem bX3_setFact_0 : bL cX3_setFact 0 [27, 155, 0, 31, 27, 16, 8, 162, 0, 25, 28, 155, 0, 21, 28, 16, 7, 162, 0, 15, 42, 180, 0, 9] := bL_of (by decide +kernel)
theorem dX3_setFact_0 : decode cX3_setFact 0 = .ok (.iload_n 1, 1) := dk27 (k := 0) bX3_setFact_0 rfl
theorem dX3_setFact_1 : decode cX3_setFact 1 = .ok (.ifCond .lt 31, 3) := dk155 (k := 1) bX3_setFact_0 rfl (by decide)
theorem dX3_setFact_4 : decode cX3_setFact 4 = .ok (.iload_n 1, 1) := dk27 (k := 4) bX3_setFact_0 rfl
theorem dX3_setFact_5 : decode cX3_setFact 5 = .ok (.bipush 8, 2) := dk16 (k := 5) bX3_setFact_0 rfl (by decide)
theorem dX3_setFact_7 : decode cX3_setFact 7 = .ok (.if_icmp .ge 25, 3) := dk162 (k := 7) bX3_setFact_0 rfl (by decide)
theorem dX3_setFact_10 : decode cX3_setFact 10 = .ok (.iload_n 2, 1) := dk28 (k := 10) bX3_setFact_0 rfl
theorem dX3_setFact_11 : decode cX3_setFact 11 = .ok (.ifCond .lt 21, 3) := dk155 (k := 11) bX3_setFact_0 rfl (by decide)
theorem dX3_setFact_14 : decode cX3_setFact 14 = .ok (.iload_n 2, 1) := dk28 (k := 14) bX3_setFact_0 rfl
theorem dX3_setFact_15 : decode cX3_setFact 15 = .ok (.bipush 7, 2) := dk16 (k := 15) bX3_setFact_0 rfl (by decide)
theorem dX3_setFact_17 : decode cX3_setFact 17 = .ok (.if_icmp .ge 15, 3) := dk162 (k := 17) bX3_setFact_0 rfl (by decide)
theorem dX3_setFact_20 : decode cX3_setFact 20 = .ok (.aload_n 0, 1) := dk42 (k := 20) bX3_setFact_0 rfl
theorem dX3_setFact_21 : decode cX3_setFact 21 = .ok (.getfield 9, 3) := dk180 (k := 21) bX3_setFact_0 rfl rfl
theorem bX3_setFact_24 : bL cX3_setFact 24 [27, 16, 7, 104, 28, 96, 29, 79, 177] := bL_of (by decide +kernel)
theorem dX3_setFact_24 : decode cX3_setFact 24 = .ok (.iload_n 1, 1) := dk27 (k := 0) bX3_setFact_24 rfl
theorem dX3_setFact_25 : decode cX3_setFact 25 = .ok (.bipush 7, 2) := dk16 (k := 1) bX3_setFact_24 rfl (by decide)
theorem dX3_setFact_27 : decode cX3_setFact 27 = .ok (.imul, 1) := dk104 (k := 3) bX3_setFact_24 rfl
theorem dX3_setFact_28 : decode cX3_setFact 28 = .ok (.iload_n 2, 1) := dk28 (k := 4) bX3_setFact_24 rfl
theorem dX3_setFact_29 : decode cX3_setFact 29 = .ok (.iadd, 1) := dk96 (k := 5) bX3_setFact_24 rfl
theorem dX3_setFact_30 : decode cX3_setFact 30 = .ok (.iload_n 3, 1) := dk29 (k := 6) bX3_setFact_24 rfl
theorem dX3_setFact_31 : decode cX3_setFact 31 = .ok (.iastore, 1) := dk79 (k := 7) bX3_setFact_24 rfl
theorem dX3_setFact_32 : decode cX3_setFact 32 = .ok (.return_, 1) := dk177 (k := 8) bX3_setFact_24 rfl
theorem bX3_befriend_0 : bL cX3_befriend 0 [42, 27, 16, 6, 42, 27, 16, 6, 182, 0, 25, 4, 28, 120, 128, 182, 0, 29, 42, 28, 16, 6, 42, 28] := bL_of (by decide +kernel)
theorem dX3_befriend_0 : decode cX3_befriend 0 = .ok (.aload_n 0, 1) := dk42 (k := 0) bX3_befriend_0 rfl
theorem dX3_befriend_1 : decode cX3_befriend 1 = .ok (.iload_n 1, 1) := dk27 (k := 1) bX3_befriend_0 rfl
theorem dX3_befriend_2 : decode cX3_befriend 2 = .ok (.bipush 6, 2) := dk16 (k := 2) bX3_befriend_0 rfl (by decide)
theorem dX3_befriend_4 : decode cX3_befriend 4 = .ok (.aload_n 0, 1) := dk42 (k := 4) bX3_befriend_0 rfl
theorem dX3_befriend_5 : decode cX3_befriend 5 = .ok (.iload_n 1, 1) := dk27 (k := 5) bX3_befriend_0 rfl
theorem dX3_befriend_6 : decode cX3_befriend 6 = .ok (.bipush 6, 2) := dk16 (k := 6) bX3_befriend_0 rfl (by decide)
theorem dX3_befriend_8 : decode cX3_befriend 8 = .ok (.invokevirtual 25, 3) := dk182 (k := 8) bX3_befriend_0 rfl rfl
theorem dX3_befriend_11 : decode cX3_befriend 11 = .ok (.iconst 1, 1) := dk4 (k := 11) bX3_befriend_0 rfl
theorem dX3_befriend_12 : decode cX3_befriend 12 = .ok (.iload_n 2, 1) := dk28 (k := 12) bX3_befriend_0 rfl
theorem dX3_befriend_13 : decode cX3_befriend 13 = .ok (.ishl, 1) := dk120 (k := 13) bX3_befriend_0 rfl
theorem dX3_befriend_14 : decode cX3_befriend 14 = .ok (.ior, 1) := dk128 (k := 14) bX3_befriend_0 rfl
theorem dX3_befriend_15 : decode cX3_befriend 15 = .ok (.invokevirtual 29, 3) := dk182 (k := 15) bX3_befriend_0 rfl rfl
theorem dX3_befriend_18 : decode cX3_befriend 18 = .ok (.aload_n 0, 1) := dk42 (k := 18) bX3_befriend_0 rfl
theorem dX3_befriend_19 : decode cX3_befriend 19 = .ok (.iload_n 2, 1) := dk28 (k := 19) bX3_befriend_0 rfl
theorem dX3_befriend_20 : decode cX3_befriend 20 = .ok (.bipush 6, 2) := dk16 (k := 20) bX3_befriend_0 rfl (by decide)
theorem dX3_befriend_22 : decode cX3_befriend 22 = .ok (.aload_n 0, 1) := dk42 (k := 22) bX3_befriend_0 rfl
theorem dX3_befriend_23 : decode cX3_befriend 23 = .ok (.iload_n 2, 1) := dk28 (k := 23) bX3_befriend_0 rfl
theorem bX3_befriend_24 : bL cX3_befriend 24 [16, 6, 182, 0, 25, 4, 27, 120, 128, 182, 0, 29, 177] := bL_of (by decide +kernel)
theorem dX3_befriend_24 : decode cX3_befriend 24 = .ok (.bipush 6, 2) := dk16 (k := 0) bX3_befriend_24 rfl (by decide)
theorem dX3_befriend_26 : decode cX3_befriend 26 = .ok (.invokevirtual 25, 3) := dk182 (k := 2) bX3_befriend_24 rfl rfl
theorem dX3_befriend_29 : decode cX3_befriend 29 = .ok (.iconst 1, 1) := dk4 (k := 5) bX3_befriend_24 rfl
theorem dX3_befriend_30 : decode cX3_befriend 30 = .ok (.iload_n 1, 1) := dk27 (k := 6) bX3_befriend_24 rfl
theorem dX3_befriend_31 : decode cX3_befriend 31 = .ok (.ishl, 1) := dk120 (k := 7) bX3_befriend_24 rfl
theorem dX3_befriend_32 : decode cX3_befriend 32 = .ok (.ior, 1) := dk128 (k := 8) bX3_befriend_24 rfl
theorem dX3_befriend_33 : decode cX3_befriend 33 = .ok (.invokevirtual 29, 3) := dk182 (k := 9) bX3_befriend_24 rfl rfl
theorem dX3_befriend_36 : decode cX3_befriend 36 = .ok (.return_, 1) := dk177 (k := 12) bX3_befriend_24 rfl
theorem bX3_gainOn_0 : bL cX3_gainOn 0 [42, 43, 42, 180, 0, 18, 3, 182, 0, 33, 28, 155, 0, 18, 28, 16, 8, 162, 0, 12, 42, 180, 0, 18] := bL_of (by decide +kernel)
theorem dX3_gainOn_0 : decode cX3_gainOn 0 = .ok (.aload_n 0, 1) := dk42 (k := 0) bX3_gainOn_0 rfl
theorem dX3_gainOn_1 : decode cX3_gainOn 1 = .ok (.aload_n 1, 1) := dk43 (k := 1) bX3_gainOn_0 rfl
theorem dX3_gainOn_2 : decode cX3_gainOn 2 = .ok (.aload_n 0, 1) := dk42 (k := 2) bX3_gainOn_0 rfl
theorem dX3_gainOn_3 : decode cX3_gainOn 3 = .ok (.getfield 18, 3) := dk180 (k := 3) bX3_gainOn_0 rfl rfl
theorem dX3_gainOn_6 : decode cX3_gainOn 6 = .ok (.iconst 0, 1) := dk3 (k := 6) bX3_gainOn_0 rfl
theorem dX3_gainOn_7 : decode cX3_gainOn 7 = .ok (.invokevirtual 33, 3) := dk182 (k := 7) bX3_gainOn_0 rfl rfl
theorem dX3_gainOn_10 : decode cX3_gainOn 10 = .ok (.iload_n 2, 1) := dk28 (k := 10) bX3_gainOn_0 rfl
theorem dX3_gainOn_11 : decode cX3_gainOn 11 = .ok (.ifCond .lt 18, 3) := dk155 (k := 11) bX3_gainOn_0 rfl (by decide)
theorem dX3_gainOn_14 : decode cX3_gainOn 14 = .ok (.iload_n 2, 1) := dk28 (k := 14) bX3_gainOn_0 rfl
theorem dX3_gainOn_15 : decode cX3_gainOn 15 = .ok (.bipush 8, 2) := dk16 (k := 15) bX3_gainOn_0 rfl (by decide)
theorem dX3_gainOn_17 : decode cX3_gainOn 17 = .ok (.if_icmp .ge 12, 3) := dk162 (k := 17) bX3_gainOn_0 rfl (by decide)
theorem dX3_gainOn_20 : decode cX3_gainOn 20 = .ok (.aload_n 0, 1) := dk42 (k := 20) bX3_gainOn_0 rfl
theorem dX3_gainOn_21 : decode cX3_gainOn 21 = .ok (.getfield 18, 3) := dk180 (k := 21) bX3_gainOn_0 rfl rfl
theorem bX3_gainOn_24 : bL cX3_gainOn 24 [28, 46, 167, 0, 4, 3, 172] := bL_of (by decide +kernel)
theorem dX3_gainOn_24 : decode cX3_gainOn 24 = .ok (.iload_n 2, 1) := dk28 (k := 0) bX3_gainOn_24 rfl
theorem dX3_gainOn_25 : decode cX3_gainOn 25 = .ok (.iaload, 1) := dk46 (k := 1) bX3_gainOn_24 rfl
theorem dX3_gainOn_26 : decode cX3_gainOn 26 = .ok (.goto 4, 3) := dk167 (k := 2) bX3_gainOn_24 rfl (by decide)
theorem dX3_gainOn_29 : decode cX3_gainOn 29 = .ok (.iconst 0, 1) := dk3 (k := 5) bX3_gainOn_24 rfl
theorem dX3_gainOn_30 : decode cX3_gainOn 30 = .ok (.ireturn, 1) := dk172 (k := 6) bX3_gainOn_24 rfl
theorem bX3_gainsOn_0 : bL cX3_gainsOn 0 [42, 43, 42, 180, 0, 18, 3, 182, 0, 33, 3, 61, 3, 62, 29, 42, 180, 0, 21, 162, 0, 24, 29, 16, 8] := bL_of (by decide +kernel)
theorem dX3_gainsOn_0 : decode cX3_gainsOn 0 = .ok (.aload_n 0, 1) := dk42 (k := 0) bX3_gainsOn_0 rfl
theorem dX3_gainsOn_1 : decode cX3_gainsOn 1 = .ok (.aload_n 1, 1) := dk43 (k := 1) bX3_gainsOn_0 rfl
theorem dX3_gainsOn_2 : decode cX3_gainsOn 2 = .ok (.aload_n 0, 1) := dk42 (k := 2) bX3_gainsOn_0 rfl
theorem dX3_gainsOn_3 : decode cX3_gainsOn 3 = .ok (.getfield 18, 3) := dk180 (k := 3) bX3_gainsOn_0 rfl rfl
theorem dX3_gainsOn_6 : decode cX3_gainsOn 6 = .ok (.iconst 0, 1) := dk3 (k := 6) bX3_gainsOn_0 rfl
theorem dX3_gainsOn_7 : decode cX3_gainsOn 7 = .ok (.invokevirtual 33, 3) := dk182 (k := 7) bX3_gainsOn_0 rfl rfl
theorem dX3_gainsOn_10 : decode cX3_gainsOn 10 = .ok (.iconst 0, 1) := dk3 (k := 10) bX3_gainsOn_0 rfl
theorem dX3_gainsOn_11 : decode cX3_gainsOn 11 = .ok (.istore_n 2, 1) := dk61 (k := 11) bX3_gainsOn_0 rfl
theorem dX3_gainsOn_12 : decode cX3_gainsOn 12 = .ok (.iconst 0, 1) := dk3 (k := 12) bX3_gainsOn_0 rfl
theorem dX3_gainsOn_13 : decode cX3_gainsOn 13 = .ok (.istore_n 3, 1) := dk62 (k := 13) bX3_gainsOn_0 rfl
theorem dX3_gainsOn_14 : decode cX3_gainsOn 14 = .ok (.iload_n 3, 1) := dk29 (k := 14) bX3_gainsOn_0 rfl
theorem dX3_gainsOn_15 : decode cX3_gainsOn 15 = .ok (.aload_n 0, 1) := dk42 (k := 15) bX3_gainsOn_0 rfl
theorem dX3_gainsOn_16 : decode cX3_gainsOn 16 = .ok (.getfield 21, 3) := dk180 (k := 16) bX3_gainsOn_0 rfl rfl
theorem dX3_gainsOn_19 : decode cX3_gainsOn 19 = .ok (.if_icmp .ge 24, 3) := dk162 (k := 19) bX3_gainsOn_0 rfl (by decide)
theorem dX3_gainsOn_22 : decode cX3_gainsOn 22 = .ok (.iload_n 3, 1) := dk29 (k := 22) bX3_gainsOn_0 rfl
theorem dX3_gainsOn_23 : decode cX3_gainsOn 23 = .ok (.bipush 8, 2) := dk16 (k := 23) bX3_gainsOn_0 rfl (by decide)
theorem bX3_gainsOn_25 : bL cX3_gainsOn 25 [162, 0, 18, 28, 42, 180, 0, 18, 29, 46, 96, 61, 132, 3, 1, 167, 255, 230, 28, 172] := bL_of (by decide +kernel)
theorem dX3_gainsOn_25 : decode cX3_gainsOn 25 = .ok (.if_icmp .ge 18, 3) := dk162 (k := 0) bX3_gainsOn_25 rfl (by decide)
theorem dX3_gainsOn_28 : decode cX3_gainsOn 28 = .ok (.iload_n 2, 1) := dk28 (k := 3) bX3_gainsOn_25 rfl
theorem dX3_gainsOn_29 : decode cX3_gainsOn 29 = .ok (.aload_n 0, 1) := dk42 (k := 4) bX3_gainsOn_25 rfl
theorem dX3_gainsOn_30 : decode cX3_gainsOn 30 = .ok (.getfield 18, 3) := dk180 (k := 5) bX3_gainsOn_25 rfl rfl
theorem dX3_gainsOn_33 : decode cX3_gainsOn 33 = .ok (.iload_n 3, 1) := dk29 (k := 8) bX3_gainsOn_25 rfl
theorem dX3_gainsOn_34 : decode cX3_gainsOn 34 = .ok (.iaload, 1) := dk46 (k := 9) bX3_gainsOn_25 rfl
theorem dX3_gainsOn_35 : decode cX3_gainsOn 35 = .ok (.iadd, 1) := dk96 (k := 10) bX3_gainsOn_25 rfl
theorem dX3_gainsOn_36 : decode cX3_gainsOn 36 = .ok (.istore_n 2, 1) := dk61 (k := 11) bX3_gainsOn_25 rfl
theorem dX3_gainsOn_37 : decode cX3_gainsOn 37 = .ok (.iinc 3 1, 3) := dk132 (k := 12) bX3_gainsOn_25 rfl rfl (by decide)
theorem dX3_gainsOn_40 : decode cX3_gainsOn 40 = .ok (.goto (-26), 3) := dk167 (k := 15) bX3_gainsOn_25 rfl (by decide)
theorem dX3_gainsOn_43 : decode cX3_gainsOn 43 = .ok (.iload_n 2, 1) := dk28 (k := 18) bX3_gainsOn_25 rfl
theorem dX3_gainsOn_44 : decode cX3_gainsOn 44 = .ok (.ireturn, 1) := dk172 (k := 19) bX3_gainsOn_25 rfl
theorem bX3_fillGains_0 : bL cX3_fillGains 0 [43, 182, 0, 37, 184, 0, 43, 54, 4, 43, 182, 0, 49, 54, 5, 3, 54, 6, 21, 6, 42, 180, 0, 21] := bL_of (by decide +kernel)
theorem dX3_fillGains_0 : decode cX3_fillGains 0 = .ok (.aload_n 1, 1) := dk43 (k := 0) bX3_fillGains_0 rfl
theorem dX3_fillGains_1 : decode cX3_fillGains 1 = .ok (.invokevirtual 37, 3) := dk182 (k := 1) bX3_fillGains_0 rfl rfl
theorem dX3_fillGains_4 : decode cX3_fillGains 4 = .ok (.invokestatic 43, 3) := dk184 (k := 4) bX3_fillGains_0 rfl rfl
theorem dX3_fillGains_7 : decode cX3_fillGains 7 = .ok (.istore 4, 2) := dk54 (k := 7) bX3_fillGains_0 rfl rfl
theorem dX3_fillGains_9 : decode cX3_fillGains 9 = .ok (.aload_n 1, 1) := dk43 (k := 9) bX3_fillGains_0 rfl
theorem dX3_fillGains_10 : decode cX3_fillGains 10 = .ok (.invokevirtual 49, 3) := dk182 (k := 10) bX3_fillGains_0 rfl rfl
theorem dX3_fillGains_13 : decode cX3_fillGains 13 = .ok (.istore 5, 2) := dk54 (k := 13) bX3_fillGains_0 rfl rfl
theorem dX3_fillGains_15 : decode cX3_fillGains 15 = .ok (.iconst 0, 1) := dk3 (k := 15) bX3_fillGains_0 rfl
theorem dX3_fillGains_16 : decode cX3_fillGains 16 = .ok (.istore 6, 2) := dk54 (k := 16) bX3_fillGains_0 rfl rfl
theorem dX3_fillGains_18 : decode cX3_fillGains 18 = .ok (.iload 6, 2) := dk21 (k := 18) bX3_fillGains_0 rfl rfl
theorem dX3_fillGains_20 : decode cX3_fillGains 20 = .ok (.aload_n 0, 1) := dk42 (k := 20) bX3_fillGains_0 rfl
theorem dX3_fillGains_21 : decode cX3_fillGains 21 = .ok (.getfield 21, 3) := dk180 (k := 21) bX3_fillGains_0 rfl rfl
theorem bX3_fillGains_24 : bL cX3_fillGains 24 [162, 0, 89, 42, 21, 6, 5, 182, 0, 25, 54, 7, 21, 7, 154, 0, 7, 3, 167, 0, 17, 21, 7, 43] := bL_of (by decide +kernel)
theorem dX3_fillGains_24 : decode cX3_fillGains 24 = .ok (.if_icmp .ge 89, 3) := dk162 (k := 0) bX3_fillGains_24 rfl (by decide)
theorem dX3_fillGains_27 : decode cX3_fillGains 27 = .ok (.aload_n 0, 1) := dk42 (k := 3) bX3_fillGains_24 rfl
theorem dX3_fillGains_28 : decode cX3_fillGains 28 = .ok (.iload 6, 2) := dk21 (k := 4) bX3_fillGains_24 rfl rfl
theorem dX3_fillGains_30 : decode cX3_fillGains 30 = .ok (.iconst 2, 1) := dk5 (k := 6) bX3_fillGains_24 rfl
theorem dX3_fillGains_31 : decode cX3_fillGains 31 = .ok (.invokevirtual 25, 3) := dk182 (k := 7) bX3_fillGains_24 rfl rfl
theorem dX3_fillGains_34 : decode cX3_fillGains 34 = .ok (.istore 7, 2) := dk54 (k := 10) bX3_fillGains_24 rfl rfl
theorem dX3_fillGains_36 : decode cX3_fillGains 36 = .ok (.iload 7, 2) := dk21 (k := 12) bX3_fillGains_24 rfl rfl
theorem dX3_fillGains_38 : decode cX3_fillGains 38 = .ok (.ifCond .ne 7, 3) := dk154 (k := 14) bX3_fillGains_24 rfl (by decide)
theorem dX3_fillGains_41 : decode cX3_fillGains 41 = .ok (.iconst 0, 1) := dk3 (k := 17) bX3_fillGains_24 rfl
theorem dX3_fillGains_42 : decode cX3_fillGains 42 = .ok (.goto 17, 3) := dk167 (k := 18) bX3_fillGains_24 rfl (by decide)
theorem dX3_fillGains_45 : decode cX3_fillGains 45 = .ok (.iload 7, 2) := dk21 (k := 21) bX3_fillGains_24 rfl rfl
theorem dX3_fillGains_47 : decode cX3_fillGains 47 = .ok (.aload_n 1, 1) := dk43 (k := 23) bX3_fillGains_24 rfl
theorem bX3_fillGains_48 : bL cX3_fillGains 48 [42, 21, 6, 3, 182, 0, 25, 182, 0, 52, 104, 54, 8, 29, 21, 6, 96, 54, 9, 21, 9, 155, 0, 38] := bL_of (by decide +kernel)
theorem dX3_fillGains_48 : decode cX3_fillGains 48 = .ok (.aload_n 0, 1) := dk42 (k := 0) bX3_fillGains_48 rfl
theorem dX3_fillGains_49 : decode cX3_fillGains 49 = .ok (.iload 6, 2) := dk21 (k := 1) bX3_fillGains_48 rfl rfl
theorem dX3_fillGains_51 : decode cX3_fillGains 51 = .ok (.iconst 0, 1) := dk3 (k := 3) bX3_fillGains_48 rfl
theorem dX3_fillGains_52 : decode cX3_fillGains 52 = .ok (.invokevirtual 25, 3) := dk182 (k := 4) bX3_fillGains_48 rfl rfl
theorem dX3_fillGains_55 : decode cX3_fillGains 55 = .ok (.invokevirtual 52, 3) := dk182 (k := 7) bX3_fillGains_48 rfl rfl
theorem dX3_fillGains_58 : decode cX3_fillGains 58 = .ok (.imul, 1) := dk104 (k := 10) bX3_fillGains_48 rfl
theorem dX3_fillGains_59 : decode cX3_fillGains 59 = .ok (.istore 8, 2) := dk54 (k := 11) bX3_fillGains_48 rfl rfl
theorem dX3_fillGains_61 : decode cX3_fillGains 61 = .ok (.iload_n 3, 1) := dk29 (k := 13) bX3_fillGains_48 rfl
theorem dX3_fillGains_62 : decode cX3_fillGains 62 = .ok (.iload 6, 2) := dk21 (k := 14) bX3_fillGains_48 rfl rfl
theorem dX3_fillGains_64 : decode cX3_fillGains 64 = .ok (.iadd, 1) := dk96 (k := 16) bX3_fillGains_48 rfl
theorem dX3_fillGains_65 : decode cX3_fillGains 65 = .ok (.istore 9, 2) := dk54 (k := 17) bX3_fillGains_48 rfl rfl
theorem dX3_fillGains_67 : decode cX3_fillGains 67 = .ok (.iload 9, 2) := dk21 (k := 19) bX3_fillGains_48 rfl rfl
theorem dX3_fillGains_69 : decode cX3_fillGains 69 = .ok (.ifCond .lt 38, 3) := dk155 (k := 21) bX3_fillGains_48 rfl (by decide)
theorem bX3_fillGains_72 : bL cX3_fillGains 72 [21, 9, 44, 190, 162, 0, 31, 44, 21, 9, 21, 8, 42, 21, 6, 6, 182, 0, 25, 21, 4, 104, 96, 42] := bL_of (by decide +kernel)
theorem dX3_fillGains_72 : decode cX3_fillGains 72 = .ok (.iload 9, 2) := dk21 (k := 0) bX3_fillGains_72 rfl rfl
theorem dX3_fillGains_74 : decode cX3_fillGains 74 = .ok (.aload_n 2, 1) := dk44 (k := 2) bX3_fillGains_72 rfl
theorem dX3_fillGains_75 : decode cX3_fillGains 75 = .ok (.arraylength, 1) := dk190 (k := 3) bX3_fillGains_72 rfl
theorem dX3_fillGains_76 : decode cX3_fillGains 76 = .ok (.if_icmp .ge 31, 3) := dk162 (k := 4) bX3_fillGains_72 rfl (by decide)
theorem dX3_fillGains_79 : decode cX3_fillGains 79 = .ok (.aload_n 2, 1) := dk44 (k := 7) bX3_fillGains_72 rfl
theorem dX3_fillGains_80 : decode cX3_fillGains 80 = .ok (.iload 9, 2) := dk21 (k := 8) bX3_fillGains_72 rfl rfl
theorem dX3_fillGains_82 : decode cX3_fillGains 82 = .ok (.iload 8, 2) := dk21 (k := 10) bX3_fillGains_72 rfl rfl
theorem dX3_fillGains_84 : decode cX3_fillGains 84 = .ok (.aload_n 0, 1) := dk42 (k := 12) bX3_fillGains_72 rfl
theorem dX3_fillGains_85 : decode cX3_fillGains 85 = .ok (.iload 6, 2) := dk21 (k := 13) bX3_fillGains_72 rfl rfl
theorem dX3_fillGains_87 : decode cX3_fillGains 87 = .ok (.iconst 3, 1) := dk6 (k := 15) bX3_fillGains_72 rfl
theorem dX3_fillGains_88 : decode cX3_fillGains 88 = .ok (.invokevirtual 25, 3) := dk182 (k := 16) bX3_fillGains_72 rfl rfl
theorem dX3_fillGains_91 : decode cX3_fillGains 91 = .ok (.iload 4, 2) := dk21 (k := 19) bX3_fillGains_72 rfl rfl
theorem dX3_fillGains_93 : decode cX3_fillGains 93 = .ok (.imul, 1) := dk104 (k := 21) bX3_fillGains_72 rfl
theorem dX3_fillGains_94 : decode cX3_fillGains 94 = .ok (.iadd, 1) := dk96 (k := 22) bX3_fillGains_72 rfl
theorem dX3_fillGains_95 : decode cX3_fillGains 95 = .ok (.aload_n 0, 1) := dk42 (k := 23) bX3_fillGains_72 rfl
theorem bX3_fillGains_96 : bL cX3_fillGains 96 [21, 6, 7, 182, 0, 25, 21, 5, 104, 96, 79, 132, 6, 1, 167, 255, 164, 177] := bL_of (by decide +kernel)
theorem dX3_fillGains_96 : decode cX3_fillGains 96 = .ok (.iload 6, 2) := dk21 (k := 0) bX3_fillGains_96 rfl rfl
theorem dX3_fillGains_98 : decode cX3_fillGains 98 = .ok (.iconst 4, 1) := dk7 (k := 2) bX3_fillGains_96 rfl
theorem dX3_fillGains_99 : decode cX3_fillGains 99 = .ok (.invokevirtual 25, 3) := dk182 (k := 3) bX3_fillGains_96 rfl rfl
theorem dX3_fillGains_102 : decode cX3_fillGains 102 = .ok (.iload 5, 2) := dk21 (k := 6) bX3_fillGains_96 rfl rfl
theorem dX3_fillGains_104 : decode cX3_fillGains 104 = .ok (.imul, 1) := dk104 (k := 8) bX3_fillGains_96 rfl
theorem dX3_fillGains_105 : decode cX3_fillGains 105 = .ok (.iadd, 1) := dk96 (k := 9) bX3_fillGains_96 rfl
theorem dX3_fillGains_106 : decode cX3_fillGains 106 = .ok (.iastore, 1) := dk79 (k := 10) bX3_fillGains_96 rfl
theorem dX3_fillGains_107 : decode cX3_fillGains 107 = .ok (.iinc 6 1, 3) := dk132 (k := 11) bX3_fillGains_96 rfl rfl (by decide)
theorem dX3_fillGains_110 : decode cX3_fillGains 110 = .ok (.goto (-92), 3) := dk167 (k := 14) bX3_fillGains_96 rfl (by decide)
theorem dX3_fillGains_113 : decode cX3_fillGains 113 = .ok (.return_, 1) := dk177 (k := 17) bX3_fillGains_96 rfl
theorem bX3_gainersBy_0 : bL cX3_gainersBy 0 [43, 182, 0, 55, 62, 43, 29, 182, 0, 58, 28, 96, 156, 0, 5, 3, 172, 42, 43, 42, 180, 0, 15, 3] := bL_of (by decide +kernel)
theorem dX3_gainersBy_0 : decode cX3_gainersBy 0 = .ok (.aload_n 1, 1) := dk43 (k := 0) bX3_gainersBy_0 rfl
theorem dX3_gainersBy_1 : decode cX3_gainersBy 1 = .ok (.invokevirtual 55, 3) := dk182 (k := 1) bX3_gainersBy_0 rfl rfl
theorem dX3_gainersBy_4 : decode cX3_gainersBy 4 = .ok (.istore_n 3, 1) := dk62 (k := 4) bX3_gainersBy_0 rfl
theorem dX3_gainersBy_5 : decode cX3_gainersBy 5 = .ok (.aload_n 1, 1) := dk43 (k := 5) bX3_gainersBy_0 rfl
theorem dX3_gainersBy_6 : decode cX3_gainersBy 6 = .ok (.iload_n 3, 1) := dk29 (k := 6) bX3_gainersBy_0 rfl
theorem dX3_gainersBy_7 : decode cX3_gainersBy 7 = .ok (.invokevirtual 58, 3) := dk182 (k := 7) bX3_gainersBy_0 rfl rfl
theorem dX3_gainersBy_10 : decode cX3_gainersBy 10 = .ok (.iload_n 2, 1) := dk28 (k := 10) bX3_gainersBy_0 rfl
theorem dX3_gainersBy_11 : decode cX3_gainersBy 11 = .ok (.iadd, 1) := dk96 (k := 11) bX3_gainersBy_0 rfl
theorem dX3_gainersBy_12 : decode cX3_gainersBy 12 = .ok (.ifCond .ge 5, 3) := dk156 (k := 12) bX3_gainersBy_0 rfl (by decide)
theorem dX3_gainersBy_15 : decode cX3_gainersBy 15 = .ok (.iconst 0, 1) := dk3 (k := 15) bX3_gainersBy_0 rfl
theorem dX3_gainersBy_16 : decode cX3_gainersBy 16 = .ok (.ireturn, 1) := dk172 (k := 16) bX3_gainersBy_0 rfl
theorem dX3_gainersBy_17 : decode cX3_gainersBy 17 = .ok (.aload_n 0, 1) := dk42 (k := 17) bX3_gainersBy_0 rfl
theorem dX3_gainersBy_18 : decode cX3_gainersBy 18 = .ok (.aload_n 1, 1) := dk43 (k := 18) bX3_gainersBy_0 rfl
theorem dX3_gainersBy_19 : decode cX3_gainersBy 19 = .ok (.aload_n 0, 1) := dk42 (k := 19) bX3_gainersBy_0 rfl
theorem dX3_gainersBy_20 : decode cX3_gainersBy 20 = .ok (.getfield 15, 3) := dk180 (k := 20) bX3_gainersBy_0 rfl rfl
theorem dX3_gainersBy_23 : decode cX3_gainersBy 23 = .ok (.iconst 0, 1) := dk3 (k := 23) bX3_gainersBy_0 rfl
theorem bX3_gainersBy_24 : bL cX3_gainersBy 24 [182, 0, 33, 43, 29, 28, 182, 0, 61, 42, 43, 42, 180, 0, 18, 3, 182, 0, 33, 43, 29, 28, 116, 182, 0, 61] := bL_of (by decide +kernel)
theorem dX3_gainersBy_24 : decode cX3_gainersBy 24 = .ok (.invokevirtual 33, 3) := dk182 (k := 0) bX3_gainersBy_24 rfl rfl
theorem dX3_gainersBy_27 : decode cX3_gainersBy 27 = .ok (.aload_n 1, 1) := dk43 (k := 3) bX3_gainersBy_24 rfl
theorem dX3_gainersBy_28 : decode cX3_gainersBy 28 = .ok (.iload_n 3, 1) := dk29 (k := 4) bX3_gainersBy_24 rfl
theorem dX3_gainersBy_29 : decode cX3_gainersBy 29 = .ok (.iload_n 2, 1) := dk28 (k := 5) bX3_gainersBy_24 rfl
theorem dX3_gainersBy_30 : decode cX3_gainersBy 30 = .ok (.invokevirtual 61, 3) := dk182 (k := 6) bX3_gainersBy_24 rfl rfl
theorem dX3_gainersBy_33 : decode cX3_gainersBy 33 = .ok (.aload_n 0, 1) := dk42 (k := 9) bX3_gainersBy_24 rfl
theorem dX3_gainersBy_34 : decode cX3_gainersBy 34 = .ok (.aload_n 1, 1) := dk43 (k := 10) bX3_gainersBy_24 rfl
theorem dX3_gainersBy_35 : decode cX3_gainersBy 35 = .ok (.aload_n 0, 1) := dk42 (k := 11) bX3_gainersBy_24 rfl
theorem dX3_gainersBy_36 : decode cX3_gainersBy 36 = .ok (.getfield 18, 3) := dk180 (k := 12) bX3_gainersBy_24 rfl rfl
theorem dX3_gainersBy_39 : decode cX3_gainersBy 39 = .ok (.iconst 0, 1) := dk3 (k := 15) bX3_gainersBy_24 rfl
theorem dX3_gainersBy_40 : decode cX3_gainersBy 40 = .ok (.invokevirtual 33, 3) := dk182 (k := 16) bX3_gainersBy_24 rfl rfl
theorem dX3_gainersBy_43 : decode cX3_gainersBy 43 = .ok (.aload_n 1, 1) := dk43 (k := 19) bX3_gainersBy_24 rfl
theorem dX3_gainersBy_44 : decode cX3_gainersBy 44 = .ok (.iload_n 3, 1) := dk29 (k := 20) bX3_gainersBy_24 rfl
theorem dX3_gainersBy_45 : decode cX3_gainersBy 45 = .ok (.iload_n 2, 1) := dk28 (k := 21) bX3_gainersBy_24 rfl
theorem dX3_gainersBy_46 : decode cX3_gainersBy 46 = .ok (.ineg, 1) := dk116 (k := 22) bX3_gainersBy_24 rfl
theorem dX3_gainersBy_47 : decode cX3_gainersBy 47 = .ok (.invokevirtual 61, 3) := dk182 (k := 23) bX3_gainersBy_24 rfl rfl
theorem bX3_gainersBy_50 : bL cX3_gainersBy 50 [3, 54, 4, 3, 54, 5, 21, 5, 42, 180, 0, 21, 162, 0, 42, 21, 5, 16, 8, 162, 0, 35, 42, 180, 0, 18] := bL_of (by decide +kernel)
theorem dX3_gainersBy_50 : decode cX3_gainersBy 50 = .ok (.iconst 0, 1) := dk3 (k := 0) bX3_gainersBy_50 rfl
theorem dX3_gainersBy_51 : decode cX3_gainersBy 51 = .ok (.istore 4, 2) := dk54 (k := 1) bX3_gainersBy_50 rfl rfl
theorem dX3_gainersBy_53 : decode cX3_gainersBy 53 = .ok (.iconst 0, 1) := dk3 (k := 3) bX3_gainersBy_50 rfl
theorem dX3_gainersBy_54 : decode cX3_gainersBy 54 = .ok (.istore 5, 2) := dk54 (k := 4) bX3_gainersBy_50 rfl rfl
theorem dX3_gainersBy_56 : decode cX3_gainersBy 56 = .ok (.iload 5, 2) := dk21 (k := 6) bX3_gainersBy_50 rfl rfl
theorem dX3_gainersBy_58 : decode cX3_gainersBy 58 = .ok (.aload_n 0, 1) := dk42 (k := 8) bX3_gainersBy_50 rfl
theorem dX3_gainersBy_59 : decode cX3_gainersBy 59 = .ok (.getfield 21, 3) := dk180 (k := 9) bX3_gainersBy_50 rfl rfl
theorem dX3_gainersBy_62 : decode cX3_gainersBy 62 = .ok (.if_icmp .ge 42, 3) := dk162 (k := 12) bX3_gainersBy_50 rfl (by decide)
theorem dX3_gainersBy_65 : decode cX3_gainersBy 65 = .ok (.iload 5, 2) := dk21 (k := 15) bX3_gainersBy_50 rfl rfl
theorem dX3_gainersBy_67 : decode cX3_gainersBy 67 = .ok (.bipush 8, 2) := dk16 (k := 17) bX3_gainersBy_50 rfl (by decide)
theorem dX3_gainersBy_69 : decode cX3_gainersBy 69 = .ok (.if_icmp .ge 35, 3) := dk162 (k := 19) bX3_gainersBy_50 rfl (by decide)
theorem dX3_gainersBy_72 : decode cX3_gainersBy 72 = .ok (.aload_n 0, 1) := dk42 (k := 22) bX3_gainersBy_50 rfl
theorem dX3_gainersBy_73 : decode cX3_gainersBy 73 = .ok (.getfield 18, 3) := dk180 (k := 23) bX3_gainersBy_50 rfl rfl
theorem bX3_gainersBy_76 : bL cX3_gainersBy 76 [21, 5, 46, 42, 180, 0, 15, 21, 5, 46, 164, 0, 12, 21, 4, 4, 21, 5, 120, 128, 54, 4, 132, 5, 1] := bL_of (by decide +kernel)
theorem dX3_gainersBy_76 : decode cX3_gainersBy 76 = .ok (.iload 5, 2) := dk21 (k := 0) bX3_gainersBy_76 rfl rfl
theorem dX3_gainersBy_78 : decode cX3_gainersBy 78 = .ok (.iaload, 1) := dk46 (k := 2) bX3_gainersBy_76 rfl
theorem dX3_gainersBy_79 : decode cX3_gainersBy 79 = .ok (.aload_n 0, 1) := dk42 (k := 3) bX3_gainersBy_76 rfl
theorem dX3_gainersBy_80 : decode cX3_gainersBy 80 = .ok (.getfield 15, 3) := dk180 (k := 4) bX3_gainersBy_76 rfl rfl
theorem dX3_gainersBy_83 : decode cX3_gainersBy 83 = .ok (.iload 5, 2) := dk21 (k := 7) bX3_gainersBy_76 rfl rfl
theorem dX3_gainersBy_85 : decode cX3_gainersBy 85 = .ok (.iaload, 1) := dk46 (k := 9) bX3_gainersBy_76 rfl
theorem dX3_gainersBy_86 : decode cX3_gainersBy 86 = .ok (.if_icmp .le 12, 3) := dk164 (k := 10) bX3_gainersBy_76 rfl (by decide)
theorem dX3_gainersBy_89 : decode cX3_gainersBy 89 = .ok (.iload 4, 2) := dk21 (k := 13) bX3_gainersBy_76 rfl rfl
theorem dX3_gainersBy_91 : decode cX3_gainersBy 91 = .ok (.iconst 1, 1) := dk4 (k := 15) bX3_gainersBy_76 rfl
theorem dX3_gainersBy_92 : decode cX3_gainersBy 92 = .ok (.iload 5, 2) := dk21 (k := 16) bX3_gainersBy_76 rfl rfl
theorem dX3_gainersBy_94 : decode cX3_gainersBy 94 = .ok (.ishl, 1) := dk120 (k := 18) bX3_gainersBy_76 rfl
theorem dX3_gainersBy_95 : decode cX3_gainersBy 95 = .ok (.ior, 1) := dk128 (k := 19) bX3_gainersBy_76 rfl
theorem dX3_gainersBy_96 : decode cX3_gainersBy 96 = .ok (.istore 4, 2) := dk54 (k := 20) bX3_gainersBy_76 rfl rfl
theorem dX3_gainersBy_98 : decode cX3_gainersBy 98 = .ok (.iinc 5 1, 3) := dk132 (k := 22) bX3_gainersBy_76 rfl rfl (by decide)
theorem bX3_gainersBy_101 : bL cX3_gainersBy 101 [167, 255, 211, 21, 4, 172] := bL_of (by decide +kernel)
theorem dX3_gainersBy_101 : decode cX3_gainersBy 101 = .ok (.goto (-45), 3) := dk167 (k := 0) bX3_gainersBy_101 rfl (by decide)
theorem dX3_gainersBy_104 : decode cX3_gainersBy 104 = .ok (.iload 4, 2) := dk21 (k := 3) bX3_gainersBy_101 rfl rfl
theorem dX3_gainersBy_106 : decode cX3_gainersBy 106 = .ok (.ireturn, 1) := dk172 (k := 5) bX3_gainersBy_101 rfl
theorem bX3_signersOf_0 : bL cX3_signersOf 0 [27, 28, 2, 130, 126, 62, 3, 54, 4, 21, 4, 16, 8, 162, 0, 99, 29, 54, 5, 3, 54, 6, 21, 6] := bL_of (by decide +kernel)
theorem dX3_signersOf_0 : decode cX3_signersOf 0 = .ok (.iload_n 1, 1) := dk27 (k := 0) bX3_signersOf_0 rfl
theorem dX3_signersOf_1 : decode cX3_signersOf 1 = .ok (.iload_n 2, 1) := dk28 (k := 1) bX3_signersOf_0 rfl
theorem dX3_signersOf_2 : decode cX3_signersOf 2 = .ok (.iconst (-1), 1) := dk2 (k := 2) bX3_signersOf_0 rfl
theorem dX3_signersOf_3 : decode cX3_signersOf 3 = .ok (.ixor, 1) := dk130 (k := 3) bX3_signersOf_0 rfl
theorem dX3_signersOf_4 : decode cX3_signersOf 4 = .ok (.iand, 1) := dk126 (k := 4) bX3_signersOf_0 rfl
theorem dX3_signersOf_5 : decode cX3_signersOf 5 = .ok (.istore_n 3, 1) := dk62 (k := 5) bX3_signersOf_0 rfl
theorem dX3_signersOf_6 : decode cX3_signersOf 6 = .ok (.iconst 0, 1) := dk3 (k := 6) bX3_signersOf_0 rfl
theorem dX3_signersOf_7 : decode cX3_signersOf 7 = .ok (.istore 4, 2) := dk54 (k := 7) bX3_signersOf_0 rfl rfl
theorem dX3_signersOf_9 : decode cX3_signersOf 9 = .ok (.iload 4, 2) := dk21 (k := 9) bX3_signersOf_0 rfl rfl
theorem dX3_signersOf_11 : decode cX3_signersOf 11 = .ok (.bipush 8, 2) := dk16 (k := 11) bX3_signersOf_0 rfl (by decide)
theorem dX3_signersOf_13 : decode cX3_signersOf 13 = .ok (.if_icmp .ge 99, 3) := dk162 (k := 13) bX3_signersOf_0 rfl (by decide)
theorem dX3_signersOf_16 : decode cX3_signersOf 16 = .ok (.iload_n 3, 1) := dk29 (k := 16) bX3_signersOf_0 rfl
theorem dX3_signersOf_17 : decode cX3_signersOf 17 = .ok (.istore 5, 2) := dk54 (k := 17) bX3_signersOf_0 rfl rfl
theorem dX3_signersOf_19 : decode cX3_signersOf 19 = .ok (.iconst 0, 1) := dk3 (k := 19) bX3_signersOf_0 rfl
theorem dX3_signersOf_20 : decode cX3_signersOf 20 = .ok (.istore 6, 2) := dk54 (k := 20) bX3_signersOf_0 rfl rfl
theorem dX3_signersOf_22 : decode cX3_signersOf 22 = .ok (.iload 6, 2) := dk21 (k := 22) bX3_signersOf_0 rfl rfl
theorem bX3_signersOf_24 : bL cX3_signersOf 24 [42, 180, 0, 21, 162, 0, 69, 42, 21, 6, 8, 182, 0, 25, 54, 7, 21, 7, 158, 0, 25, 42, 21, 6] := bL_of (by decide +kernel)
theorem dX3_signersOf_24 : decode cX3_signersOf 24 = .ok (.aload_n 0, 1) := dk42 (k := 0) bX3_signersOf_24 rfl
theorem dX3_signersOf_25 : decode cX3_signersOf 25 = .ok (.getfield 21, 3) := dk180 (k := 1) bX3_signersOf_24 rfl rfl
theorem dX3_signersOf_28 : decode cX3_signersOf 28 = .ok (.if_icmp .ge 69, 3) := dk162 (k := 4) bX3_signersOf_24 rfl (by decide)
theorem dX3_signersOf_31 : decode cX3_signersOf 31 = .ok (.aload_n 0, 1) := dk42 (k := 7) bX3_signersOf_24 rfl
theorem dX3_signersOf_32 : decode cX3_signersOf 32 = .ok (.iload 6, 2) := dk21 (k := 8) bX3_signersOf_24 rfl rfl
theorem dX3_signersOf_34 : decode cX3_signersOf 34 = .ok (.iconst 5, 1) := dk8 (k := 10) bX3_signersOf_24 rfl
theorem dX3_signersOf_35 : decode cX3_signersOf 35 = .ok (.invokevirtual 25, 3) := dk182 (k := 11) bX3_signersOf_24 rfl rfl
theorem dX3_signersOf_38 : decode cX3_signersOf 38 = .ok (.istore 7, 2) := dk54 (k := 14) bX3_signersOf_24 rfl rfl
theorem dX3_signersOf_40 : decode cX3_signersOf 40 = .ok (.iload 7, 2) := dk21 (k := 16) bX3_signersOf_24 rfl rfl
theorem dX3_signersOf_42 : decode cX3_signersOf 42 = .ok (.ifCond .le 25, 3) := dk158 (k := 18) bX3_signersOf_24 rfl (by decide)
theorem dX3_signersOf_45 : decode cX3_signersOf 45 = .ok (.aload_n 0, 1) := dk42 (k := 21) bX3_signersOf_24 rfl
theorem dX3_signersOf_46 : decode cX3_signersOf 46 = .ok (.iload 6, 2) := dk21 (k := 22) bX3_signersOf_24 rfl rfl
theorem bX3_signersOf_48 : bL cX3_signersOf 48 [16, 6, 182, 0, 25, 29, 126, 184, 0, 43, 21, 7, 161, 0, 7, 4, 167, 0, 4, 3, 54, 8, 21, 8] := bL_of (by decide +kernel)
theorem dX3_signersOf_48 : decode cX3_signersOf 48 = .ok (.bipush 6, 2) := dk16 (k := 0) bX3_signersOf_48 rfl (by decide)
theorem dX3_signersOf_50 : decode cX3_signersOf 50 = .ok (.invokevirtual 25, 3) := dk182 (k := 2) bX3_signersOf_48 rfl rfl
theorem dX3_signersOf_53 : decode cX3_signersOf 53 = .ok (.iload_n 3, 1) := dk29 (k := 5) bX3_signersOf_48 rfl
theorem dX3_signersOf_54 : decode cX3_signersOf 54 = .ok (.iand, 1) := dk126 (k := 6) bX3_signersOf_48 rfl
theorem dX3_signersOf_55 : decode cX3_signersOf 55 = .ok (.invokestatic 43, 3) := dk184 (k := 7) bX3_signersOf_48 rfl rfl
theorem dX3_signersOf_58 : decode cX3_signersOf 58 = .ok (.iload 7, 2) := dk21 (k := 10) bX3_signersOf_48 rfl rfl
theorem dX3_signersOf_60 : decode cX3_signersOf 60 = .ok (.if_icmp .lt 7, 3) := dk161 (k := 12) bX3_signersOf_48 rfl (by decide)
theorem dX3_signersOf_63 : decode cX3_signersOf 63 = .ok (.iconst 1, 1) := dk4 (k := 15) bX3_signersOf_48 rfl
theorem dX3_signersOf_64 : decode cX3_signersOf 64 = .ok (.goto 4, 3) := dk167 (k := 16) bX3_signersOf_48 rfl (by decide)
theorem dX3_signersOf_67 : decode cX3_signersOf 67 = .ok (.iconst 0, 1) := dk3 (k := 19) bX3_signersOf_48 rfl
theorem dX3_signersOf_68 : decode cX3_signersOf 68 = .ok (.istore 8, 2) := dk54 (k := 20) bX3_signersOf_48 rfl rfl
theorem dX3_signersOf_70 : decode cX3_signersOf 70 = .ok (.iload 8, 2) := dk21 (k := 22) bX3_signersOf_48 rfl rfl
theorem bX3_signersOf_72 : bL cX3_signersOf 72 [153, 0, 19, 28, 21, 6, 122, 4, 126, 154, 0, 10, 29, 4, 21, 6, 120, 128, 62, 132, 6, 1, 167, 255, 184] := bL_of (by decide +kernel)
theorem dX3_signersOf_72 : decode cX3_signersOf 72 = .ok (.ifCond .eq 19, 3) := dk153 (k := 0) bX3_signersOf_72 rfl (by decide)
theorem dX3_signersOf_75 : decode cX3_signersOf 75 = .ok (.iload_n 2, 1) := dk28 (k := 3) bX3_signersOf_72 rfl
theorem dX3_signersOf_76 : decode cX3_signersOf 76 = .ok (.iload 6, 2) := dk21 (k := 4) bX3_signersOf_72 rfl rfl
theorem dX3_signersOf_78 : decode cX3_signersOf 78 = .ok (.ishr, 1) := dk122 (k := 6) bX3_signersOf_72 rfl
theorem dX3_signersOf_79 : decode cX3_signersOf 79 = .ok (.iconst 1, 1) := dk4 (k := 7) bX3_signersOf_72 rfl
theorem dX3_signersOf_80 : decode cX3_signersOf 80 = .ok (.iand, 1) := dk126 (k := 8) bX3_signersOf_72 rfl
theorem dX3_signersOf_81 : decode cX3_signersOf 81 = .ok (.ifCond .ne 10, 3) := dk154 (k := 9) bX3_signersOf_72 rfl (by decide)
theorem dX3_signersOf_84 : decode cX3_signersOf 84 = .ok (.iload_n 3, 1) := dk29 (k := 12) bX3_signersOf_72 rfl
theorem dX3_signersOf_85 : decode cX3_signersOf 85 = .ok (.iconst 1, 1) := dk4 (k := 13) bX3_signersOf_72 rfl
theorem dX3_signersOf_86 : decode cX3_signersOf 86 = .ok (.iload 6, 2) := dk21 (k := 14) bX3_signersOf_72 rfl rfl
theorem dX3_signersOf_88 : decode cX3_signersOf 88 = .ok (.ishl, 1) := dk120 (k := 16) bX3_signersOf_72 rfl
theorem dX3_signersOf_89 : decode cX3_signersOf 89 = .ok (.ior, 1) := dk128 (k := 17) bX3_signersOf_72 rfl
theorem dX3_signersOf_90 : decode cX3_signersOf 90 = .ok (.istore_n 3, 1) := dk62 (k := 18) bX3_signersOf_72 rfl
theorem dX3_signersOf_91 : decode cX3_signersOf 91 = .ok (.iinc 6 1, 3) := dk132 (k := 19) bX3_signersOf_72 rfl rfl (by decide)
theorem dX3_signersOf_94 : decode cX3_signersOf 94 = .ok (.goto (-72), 3) := dk167 (k := 22) bX3_signersOf_72 rfl (by decide)
theorem bX3_signersOf_97 : bL cX3_signersOf 97 [29, 21, 5, 160, 0, 6, 167, 0, 9, 132, 4, 1, 167, 255, 156, 29, 172] := bL_of (by decide +kernel)
theorem dX3_signersOf_97 : decode cX3_signersOf 97 = .ok (.iload_n 3, 1) := dk29 (k := 0) bX3_signersOf_97 rfl
theorem dX3_signersOf_98 : decode cX3_signersOf 98 = .ok (.iload 5, 2) := dk21 (k := 1) bX3_signersOf_97 rfl rfl
theorem dX3_signersOf_100 : decode cX3_signersOf 100 = .ok (.if_icmp .ne 6, 3) := dk160 (k := 3) bX3_signersOf_97 rfl (by decide)
theorem dX3_signersOf_103 : decode cX3_signersOf 103 = .ok (.goto 9, 3) := dk167 (k := 6) bX3_signersOf_97 rfl (by decide)
theorem dX3_signersOf_106 : decode cX3_signersOf 106 = .ok (.iinc 4 1, 3) := dk132 (k := 9) bX3_signersOf_97 rfl rfl (by decide)
theorem dX3_signersOf_109 : decode cX3_signersOf 109 = .ok (.goto (-100), 3) := dk167 (k := 12) bX3_signersOf_97 rfl (by decide)
theorem dX3_signersOf_112 : decode cX3_signersOf 112 = .ok (.iload_n 3, 1) := dk29 (k := 15) bX3_signersOf_97 rfl
theorem dX3_signersOf_113 : decode cX3_signersOf 113 = .ok (.ireturn, 1) := dk172 (k := 16) bX3_signersOf_97 rfl
theorem bX3_namesOf_0 : bL cX3_namesOf 0 [3, 61, 3, 62, 29, 42, 180, 0, 21, 162, 0, 27, 27, 29, 122, 4, 126, 4, 160, 0, 12, 28, 42, 29] := bL_of (by decide +kernel)
theorem dX3_namesOf_0 : decode cX3_namesOf 0 = .ok (.iconst 0, 1) := dk3 (k := 0) bX3_namesOf_0 rfl
theorem dX3_namesOf_1 : decode cX3_namesOf 1 = .ok (.istore_n 2, 1) := dk61 (k := 1) bX3_namesOf_0 rfl
theorem dX3_namesOf_2 : decode cX3_namesOf 2 = .ok (.iconst 0, 1) := dk3 (k := 2) bX3_namesOf_0 rfl
theorem dX3_namesOf_3 : decode cX3_namesOf 3 = .ok (.istore_n 3, 1) := dk62 (k := 3) bX3_namesOf_0 rfl
theorem dX3_namesOf_4 : decode cX3_namesOf 4 = .ok (.iload_n 3, 1) := dk29 (k := 4) bX3_namesOf_0 rfl
theorem dX3_namesOf_5 : decode cX3_namesOf 5 = .ok (.aload_n 0, 1) := dk42 (k := 5) bX3_namesOf_0 rfl
theorem dX3_namesOf_6 : decode cX3_namesOf 6 = .ok (.getfield 21, 3) := dk180 (k := 6) bX3_namesOf_0 rfl rfl
theorem dX3_namesOf_9 : decode cX3_namesOf 9 = .ok (.if_icmp .ge 27, 3) := dk162 (k := 9) bX3_namesOf_0 rfl (by decide)
theorem dX3_namesOf_12 : decode cX3_namesOf 12 = .ok (.iload_n 1, 1) := dk27 (k := 12) bX3_namesOf_0 rfl
theorem dX3_namesOf_13 : decode cX3_namesOf 13 = .ok (.iload_n 3, 1) := dk29 (k := 13) bX3_namesOf_0 rfl
theorem dX3_namesOf_14 : decode cX3_namesOf 14 = .ok (.ishr, 1) := dk122 (k := 14) bX3_namesOf_0 rfl
theorem dX3_namesOf_15 : decode cX3_namesOf 15 = .ok (.iconst 1, 1) := dk4 (k := 15) bX3_namesOf_0 rfl
theorem dX3_namesOf_16 : decode cX3_namesOf 16 = .ok (.iand, 1) := dk126 (k := 16) bX3_namesOf_0 rfl
theorem dX3_namesOf_17 : decode cX3_namesOf 17 = .ok (.iconst 1, 1) := dk4 (k := 17) bX3_namesOf_0 rfl
theorem dX3_namesOf_18 : decode cX3_namesOf 18 = .ok (.if_icmp .ne 12, 3) := dk160 (k := 18) bX3_namesOf_0 rfl (by decide)
theorem dX3_namesOf_21 : decode cX3_namesOf 21 = .ok (.iload_n 2, 1) := dk28 (k := 21) bX3_namesOf_0 rfl
theorem dX3_namesOf_22 : decode cX3_namesOf 22 = .ok (.aload_n 0, 1) := dk42 (k := 22) bX3_namesOf_0 rfl
theorem dX3_namesOf_23 : decode cX3_namesOf 23 = .ok (.iload_n 3, 1) := dk29 (k := 23) bX3_namesOf_0 rfl
theorem bX3_namesOf_24 : bL cX3_namesOf 24 [4, 182, 0, 25, 96, 61, 132, 3, 1, 167, 255, 227, 28, 172] := bL_of (by decide +kernel)
theorem dX3_namesOf_24 : decode cX3_namesOf 24 = .ok (.iconst 1, 1) := dk4 (k := 0) bX3_namesOf_24 rfl
theorem dX3_namesOf_25 : decode cX3_namesOf 25 = .ok (.invokevirtual 25, 3) := dk182 (k := 1) bX3_namesOf_24 rfl rfl
theorem dX3_namesOf_28 : decode cX3_namesOf 28 = .ok (.iadd, 1) := dk96 (k := 4) bX3_namesOf_24 rfl
theorem dX3_namesOf_29 : decode cX3_namesOf 29 = .ok (.istore_n 2, 1) := dk61 (k := 5) bX3_namesOf_24 rfl
theorem dX3_namesOf_30 : decode cX3_namesOf 30 = .ok (.iinc 3 1, 3) := dk132 (k := 6) bX3_namesOf_24 rfl rfl (by decide)
theorem dX3_namesOf_33 : decode cX3_namesOf 33 = .ok (.goto (-29), 3) := dk167 (k := 9) bX3_namesOf_24 rfl (by decide)
theorem dX3_namesOf_36 : decode cX3_namesOf 36 = .ok (.iload_n 2, 1) := dk28 (k := 12) bX3_namesOf_24 rfl
theorem dX3_namesOf_37 : decode cX3_namesOf 37 = .ok (.ireturn, 1) := dk172 (k := 13) bX3_namesOf_24 rfl
theorem bX3_isRoll_0 : bL cX3_isRoll 0 [43, 28, 182, 0, 65, 62, 29, 5, 112, 153, 0, 5, 3, 172, 3, 54, 4, 21, 4, 29, 162, 0, 65, 43] := bL_of (by decide +kernel)
theorem dX3_isRoll_0 : decode cX3_isRoll 0 = .ok (.aload_n 1, 1) := dk43 (k := 0) bX3_isRoll_0 rfl
theorem dX3_isRoll_1 : decode cX3_isRoll 1 = .ok (.iload_n 2, 1) := dk28 (k := 1) bX3_isRoll_0 rfl
theorem dX3_isRoll_2 : decode cX3_isRoll 2 = .ok (.invokevirtual 65, 3) := dk182 (k := 2) bX3_isRoll_0 rfl rfl
theorem dX3_isRoll_5 : decode cX3_isRoll 5 = .ok (.istore_n 3, 1) := dk62 (k := 5) bX3_isRoll_0 rfl
theorem dX3_isRoll_6 : decode cX3_isRoll 6 = .ok (.iload_n 3, 1) := dk29 (k := 6) bX3_isRoll_0 rfl
theorem dX3_isRoll_7 : decode cX3_isRoll 7 = .ok (.iconst 2, 1) := dk5 (k := 7) bX3_isRoll_0 rfl
theorem dX3_isRoll_8 : decode cX3_isRoll 8 = .ok (.irem, 1) := dk112 (k := 8) bX3_isRoll_0 rfl
theorem dX3_isRoll_9 : decode cX3_isRoll 9 = .ok (.ifCond .eq 5, 3) := dk153 (k := 9) bX3_isRoll_0 rfl (by decide)
theorem dX3_isRoll_12 : decode cX3_isRoll 12 = .ok (.iconst 0, 1) := dk3 (k := 12) bX3_isRoll_0 rfl
theorem dX3_isRoll_13 : decode cX3_isRoll 13 = .ok (.ireturn, 1) := dk172 (k := 13) bX3_isRoll_0 rfl
theorem dX3_isRoll_14 : decode cX3_isRoll 14 = .ok (.iconst 0, 1) := dk3 (k := 14) bX3_isRoll_0 rfl
theorem dX3_isRoll_15 : decode cX3_isRoll 15 = .ok (.istore 4, 2) := dk54 (k := 15) bX3_isRoll_0 rfl rfl
theorem dX3_isRoll_17 : decode cX3_isRoll 17 = .ok (.iload 4, 2) := dk21 (k := 17) bX3_isRoll_0 rfl rfl
theorem dX3_isRoll_19 : decode cX3_isRoll 19 = .ok (.iload_n 3, 1) := dk29 (k := 19) bX3_isRoll_0 rfl
theorem dX3_isRoll_20 : decode cX3_isRoll 20 = .ok (.if_icmp .ge 65, 3) := dk162 (k := 20) bX3_isRoll_0 rfl (by decide)
theorem dX3_isRoll_23 : decode cX3_isRoll 23 = .ok (.aload_n 1, 1) := dk43 (k := 23) bX3_isRoll_0 rfl
theorem bX3_isRoll_24 : bL cX3_isRoll 24 [28, 21, 4, 182, 0, 70, 55, 5, 43, 28, 21, 4, 4, 96, 182, 0, 70, 55, 7, 22, 5, 9, 148, 155, 0, 30] := bL_of (by decide +kernel)
theorem dX3_isRoll_24 : decode cX3_isRoll 24 = .ok (.iload_n 2, 1) := dk28 (k := 0) bX3_isRoll_24 rfl
theorem dX3_isRoll_25 : decode cX3_isRoll 25 = .ok (.iload 4, 2) := dk21 (k := 1) bX3_isRoll_24 rfl rfl
theorem dX3_isRoll_27 : decode cX3_isRoll 27 = .ok (.invokevirtual 70, 3) := dk182 (k := 3) bX3_isRoll_24 rfl rfl
theorem dX3_isRoll_30 : decode cX3_isRoll 30 = .ok (.lstore 5, 2) := dk55 (k := 6) bX3_isRoll_24 rfl rfl
theorem dX3_isRoll_32 : decode cX3_isRoll 32 = .ok (.aload_n 1, 1) := dk43 (k := 8) bX3_isRoll_24 rfl
theorem dX3_isRoll_33 : decode cX3_isRoll 33 = .ok (.iload_n 2, 1) := dk28 (k := 9) bX3_isRoll_24 rfl
theorem dX3_isRoll_34 : decode cX3_isRoll 34 = .ok (.iload 4, 2) := dk21 (k := 10) bX3_isRoll_24 rfl rfl
theorem dX3_isRoll_36 : decode cX3_isRoll 36 = .ok (.iconst 1, 1) := dk4 (k := 12) bX3_isRoll_24 rfl
theorem dX3_isRoll_37 : decode cX3_isRoll 37 = .ok (.iadd, 1) := dk96 (k := 13) bX3_isRoll_24 rfl
theorem dX3_isRoll_38 : decode cX3_isRoll 38 = .ok (.invokevirtual 70, 3) := dk182 (k := 14) bX3_isRoll_24 rfl rfl
theorem dX3_isRoll_41 : decode cX3_isRoll 41 = .ok (.lstore 7, 2) := dk55 (k := 17) bX3_isRoll_24 rfl rfl
theorem dX3_isRoll_43 : decode cX3_isRoll 43 = .ok (.lload 5, 2) := dk22 (k := 19) bX3_isRoll_24 rfl rfl
theorem dX3_isRoll_45 : decode cX3_isRoll 45 = .ok (.lconst 0, 1) := dk9 (k := 21) bX3_isRoll_24 rfl
theorem dX3_isRoll_46 : decode cX3_isRoll 46 = .ok (.lcmp, 1) := dk148 (k := 22) bX3_isRoll_24 rfl
theorem dX3_isRoll_47 : decode cX3_isRoll 47 = .ok (.ifCond .lt 30, 3) := dk155 (k := 23) bX3_isRoll_24 rfl (by decide)
theorem bX3_isRoll_50 : bL cX3_isRoll 50 [22, 5, 42, 180, 0, 21, 133, 148, 156, 0, 19, 22, 7, 9, 148, 155, 0, 12, 22, 7, 20, 0, 74, 148] := bL_of (by decide +kernel)
theorem dX3_isRoll_50 : decode cX3_isRoll 50 = .ok (.lload 5, 2) := dk22 (k := 0) bX3_isRoll_50 rfl rfl
theorem dX3_isRoll_52 : decode cX3_isRoll 52 = .ok (.aload_n 0, 1) := dk42 (k := 2) bX3_isRoll_50 rfl
theorem dX3_isRoll_53 : decode cX3_isRoll 53 = .ok (.getfield 21, 3) := dk180 (k := 3) bX3_isRoll_50 rfl rfl
theorem dX3_isRoll_56 : decode cX3_isRoll 56 = .ok (.i2l, 1) := dk133 (k := 6) bX3_isRoll_50 rfl
theorem dX3_isRoll_57 : decode cX3_isRoll 57 = .ok (.lcmp, 1) := dk148 (k := 7) bX3_isRoll_50 rfl
theorem dX3_isRoll_58 : decode cX3_isRoll 58 = .ok (.ifCond .ge 19, 3) := dk156 (k := 8) bX3_isRoll_50 rfl (by decide)
theorem dX3_isRoll_61 : decode cX3_isRoll 61 = .ok (.lload 7, 2) := dk22 (k := 11) bX3_isRoll_50 rfl rfl
theorem dX3_isRoll_63 : decode cX3_isRoll 63 = .ok (.lconst 0, 1) := dk9 (k := 13) bX3_isRoll_50 rfl
theorem dX3_isRoll_64 : decode cX3_isRoll 64 = .ok (.lcmp, 1) := dk148 (k := 14) bX3_isRoll_50 rfl
theorem dX3_isRoll_65 : decode cX3_isRoll 65 = .ok (.ifCond .lt 12, 3) := dk155 (k := 15) bX3_isRoll_50 rfl (by decide)
theorem dX3_isRoll_68 : decode cX3_isRoll 68 = .ok (.lload 7, 2) := dk22 (k := 18) bX3_isRoll_50 rfl rfl
theorem dX3_isRoll_70 : decode cX3_isRoll 70 = .ok (.ldc2_w 74, 3) := dk20 (k := 20) bX3_isRoll_50 rfl rfl
theorem dX3_isRoll_73 : decode cX3_isRoll 73 = .ok (.lcmp, 1) := dk148 (k := 23) bX3_isRoll_50 rfl
theorem bX3_isRoll_74 : bL cX3_isRoll 74 [158, 0, 5, 3, 172, 132, 4, 2, 167, 255, 191, 4, 172] := bL_of (by decide +kernel)
theorem dX3_isRoll_74 : decode cX3_isRoll 74 = .ok (.ifCond .le 5, 3) := dk158 (k := 0) bX3_isRoll_74 rfl (by decide)
theorem dX3_isRoll_77 : decode cX3_isRoll 77 = .ok (.iconst 0, 1) := dk3 (k := 3) bX3_isRoll_74 rfl
theorem dX3_isRoll_78 : decode cX3_isRoll 78 = .ok (.ireturn, 1) := dk172 (k := 4) bX3_isRoll_74 rfl
theorem dX3_isRoll_79 : decode cX3_isRoll 79 = .ok (.iinc 4 2, 3) := dk132 (k := 5) bX3_isRoll_74 rfl rfl (by decide)
theorem dX3_isRoll_82 : decode cX3_isRoll 82 = .ok (.goto (-65), 3) := dk167 (k := 8) bX3_isRoll_74 rfl (by decide)
theorem dX3_isRoll_85 : decode cX3_isRoll 85 = .ok (.iconst 1, 1) := dk4 (k := 11) bX3_isRoll_74 rfl
theorem dX3_isRoll_86 : decode cX3_isRoll 86 = .ok (.ireturn, 1) := dk172 (k := 12) bX3_isRoll_74 rfl
theorem bX3_standing_0 : bL cX3_standing 0 [3, 54, 4, 3, 54, 5, 21, 5, 43, 28, 182, 0, 65, 162, 0, 24, 42, 43, 28, 21, 5, 182, 0, 76] := bL_of (by decide +kernel)
theorem dX3_standing_0 : decode cX3_standing 0 = .ok (.iconst 0, 1) := dk3 (k := 0) bX3_standing_0 rfl
theorem dX3_standing_1 : decode cX3_standing 1 = .ok (.istore 4, 2) := dk54 (k := 1) bX3_standing_0 rfl rfl
theorem dX3_standing_3 : decode cX3_standing 3 = .ok (.iconst 0, 1) := dk3 (k := 3) bX3_standing_0 rfl
theorem dX3_standing_4 : decode cX3_standing 4 = .ok (.istore 5, 2) := dk54 (k := 4) bX3_standing_0 rfl rfl
theorem dX3_standing_6 : decode cX3_standing 6 = .ok (.iload 5, 2) := dk21 (k := 6) bX3_standing_0 rfl rfl
theorem dX3_standing_8 : decode cX3_standing 8 = .ok (.aload_n 1, 1) := dk43 (k := 8) bX3_standing_0 rfl
theorem dX3_standing_9 : decode cX3_standing 9 = .ok (.iload_n 2, 1) := dk28 (k := 9) bX3_standing_0 rfl
theorem dX3_standing_10 : decode cX3_standing 10 = .ok (.invokevirtual 65, 3) := dk182 (k := 10) bX3_standing_0 rfl rfl
theorem dX3_standing_13 : decode cX3_standing 13 = .ok (.if_icmp .ge 24, 3) := dk162 (k := 13) bX3_standing_0 rfl (by decide)
theorem dX3_standing_16 : decode cX3_standing 16 = .ok (.aload_n 0, 1) := dk42 (k := 16) bX3_standing_0 rfl
theorem dX3_standing_17 : decode cX3_standing 17 = .ok (.aload_n 1, 1) := dk43 (k := 17) bX3_standing_0 rfl
theorem dX3_standing_18 : decode cX3_standing 18 = .ok (.iload_n 2, 1) := dk28 (k := 18) bX3_standing_0 rfl
theorem dX3_standing_19 : decode cX3_standing 19 = .ok (.iload 5, 2) := dk21 (k := 19) bX3_standing_0 rfl rfl
theorem dX3_standing_21 : decode cX3_standing 21 = .ok (.invokevirtual 76, 3) := dk182 (k := 21) bX3_standing_0 rfl rfl
theorem bX3_standing_24 : bL cX3_standing 24 [29, 160, 0, 6, 132, 4, 1, 132, 5, 2, 167, 255, 228, 21, 4, 172] := bL_of (by decide +kernel)
theorem dX3_standing_24 : decode cX3_standing 24 = .ok (.iload_n 3, 1) := dk29 (k := 0) bX3_standing_24 rfl
theorem dX3_standing_25 : decode cX3_standing 25 = .ok (.if_icmp .ne 6, 3) := dk160 (k := 1) bX3_standing_24 rfl (by decide)
theorem dX3_standing_28 : decode cX3_standing 28 = .ok (.iinc 4 1, 3) := dk132 (k := 4) bX3_standing_24 rfl rfl (by decide)
theorem dX3_standing_31 : decode cX3_standing 31 = .ok (.iinc 5 2, 3) := dk132 (k := 7) bX3_standing_24 rfl rfl (by decide)
theorem dX3_standing_34 : decode cX3_standing 34 = .ok (.goto (-28), 3) := dk167 (k := 10) bX3_standing_24 rfl (by decide)
theorem dX3_standing_37 : decode cX3_standing 37 = .ok (.iload 4, 2) := dk21 (k := 13) bX3_standing_24 rfl rfl
theorem dX3_standing_39 : decode cX3_standing 39 = .ok (.ireturn, 1) := dk172 (k := 15) bX3_standing_24 rfl
theorem bX3_howStands_0 : bL cX3_howStands 0 [43, 28, 29, 182, 0, 70, 55, 4, 43, 28, 29, 4, 96, 182, 0, 70, 55, 6, 3, 54, 8, 21, 8, 29] := bL_of (by decide +kernel)
theorem dX3_howStands_0 : decode cX3_howStands 0 = .ok (.aload_n 1, 1) := dk43 (k := 0) bX3_howStands_0 rfl
theorem dX3_howStands_1 : decode cX3_howStands 1 = .ok (.iload_n 2, 1) := dk28 (k := 1) bX3_howStands_0 rfl
theorem dX3_howStands_2 : decode cX3_howStands 2 = .ok (.iload_n 3, 1) := dk29 (k := 2) bX3_howStands_0 rfl
theorem dX3_howStands_3 : decode cX3_howStands 3 = .ok (.invokevirtual 70, 3) := dk182 (k := 3) bX3_howStands_0 rfl rfl
theorem dX3_howStands_6 : decode cX3_howStands 6 = .ok (.lstore 4, 2) := dk55 (k := 6) bX3_howStands_0 rfl rfl
theorem dX3_howStands_8 : decode cX3_howStands 8 = .ok (.aload_n 1, 1) := dk43 (k := 8) bX3_howStands_0 rfl
theorem dX3_howStands_9 : decode cX3_howStands 9 = .ok (.iload_n 2, 1) := dk28 (k := 9) bX3_howStands_0 rfl
theorem dX3_howStands_10 : decode cX3_howStands 10 = .ok (.iload_n 3, 1) := dk29 (k := 10) bX3_howStands_0 rfl
theorem dX3_howStands_11 : decode cX3_howStands 11 = .ok (.iconst 1, 1) := dk4 (k := 11) bX3_howStands_0 rfl
theorem dX3_howStands_12 : decode cX3_howStands 12 = .ok (.iadd, 1) := dk96 (k := 12) bX3_howStands_0 rfl
theorem dX3_howStands_13 : decode cX3_howStands 13 = .ok (.invokevirtual 70, 3) := dk182 (k := 13) bX3_howStands_0 rfl rfl
theorem dX3_howStands_16 : decode cX3_howStands 16 = .ok (.lstore 6, 2) := dk55 (k := 16) bX3_howStands_0 rfl rfl
theorem dX3_howStands_18 : decode cX3_howStands 18 = .ok (.iconst 0, 1) := dk3 (k := 18) bX3_howStands_0 rfl
theorem dX3_howStands_19 : decode cX3_howStands 19 = .ok (.istore 8, 2) := dk54 (k := 19) bX3_howStands_0 rfl rfl
theorem dX3_howStands_21 : decode cX3_howStands 21 = .ok (.iload 8, 2) := dk21 (k := 21) bX3_howStands_0 rfl rfl
theorem dX3_howStands_23 : decode cX3_howStands 23 = .ok (.iload_n 3, 1) := dk29 (k := 23) bX3_howStands_0 rfl
theorem bX3_howStands_24 : bL cX3_howStands 24 [162, 0, 39, 43, 28, 21, 8, 182, 0, 70, 22, 4, 148, 154, 0, 20, 43, 28, 21, 8, 4, 96, 182, 0, 70] := bL_of (by decide +kernel)
theorem dX3_howStands_24 : decode cX3_howStands 24 = .ok (.if_icmp .ge 39, 3) := dk162 (k := 0) bX3_howStands_24 rfl (by decide)
theorem dX3_howStands_27 : decode cX3_howStands 27 = .ok (.aload_n 1, 1) := dk43 (k := 3) bX3_howStands_24 rfl
theorem dX3_howStands_28 : decode cX3_howStands 28 = .ok (.iload_n 2, 1) := dk28 (k := 4) bX3_howStands_24 rfl
theorem dX3_howStands_29 : decode cX3_howStands 29 = .ok (.iload 8, 2) := dk21 (k := 5) bX3_howStands_24 rfl rfl
theorem dX3_howStands_31 : decode cX3_howStands 31 = .ok (.invokevirtual 70, 3) := dk182 (k := 7) bX3_howStands_24 rfl rfl
theorem dX3_howStands_34 : decode cX3_howStands 34 = .ok (.lload 4, 2) := dk22 (k := 10) bX3_howStands_24 rfl rfl
theorem dX3_howStands_36 : decode cX3_howStands 36 = .ok (.lcmp, 1) := dk148 (k := 12) bX3_howStands_24 rfl
theorem dX3_howStands_37 : decode cX3_howStands 37 = .ok (.ifCond .ne 20, 3) := dk154 (k := 13) bX3_howStands_24 rfl (by decide)
theorem dX3_howStands_40 : decode cX3_howStands 40 = .ok (.aload_n 1, 1) := dk43 (k := 16) bX3_howStands_24 rfl
theorem dX3_howStands_41 : decode cX3_howStands 41 = .ok (.iload_n 2, 1) := dk28 (k := 17) bX3_howStands_24 rfl
theorem dX3_howStands_42 : decode cX3_howStands 42 = .ok (.iload 8, 2) := dk21 (k := 18) bX3_howStands_24 rfl rfl
theorem dX3_howStands_44 : decode cX3_howStands 44 = .ok (.iconst 1, 1) := dk4 (k := 20) bX3_howStands_24 rfl
theorem dX3_howStands_45 : decode cX3_howStands 45 = .ok (.iadd, 1) := dk96 (k := 21) bX3_howStands_24 rfl
theorem dX3_howStands_46 : decode cX3_howStands 46 = .ok (.invokevirtual 70, 3) := dk182 (k := 22) bX3_howStands_24 rfl rfl
theorem bX3_howStands_49 : bL cX3_howStands 49 [22, 6, 148, 154, 0, 5, 4, 172, 132, 8, 2, 167, 255, 217, 22, 6, 42, 22, 4, 136, 4, 182, 0, 25] := bL_of (by decide +kernel)
theorem dX3_howStands_49 : decode cX3_howStands 49 = .ok (.lload 6, 2) := dk22 (k := 0) bX3_howStands_49 rfl rfl
theorem dX3_howStands_51 : decode cX3_howStands 51 = .ok (.lcmp, 1) := dk148 (k := 2) bX3_howStands_49 rfl
theorem dX3_howStands_52 : decode cX3_howStands 52 = .ok (.ifCond .ne 5, 3) := dk154 (k := 3) bX3_howStands_49 rfl (by decide)
theorem dX3_howStands_55 : decode cX3_howStands 55 = .ok (.iconst 1, 1) := dk4 (k := 6) bX3_howStands_49 rfl
theorem dX3_howStands_56 : decode cX3_howStands 56 = .ok (.ireturn, 1) := dk172 (k := 7) bX3_howStands_49 rfl
theorem dX3_howStands_57 : decode cX3_howStands 57 = .ok (.iinc 8 2, 3) := dk132 (k := 8) bX3_howStands_49 rfl rfl (by decide)
theorem dX3_howStands_60 : decode cX3_howStands 60 = .ok (.goto (-39), 3) := dk167 (k := 11) bX3_howStands_49 rfl (by decide)
theorem dX3_howStands_63 : decode cX3_howStands 63 = .ok (.lload 6, 2) := dk22 (k := 14) bX3_howStands_49 rfl rfl
theorem dX3_howStands_65 : decode cX3_howStands 65 = .ok (.aload_n 0, 1) := dk42 (k := 16) bX3_howStands_49 rfl
theorem dX3_howStands_66 : decode cX3_howStands 66 = .ok (.lload 4, 2) := dk22 (k := 17) bX3_howStands_49 rfl rfl
theorem dX3_howStands_68 : decode cX3_howStands 68 = .ok (.l2i, 1) := dk136 (k := 19) bX3_howStands_49 rfl
theorem dX3_howStands_69 : decode cX3_howStands 69 = .ok (.iconst 1, 1) := dk4 (k := 20) bX3_howStands_49 rfl
theorem dX3_howStands_70 : decode cX3_howStands 70 = .ok (.invokevirtual 25, 3) := dk182 (k := 21) bX3_howStands_49 rfl rfl
theorem bX3_howStands_73 : bL cX3_howStands 73 [133, 148, 156, 0, 7, 3, 167, 0, 4, 5, 172] := bL_of (by decide +kernel)
theorem dX3_howStands_73 : decode cX3_howStands 73 = .ok (.i2l, 1) := dk133 (k := 0) bX3_howStands_73 rfl
theorem dX3_howStands_74 : decode cX3_howStands 74 = .ok (.lcmp, 1) := dk148 (k := 1) bX3_howStands_73 rfl
theorem dX3_howStands_75 : decode cX3_howStands 75 = .ok (.ifCond .ge 7, 3) := dk156 (k := 2) bX3_howStands_73 rfl (by decide)
theorem dX3_howStands_78 : decode cX3_howStands 78 = .ok (.iconst 0, 1) := dk3 (k := 5) bX3_howStands_73 rfl
theorem dX3_howStands_79 : decode cX3_howStands 79 = .ok (.goto 4, 3) := dk167 (k := 6) bX3_howStands_73 rfl (by decide)
theorem dX3_howStands_82 : decode cX3_howStands 82 = .ok (.iconst 2, 1) := dk5 (k := 9) bX3_howStands_73 rfl
theorem dX3_howStands_83 : decode cX3_howStands 83 = .ok (.ireturn, 1) := dk172 (k := 10) bX3_howStands_73 rfl
theorem bX4_init_0 : bL cX4_init 0 [42, 183, 0, 3, 42, 17, 25, 161] := bL_of (by decide +kernel)
theorem dX4_init_0 : decode cX4_init 0 = .ok (.aload_n 0, 1) := dk42 (k := 0) bX4_init_0 rfl
theorem dX4_init_1 : decode cX4_init 1 = .ok (.invokespecial 3, 3) := dk183 (k := 1) bX4_init_0 rfl rfl
theorem dX4_init_4 : decode cX4_init 4 = .ok (.aload_n 0, 1) := dk42 (k := 4) bX4_init_0 rfl
theorem dX4_init_5 : decode cX4_init 5 = .ok (.sipush 6561, 3) := dk17 (k := 5) bX4_init_0 rfl (by decide)
theorem dX4_init_8 : decode cX4_init 8 = .ok (.newarray .byte, 2) := by decide +kernel
theorem bX4_init_10 : bL cX4_init 10 [181, 0, 9, 42, 43, 181, 0, 15, 177] := bL_of (by decide +kernel)
theorem dX4_init_10 : decode cX4_init 10 = .ok (.putfield 9, 3) := dk181 (k := 0) bX4_init_10 rfl rfl
theorem dX4_init_13 : decode cX4_init 13 = .ok (.aload_n 0, 1) := dk42 (k := 3) bX4_init_10 rfl
theorem dX4_init_14 : decode cX4_init 14 = .ok (.aload_n 1, 1) := dk43 (k := 4) bX4_init_10 rfl
theorem dX4_init_15 : decode cX4_init 15 = .ok (.putfield 15, 3) := dk181 (k := 5) bX4_init_10 rfl rfl
theorem dX4_init_18 : decode cX4_init 18 = .ok (.return_, 1) := dk177 (k := 8) bX4_init_10 rfl
theorem bX4_signersOfWon_0 : bL cX4_signersOfWon 0 [42, 180, 0, 15, 180, 0, 19, 42, 180, 0, 15, 180, 0, 19, 42, 180, 0, 15, 180, 0, 25, 2, 182, 0, 29] := bL_of (by decide +kernel)
theorem dX4_signersOfWon_0 : decode cX4_signersOfWon 0 = .ok (.aload_n 0, 1) := dk42 (k := 0) bX4_signersOfWon_0 rfl
theorem dX4_signersOfWon_1 : decode cX4_signersOfWon 1 = .ok (.getfield 15, 3) := dk180 (k := 1) bX4_signersOfWon_0 rfl rfl
theorem dX4_signersOfWon_4 : decode cX4_signersOfWon 4 = .ok (.getfield 19, 3) := dk180 (k := 4) bX4_signersOfWon_0 rfl rfl
theorem dX4_signersOfWon_7 : decode cX4_signersOfWon 7 = .ok (.aload_n 0, 1) := dk42 (k := 7) bX4_signersOfWon_0 rfl
theorem dX4_signersOfWon_8 : decode cX4_signersOfWon 8 = .ok (.getfield 15, 3) := dk180 (k := 8) bX4_signersOfWon_0 rfl rfl
theorem dX4_signersOfWon_11 : decode cX4_signersOfWon 11 = .ok (.getfield 19, 3) := dk180 (k := 11) bX4_signersOfWon_0 rfl rfl
theorem dX4_signersOfWon_14 : decode cX4_signersOfWon 14 = .ok (.aload_n 0, 1) := dk42 (k := 14) bX4_signersOfWon_0 rfl
theorem dX4_signersOfWon_15 : decode cX4_signersOfWon 15 = .ok (.getfield 15, 3) := dk180 (k := 15) bX4_signersOfWon_0 rfl rfl
theorem dX4_signersOfWon_18 : decode cX4_signersOfWon 18 = .ok (.getfield 25, 3) := dk180 (k := 18) bX4_signersOfWon_0 rfl rfl
theorem dX4_signersOfWon_21 : decode cX4_signersOfWon 21 = .ok (.iconst (-1), 1) := dk2 (k := 21) bX4_signersOfWon_0 rfl
theorem dX4_signersOfWon_22 : decode cX4_signersOfWon 22 = .ok (.invokevirtual 29, 3) := dk182 (k := 22) bX4_signersOfWon_0 rfl rfl
theorem bX4_signersOfWon_25 : bL cX4_signersOfWon 25 [27, 128, 3, 182, 0, 35, 172] := bL_of (by decide +kernel)
theorem dX4_signersOfWon_25 : decode cX4_signersOfWon 25 = .ok (.iload_n 1, 1) := dk27 (k := 0) bX4_signersOfWon_25 rfl
theorem dX4_signersOfWon_26 : decode cX4_signersOfWon 26 = .ok (.ior, 1) := dk128 (k := 1) bX4_signersOfWon_25 rfl
theorem dX4_signersOfWon_27 : decode cX4_signersOfWon 27 = .ok (.iconst 0, 1) := dk3 (k := 2) bX4_signersOfWon_25 rfl
theorem dX4_signersOfWon_28 : decode cX4_signersOfWon 28 = .ok (.invokevirtual 35, 3) := dk182 (k := 3) bX4_signersOfWon_25 rfl rfl
theorem dX4_signersOfWon_31 : decode cX4_signersOfWon 31 = .ok (.ireturn, 1) := dk172 (k := 6) bX4_signersOfWon_25 rfl
theorem bX4_fewestSet_0 : bL cX4_fewestSet 0 [42, 180, 0, 15, 180, 0, 19, 42, 180, 0, 15, 180, 0, 25, 2, 182, 0, 29, 60, 2, 61, 16, 9, 62] := bL_of (by decide +kernel)
theorem dX4_fewestSet_0 : decode cX4_fewestSet 0 = .ok (.aload_n 0, 1) := dk42 (k := 0) bX4_fewestSet_0 rfl
theorem dX4_fewestSet_1 : decode cX4_fewestSet 1 = .ok (.getfield 15, 3) := dk180 (k := 1) bX4_fewestSet_0 rfl rfl
theorem dX4_fewestSet_4 : decode cX4_fewestSet 4 = .ok (.getfield 19, 3) := dk180 (k := 4) bX4_fewestSet_0 rfl rfl
theorem dX4_fewestSet_7 : decode cX4_fewestSet 7 = .ok (.aload_n 0, 1) := dk42 (k := 7) bX4_fewestSet_0 rfl
theorem dX4_fewestSet_8 : decode cX4_fewestSet 8 = .ok (.getfield 15, 3) := dk180 (k := 8) bX4_fewestSet_0 rfl rfl
theorem dX4_fewestSet_11 : decode cX4_fewestSet 11 = .ok (.getfield 25, 3) := dk180 (k := 11) bX4_fewestSet_0 rfl rfl
theorem dX4_fewestSet_14 : decode cX4_fewestSet 14 = .ok (.iconst (-1), 1) := dk2 (k := 14) bX4_fewestSet_0 rfl
theorem dX4_fewestSet_15 : decode cX4_fewestSet 15 = .ok (.invokevirtual 29, 3) := dk182 (k := 15) bX4_fewestSet_0 rfl rfl
theorem dX4_fewestSet_18 : decode cX4_fewestSet 18 = .ok (.istore_n 1, 1) := dk60 (k := 18) bX4_fewestSet_0 rfl
theorem dX4_fewestSet_19 : decode cX4_fewestSet 19 = .ok (.iconst (-1), 1) := dk2 (k := 19) bX4_fewestSet_0 rfl
theorem dX4_fewestSet_20 : decode cX4_fewestSet 20 = .ok (.istore_n 2, 1) := dk61 (k := 20) bX4_fewestSet_0 rfl
theorem dX4_fewestSet_21 : decode cX4_fewestSet 21 = .ok (.bipush 9, 2) := dk16 (k := 21) bX4_fewestSet_0 rfl (by decide)
theorem dX4_fewestSet_23 : decode cX4_fewestSet 23 = .ok (.istore_n 3, 1) := dk62 (k := 23) bX4_fewestSet_0 rfl
theorem bX4_fewestSet_24 : bL cX4_fewestSet 24 [3, 54, 4, 21, 4, 4, 42, 180, 0, 15, 180, 0, 19, 180, 0, 39, 120, 162, 0, 43, 21, 4, 184, 0, 43] := bL_of (by decide +kernel)
theorem dX4_fewestSet_24 : decode cX4_fewestSet 24 = .ok (.iconst 0, 1) := dk3 (k := 0) bX4_fewestSet_24 rfl
theorem dX4_fewestSet_25 : decode cX4_fewestSet 25 = .ok (.istore 4, 2) := dk54 (k := 1) bX4_fewestSet_24 rfl rfl
theorem dX4_fewestSet_27 : decode cX4_fewestSet 27 = .ok (.iload 4, 2) := dk21 (k := 3) bX4_fewestSet_24 rfl rfl
theorem dX4_fewestSet_29 : decode cX4_fewestSet 29 = .ok (.iconst 1, 1) := dk4 (k := 5) bX4_fewestSet_24 rfl
theorem dX4_fewestSet_30 : decode cX4_fewestSet 30 = .ok (.aload_n 0, 1) := dk42 (k := 6) bX4_fewestSet_24 rfl
theorem dX4_fewestSet_31 : decode cX4_fewestSet 31 = .ok (.getfield 15, 3) := dk180 (k := 7) bX4_fewestSet_24 rfl rfl
theorem dX4_fewestSet_34 : decode cX4_fewestSet 34 = .ok (.getfield 19, 3) := dk180 (k := 10) bX4_fewestSet_24 rfl rfl
theorem dX4_fewestSet_37 : decode cX4_fewestSet 37 = .ok (.getfield 39, 3) := dk180 (k := 13) bX4_fewestSet_24 rfl rfl
theorem dX4_fewestSet_40 : decode cX4_fewestSet 40 = .ok (.ishl, 1) := dk120 (k := 16) bX4_fewestSet_24 rfl
theorem dX4_fewestSet_41 : decode cX4_fewestSet 41 = .ok (.if_icmp .ge 43, 3) := dk162 (k := 17) bX4_fewestSet_24 rfl (by decide)
theorem dX4_fewestSet_44 : decode cX4_fewestSet 44 = .ok (.iload 4, 2) := dk21 (k := 20) bX4_fewestSet_24 rfl rfl
theorem dX4_fewestSet_46 : decode cX4_fewestSet 46 = .ok (.invokestatic 43, 3) := dk184 (k := 22) bX4_fewestSet_24 rfl rfl
theorem bX4_fewestSet_49 : bL cX4_fewestSet 49 [54, 5, 21, 5, 29, 162, 0, 24, 42, 180, 0, 15, 27, 21, 4, 128, 3, 182, 0, 49, 153, 0, 9, 21, 5] := bL_of (by decide +kernel)
theorem dX4_fewestSet_49 : decode cX4_fewestSet 49 = .ok (.istore 5, 2) := dk54 (k := 0) bX4_fewestSet_49 rfl rfl
theorem dX4_fewestSet_51 : decode cX4_fewestSet 51 = .ok (.iload 5, 2) := dk21 (k := 2) bX4_fewestSet_49 rfl rfl
theorem dX4_fewestSet_53 : decode cX4_fewestSet 53 = .ok (.iload_n 3, 1) := dk29 (k := 4) bX4_fewestSet_49 rfl
theorem dX4_fewestSet_54 : decode cX4_fewestSet 54 = .ok (.if_icmp .ge 24, 3) := dk162 (k := 5) bX4_fewestSet_49 rfl (by decide)
theorem dX4_fewestSet_57 : decode cX4_fewestSet 57 = .ok (.aload_n 0, 1) := dk42 (k := 8) bX4_fewestSet_49 rfl
theorem dX4_fewestSet_58 : decode cX4_fewestSet 58 = .ok (.getfield 15, 3) := dk180 (k := 9) bX4_fewestSet_49 rfl rfl
theorem dX4_fewestSet_61 : decode cX4_fewestSet 61 = .ok (.iload_n 1, 1) := dk27 (k := 12) bX4_fewestSet_49 rfl
theorem dX4_fewestSet_62 : decode cX4_fewestSet 62 = .ok (.iload 4, 2) := dk21 (k := 13) bX4_fewestSet_49 rfl rfl
theorem dX4_fewestSet_64 : decode cX4_fewestSet 64 = .ok (.ior, 1) := dk128 (k := 15) bX4_fewestSet_49 rfl
theorem dX4_fewestSet_65 : decode cX4_fewestSet 65 = .ok (.iconst 0, 1) := dk3 (k := 16) bX4_fewestSet_49 rfl
theorem dX4_fewestSet_66 : decode cX4_fewestSet 66 = .ok (.invokevirtual 49, 3) := dk182 (k := 17) bX4_fewestSet_49 rfl rfl
theorem dX4_fewestSet_69 : decode cX4_fewestSet 69 = .ok (.ifCond .eq 9, 3) := dk153 (k := 20) bX4_fewestSet_49 rfl (by decide)
theorem dX4_fewestSet_72 : decode cX4_fewestSet 72 = .ok (.iload 5, 2) := dk21 (k := 23) bX4_fewestSet_49 rfl rfl
theorem bX4_fewestSet_74 : bL cX4_fewestSet 74 [62, 21, 4, 61, 132, 4, 1, 167, 255, 202, 28, 172] := bL_of (by decide +kernel)
theorem dX4_fewestSet_74 : decode cX4_fewestSet 74 = .ok (.istore_n 3, 1) := dk62 (k := 0) bX4_fewestSet_74 rfl
theorem dX4_fewestSet_75 : decode cX4_fewestSet 75 = .ok (.iload 4, 2) := dk21 (k := 1) bX4_fewestSet_74 rfl rfl
theorem dX4_fewestSet_77 : decode cX4_fewestSet 77 = .ok (.istore_n 2, 1) := dk61 (k := 3) bX4_fewestSet_74 rfl
theorem dX4_fewestSet_78 : decode cX4_fewestSet 78 = .ok (.iinc 4 1, 3) := dk132 (k := 4) bX4_fewestSet_74 rfl rfl (by decide)
theorem dX4_fewestSet_81 : decode cX4_fewestSet 81 = .ok (.goto (-54), 3) := dk167 (k := 7) bX4_fewestSet_74 rfl (by decide)
theorem dX4_fewestSet_84 : decode cX4_fewestSet 84 = .ok (.iload_n 2, 1) := dk28 (k := 10) bX4_fewestSet_74 rfl
theorem dX4_fewestSet_85 : decode cX4_fewestSet 85 = .ok (.ireturn, 1) := dk172 (k := 11) bX4_fewestSet_74 rfl
theorem bX4_bestBeside_0 : bL cX4_bestBeside 0 [42, 180, 0, 15, 180, 0, 19, 42, 180, 0, 15, 180, 0, 25, 2, 182, 0, 29, 27, 128, 61, 2, 62, 42] := bL_of (by decide +kernel)
theorem dX4_bestBeside_0 : decode cX4_bestBeside 0 = .ok (.aload_n 0, 1) := dk42 (k := 0) bX4_bestBeside_0 rfl
theorem dX4_bestBeside_1 : decode cX4_bestBeside 1 = .ok (.getfield 15, 3) := dk180 (k := 1) bX4_bestBeside_0 rfl rfl
theorem dX4_bestBeside_4 : decode cX4_bestBeside 4 = .ok (.getfield 19, 3) := dk180 (k := 4) bX4_bestBeside_0 rfl rfl
theorem dX4_bestBeside_7 : decode cX4_bestBeside 7 = .ok (.aload_n 0, 1) := dk42 (k := 7) bX4_bestBeside_0 rfl
theorem dX4_bestBeside_8 : decode cX4_bestBeside 8 = .ok (.getfield 15, 3) := dk180 (k := 8) bX4_bestBeside_0 rfl rfl
theorem dX4_bestBeside_11 : decode cX4_bestBeside 11 = .ok (.getfield 25, 3) := dk180 (k := 11) bX4_bestBeside_0 rfl rfl
theorem dX4_bestBeside_14 : decode cX4_bestBeside 14 = .ok (.iconst (-1), 1) := dk2 (k := 14) bX4_bestBeside_0 rfl
theorem dX4_bestBeside_15 : decode cX4_bestBeside 15 = .ok (.invokevirtual 29, 3) := dk182 (k := 15) bX4_bestBeside_0 rfl rfl
theorem dX4_bestBeside_18 : decode cX4_bestBeside 18 = .ok (.iload_n 1, 1) := dk27 (k := 18) bX4_bestBeside_0 rfl
theorem dX4_bestBeside_19 : decode cX4_bestBeside 19 = .ok (.ior, 1) := dk128 (k := 19) bX4_bestBeside_0 rfl
theorem dX4_bestBeside_20 : decode cX4_bestBeside 20 = .ok (.istore_n 2, 1) := dk61 (k := 20) bX4_bestBeside_0 rfl
theorem dX4_bestBeside_21 : decode cX4_bestBeside 21 = .ok (.iconst (-1), 1) := dk2 (k := 21) bX4_bestBeside_0 rfl
theorem dX4_bestBeside_22 : decode cX4_bestBeside 22 = .ok (.istore_n 3, 1) := dk62 (k := 22) bX4_bestBeside_0 rfl
theorem dX4_bestBeside_23 : decode cX4_bestBeside 23 = .ok (.aload_n 0, 1) := dk42 (k := 23) bX4_bestBeside_0 rfl
theorem bX4_bestBeside_24 : bL cX4_bestBeside 24 [180, 0, 15, 180, 0, 19, 42, 180, 0, 15, 180, 0, 19, 28, 3, 182, 0, 35, 182, 0, 53, 54, 4, 3] := bL_of (by decide +kernel)
theorem dX4_bestBeside_24 : decode cX4_bestBeside 24 = .ok (.getfield 15, 3) := dk180 (k := 0) bX4_bestBeside_24 rfl rfl
theorem dX4_bestBeside_27 : decode cX4_bestBeside 27 = .ok (.getfield 19, 3) := dk180 (k := 3) bX4_bestBeside_24 rfl rfl
theorem dX4_bestBeside_30 : decode cX4_bestBeside 30 = .ok (.aload_n 0, 1) := dk42 (k := 6) bX4_bestBeside_24 rfl
theorem dX4_bestBeside_31 : decode cX4_bestBeside 31 = .ok (.getfield 15, 3) := dk180 (k := 7) bX4_bestBeside_24 rfl rfl
theorem dX4_bestBeside_34 : decode cX4_bestBeside 34 = .ok (.getfield 19, 3) := dk180 (k := 10) bX4_bestBeside_24 rfl rfl
theorem dX4_bestBeside_37 : decode cX4_bestBeside 37 = .ok (.iload_n 2, 1) := dk28 (k := 13) bX4_bestBeside_24 rfl
theorem dX4_bestBeside_38 : decode cX4_bestBeside 38 = .ok (.iconst 0, 1) := dk3 (k := 14) bX4_bestBeside_24 rfl
theorem dX4_bestBeside_39 : decode cX4_bestBeside 39 = .ok (.invokevirtual 35, 3) := dk182 (k := 15) bX4_bestBeside_24 rfl rfl
theorem dX4_bestBeside_42 : decode cX4_bestBeside 42 = .ok (.invokevirtual 53, 3) := dk182 (k := 18) bX4_bestBeside_24 rfl rfl
theorem dX4_bestBeside_45 : decode cX4_bestBeside 45 = .ok (.istore 4, 2) := dk54 (k := 21) bX4_bestBeside_24 rfl rfl
theorem dX4_bestBeside_47 : decode cX4_bestBeside 47 = .ok (.iconst 0, 1) := dk3 (k := 23) bX4_bestBeside_24 rfl
theorem bX4_bestBeside_48 : bL cX4_bestBeside 48 [54, 5, 21, 5, 42, 180, 0, 15, 180, 0, 19, 180, 0, 39, 162, 0, 52, 42, 180, 0, 15, 180, 0, 19] := bL_of (by decide +kernel)
theorem dX4_bestBeside_48 : decode cX4_bestBeside 48 = .ok (.istore 5, 2) := dk54 (k := 0) bX4_bestBeside_48 rfl rfl
theorem dX4_bestBeside_50 : decode cX4_bestBeside 50 = .ok (.iload 5, 2) := dk21 (k := 2) bX4_bestBeside_48 rfl rfl
theorem dX4_bestBeside_52 : decode cX4_bestBeside 52 = .ok (.aload_n 0, 1) := dk42 (k := 4) bX4_bestBeside_48 rfl
theorem dX4_bestBeside_53 : decode cX4_bestBeside 53 = .ok (.getfield 15, 3) := dk180 (k := 5) bX4_bestBeside_48 rfl rfl
theorem dX4_bestBeside_56 : decode cX4_bestBeside 56 = .ok (.getfield 19, 3) := dk180 (k := 8) bX4_bestBeside_48 rfl rfl
theorem dX4_bestBeside_59 : decode cX4_bestBeside 59 = .ok (.getfield 39, 3) := dk180 (k := 11) bX4_bestBeside_48 rfl rfl
theorem dX4_bestBeside_62 : decode cX4_bestBeside 62 = .ok (.if_icmp .ge 52, 3) := dk162 (k := 14) bX4_bestBeside_48 rfl (by decide)
theorem dX4_bestBeside_65 : decode cX4_bestBeside 65 = .ok (.aload_n 0, 1) := dk42 (k := 17) bX4_bestBeside_48 rfl
theorem dX4_bestBeside_66 : decode cX4_bestBeside 66 = .ok (.getfield 15, 3) := dk180 (k := 18) bX4_bestBeside_48 rfl rfl
theorem dX4_bestBeside_69 : decode cX4_bestBeside 69 = .ok (.getfield 19, 3) := dk180 (k := 21) bX4_bestBeside_48 rfl rfl
theorem bX4_bestBeside_72 : bL cX4_bestBeside 72 [42, 180, 0, 15, 180, 0, 19, 28, 4, 21, 5, 120, 128, 3, 182, 0, 35, 182, 0, 53, 54, 6, 21, 6] := bL_of (by decide +kernel)
theorem dX4_bestBeside_72 : decode cX4_bestBeside 72 = .ok (.aload_n 0, 1) := dk42 (k := 0) bX4_bestBeside_72 rfl
theorem dX4_bestBeside_73 : decode cX4_bestBeside 73 = .ok (.getfield 15, 3) := dk180 (k := 1) bX4_bestBeside_72 rfl rfl
theorem dX4_bestBeside_76 : decode cX4_bestBeside 76 = .ok (.getfield 19, 3) := dk180 (k := 4) bX4_bestBeside_72 rfl rfl
theorem dX4_bestBeside_79 : decode cX4_bestBeside 79 = .ok (.iload_n 2, 1) := dk28 (k := 7) bX4_bestBeside_72 rfl
theorem dX4_bestBeside_80 : decode cX4_bestBeside 80 = .ok (.iconst 1, 1) := dk4 (k := 8) bX4_bestBeside_72 rfl
theorem dX4_bestBeside_81 : decode cX4_bestBeside 81 = .ok (.iload 5, 2) := dk21 (k := 9) bX4_bestBeside_72 rfl rfl
theorem dX4_bestBeside_83 : decode cX4_bestBeside 83 = .ok (.ishl, 1) := dk120 (k := 11) bX4_bestBeside_72 rfl
theorem dX4_bestBeside_84 : decode cX4_bestBeside 84 = .ok (.ior, 1) := dk128 (k := 12) bX4_bestBeside_72 rfl
theorem dX4_bestBeside_85 : decode cX4_bestBeside 85 = .ok (.iconst 0, 1) := dk3 (k := 13) bX4_bestBeside_72 rfl
theorem dX4_bestBeside_86 : decode cX4_bestBeside 86 = .ok (.invokevirtual 35, 3) := dk182 (k := 14) bX4_bestBeside_72 rfl rfl
theorem dX4_bestBeside_89 : decode cX4_bestBeside 89 = .ok (.invokevirtual 53, 3) := dk182 (k := 17) bX4_bestBeside_72 rfl rfl
theorem dX4_bestBeside_92 : decode cX4_bestBeside 92 = .ok (.istore 6, 2) := dk54 (k := 20) bX4_bestBeside_72 rfl rfl
theorem dX4_bestBeside_94 : decode cX4_bestBeside 94 = .ok (.iload 6, 2) := dk21 (k := 22) bX4_bestBeside_72 rfl rfl
theorem bX4_bestBeside_96 : bL cX4_bestBeside 96 [21, 4, 164, 0, 10, 21, 6, 54, 4, 21, 5, 62, 132, 5, 1, 167, 255, 195, 29, 172] := bL_of (by decide +kernel)
theorem dX4_bestBeside_96 : decode cX4_bestBeside 96 = .ok (.iload 4, 2) := dk21 (k := 0) bX4_bestBeside_96 rfl rfl
theorem dX4_bestBeside_98 : decode cX4_bestBeside 98 = .ok (.if_icmp .le 10, 3) := dk164 (k := 2) bX4_bestBeside_96 rfl (by decide)
theorem dX4_bestBeside_101 : decode cX4_bestBeside 101 = .ok (.iload 6, 2) := dk21 (k := 5) bX4_bestBeside_96 rfl rfl
theorem dX4_bestBeside_103 : decode cX4_bestBeside 103 = .ok (.istore 4, 2) := dk54 (k := 7) bX4_bestBeside_96 rfl rfl
theorem dX4_bestBeside_105 : decode cX4_bestBeside 105 = .ok (.iload 5, 2) := dk21 (k := 9) bX4_bestBeside_96 rfl rfl
theorem dX4_bestBeside_107 : decode cX4_bestBeside 107 = .ok (.istore_n 3, 1) := dk62 (k := 11) bX4_bestBeside_96 rfl
theorem dX4_bestBeside_108 : decode cX4_bestBeside 108 = .ok (.iinc 5 1, 3) := dk132 (k := 12) bX4_bestBeside_96 rfl rfl (by decide)
theorem dX4_bestBeside_111 : decode cX4_bestBeside 111 = .ok (.goto (-61), 3) := dk167 (k := 15) bX4_bestBeside_96 rfl (by decide)
theorem dX4_bestBeside_114 : decode cX4_bestBeside 114 = .ok (.iload_n 3, 1) := dk29 (k := 18) bX4_bestBeside_96 rfl
theorem dX4_bestBeside_115 : decode cX4_bestBeside 115 = .ok (.ireturn, 1) := dk172 (k := 19) bX4_bestBeside_96 rfl
theorem bX4_neededFolk_0 : bL cX4_neededFolk 0 [42, 180, 0, 15, 180, 0, 19, 42, 180, 0, 15, 180, 0, 25, 2, 182, 0, 29, 60, 42, 180, 0, 15, 27] := bL_of (by decide +kernel)
theorem dX4_neededFolk_0 : decode cX4_neededFolk 0 = .ok (.aload_n 0, 1) := dk42 (k := 0) bX4_neededFolk_0 rfl
theorem dX4_neededFolk_1 : decode cX4_neededFolk 1 = .ok (.getfield 15, 3) := dk180 (k := 1) bX4_neededFolk_0 rfl rfl
theorem dX4_neededFolk_4 : decode cX4_neededFolk 4 = .ok (.getfield 19, 3) := dk180 (k := 4) bX4_neededFolk_0 rfl rfl
theorem dX4_neededFolk_7 : decode cX4_neededFolk 7 = .ok (.aload_n 0, 1) := dk42 (k := 7) bX4_neededFolk_0 rfl
theorem dX4_neededFolk_8 : decode cX4_neededFolk 8 = .ok (.getfield 15, 3) := dk180 (k := 8) bX4_neededFolk_0 rfl rfl
theorem dX4_neededFolk_11 : decode cX4_neededFolk 11 = .ok (.getfield 25, 3) := dk180 (k := 11) bX4_neededFolk_0 rfl rfl
theorem dX4_neededFolk_14 : decode cX4_neededFolk 14 = .ok (.iconst (-1), 1) := dk2 (k := 14) bX4_neededFolk_0 rfl
theorem dX4_neededFolk_15 : decode cX4_neededFolk 15 = .ok (.invokevirtual 29, 3) := dk182 (k := 15) bX4_neededFolk_0 rfl rfl
theorem dX4_neededFolk_18 : decode cX4_neededFolk 18 = .ok (.istore_n 1, 1) := dk60 (k := 18) bX4_neededFolk_0 rfl
theorem dX4_neededFolk_19 : decode cX4_neededFolk 19 = .ok (.aload_n 0, 1) := dk42 (k := 19) bX4_neededFolk_0 rfl
theorem dX4_neededFolk_20 : decode cX4_neededFolk 20 = .ok (.getfield 15, 3) := dk180 (k := 20) bX4_neededFolk_0 rfl rfl
theorem dX4_neededFolk_23 : decode cX4_neededFolk 23 = .ok (.iload_n 1, 1) := dk27 (k := 23) bX4_neededFolk_0 rfl
theorem bX4_neededFolk_24 : bL cX4_neededFolk 24 [3, 182, 0, 49, 154, 0, 5, 3, 172, 3, 61, 3, 62, 29, 42, 180, 0, 15, 180, 0, 19, 180, 0, 39] := bL_of (by decide +kernel)
theorem dX4_neededFolk_24 : decode cX4_neededFolk 24 = .ok (.iconst 0, 1) := dk3 (k := 0) bX4_neededFolk_24 rfl
theorem dX4_neededFolk_25 : decode cX4_neededFolk 25 = .ok (.invokevirtual 49, 3) := dk182 (k := 1) bX4_neededFolk_24 rfl rfl
theorem dX4_neededFolk_28 : decode cX4_neededFolk 28 = .ok (.ifCond .ne 5, 3) := dk154 (k := 4) bX4_neededFolk_24 rfl (by decide)
theorem dX4_neededFolk_31 : decode cX4_neededFolk 31 = .ok (.iconst 0, 1) := dk3 (k := 7) bX4_neededFolk_24 rfl
theorem dX4_neededFolk_32 : decode cX4_neededFolk 32 = .ok (.ireturn, 1) := dk172 (k := 8) bX4_neededFolk_24 rfl
theorem dX4_neededFolk_33 : decode cX4_neededFolk 33 = .ok (.iconst 0, 1) := dk3 (k := 9) bX4_neededFolk_24 rfl
theorem dX4_neededFolk_34 : decode cX4_neededFolk 34 = .ok (.istore_n 2, 1) := dk61 (k := 10) bX4_neededFolk_24 rfl
theorem dX4_neededFolk_35 : decode cX4_neededFolk 35 = .ok (.iconst 0, 1) := dk3 (k := 11) bX4_neededFolk_24 rfl
theorem dX4_neededFolk_36 : decode cX4_neededFolk 36 = .ok (.istore_n 3, 1) := dk62 (k := 12) bX4_neededFolk_24 rfl
theorem dX4_neededFolk_37 : decode cX4_neededFolk 37 = .ok (.iload_n 3, 1) := dk29 (k := 13) bX4_neededFolk_24 rfl
theorem dX4_neededFolk_38 : decode cX4_neededFolk 38 = .ok (.aload_n 0, 1) := dk42 (k := 14) bX4_neededFolk_24 rfl
theorem dX4_neededFolk_39 : decode cX4_neededFolk 39 = .ok (.getfield 15, 3) := dk180 (k := 15) bX4_neededFolk_24 rfl rfl
theorem dX4_neededFolk_42 : decode cX4_neededFolk 42 = .ok (.getfield 19, 3) := dk180 (k := 18) bX4_neededFolk_24 rfl rfl
theorem dX4_neededFolk_45 : decode cX4_neededFolk 45 = .ok (.getfield 39, 3) := dk180 (k := 21) bX4_neededFolk_24 rfl rfl
theorem bX4_neededFolk_48 : bL cX4_neededFolk 48 [162, 0, 29, 42, 180, 0, 15, 27, 4, 29, 120, 182, 0, 49, 154, 0, 9, 28, 4, 29, 120, 128, 61, 132, 3, 1] := bL_of (by decide +kernel)
theorem dX4_neededFolk_48 : decode cX4_neededFolk 48 = .ok (.if_icmp .ge 29, 3) := dk162 (k := 0) bX4_neededFolk_48 rfl (by decide)
theorem dX4_neededFolk_51 : decode cX4_neededFolk 51 = .ok (.aload_n 0, 1) := dk42 (k := 3) bX4_neededFolk_48 rfl
theorem dX4_neededFolk_52 : decode cX4_neededFolk 52 = .ok (.getfield 15, 3) := dk180 (k := 4) bX4_neededFolk_48 rfl rfl
theorem dX4_neededFolk_55 : decode cX4_neededFolk 55 = .ok (.iload_n 1, 1) := dk27 (k := 7) bX4_neededFolk_48 rfl
theorem dX4_neededFolk_56 : decode cX4_neededFolk 56 = .ok (.iconst 1, 1) := dk4 (k := 8) bX4_neededFolk_48 rfl
theorem dX4_neededFolk_57 : decode cX4_neededFolk 57 = .ok (.iload_n 3, 1) := dk29 (k := 9) bX4_neededFolk_48 rfl
theorem dX4_neededFolk_58 : decode cX4_neededFolk 58 = .ok (.ishl, 1) := dk120 (k := 10) bX4_neededFolk_48 rfl
theorem dX4_neededFolk_59 : decode cX4_neededFolk 59 = .ok (.invokevirtual 49, 3) := dk182 (k := 11) bX4_neededFolk_48 rfl rfl
theorem dX4_neededFolk_62 : decode cX4_neededFolk 62 = .ok (.ifCond .ne 9, 3) := dk154 (k := 14) bX4_neededFolk_48 rfl (by decide)
theorem dX4_neededFolk_65 : decode cX4_neededFolk 65 = .ok (.iload_n 2, 1) := dk28 (k := 17) bX4_neededFolk_48 rfl
theorem dX4_neededFolk_66 : decode cX4_neededFolk 66 = .ok (.iconst 1, 1) := dk4 (k := 18) bX4_neededFolk_48 rfl
theorem dX4_neededFolk_67 : decode cX4_neededFolk 67 = .ok (.iload_n 3, 1) := dk29 (k := 19) bX4_neededFolk_48 rfl
theorem dX4_neededFolk_68 : decode cX4_neededFolk 68 = .ok (.ishl, 1) := dk120 (k := 20) bX4_neededFolk_48 rfl
theorem dX4_neededFolk_69 : decode cX4_neededFolk 69 = .ok (.ior, 1) := dk128 (k := 21) bX4_neededFolk_48 rfl
theorem dX4_neededFolk_70 : decode cX4_neededFolk 70 = .ok (.istore_n 2, 1) := dk61 (k := 22) bX4_neededFolk_48 rfl
theorem dX4_neededFolk_71 : decode cX4_neededFolk 71 = .ok (.iinc 3 1, 3) := dk132 (k := 23) bX4_neededFolk_48 rfl rfl (by decide)
theorem bX4_neededFolk_74 : bL cX4_neededFolk 74 [167, 255, 219, 28, 172] := bL_of (by decide +kernel)
theorem dX4_neededFolk_74 : decode cX4_neededFolk 74 = .ok (.goto (-37), 3) := dk167 (k := 0) bX4_neededFolk_74 rfl (by decide)
theorem dX4_neededFolk_77 : decode cX4_neededFolk 77 = .ok (.iload_n 2, 1) := dk28 (k := 3) bX4_neededFolk_74 rfl
theorem dX4_neededFolk_78 : decode cX4_neededFolk 78 = .ok (.ireturn, 1) := dk172 (k := 4) bX4_neededFolk_74 rfl
theorem bX4_playOut_0 : bL cX4_playOut 0 [42, 27, 28, 182, 0, 56, 42, 3, 3, 3, 3, 182, 0, 60, 172] := bL_of (by decide +kernel)
theorem dX4_playOut_0 : decode cX4_playOut 0 = .ok (.aload_n 0, 1) := dk42 (k := 0) bX4_playOut_0 rfl
theorem dX4_playOut_1 : decode cX4_playOut 1 = .ok (.iload_n 1, 1) := dk27 (k := 1) bX4_playOut_0 rfl
theorem dX4_playOut_2 : decode cX4_playOut 2 = .ok (.iload_n 2, 1) := dk28 (k := 2) bX4_playOut_0 rfl
theorem dX4_playOut_3 : decode cX4_playOut 3 = .ok (.invokevirtual 56, 3) := dk182 (k := 3) bX4_playOut_0 rfl rfl
theorem dX4_playOut_6 : decode cX4_playOut 6 = .ok (.aload_n 0, 1) := dk42 (k := 6) bX4_playOut_0 rfl
theorem dX4_playOut_7 : decode cX4_playOut 7 = .ok (.iconst 0, 1) := dk3 (k := 7) bX4_playOut_0 rfl
theorem dX4_playOut_8 : decode cX4_playOut 8 = .ok (.iconst 0, 1) := dk3 (k := 8) bX4_playOut_0 rfl
theorem dX4_playOut_9 : decode cX4_playOut 9 = .ok (.iconst 0, 1) := dk3 (k := 9) bX4_playOut_0 rfl
theorem dX4_playOut_10 : decode cX4_playOut 10 = .ok (.iconst 0, 1) := dk3 (k := 10) bX4_playOut_0 rfl
theorem dX4_playOut_11 : decode cX4_playOut 11 = .ok (.invokevirtual 60, 3) := dk182 (k := 11) bX4_playOut_0 rfl rfl
theorem dX4_playOut_14 : decode cX4_playOut 14 = .ok (.ireturn, 1) := dk172 (k := 14) bX4_playOut_0 rfl
theorem bX4_firstMove_0 : bL cX4_firstMove 0 [27, 153, 0, 16, 42, 180, 0, 15, 180, 0, 19, 180, 0, 39, 154, 0, 5, 2, 172, 42, 27, 28, 182, 0, 56] := bL_of (by decide +kernel)
theorem dX4_firstMove_0 : decode cX4_firstMove 0 = .ok (.iload_n 1, 1) := dk27 (k := 0) bX4_firstMove_0 rfl
theorem dX4_firstMove_1 : decode cX4_firstMove 1 = .ok (.ifCond .eq 16, 3) := dk153 (k := 1) bX4_firstMove_0 rfl (by decide)
theorem dX4_firstMove_4 : decode cX4_firstMove 4 = .ok (.aload_n 0, 1) := dk42 (k := 4) bX4_firstMove_0 rfl
theorem dX4_firstMove_5 : decode cX4_firstMove 5 = .ok (.getfield 15, 3) := dk180 (k := 5) bX4_firstMove_0 rfl rfl
theorem dX4_firstMove_8 : decode cX4_firstMove 8 = .ok (.getfield 19, 3) := dk180 (k := 8) bX4_firstMove_0 rfl rfl
theorem dX4_firstMove_11 : decode cX4_firstMove 11 = .ok (.getfield 39, 3) := dk180 (k := 11) bX4_firstMove_0 rfl rfl
theorem dX4_firstMove_14 : decode cX4_firstMove 14 = .ok (.ifCond .ne 5, 3) := dk154 (k := 14) bX4_firstMove_0 rfl (by decide)
theorem dX4_firstMove_17 : decode cX4_firstMove 17 = .ok (.iconst (-1), 1) := dk2 (k := 17) bX4_firstMove_0 rfl
theorem dX4_firstMove_18 : decode cX4_firstMove 18 = .ok (.ireturn, 1) := dk172 (k := 18) bX4_firstMove_0 rfl
theorem dX4_firstMove_19 : decode cX4_firstMove 19 = .ok (.aload_n 0, 1) := dk42 (k := 19) bX4_firstMove_0 rfl
theorem dX4_firstMove_20 : decode cX4_firstMove 20 = .ok (.iload_n 1, 1) := dk27 (k := 20) bX4_firstMove_0 rfl
theorem dX4_firstMove_21 : decode cX4_firstMove 21 = .ok (.iload_n 2, 1) := dk28 (k := 21) bX4_firstMove_0 rfl
theorem dX4_firstMove_22 : decode cX4_firstMove 22 = .ok (.invokevirtual 56, 3) := dk182 (k := 22) bX4_firstMove_0 rfl rfl
theorem bX4_firstMove_25 : bL cX4_firstMove 25 [28, 154, 0, 7, 4, 167, 0, 4, 3, 62, 3, 54, 4, 21, 4, 42, 180, 0, 15, 180, 0, 19, 180, 0, 39] := bL_of (by decide +kernel)
theorem dX4_firstMove_25 : decode cX4_firstMove 25 = .ok (.iload_n 2, 1) := dk28 (k := 0) bX4_firstMove_25 rfl
theorem dX4_firstMove_26 : decode cX4_firstMove 26 = .ok (.ifCond .ne 7, 3) := dk154 (k := 1) bX4_firstMove_25 rfl (by decide)
theorem dX4_firstMove_29 : decode cX4_firstMove 29 = .ok (.iconst 1, 1) := dk4 (k := 4) bX4_firstMove_25 rfl
theorem dX4_firstMove_30 : decode cX4_firstMove 30 = .ok (.goto 4, 3) := dk167 (k := 5) bX4_firstMove_25 rfl (by decide)
theorem dX4_firstMove_33 : decode cX4_firstMove 33 = .ok (.iconst 0, 1) := dk3 (k := 8) bX4_firstMove_25 rfl
theorem dX4_firstMove_34 : decode cX4_firstMove 34 = .ok (.istore_n 3, 1) := dk62 (k := 9) bX4_firstMove_25 rfl
theorem dX4_firstMove_35 : decode cX4_firstMove 35 = .ok (.iconst 0, 1) := dk3 (k := 10) bX4_firstMove_25 rfl
theorem dX4_firstMove_36 : decode cX4_firstMove 36 = .ok (.istore 4, 2) := dk54 (k := 11) bX4_firstMove_25 rfl rfl
theorem dX4_firstMove_38 : decode cX4_firstMove 38 = .ok (.iload 4, 2) := dk21 (k := 13) bX4_firstMove_25 rfl rfl
theorem dX4_firstMove_40 : decode cX4_firstMove 40 = .ok (.aload_n 0, 1) := dk42 (k := 15) bX4_firstMove_25 rfl
theorem dX4_firstMove_41 : decode cX4_firstMove 41 = .ok (.getfield 15, 3) := dk180 (k := 16) bX4_firstMove_25 rfl rfl
theorem dX4_firstMove_44 : decode cX4_firstMove 44 = .ok (.getfield 19, 3) := dk180 (k := 19) bX4_firstMove_25 rfl rfl
theorem dX4_firstMove_47 : decode cX4_firstMove 47 = .ok (.getfield 39, 3) := dk180 (k := 22) bX4_firstMove_25 rfl rfl
theorem bX4_firstMove_50 : bL cX4_firstMove 50 [162, 0, 26, 42, 21, 4, 3, 3, 3, 3, 182, 0, 64, 29, 160, 0, 6, 21, 4, 172, 132, 4, 1, 167, 255, 221] := bL_of (by decide +kernel)
theorem dX4_firstMove_50 : decode cX4_firstMove 50 = .ok (.if_icmp .ge 26, 3) := dk162 (k := 0) bX4_firstMove_50 rfl (by decide)
theorem dX4_firstMove_53 : decode cX4_firstMove 53 = .ok (.aload_n 0, 1) := dk42 (k := 3) bX4_firstMove_50 rfl
theorem dX4_firstMove_54 : decode cX4_firstMove 54 = .ok (.iload 4, 2) := dk21 (k := 4) bX4_firstMove_50 rfl rfl
theorem dX4_firstMove_56 : decode cX4_firstMove 56 = .ok (.iconst 0, 1) := dk3 (k := 6) bX4_firstMove_50 rfl
theorem dX4_firstMove_57 : decode cX4_firstMove 57 = .ok (.iconst 0, 1) := dk3 (k := 7) bX4_firstMove_50 rfl
theorem dX4_firstMove_58 : decode cX4_firstMove 58 = .ok (.iconst 0, 1) := dk3 (k := 8) bX4_firstMove_50 rfl
theorem dX4_firstMove_59 : decode cX4_firstMove 59 = .ok (.iconst 0, 1) := dk3 (k := 9) bX4_firstMove_50 rfl
theorem dX4_firstMove_60 : decode cX4_firstMove 60 = .ok (.invokevirtual 64, 3) := dk182 (k := 10) bX4_firstMove_50 rfl rfl
theorem dX4_firstMove_63 : decode cX4_firstMove 63 = .ok (.iload_n 3, 1) := dk29 (k := 13) bX4_firstMove_50 rfl
theorem dX4_firstMove_64 : decode cX4_firstMove 64 = .ok (.if_icmp .ne 6, 3) := dk160 (k := 14) bX4_firstMove_50 rfl (by decide)
theorem dX4_firstMove_67 : decode cX4_firstMove 67 = .ok (.iload 4, 2) := dk21 (k := 17) bX4_firstMove_50 rfl rfl
theorem dX4_firstMove_69 : decode cX4_firstMove 69 = .ok (.ireturn, 1) := dk172 (k := 19) bX4_firstMove_50 rfl
theorem dX4_firstMove_70 : decode cX4_firstMove 70 = .ok (.iinc 4 1, 3) := dk132 (k := 20) bX4_firstMove_50 rfl rfl (by decide)
theorem dX4_firstMove_73 : decode cX4_firstMove 73 = .ok (.goto (-35), 3) := dk167 (k := 23) bX4_firstMove_50 rfl (by decide)
theorem bX4_firstMove_76 : bL cX4_firstMove 76 [3, 172] := bL_of (by decide +kernel)
theorem dX4_firstMove_76 : decode cX4_firstMove 76 = .ok (.iconst 0, 1) := dk3 (k := 0) bX4_firstMove_76 rfl
theorem dX4_firstMove_77 : decode cX4_firstMove 77 = .ok (.ireturn, 1) := dk172 (k := 1) bX4_firstMove_76 rfl
theorem bX4_begin_0 : bL cX4_begin 0 [42, 42, 180, 0, 15, 180, 0, 19, 42, 180, 0, 15, 180, 0, 25, 2, 182, 0, 29, 181, 0, 68, 42, 5] := bL_of (by decide +kernel)
theorem dX4_begin_0 : decode cX4_begin 0 = .ok (.aload_n 0, 1) := dk42 (k := 0) bX4_begin_0 rfl
theorem dX4_begin_1 : decode cX4_begin 1 = .ok (.aload_n 0, 1) := dk42 (k := 1) bX4_begin_0 rfl
theorem dX4_begin_2 : decode cX4_begin 2 = .ok (.getfield 15, 3) := dk180 (k := 2) bX4_begin_0 rfl rfl
theorem dX4_begin_5 : decode cX4_begin 5 = .ok (.getfield 19, 3) := dk180 (k := 5) bX4_begin_0 rfl rfl
theorem dX4_begin_8 : decode cX4_begin 8 = .ok (.aload_n 0, 1) := dk42 (k := 8) bX4_begin_0 rfl
theorem dX4_begin_9 : decode cX4_begin 9 = .ok (.getfield 15, 3) := dk180 (k := 9) bX4_begin_0 rfl rfl
theorem dX4_begin_12 : decode cX4_begin 12 = .ok (.getfield 25, 3) := dk180 (k := 12) bX4_begin_0 rfl rfl
theorem dX4_begin_15 : decode cX4_begin 15 = .ok (.iconst (-1), 1) := dk2 (k := 15) bX4_begin_0 rfl
theorem dX4_begin_16 : decode cX4_begin 16 = .ok (.invokevirtual 29, 3) := dk182 (k := 16) bX4_begin_0 rfl rfl
theorem dX4_begin_19 : decode cX4_begin 19 = .ok (.putfield 68, 3) := dk181 (k := 19) bX4_begin_0 rfl rfl
theorem dX4_begin_22 : decode cX4_begin 22 = .ok (.aload_n 0, 1) := dk42 (k := 22) bX4_begin_0 rfl
theorem dX4_begin_23 : decode cX4_begin 23 = .ok (.iconst 2, 1) := dk5 (k := 23) bX4_begin_0 rfl
theorem bX4_begin_24 : bL cX4_begin 24 [27, 104, 181, 0, 71, 42, 28, 181, 0, 74, 3, 62, 29, 42, 180, 0, 9, 190, 162, 0, 16, 42, 180, 0, 9] := bL_of (by decide +kernel)
theorem dX4_begin_24 : decode cX4_begin 24 = .ok (.iload_n 1, 1) := dk27 (k := 0) bX4_begin_24 rfl
theorem dX4_begin_25 : decode cX4_begin 25 = .ok (.imul, 1) := dk104 (k := 1) bX4_begin_24 rfl
theorem dX4_begin_26 : decode cX4_begin 26 = .ok (.putfield 71, 3) := dk181 (k := 2) bX4_begin_24 rfl rfl
theorem dX4_begin_29 : decode cX4_begin 29 = .ok (.aload_n 0, 1) := dk42 (k := 5) bX4_begin_24 rfl
theorem dX4_begin_30 : decode cX4_begin 30 = .ok (.iload_n 2, 1) := dk28 (k := 6) bX4_begin_24 rfl
theorem dX4_begin_31 : decode cX4_begin 31 = .ok (.putfield 74, 3) := dk181 (k := 7) bX4_begin_24 rfl rfl
theorem dX4_begin_34 : decode cX4_begin 34 = .ok (.iconst 0, 1) := dk3 (k := 10) bX4_begin_24 rfl
theorem dX4_begin_35 : decode cX4_begin 35 = .ok (.istore_n 3, 1) := dk62 (k := 11) bX4_begin_24 rfl
theorem dX4_begin_36 : decode cX4_begin 36 = .ok (.iload_n 3, 1) := dk29 (k := 12) bX4_begin_24 rfl
theorem dX4_begin_37 : decode cX4_begin 37 = .ok (.aload_n 0, 1) := dk42 (k := 13) bX4_begin_24 rfl
theorem dX4_begin_38 : decode cX4_begin 38 = .ok (.getfield 9, 3) := dk180 (k := 14) bX4_begin_24 rfl rfl
theorem dX4_begin_41 : decode cX4_begin 41 = .ok (.arraylength, 1) := dk190 (k := 17) bX4_begin_24 rfl
theorem dX4_begin_42 : decode cX4_begin 42 = .ok (.if_icmp .ge 16, 3) := dk162 (k := 18) bX4_begin_24 rfl (by decide)
theorem dX4_begin_45 : decode cX4_begin 45 = .ok (.aload_n 0, 1) := dk42 (k := 21) bX4_begin_24 rfl
theorem dX4_begin_46 : decode cX4_begin 46 = .ok (.getfield 9, 3) := dk180 (k := 22) bX4_begin_24 rfl rfl
theorem bX4_begin_49 : bL cX4_begin 49 [29, 3, 84, 132, 3, 1, 167, 255, 237, 177] := bL_of (by decide +kernel)
theorem dX4_begin_49 : decode cX4_begin 49 = .ok (.iload_n 3, 1) := dk29 (k := 0) bX4_begin_49 rfl
theorem dX4_begin_50 : decode cX4_begin 50 = .ok (.iconst 0, 1) := dk3 (k := 1) bX4_begin_49 rfl
theorem dX4_begin_51 : decode cX4_begin 51 = .ok (.bastore, 1) := dk84 (k := 2) bX4_begin_49 rfl
theorem dX4_begin_52 : decode cX4_begin 52 = .ok (.iinc 3 1, 3) := dk132 (k := 3) bX4_begin_49 rfl rfl (by decide)
theorem dX4_begin_55 : decode cX4_begin 55 = .ok (.goto (-19), 3) := dk167 (k := 6) bX4_begin_49 rfl (by decide)
theorem dX4_begin_58 : decode cX4_begin 58 = .ok (.return_, 1) := dk177 (k := 9) bX4_begin_49 rfl
theorem bX4_winsNow_0 : bL cX4_winsNow 0 [27, 42, 180, 0, 74, 96, 4, 126, 154, 0, 7, 4, 167, 0, 4, 3, 172] := bL_of (by decide +kernel)
theorem dX4_winsNow_0 : decode cX4_winsNow 0 = .ok (.iload_n 1, 1) := dk27 (k := 0) bX4_winsNow_0 rfl
theorem dX4_winsNow_1 : decode cX4_winsNow 1 = .ok (.aload_n 0, 1) := dk42 (k := 1) bX4_winsNow_0 rfl
theorem dX4_winsNow_2 : decode cX4_winsNow 2 = .ok (.getfield 74, 3) := dk180 (k := 2) bX4_winsNow_0 rfl rfl
theorem dX4_winsNow_5 : decode cX4_winsNow 5 = .ok (.iadd, 1) := dk96 (k := 5) bX4_winsNow_0 rfl
theorem dX4_winsNow_6 : decode cX4_winsNow 6 = .ok (.iconst 1, 1) := dk4 (k := 6) bX4_winsNow_0 rfl
theorem dX4_winsNow_7 : decode cX4_winsNow 7 = .ok (.iand, 1) := dk126 (k := 7) bX4_winsNow_0 rfl
theorem dX4_winsNow_8 : decode cX4_winsNow 8 = .ok (.ifCond .ne 7, 3) := dk154 (k := 8) bX4_winsNow_0 rfl (by decide)
theorem dX4_winsNow_11 : decode cX4_winsNow 11 = .ok (.iconst 1, 1) := dk4 (k := 11) bX4_winsNow_0 rfl
theorem dX4_winsNow_12 : decode cX4_winsNow 12 = .ok (.goto 4, 3) := dk167 (k := 12) bX4_winsNow_0 rfl (by decide)
theorem dX4_winsNow_15 : decode cX4_winsNow 15 = .ok (.iconst 0, 1) := dk3 (k := 15) bX4_winsNow_0 rfl
theorem dX4_winsNow_16 : decode cX4_winsNow 16 = .ok (.ireturn, 1) := dk172 (k := 16) bX4_winsNow_0 rfl
theorem bX4_comesOut_0 : bL cX4_comesOut 0 [27, 28, 128, 4, 42, 180, 0, 15, 180, 0, 19, 180, 0, 39, 120, 4, 100, 160, 0, 7, 4, 167, 0, 4] := bL_of (by decide +kernel)
theorem dX4_comesOut_0 : decode cX4_comesOut 0 = .ok (.iload_n 1, 1) := dk27 (k := 0) bX4_comesOut_0 rfl
theorem dX4_comesOut_1 : decode cX4_comesOut 1 = .ok (.iload_n 2, 1) := dk28 (k := 1) bX4_comesOut_0 rfl
theorem dX4_comesOut_2 : decode cX4_comesOut 2 = .ok (.ior, 1) := dk128 (k := 2) bX4_comesOut_0 rfl
theorem dX4_comesOut_3 : decode cX4_comesOut 3 = .ok (.iconst 1, 1) := dk4 (k := 3) bX4_comesOut_0 rfl
theorem dX4_comesOut_4 : decode cX4_comesOut 4 = .ok (.aload_n 0, 1) := dk42 (k := 4) bX4_comesOut_0 rfl
theorem dX4_comesOut_5 : decode cX4_comesOut 5 = .ok (.getfield 15, 3) := dk180 (k := 5) bX4_comesOut_0 rfl rfl
theorem dX4_comesOut_8 : decode cX4_comesOut 8 = .ok (.getfield 19, 3) := dk180 (k := 8) bX4_comesOut_0 rfl rfl
theorem dX4_comesOut_11 : decode cX4_comesOut 11 = .ok (.getfield 39, 3) := dk180 (k := 11) bX4_comesOut_0 rfl rfl
theorem dX4_comesOut_14 : decode cX4_comesOut 14 = .ok (.ishl, 1) := dk120 (k := 14) bX4_comesOut_0 rfl
theorem dX4_comesOut_15 : decode cX4_comesOut 15 = .ok (.iconst 1, 1) := dk4 (k := 15) bX4_comesOut_0 rfl
theorem dX4_comesOut_16 : decode cX4_comesOut 16 = .ok (.isub, 1) := dk100 (k := 16) bX4_comesOut_0 rfl
theorem dX4_comesOut_17 : decode cX4_comesOut 17 = .ok (.if_icmp .ne 7, 3) := dk160 (k := 17) bX4_comesOut_0 rfl (by decide)
theorem dX4_comesOut_20 : decode cX4_comesOut 20 = .ok (.iconst 1, 1) := dk4 (k := 20) bX4_comesOut_0 rfl
theorem dX4_comesOut_21 : decode cX4_comesOut 21 = .ok (.goto 4, 3) := dk167 (k := 21) bX4_comesOut_0 rfl (by decide)
theorem bX4_comesOut_24 : bL cX4_comesOut 24 [3, 54, 5, 21, 5, 154, 0, 26, 29, 42, 180, 0, 71, 162, 0, 18, 21, 4, 155, 0, 13, 21, 4, 42] := bL_of (by decide +kernel)
theorem dX4_comesOut_24 : decode cX4_comesOut 24 = .ok (.iconst 0, 1) := dk3 (k := 0) bX4_comesOut_24 rfl
theorem dX4_comesOut_25 : decode cX4_comesOut 25 = .ok (.istore 5, 2) := dk54 (k := 1) bX4_comesOut_24 rfl rfl
theorem dX4_comesOut_27 : decode cX4_comesOut 27 = .ok (.iload 5, 2) := dk21 (k := 3) bX4_comesOut_24 rfl rfl
theorem dX4_comesOut_29 : decode cX4_comesOut 29 = .ok (.ifCond .ne 26, 3) := dk154 (k := 5) bX4_comesOut_24 rfl (by decide)
theorem dX4_comesOut_32 : decode cX4_comesOut 32 = .ok (.iload_n 3, 1) := dk29 (k := 8) bX4_comesOut_24 rfl
theorem dX4_comesOut_33 : decode cX4_comesOut 33 = .ok (.aload_n 0, 1) := dk42 (k := 9) bX4_comesOut_24 rfl
theorem dX4_comesOut_34 : decode cX4_comesOut 34 = .ok (.getfield 71, 3) := dk180 (k := 10) bX4_comesOut_24 rfl rfl
theorem dX4_comesOut_37 : decode cX4_comesOut 37 = .ok (.if_icmp .ge 18, 3) := dk162 (k := 13) bX4_comesOut_24 rfl (by decide)
theorem dX4_comesOut_40 : decode cX4_comesOut 40 = .ok (.iload 4, 2) := dk21 (k := 16) bX4_comesOut_24 rfl rfl
theorem dX4_comesOut_42 : decode cX4_comesOut 42 = .ok (.ifCond .lt 13, 3) := dk155 (k := 18) bX4_comesOut_24 rfl (by decide)
theorem dX4_comesOut_45 : decode cX4_comesOut 45 = .ok (.iload 4, 2) := dk21 (k := 21) bX4_comesOut_24 rfl rfl
theorem dX4_comesOut_47 : decode cX4_comesOut 47 = .ok (.aload_n 0, 1) := dk42 (k := 23) bX4_comesOut_24 rfl
theorem bX4_comesOut_48 : bL cX4_comesOut 48 [180, 0, 9, 190, 161, 0, 18, 42, 180, 0, 15, 42, 180, 0, 68, 27, 128, 28, 182, 0, 49, 172, 42, 180, 0, 9] := bL_of (by decide +kernel)
theorem dX4_comesOut_48 : decode cX4_comesOut 48 = .ok (.getfield 9, 3) := dk180 (k := 0) bX4_comesOut_48 rfl rfl
theorem dX4_comesOut_51 : decode cX4_comesOut 51 = .ok (.arraylength, 1) := dk190 (k := 3) bX4_comesOut_48 rfl
theorem dX4_comesOut_52 : decode cX4_comesOut 52 = .ok (.if_icmp .lt 18, 3) := dk161 (k := 4) bX4_comesOut_48 rfl (by decide)
theorem dX4_comesOut_55 : decode cX4_comesOut 55 = .ok (.aload_n 0, 1) := dk42 (k := 7) bX4_comesOut_48 rfl
theorem dX4_comesOut_56 : decode cX4_comesOut 56 = .ok (.getfield 15, 3) := dk180 (k := 8) bX4_comesOut_48 rfl rfl
theorem dX4_comesOut_59 : decode cX4_comesOut 59 = .ok (.aload_n 0, 1) := dk42 (k := 11) bX4_comesOut_48 rfl
theorem dX4_comesOut_60 : decode cX4_comesOut 60 = .ok (.getfield 68, 3) := dk180 (k := 12) bX4_comesOut_48 rfl rfl
theorem dX4_comesOut_63 : decode cX4_comesOut 63 = .ok (.iload_n 1, 1) := dk27 (k := 15) bX4_comesOut_48 rfl
theorem dX4_comesOut_64 : decode cX4_comesOut 64 = .ok (.ior, 1) := dk128 (k := 16) bX4_comesOut_48 rfl
theorem dX4_comesOut_65 : decode cX4_comesOut 65 = .ok (.iload_n 2, 1) := dk28 (k := 17) bX4_comesOut_48 rfl
theorem dX4_comesOut_66 : decode cX4_comesOut 66 = .ok (.invokevirtual 49, 3) := dk182 (k := 18) bX4_comesOut_48 rfl rfl
theorem dX4_comesOut_69 : decode cX4_comesOut 69 = .ok (.ireturn, 1) := dk172 (k := 21) bX4_comesOut_48 rfl
theorem dX4_comesOut_70 : decode cX4_comesOut 70 = .ok (.aload_n 0, 1) := dk42 (k := 22) bX4_comesOut_48 rfl
theorem dX4_comesOut_71 : decode cX4_comesOut 71 = .ok (.getfield 9, 3) := dk180 (k := 23) bX4_comesOut_48 rfl rfl
theorem bX4_comesOut_74 : bL cX4_comesOut 74 [21, 4, 51, 154, 0, 51, 42, 29, 182, 0, 77, 54, 6, 42, 21, 6, 27, 28, 29, 21, 4, 182, 0, 81] := bL_of (by decide +kernel)
theorem dX4_comesOut_74 : decode cX4_comesOut 74 = .ok (.iload 4, 2) := dk21 (k := 0) bX4_comesOut_74 rfl rfl
theorem dX4_comesOut_76 : decode cX4_comesOut 76 = .ok (.baload, 1) := dk51 (k := 2) bX4_comesOut_74 rfl
theorem dX4_comesOut_77 : decode cX4_comesOut 77 = .ok (.ifCond .ne 51, 3) := dk154 (k := 3) bX4_comesOut_74 rfl (by decide)
theorem dX4_comesOut_80 : decode cX4_comesOut 80 = .ok (.aload_n 0, 1) := dk42 (k := 6) bX4_comesOut_74 rfl
theorem dX4_comesOut_81 : decode cX4_comesOut 81 = .ok (.iload_n 3, 1) := dk29 (k := 7) bX4_comesOut_74 rfl
theorem dX4_comesOut_82 : decode cX4_comesOut 82 = .ok (.invokevirtual 77, 3) := dk182 (k := 8) bX4_comesOut_74 rfl rfl
theorem dX4_comesOut_85 : decode cX4_comesOut 85 = .ok (.istore 6, 2) := dk54 (k := 11) bX4_comesOut_74 rfl rfl
theorem dX4_comesOut_87 : decode cX4_comesOut 87 = .ok (.aload_n 0, 1) := dk42 (k := 13) bX4_comesOut_74 rfl
theorem dX4_comesOut_88 : decode cX4_comesOut 88 = .ok (.iload 6, 2) := dk21 (k := 14) bX4_comesOut_74 rfl rfl
theorem dX4_comesOut_90 : decode cX4_comesOut 90 = .ok (.iload_n 1, 1) := dk27 (k := 16) bX4_comesOut_74 rfl
theorem dX4_comesOut_91 : decode cX4_comesOut 91 = .ok (.iload_n 2, 1) := dk28 (k := 17) bX4_comesOut_74 rfl
theorem dX4_comesOut_92 : decode cX4_comesOut 92 = .ok (.iload_n 3, 1) := dk29 (k := 18) bX4_comesOut_74 rfl
theorem dX4_comesOut_93 : decode cX4_comesOut 93 = .ok (.iload 4, 2) := dk21 (k := 19) bX4_comesOut_74 rfl rfl
theorem dX4_comesOut_95 : decode cX4_comesOut 95 = .ok (.invokevirtual 81, 3) := dk182 (k := 21) bX4_comesOut_74 rfl rfl
theorem bX4_comesOut_98 : bL cX4_comesOut 98 [21, 6, 160, 0, 7, 4, 167, 0, 4, 3, 54, 7, 42, 180, 0, 9, 21, 4, 21, 7, 153, 0, 7, 4] := bL_of (by decide +kernel)
theorem dX4_comesOut_98 : decode cX4_comesOut 98 = .ok (.iload 6, 2) := dk21 (k := 0) bX4_comesOut_98 rfl rfl
theorem dX4_comesOut_100 : decode cX4_comesOut 100 = .ok (.if_icmp .ne 7, 3) := dk160 (k := 2) bX4_comesOut_98 rfl (by decide)
theorem dX4_comesOut_103 : decode cX4_comesOut 103 = .ok (.iconst 1, 1) := dk4 (k := 5) bX4_comesOut_98 rfl
theorem dX4_comesOut_104 : decode cX4_comesOut 104 = .ok (.goto 4, 3) := dk167 (k := 6) bX4_comesOut_98 rfl (by decide)
theorem dX4_comesOut_107 : decode cX4_comesOut 107 = .ok (.iconst 0, 1) := dk3 (k := 9) bX4_comesOut_98 rfl
theorem dX4_comesOut_108 : decode cX4_comesOut 108 = .ok (.istore 7, 2) := dk54 (k := 10) bX4_comesOut_98 rfl rfl
theorem dX4_comesOut_110 : decode cX4_comesOut 110 = .ok (.aload_n 0, 1) := dk42 (k := 12) bX4_comesOut_98 rfl
theorem dX4_comesOut_111 : decode cX4_comesOut 111 = .ok (.getfield 9, 3) := dk180 (k := 13) bX4_comesOut_98 rfl rfl
theorem dX4_comesOut_114 : decode cX4_comesOut 114 = .ok (.iload 4, 2) := dk21 (k := 16) bX4_comesOut_98 rfl rfl
theorem dX4_comesOut_116 : decode cX4_comesOut 116 = .ok (.iload 7, 2) := dk21 (k := 18) bX4_comesOut_98 rfl rfl
theorem dX4_comesOut_118 : decode cX4_comesOut 118 = .ok (.ifCond .eq 7, 3) := dk153 (k := 20) bX4_comesOut_98 rfl (by decide)
theorem dX4_comesOut_121 : decode cX4_comesOut 121 = .ok (.iconst 1, 1) := dk4 (k := 23) bX4_comesOut_98 rfl
theorem bX4_comesOut_122 : bL cX4_comesOut 122 [167, 0, 4, 5, 145, 84, 42, 180, 0, 9, 21, 4, 51, 4, 160, 0, 7, 4, 167, 0, 4, 3, 172] := bL_of (by decide +kernel)
theorem dX4_comesOut_122 : decode cX4_comesOut 122 = .ok (.goto 4, 3) := dk167 (k := 0) bX4_comesOut_122 rfl (by decide)
theorem dX4_comesOut_125 : decode cX4_comesOut 125 = .ok (.iconst 2, 1) := dk5 (k := 3) bX4_comesOut_122 rfl
theorem dX4_comesOut_126 : decode cX4_comesOut 126 = .ok (.i2b, 1) := dk145 (k := 4) bX4_comesOut_122 rfl
theorem dX4_comesOut_127 : decode cX4_comesOut 127 = .ok (.bastore, 1) := dk84 (k := 5) bX4_comesOut_122 rfl
theorem dX4_comesOut_128 : decode cX4_comesOut 128 = .ok (.aload_n 0, 1) := dk42 (k := 6) bX4_comesOut_122 rfl
theorem dX4_comesOut_129 : decode cX4_comesOut 129 = .ok (.getfield 9, 3) := dk180 (k := 7) bX4_comesOut_122 rfl rfl
theorem dX4_comesOut_132 : decode cX4_comesOut 132 = .ok (.iload 4, 2) := dk21 (k := 10) bX4_comesOut_122 rfl rfl
theorem dX4_comesOut_134 : decode cX4_comesOut 134 = .ok (.baload, 1) := dk51 (k := 12) bX4_comesOut_122 rfl
theorem dX4_comesOut_135 : decode cX4_comesOut 135 = .ok (.iconst 1, 1) := dk4 (k := 13) bX4_comesOut_122 rfl
theorem dX4_comesOut_136 : decode cX4_comesOut 136 = .ok (.if_icmp .ne 7, 3) := dk160 (k := 14) bX4_comesOut_122 rfl (by decide)
theorem dX4_comesOut_139 : decode cX4_comesOut 139 = .ok (.iconst 1, 1) := dk4 (k := 17) bX4_comesOut_122 rfl
theorem dX4_comesOut_140 : decode cX4_comesOut 140 = .ok (.goto 4, 3) := dk167 (k := 18) bX4_comesOut_122 rfl (by decide)
theorem dX4_comesOut_143 : decode cX4_comesOut 143 = .ok (.iconst 0, 1) := dk3 (k := 21) bX4_comesOut_122 rfl
theorem dX4_comesOut_144 : decode cX4_comesOut 144 = .ok (.ireturn, 1) := dk172 (k := 22) bX4_comesOut_122 rfl
theorem bX4_canReach_0 : bL cX4_canReach 0 [3, 54, 6, 21, 6, 42, 180, 0, 15, 180, 0, 19, 180, 0, 39, 162, 0, 38, 28, 29, 128, 21, 6, 122] := bL_of (by decide +kernel)
theorem dX4_canReach_0 : decode cX4_canReach 0 = .ok (.iconst 0, 1) := dk3 (k := 0) bX4_canReach_0 rfl
theorem dX4_canReach_1 : decode cX4_canReach 1 = .ok (.istore 6, 2) := dk54 (k := 1) bX4_canReach_0 rfl rfl
theorem dX4_canReach_3 : decode cX4_canReach 3 = .ok (.iload 6, 2) := dk21 (k := 3) bX4_canReach_0 rfl rfl
theorem dX4_canReach_5 : decode cX4_canReach 5 = .ok (.aload_n 0, 1) := dk42 (k := 5) bX4_canReach_0 rfl
theorem dX4_canReach_6 : decode cX4_canReach 6 = .ok (.getfield 15, 3) := dk180 (k := 6) bX4_canReach_0 rfl rfl
theorem dX4_canReach_9 : decode cX4_canReach 9 = .ok (.getfield 19, 3) := dk180 (k := 9) bX4_canReach_0 rfl rfl
theorem dX4_canReach_12 : decode cX4_canReach 12 = .ok (.getfield 39, 3) := dk180 (k := 12) bX4_canReach_0 rfl rfl
theorem dX4_canReach_15 : decode cX4_canReach 15 = .ok (.if_icmp .ge 38, 3) := dk162 (k := 15) bX4_canReach_0 rfl (by decide)
theorem dX4_canReach_18 : decode cX4_canReach 18 = .ok (.iload_n 2, 1) := dk28 (k := 18) bX4_canReach_0 rfl
theorem dX4_canReach_19 : decode cX4_canReach 19 = .ok (.iload_n 3, 1) := dk29 (k := 19) bX4_canReach_0 rfl
theorem dX4_canReach_20 : decode cX4_canReach 20 = .ok (.ior, 1) := dk128 (k := 20) bX4_canReach_0 rfl
theorem dX4_canReach_21 : decode cX4_canReach 21 = .ok (.iload 6, 2) := dk21 (k := 21) bX4_canReach_0 rfl rfl
theorem dX4_canReach_23 : decode cX4_canReach 23 = .ok (.ishr, 1) := dk122 (k := 23) bX4_canReach_0 rfl
theorem bX4_canReach_24 : bL cX4_canReach 24 [4, 126, 154, 0, 21, 42, 21, 6, 28, 29, 21, 4, 21, 5, 182, 0, 64, 27, 160, 0, 5, 4, 172, 132, 6, 1] := bL_of (by decide +kernel)
theorem dX4_canReach_24 : decode cX4_canReach 24 = .ok (.iconst 1, 1) := dk4 (k := 0) bX4_canReach_24 rfl
theorem dX4_canReach_25 : decode cX4_canReach 25 = .ok (.iand, 1) := dk126 (k := 1) bX4_canReach_24 rfl
theorem dX4_canReach_26 : decode cX4_canReach 26 = .ok (.ifCond .ne 21, 3) := dk154 (k := 2) bX4_canReach_24 rfl (by decide)
theorem dX4_canReach_29 : decode cX4_canReach 29 = .ok (.aload_n 0, 1) := dk42 (k := 5) bX4_canReach_24 rfl
theorem dX4_canReach_30 : decode cX4_canReach 30 = .ok (.iload 6, 2) := dk21 (k := 6) bX4_canReach_24 rfl rfl
theorem dX4_canReach_32 : decode cX4_canReach 32 = .ok (.iload_n 2, 1) := dk28 (k := 8) bX4_canReach_24 rfl
theorem dX4_canReach_33 : decode cX4_canReach 33 = .ok (.iload_n 3, 1) := dk29 (k := 9) bX4_canReach_24 rfl
theorem dX4_canReach_34 : decode cX4_canReach 34 = .ok (.iload 4, 2) := dk21 (k := 10) bX4_canReach_24 rfl rfl
theorem dX4_canReach_36 : decode cX4_canReach 36 = .ok (.iload 5, 2) := dk21 (k := 12) bX4_canReach_24 rfl rfl
theorem dX4_canReach_38 : decode cX4_canReach 38 = .ok (.invokevirtual 64, 3) := dk182 (k := 14) bX4_canReach_24 rfl rfl
theorem dX4_canReach_41 : decode cX4_canReach 41 = .ok (.iload_n 1, 1) := dk27 (k := 17) bX4_canReach_24 rfl
theorem dX4_canReach_42 : decode cX4_canReach 42 = .ok (.if_icmp .ne 5, 3) := dk160 (k := 18) bX4_canReach_24 rfl (by decide)
theorem dX4_canReach_45 : decode cX4_canReach 45 = .ok (.iconst 1, 1) := dk4 (k := 21) bX4_canReach_24 rfl
theorem dX4_canReach_46 : decode cX4_canReach 46 = .ok (.ireturn, 1) := dk172 (k := 22) bX4_canReach_24 rfl
theorem dX4_canReach_47 : decode cX4_canReach 47 = .ok (.iinc 6 1, 3) := dk132 (k := 23) bX4_canReach_24 rfl rfl (by decide)
theorem bX4_canReach_50 : bL cX4_canReach 50 [167, 255, 209, 3, 172] := bL_of (by decide +kernel)
theorem dX4_canReach_50 : decode cX4_canReach 50 = .ok (.goto (-47), 3) := dk167 (k := 0) bX4_canReach_50 rfl (by decide)
theorem dX4_canReach_53 : decode cX4_canReach 53 = .ok (.iconst 0, 1) := dk3 (k := 3) bX4_canReach_50 rfl
theorem dX4_canReach_54 : decode cX4_canReach 54 = .ok (.ireturn, 1) := dk172 (k := 4) bX4_canReach_50 rfl
theorem bX4_comesOutBy_0 : bL cX4_comesOutBy 0 [27, 155, 0, 19, 27, 178, 0, 85, 190, 162, 0, 11, 178, 0, 85, 27, 46, 167, 0, 4, 3, 54, 6, 42] := bL_of (by decide +kernel)
theorem dX4_comesOutBy_0 : decode cX4_comesOutBy 0 = .ok (.iload_n 1, 1) := dk27 (k := 0) bX4_comesOutBy_0 rfl
theorem dX4_comesOutBy_1 : decode cX4_comesOutBy 1 = .ok (.ifCond .lt 19, 3) := dk155 (k := 1) bX4_comesOutBy_0 rfl (by decide)
theorem dX4_comesOutBy_4 : decode cX4_comesOutBy 4 = .ok (.iload_n 1, 1) := dk27 (k := 4) bX4_comesOutBy_0 rfl
theorem dX4_comesOutBy_5 : decode cX4_comesOutBy 5 = .ok (.getstatic 85, 3) := dk178 (k := 5) bX4_comesOutBy_0 rfl rfl
theorem dX4_comesOutBy_8 : decode cX4_comesOutBy 8 = .ok (.arraylength, 1) := dk190 (k := 8) bX4_comesOutBy_0 rfl
theorem dX4_comesOutBy_9 : decode cX4_comesOutBy 9 = .ok (.if_icmp .ge 11, 3) := dk162 (k := 9) bX4_comesOutBy_0 rfl (by decide)
theorem dX4_comesOutBy_12 : decode cX4_comesOutBy 12 = .ok (.getstatic 85, 3) := dk178 (k := 12) bX4_comesOutBy_0 rfl rfl
theorem dX4_comesOutBy_15 : decode cX4_comesOutBy 15 = .ok (.iload_n 1, 1) := dk27 (k := 15) bX4_comesOutBy_0 rfl
theorem dX4_comesOutBy_16 : decode cX4_comesOutBy 16 = .ok (.iaload, 1) := dk46 (k := 16) bX4_comesOutBy_0 rfl
theorem dX4_comesOutBy_17 : decode cX4_comesOutBy 17 = .ok (.goto 4, 3) := dk167 (k := 17) bX4_comesOutBy_0 rfl (by decide)
theorem dX4_comesOutBy_20 : decode cX4_comesOutBy 20 = .ok (.iconst 0, 1) := dk3 (k := 20) bX4_comesOutBy_0 rfl
theorem dX4_comesOutBy_21 : decode cX4_comesOutBy 21 = .ok (.istore 6, 2) := dk54 (k := 21) bX4_comesOutBy_0 rfl rfl
theorem dX4_comesOutBy_23 : decode cX4_comesOutBy 23 = .ok (.aload_n 0, 1) := dk42 (k := 23) bX4_comesOutBy_0 rfl
theorem bX4_comesOutBy_24 : bL cX4_comesOutBy 24 [21, 4, 182, 0, 77, 153, 0, 23, 42, 28, 4, 27, 120, 128, 29, 21, 4, 4, 96, 21, 5, 21, 6, 96] := bL_of (by decide +kernel)
theorem dX4_comesOutBy_24 : decode cX4_comesOutBy 24 = .ok (.iload 4, 2) := dk21 (k := 0) bX4_comesOutBy_24 rfl rfl
theorem dX4_comesOutBy_26 : decode cX4_comesOutBy 26 = .ok (.invokevirtual 77, 3) := dk182 (k := 2) bX4_comesOutBy_24 rfl rfl
theorem dX4_comesOutBy_29 : decode cX4_comesOutBy 29 = .ok (.ifCond .eq 23, 3) := dk153 (k := 5) bX4_comesOutBy_24 rfl (by decide)
theorem dX4_comesOutBy_32 : decode cX4_comesOutBy 32 = .ok (.aload_n 0, 1) := dk42 (k := 8) bX4_comesOutBy_24 rfl
theorem dX4_comesOutBy_33 : decode cX4_comesOutBy 33 = .ok (.iload_n 2, 1) := dk28 (k := 9) bX4_comesOutBy_24 rfl
theorem dX4_comesOutBy_34 : decode cX4_comesOutBy 34 = .ok (.iconst 1, 1) := dk4 (k := 10) bX4_comesOutBy_24 rfl
theorem dX4_comesOutBy_35 : decode cX4_comesOutBy 35 = .ok (.iload_n 1, 1) := dk27 (k := 11) bX4_comesOutBy_24 rfl
theorem dX4_comesOutBy_36 : decode cX4_comesOutBy 36 = .ok (.ishl, 1) := dk120 (k := 12) bX4_comesOutBy_24 rfl
theorem dX4_comesOutBy_37 : decode cX4_comesOutBy 37 = .ok (.ior, 1) := dk128 (k := 13) bX4_comesOutBy_24 rfl
theorem dX4_comesOutBy_38 : decode cX4_comesOutBy 38 = .ok (.iload_n 3, 1) := dk29 (k := 14) bX4_comesOutBy_24 rfl
theorem dX4_comesOutBy_39 : decode cX4_comesOutBy 39 = .ok (.iload 4, 2) := dk21 (k := 15) bX4_comesOutBy_24 rfl rfl
theorem dX4_comesOutBy_41 : decode cX4_comesOutBy 41 = .ok (.iconst 1, 1) := dk4 (k := 17) bX4_comesOutBy_24 rfl
theorem dX4_comesOutBy_42 : decode cX4_comesOutBy 42 = .ok (.iadd, 1) := dk96 (k := 18) bX4_comesOutBy_24 rfl
theorem dX4_comesOutBy_43 : decode cX4_comesOutBy 43 = .ok (.iload 5, 2) := dk21 (k := 19) bX4_comesOutBy_24 rfl rfl
theorem dX4_comesOutBy_45 : decode cX4_comesOutBy 45 = .ok (.iload 6, 2) := dk21 (k := 21) bX4_comesOutBy_24 rfl rfl
theorem dX4_comesOutBy_47 : decode cX4_comesOutBy 47 = .ok (.iadd, 1) := dk96 (k := 23) bX4_comesOutBy_24 rfl
theorem bX4_comesOutBy_48 : bL cX4_comesOutBy 48 [182, 0, 60, 172, 42, 28, 29, 4, 27, 120, 128, 21, 4, 4, 96, 21, 5, 5, 21, 6, 104, 96, 182, 0, 60] := bL_of (by decide +kernel)
theorem dX4_comesOutBy_48 : decode cX4_comesOutBy 48 = .ok (.invokevirtual 60, 3) := dk182 (k := 0) bX4_comesOutBy_48 rfl rfl
theorem dX4_comesOutBy_51 : decode cX4_comesOutBy 51 = .ok (.ireturn, 1) := dk172 (k := 3) bX4_comesOutBy_48 rfl
theorem dX4_comesOutBy_52 : decode cX4_comesOutBy 52 = .ok (.aload_n 0, 1) := dk42 (k := 4) bX4_comesOutBy_48 rfl
theorem dX4_comesOutBy_53 : decode cX4_comesOutBy 53 = .ok (.iload_n 2, 1) := dk28 (k := 5) bX4_comesOutBy_48 rfl
theorem dX4_comesOutBy_54 : decode cX4_comesOutBy 54 = .ok (.iload_n 3, 1) := dk29 (k := 6) bX4_comesOutBy_48 rfl
theorem dX4_comesOutBy_55 : decode cX4_comesOutBy 55 = .ok (.iconst 1, 1) := dk4 (k := 7) bX4_comesOutBy_48 rfl
theorem dX4_comesOutBy_56 : decode cX4_comesOutBy 56 = .ok (.iload_n 1, 1) := dk27 (k := 8) bX4_comesOutBy_48 rfl
theorem dX4_comesOutBy_57 : decode cX4_comesOutBy 57 = .ok (.ishl, 1) := dk120 (k := 9) bX4_comesOutBy_48 rfl
theorem dX4_comesOutBy_58 : decode cX4_comesOutBy 58 = .ok (.ior, 1) := dk128 (k := 10) bX4_comesOutBy_48 rfl
theorem dX4_comesOutBy_59 : decode cX4_comesOutBy 59 = .ok (.iload 4, 2) := dk21 (k := 11) bX4_comesOutBy_48 rfl rfl
theorem dX4_comesOutBy_61 : decode cX4_comesOutBy 61 = .ok (.iconst 1, 1) := dk4 (k := 13) bX4_comesOutBy_48 rfl
theorem dX4_comesOutBy_62 : decode cX4_comesOutBy 62 = .ok (.iadd, 1) := dk96 (k := 14) bX4_comesOutBy_48 rfl
theorem dX4_comesOutBy_63 : decode cX4_comesOutBy 63 = .ok (.iload 5, 2) := dk21 (k := 15) bX4_comesOutBy_48 rfl rfl
theorem dX4_comesOutBy_65 : decode cX4_comesOutBy 65 = .ok (.iconst 2, 1) := dk5 (k := 17) bX4_comesOutBy_48 rfl
theorem dX4_comesOutBy_66 : decode cX4_comesOutBy 66 = .ok (.iload 6, 2) := dk21 (k := 18) bX4_comesOutBy_48 rfl rfl
theorem dX4_comesOutBy_68 : decode cX4_comesOutBy 68 = .ok (.imul, 1) := dk104 (k := 20) bX4_comesOutBy_48 rfl
theorem dX4_comesOutBy_69 : decode cX4_comesOutBy 69 = .ok (.iadd, 1) := dk96 (k := 21) bX4_comesOutBy_48 rfl
theorem dX4_comesOutBy_70 : decode cX4_comesOutBy 70 = .ok (.invokevirtual 60, 3) := dk182 (k := 22) bX4_comesOutBy_48 rfl rfl
theorem bX4_comesOutBy_73 : bL cX4_comesOutBy 73 [172] := bL_of (by decide +kernel)
theorem dX4_comesOutBy_73 : decode cX4_comesOutBy 73 = .ok (.ireturn, 1) := dk172 (k := 0) bX4_comesOutBy_73 rfl
theorem bX5_init_0 : bL cX5_init 0 [42, 183, 0, 3, 42, 187, 0, 9, 89, 183, 0, 11, 181, 0, 12, 42, 2, 181, 0, 18, 42, 43, 181, 0, 22] := bL_of (by decide +kernel)
theorem dX5_init_0 : decode cX5_init 0 = .ok (.aload_n 0, 1) := dk42 (k := 0) bX5_init_0 rfl
theorem dX5_init_1 : decode cX5_init 1 = .ok (.invokespecial 3, 3) := dk183 (k := 1) bX5_init_0 rfl rfl
theorem dX5_init_4 : decode cX5_init 4 = .ok (.aload_n 0, 1) := dk42 (k := 4) bX5_init_0 rfl
theorem dX5_init_5 : decode cX5_init 5 = .ok (.new 9, 3) := dk187 (k := 5) bX5_init_0 rfl rfl
theorem dX5_init_8 : decode cX5_init 8 = .ok (.dup, 1) := dk89 (k := 8) bX5_init_0 rfl
theorem dX5_init_9 : decode cX5_init 9 = .ok (.invokespecial 11, 3) := dk183 (k := 9) bX5_init_0 rfl rfl
theorem dX5_init_12 : decode cX5_init 12 = .ok (.putfield 12, 3) := dk181 (k := 12) bX5_init_0 rfl rfl
theorem dX5_init_15 : decode cX5_init 15 = .ok (.aload_n 0, 1) := dk42 (k := 15) bX5_init_0 rfl
theorem dX5_init_16 : decode cX5_init 16 = .ok (.iconst (-1), 1) := dk2 (k := 16) bX5_init_0 rfl
theorem dX5_init_17 : decode cX5_init 17 = .ok (.putfield 18, 3) := dk181 (k := 17) bX5_init_0 rfl rfl
theorem dX5_init_20 : decode cX5_init 20 = .ok (.aload_n 0, 1) := dk42 (k := 20) bX5_init_0 rfl
theorem dX5_init_21 : decode cX5_init 21 = .ok (.aload_n 1, 1) := dk43 (k := 21) bX5_init_0 rfl
theorem dX5_init_22 : decode cX5_init 22 = .ok (.putfield 22, 3) := dk181 (k := 22) bX5_init_0 rfl rfl
theorem bX5_init_25 : bL cX5_init 25 [177] := bL_of (by decide +kernel)
theorem dX5_init_25 : decode cX5_init 25 = .ok (.return_, 1) := dk177 (k := 0) bX5_init_25 rfl
theorem bX5_readAll_0 : bL cX5_readAll 0 [42, 180, 0, 22, 182, 0, 26, 42, 180, 0, 12, 182, 0, 31, 42, 3, 181, 0, 34, 42, 2, 181, 0, 18] := bL_of (by decide +kernel)
theorem dX5_readAll_0 : decode cX5_readAll 0 = .ok (.aload_n 0, 1) := dk42 (k := 0) bX5_readAll_0 rfl
theorem dX5_readAll_1 : decode cX5_readAll 1 = .ok (.getfield 22, 3) := dk180 (k := 1) bX5_readAll_0 rfl rfl
theorem dX5_readAll_4 : decode cX5_readAll 4 = .ok (.invokevirtual 26, 3) := dk182 (k := 4) bX5_readAll_0 rfl rfl
theorem dX5_readAll_7 : decode cX5_readAll 7 = .ok (.aload_n 0, 1) := dk42 (k := 7) bX5_readAll_0 rfl
theorem dX5_readAll_8 : decode cX5_readAll 8 = .ok (.getfield 12, 3) := dk180 (k := 8) bX5_readAll_0 rfl rfl
theorem dX5_readAll_11 : decode cX5_readAll 11 = .ok (.invokevirtual 31, 3) := dk182 (k := 11) bX5_readAll_0 rfl rfl
theorem dX5_readAll_14 : decode cX5_readAll 14 = .ok (.aload_n 0, 1) := dk42 (k := 14) bX5_readAll_0 rfl
theorem dX5_readAll_15 : decode cX5_readAll 15 = .ok (.iconst 0, 1) := dk3 (k := 15) bX5_readAll_0 rfl
theorem dX5_readAll_16 : decode cX5_readAll 16 = .ok (.putfield 34, 3) := dk181 (k := 16) bX5_readAll_0 rfl rfl
theorem dX5_readAll_19 : decode cX5_readAll 19 = .ok (.aload_n 0, 1) := dk42 (k := 19) bX5_readAll_0 rfl
theorem dX5_readAll_20 : decode cX5_readAll 20 = .ok (.iconst (-1), 1) := dk2 (k := 20) bX5_readAll_0 rfl
theorem dX5_readAll_21 : decode cX5_readAll 21 = .ok (.putfield 18, 3) := dk181 (k := 21) bX5_readAll_0 rfl rfl
theorem bX5_readAll_24 : bL cX5_readAll 24 [42, 3, 181, 0, 37, 42, 182, 0, 40, 3, 60, 27, 17, 3, 132, 162, 0, 38, 42, 180, 0, 43, 153, 0, 31] := bL_of (by decide +kernel)
theorem dX5_readAll_24 : decode cX5_readAll 24 = .ok (.aload_n 0, 1) := dk42 (k := 0) bX5_readAll_24 rfl
theorem dX5_readAll_25 : decode cX5_readAll 25 = .ok (.iconst 0, 1) := dk3 (k := 1) bX5_readAll_24 rfl
theorem dX5_readAll_26 : decode cX5_readAll 26 = .ok (.putfield 37, 3) := dk181 (k := 2) bX5_readAll_24 rfl rfl
theorem dX5_readAll_29 : decode cX5_readAll 29 = .ok (.aload_n 0, 1) := dk42 (k := 5) bX5_readAll_24 rfl
theorem dX5_readAll_30 : decode cX5_readAll 30 = .ok (.invokevirtual 40, 3) := dk182 (k := 6) bX5_readAll_24 rfl rfl
theorem dX5_readAll_33 : decode cX5_readAll 33 = .ok (.iconst 0, 1) := dk3 (k := 9) bX5_readAll_24 rfl
theorem dX5_readAll_34 : decode cX5_readAll 34 = .ok (.istore_n 1, 1) := dk60 (k := 10) bX5_readAll_24 rfl
theorem dX5_readAll_35 : decode cX5_readAll 35 = .ok (.iload_n 1, 1) := dk27 (k := 11) bX5_readAll_24 rfl
theorem dX5_readAll_36 : decode cX5_readAll 36 = .ok (.sipush 900, 3) := dk17 (k := 12) bX5_readAll_24 rfl (by decide)
theorem dX5_readAll_39 : decode cX5_readAll 39 = .ok (.if_icmp .ge 38, 3) := dk162 (k := 15) bX5_readAll_24 rfl (by decide)
theorem dX5_readAll_42 : decode cX5_readAll 42 = .ok (.aload_n 0, 1) := dk42 (k := 18) bX5_readAll_24 rfl
theorem dX5_readAll_43 : decode cX5_readAll 43 = .ok (.getfield 43, 3) := dk180 (k := 19) bX5_readAll_24 rfl rfl
theorem dX5_readAll_46 : decode cX5_readAll 46 = .ok (.ifCond .eq 31, 3) := dk153 (k := 22) bX5_readAll_24 rfl (by decide)
theorem bX5_readAll_49 : bL cX5_readAll 49 [42, 182, 0, 46, 154, 0, 5, 3, 172, 42, 180, 0, 12, 89, 180, 0, 50, 4, 96, 181, 0, 50, 132, 1, 1] := bL_of (by decide +kernel)
theorem dX5_readAll_49 : decode cX5_readAll 49 = .ok (.aload_n 0, 1) := dk42 (k := 0) bX5_readAll_49 rfl
theorem dX5_readAll_50 : decode cX5_readAll 50 = .ok (.invokevirtual 46, 3) := dk182 (k := 1) bX5_readAll_49 rfl rfl
theorem dX5_readAll_53 : decode cX5_readAll 53 = .ok (.ifCond .ne 5, 3) := dk154 (k := 4) bX5_readAll_49 rfl (by decide)
theorem dX5_readAll_56 : decode cX5_readAll 56 = .ok (.iconst 0, 1) := dk3 (k := 7) bX5_readAll_49 rfl
theorem dX5_readAll_57 : decode cX5_readAll 57 = .ok (.ireturn, 1) := dk172 (k := 8) bX5_readAll_49 rfl
theorem dX5_readAll_58 : decode cX5_readAll 58 = .ok (.aload_n 0, 1) := dk42 (k := 9) bX5_readAll_49 rfl
theorem dX5_readAll_59 : decode cX5_readAll 59 = .ok (.getfield 12, 3) := dk180 (k := 10) bX5_readAll_49 rfl rfl
theorem dX5_readAll_62 : decode cX5_readAll 62 = .ok (.dup, 1) := dk89 (k := 13) bX5_readAll_49 rfl
theorem dX5_readAll_63 : decode cX5_readAll 63 = .ok (.getfield 50, 3) := dk180 (k := 14) bX5_readAll_49 rfl rfl
theorem dX5_readAll_66 : decode cX5_readAll 66 = .ok (.iconst 1, 1) := dk4 (k := 17) bX5_readAll_49 rfl
theorem dX5_readAll_67 : decode cX5_readAll 67 = .ok (.iadd, 1) := dk96 (k := 18) bX5_readAll_49 rfl
theorem dX5_readAll_68 : decode cX5_readAll 68 = .ok (.putfield 50, 3) := dk181 (k := 19) bX5_readAll_49 rfl rfl
theorem dX5_readAll_71 : decode cX5_readAll 71 = .ok (.iinc 1 1, 3) := dk132 (k := 22) bX5_readAll_49 rfl rfl (by decide)
theorem bX5_readAll_74 : bL cX5_readAll 74 [167, 255, 217, 4, 172] := bL_of (by decide +kernel)
theorem dX5_readAll_74 : decode cX5_readAll 74 = .ok (.goto (-39), 3) := dk167 (k := 0) bX5_readAll_74 rfl (by decide)
theorem dX5_readAll_77 : decode cX5_readAll 77 = .ok (.iconst 1, 1) := dk4 (k := 3) bX5_readAll_74 rfl
theorem dX5_readAll_78 : decode cX5_readAll 78 = .ok (.ireturn, 1) := dk172 (k := 4) bX5_readAll_74 rfl
theorem bX5_advance_0 : bL cX5_advance 0 [42, 180, 0, 37, 155, 0, 90, 42, 180, 0, 37, 42, 180, 0, 22, 180, 0, 53, 162, 0, 76, 42, 180, 0, 37] := bL_of (by decide +kernel)
theorem dX5_advance_0 : decode cX5_advance 0 = .ok (.aload_n 0, 1) := dk42 (k := 0) bX5_advance_0 rfl
theorem dX5_advance_1 : decode cX5_advance 1 = .ok (.getfield 37, 3) := dk180 (k := 1) bX5_advance_0 rfl rfl
theorem dX5_advance_4 : decode cX5_advance 4 = .ok (.ifCond .lt 90, 3) := dk155 (k := 4) bX5_advance_0 rfl (by decide)
theorem dX5_advance_7 : decode cX5_advance 7 = .ok (.aload_n 0, 1) := dk42 (k := 7) bX5_advance_0 rfl
theorem dX5_advance_8 : decode cX5_advance 8 = .ok (.getfield 37, 3) := dk180 (k := 8) bX5_advance_0 rfl rfl
theorem dX5_advance_11 : decode cX5_advance 11 = .ok (.aload_n 0, 1) := dk42 (k := 11) bX5_advance_0 rfl
theorem dX5_advance_12 : decode cX5_advance 12 = .ok (.getfield 22, 3) := dk180 (k := 12) bX5_advance_0 rfl rfl
theorem dX5_advance_15 : decode cX5_advance 15 = .ok (.getfield 53, 3) := dk180 (k := 15) bX5_advance_0 rfl rfl
theorem dX5_advance_18 : decode cX5_advance 18 = .ok (.if_icmp .ge 76, 3) := dk162 (k := 18) bX5_advance_0 rfl (by decide)
theorem dX5_advance_21 : decode cX5_advance 21 = .ok (.aload_n 0, 1) := dk42 (k := 21) bX5_advance_0 rfl
theorem dX5_advance_22 : decode cX5_advance 22 = .ok (.getfield 37, 3) := dk180 (k := 22) bX5_advance_0 rfl rfl
theorem bX5_advance_25 : bL cX5_advance 25 [42, 180, 0, 22, 180, 0, 56, 190, 162, 0, 61, 42, 42, 180, 0, 22, 180, 0, 56, 42, 180, 0, 37, 46] := bL_of (by decide +kernel)
theorem dX5_advance_25 : decode cX5_advance 25 = .ok (.aload_n 0, 1) := dk42 (k := 0) bX5_advance_25 rfl
theorem dX5_advance_26 : decode cX5_advance 26 = .ok (.getfield 22, 3) := dk180 (k := 1) bX5_advance_25 rfl rfl
theorem dX5_advance_29 : decode cX5_advance 29 = .ok (.getfield 56, 3) := dk180 (k := 4) bX5_advance_25 rfl rfl
theorem dX5_advance_32 : decode cX5_advance 32 = .ok (.arraylength, 1) := dk190 (k := 7) bX5_advance_25 rfl
theorem dX5_advance_33 : decode cX5_advance 33 = .ok (.if_icmp .ge 61, 3) := dk162 (k := 8) bX5_advance_25 rfl (by decide)
theorem dX5_advance_36 : decode cX5_advance 36 = .ok (.aload_n 0, 1) := dk42 (k := 11) bX5_advance_25 rfl
theorem dX5_advance_37 : decode cX5_advance 37 = .ok (.aload_n 0, 1) := dk42 (k := 12) bX5_advance_25 rfl
theorem dX5_advance_38 : decode cX5_advance 38 = .ok (.getfield 22, 3) := dk180 (k := 13) bX5_advance_25 rfl rfl
theorem dX5_advance_41 : decode cX5_advance 41 = .ok (.getfield 56, 3) := dk180 (k := 16) bX5_advance_25 rfl rfl
theorem dX5_advance_44 : decode cX5_advance 44 = .ok (.aload_n 0, 1) := dk42 (k := 19) bX5_advance_25 rfl
theorem dX5_advance_45 : decode cX5_advance 45 = .ok (.getfield 37, 3) := dk180 (k := 20) bX5_advance_25 rfl rfl
theorem dX5_advance_48 : decode cX5_advance 48 = .ok (.iaload, 1) := dk46 (k := 23) bX5_advance_25 rfl
theorem bX5_advance_49 : bL cX5_advance 49 [181, 0, 43, 42, 42, 180, 0, 22, 180, 0, 60, 42, 180, 0, 37, 46, 181, 0, 63, 42, 42, 180, 0, 22] := bL_of (by decide +kernel)
theorem dX5_advance_49 : decode cX5_advance 49 = .ok (.putfield 43, 3) := dk181 (k := 0) bX5_advance_49 rfl rfl
theorem dX5_advance_52 : decode cX5_advance 52 = .ok (.aload_n 0, 1) := dk42 (k := 3) bX5_advance_49 rfl
theorem dX5_advance_53 : decode cX5_advance 53 = .ok (.aload_n 0, 1) := dk42 (k := 4) bX5_advance_49 rfl
theorem dX5_advance_54 : decode cX5_advance 54 = .ok (.getfield 22, 3) := dk180 (k := 5) bX5_advance_49 rfl rfl
theorem dX5_advance_57 : decode cX5_advance 57 = .ok (.getfield 60, 3) := dk180 (k := 8) bX5_advance_49 rfl rfl
theorem dX5_advance_60 : decode cX5_advance 60 = .ok (.aload_n 0, 1) := dk42 (k := 11) bX5_advance_49 rfl
theorem dX5_advance_61 : decode cX5_advance 61 = .ok (.getfield 37, 3) := dk180 (k := 12) bX5_advance_49 rfl rfl
theorem dX5_advance_64 : decode cX5_advance 64 = .ok (.iaload, 1) := dk46 (k := 15) bX5_advance_49 rfl
theorem dX5_advance_65 : decode cX5_advance 65 = .ok (.putfield 63, 3) := dk181 (k := 16) bX5_advance_49 rfl rfl
theorem dX5_advance_68 : decode cX5_advance 68 = .ok (.aload_n 0, 1) := dk42 (k := 19) bX5_advance_49 rfl
theorem dX5_advance_69 : decode cX5_advance 69 = .ok (.aload_n 0, 1) := dk42 (k := 20) bX5_advance_49 rfl
theorem dX5_advance_70 : decode cX5_advance 70 = .ok (.getfield 22, 3) := dk180 (k := 21) bX5_advance_49 rfl rfl
theorem bX5_advance_73 : bL cX5_advance 73 [180, 0, 66, 42, 180, 0, 37, 46, 181, 0, 69, 42, 89, 180, 0, 37, 4, 96, 181, 0, 37, 177] := bL_of (by decide +kernel)
theorem dX5_advance_73 : decode cX5_advance 73 = .ok (.getfield 66, 3) := dk180 (k := 0) bX5_advance_73 rfl rfl
theorem dX5_advance_76 : decode cX5_advance 76 = .ok (.aload_n 0, 1) := dk42 (k := 3) bX5_advance_73 rfl
theorem dX5_advance_77 : decode cX5_advance 77 = .ok (.getfield 37, 3) := dk180 (k := 4) bX5_advance_73 rfl rfl
theorem dX5_advance_80 : decode cX5_advance 80 = .ok (.iaload, 1) := dk46 (k := 7) bX5_advance_73 rfl
theorem dX5_advance_81 : decode cX5_advance 81 = .ok (.putfield 69, 3) := dk181 (k := 8) bX5_advance_73 rfl rfl
theorem dX5_advance_84 : decode cX5_advance 84 = .ok (.aload_n 0, 1) := dk42 (k := 11) bX5_advance_73 rfl
theorem dX5_advance_85 : decode cX5_advance 85 = .ok (.dup, 1) := dk89 (k := 12) bX5_advance_73 rfl
theorem dX5_advance_86 : decode cX5_advance 86 = .ok (.getfield 37, 3) := dk180 (k := 13) bX5_advance_73 rfl rfl
theorem dX5_advance_89 : decode cX5_advance 89 = .ok (.iconst 1, 1) := dk4 (k := 16) bX5_advance_73 rfl
theorem dX5_advance_90 : decode cX5_advance 90 = .ok (.iadd, 1) := dk96 (k := 17) bX5_advance_73 rfl
theorem dX5_advance_91 : decode cX5_advance 91 = .ok (.putfield 37, 3) := dk181 (k := 18) bX5_advance_73 rfl rfl
theorem dX5_advance_94 : decode cX5_advance 94 = .ok (.return_, 1) := dk177 (k := 21) bX5_advance_73 rfl
theorem bX5_refuse_0 : bL cX5_refuse 0 [42, 27, 181, 0, 34, 42, 42, 180, 0, 63, 181, 0, 18, 3, 172] := bL_of (by decide +kernel)
theorem dX5_refuse_0 : decode cX5_refuse 0 = .ok (.aload_n 0, 1) := dk42 (k := 0) bX5_refuse_0 rfl
theorem dX5_refuse_1 : decode cX5_refuse 1 = .ok (.iload_n 1, 1) := dk27 (k := 1) bX5_refuse_0 rfl
theorem dX5_refuse_2 : decode cX5_refuse 2 = .ok (.putfield 34, 3) := dk181 (k := 2) bX5_refuse_0 rfl rfl
theorem dX5_refuse_5 : decode cX5_refuse 5 = .ok (.aload_n 0, 1) := dk42 (k := 5) bX5_refuse_0 rfl
theorem dX5_refuse_6 : decode cX5_refuse 6 = .ok (.aload_n 0, 1) := dk42 (k := 6) bX5_refuse_0 rfl
theorem dX5_refuse_7 : decode cX5_refuse 7 = .ok (.getfield 63, 3) := dk180 (k := 7) bX5_refuse_0 rfl rfl
theorem dX5_refuse_10 : decode cX5_refuse 10 = .ok (.putfield 18, 3) := dk181 (k := 10) bX5_refuse_0 rfl rfl
theorem dX5_refuse_13 : decode cX5_refuse 13 = .ok (.iconst 0, 1) := dk3 (k := 13) bX5_refuse_0 rfl
theorem dX5_refuse_14 : decode cX5_refuse 14 = .ok (.ireturn, 1) := dk172 (k := 14) bX5_refuse_0 rfl
theorem bX5_pass_0 : bL cX5_pass 0 [42, 180, 0, 43, 27, 159, 0, 9, 42, 4, 182, 0, 72, 172, 42, 182, 0, 40, 4, 172] := bL_of (by decide +kernel)
theorem dX5_pass_0 : decode cX5_pass 0 = .ok (.aload_n 0, 1) := dk42 (k := 0) bX5_pass_0 rfl
theorem dX5_pass_1 : decode cX5_pass 1 = .ok (.getfield 43, 3) := dk180 (k := 1) bX5_pass_0 rfl rfl
theorem dX5_pass_4 : decode cX5_pass 4 = .ok (.iload_n 1, 1) := dk27 (k := 4) bX5_pass_0 rfl
theorem dX5_pass_5 : decode cX5_pass 5 = .ok (.if_icmp .eq 9, 3) := dk159 (k := 5) bX5_pass_0 rfl (by decide)
theorem dX5_pass_8 : decode cX5_pass 8 = .ok (.aload_n 0, 1) := dk42 (k := 8) bX5_pass_0 rfl
theorem dX5_pass_9 : decode cX5_pass 9 = .ok (.iconst 1, 1) := dk4 (k := 9) bX5_pass_0 rfl
theorem dX5_pass_10 : decode cX5_pass 10 = .ok (.invokevirtual 72, 3) := dk182 (k := 10) bX5_pass_0 rfl rfl
theorem dX5_pass_13 : decode cX5_pass 13 = .ok (.ireturn, 1) := dk172 (k := 13) bX5_pass_0 rfl
theorem dX5_pass_14 : decode cX5_pass 14 = .ok (.aload_n 0, 1) := dk42 (k := 14) bX5_pass_0 rfl
theorem dX5_pass_15 : decode cX5_pass 15 = .ok (.invokevirtual 40, 3) := dk182 (k := 15) bX5_pass_0 rfl rfl
theorem dX5_pass_18 : decode cX5_pass 18 = .ok (.iconst 1, 1) := dk4 (k := 18) bX5_pass_0 rfl
theorem dX5_pass_19 : decode cX5_pass 19 = .ok (.ireturn, 1) := dk172 (k := 19) bX5_pass_0 rfl
theorem bX5_isNumber_0 : bL cX5_isNumber 0 [42, 180, 0, 43, 6, 159, 0, 9, 42, 4, 182, 0, 72, 172, 42, 180, 0, 69, 27, 161, 0, 11, 42, 180, 0, 69] := bL_of (by decide +kernel)
theorem dX5_isNumber_0 : decode cX5_isNumber 0 = .ok (.aload_n 0, 1) := dk42 (k := 0) bX5_isNumber_0 rfl
theorem dX5_isNumber_1 : decode cX5_isNumber 1 = .ok (.getfield 43, 3) := dk180 (k := 1) bX5_isNumber_0 rfl rfl
theorem dX5_isNumber_4 : decode cX5_isNumber 4 = .ok (.iconst 3, 1) := dk6 (k := 4) bX5_isNumber_0 rfl
theorem dX5_isNumber_5 : decode cX5_isNumber 5 = .ok (.if_icmp .eq 9, 3) := dk159 (k := 5) bX5_isNumber_0 rfl (by decide)
theorem dX5_isNumber_8 : decode cX5_isNumber 8 = .ok (.aload_n 0, 1) := dk42 (k := 8) bX5_isNumber_0 rfl
theorem dX5_isNumber_9 : decode cX5_isNumber 9 = .ok (.iconst 1, 1) := dk4 (k := 9) bX5_isNumber_0 rfl
theorem dX5_isNumber_10 : decode cX5_isNumber 10 = .ok (.invokevirtual 72, 3) := dk182 (k := 10) bX5_isNumber_0 rfl rfl
theorem dX5_isNumber_13 : decode cX5_isNumber 13 = .ok (.ireturn, 1) := dk172 (k := 13) bX5_isNumber_0 rfl
theorem dX5_isNumber_14 : decode cX5_isNumber 14 = .ok (.aload_n 0, 1) := dk42 (k := 14) bX5_isNumber_0 rfl
theorem dX5_isNumber_15 : decode cX5_isNumber 15 = .ok (.getfield 69, 3) := dk180 (k := 15) bX5_isNumber_0 rfl rfl
theorem dX5_isNumber_18 : decode cX5_isNumber 18 = .ok (.iload_n 1, 1) := dk27 (k := 18) bX5_isNumber_0 rfl
theorem dX5_isNumber_19 : decode cX5_isNumber 19 = .ok (.if_icmp .lt 11, 3) := dk161 (k := 19) bX5_isNumber_0 rfl (by decide)
theorem dX5_isNumber_22 : decode cX5_isNumber 22 = .ok (.aload_n 0, 1) := dk42 (k := 22) bX5_isNumber_0 rfl
theorem dX5_isNumber_23 : decode cX5_isNumber 23 = .ok (.getfield 69, 3) := dk180 (k := 23) bX5_isNumber_0 rfl rfl
theorem bX5_isNumber_26 : bL cX5_isNumber 26 [28, 164, 0, 11, 42, 5, 182, 0, 72, 153, 0, 7, 4, 167, 0, 4, 3, 172] := bL_of (by decide +kernel)
theorem dX5_isNumber_26 : decode cX5_isNumber 26 = .ok (.iload_n 2, 1) := dk28 (k := 0) bX5_isNumber_26 rfl
theorem dX5_isNumber_27 : decode cX5_isNumber 27 = .ok (.if_icmp .le 11, 3) := dk164 (k := 1) bX5_isNumber_26 rfl (by decide)
theorem dX5_isNumber_30 : decode cX5_isNumber 30 = .ok (.aload_n 0, 1) := dk42 (k := 4) bX5_isNumber_26 rfl
theorem dX5_isNumber_31 : decode cX5_isNumber 31 = .ok (.iconst 2, 1) := dk5 (k := 5) bX5_isNumber_26 rfl
theorem dX5_isNumber_32 : decode cX5_isNumber 32 = .ok (.invokevirtual 72, 3) := dk182 (k := 6) bX5_isNumber_26 rfl rfl
theorem dX5_isNumber_35 : decode cX5_isNumber 35 = .ok (.ifCond .eq 7, 3) := dk153 (k := 9) bX5_isNumber_26 rfl (by decide)
theorem dX5_isNumber_38 : decode cX5_isNumber 38 = .ok (.iconst 1, 1) := dk4 (k := 12) bX5_isNumber_26 rfl
theorem dX5_isNumber_39 : decode cX5_isNumber 39 = .ok (.goto 4, 3) := dk167 (k := 13) bX5_isNumber_26 rfl (by decide)
theorem dX5_isNumber_42 : decode cX5_isNumber 42 = .ok (.iconst 0, 1) := dk3 (k := 16) bX5_isNumber_26 rfl
theorem dX5_isNumber_43 : decode cX5_isNumber 43 = .ok (.ireturn, 1) := dk172 (k := 17) bX5_isNumber_26 rfl
theorem bX5_passNumber_0 : bL cX5_passNumber 0 [42, 180, 0, 69, 60, 42, 182, 0, 40, 27, 172] := bL_of (by decide +kernel)
theorem dX5_passNumber_0 : decode cX5_passNumber 0 = .ok (.aload_n 0, 1) := dk42 (k := 0) bX5_passNumber_0 rfl
theorem dX5_passNumber_1 : decode cX5_passNumber 1 = .ok (.getfield 69, 3) := dk180 (k := 1) bX5_passNumber_0 rfl rfl
theorem dX5_passNumber_4 : decode cX5_passNumber 4 = .ok (.istore_n 1, 1) := dk60 (k := 4) bX5_passNumber_0 rfl
theorem dX5_passNumber_5 : decode cX5_passNumber 5 = .ok (.aload_n 0, 1) := dk42 (k := 5) bX5_passNumber_0 rfl
theorem dX5_passNumber_6 : decode cX5_passNumber 6 = .ok (.invokevirtual 40, 3) := dk182 (k := 6) bX5_passNumber_0 rfl rfl
theorem dX5_passNumber_9 : decode cX5_passNumber 9 = .ok (.iload_n 1, 1) := dk27 (k := 9) bX5_passNumber_0 rfl
theorem dX5_passNumber_10 : decode cX5_passNumber 10 = .ok (.ireturn, 1) := dk172 (k := 10) bX5_passNumber_0 rfl
theorem bX5_readLine_0 : bL cX5_readLine 0 [42, 180, 0, 12, 180, 0, 50, 154, 0, 11, 42, 182, 0, 76, 60, 167, 0, 24, 42, 180, 0, 43, 16, 8] := bL_of (by decide +kernel)
theorem dX5_readLine_0 : decode cX5_readLine 0 = .ok (.aload_n 0, 1) := dk42 (k := 0) bX5_readLine_0 rfl
theorem dX5_readLine_1 : decode cX5_readLine 1 = .ok (.getfield 12, 3) := dk180 (k := 1) bX5_readLine_0 rfl rfl
theorem dX5_readLine_4 : decode cX5_readLine 4 = .ok (.getfield 50, 3) := dk180 (k := 4) bX5_readLine_0 rfl rfl
theorem dX5_readLine_7 : decode cX5_readLine 7 = .ok (.ifCond .ne 11, 3) := dk154 (k := 7) bX5_readLine_0 rfl (by decide)
theorem dX5_readLine_10 : decode cX5_readLine 10 = .ok (.aload_n 0, 1) := dk42 (k := 10) bX5_readLine_0 rfl
theorem dX5_readLine_11 : decode cX5_readLine 11 = .ok (.invokevirtual 76, 3) := dk182 (k := 11) bX5_readLine_0 rfl rfl
theorem dX5_readLine_14 : decode cX5_readLine 14 = .ok (.istore_n 1, 1) := dk60 (k := 14) bX5_readLine_0 rfl
theorem dX5_readLine_15 : decode cX5_readLine 15 = .ok (.goto 24, 3) := dk167 (k := 15) bX5_readLine_0 rfl (by decide)
theorem dX5_readLine_18 : decode cX5_readLine 18 = .ok (.aload_n 0, 1) := dk42 (k := 18) bX5_readLine_0 rfl
theorem dX5_readLine_19 : decode cX5_readLine 19 = .ok (.getfield 43, 3) := dk180 (k := 19) bX5_readLine_0 rfl rfl
theorem dX5_readLine_22 : decode cX5_readLine 22 = .ok (.bipush 8, 2) := dk16 (k := 22) bX5_readLine_0 rfl (by decide)
theorem bX5_readLine_24 : bL cX5_readLine 24 [160, 0, 10, 42, 182, 0, 79, 167, 0, 7, 42, 182, 0, 82, 60, 27, 153, 0, 15, 42, 5, 182, 0, 85] := bL_of (by decide +kernel)
theorem dX5_readLine_24 : decode cX5_readLine 24 = .ok (.if_icmp .ne 10, 3) := dk160 (k := 0) bX5_readLine_24 rfl (by decide)
theorem dX5_readLine_27 : decode cX5_readLine 27 = .ok (.aload_n 0, 1) := dk42 (k := 3) bX5_readLine_24 rfl
theorem dX5_readLine_28 : decode cX5_readLine 28 = .ok (.invokevirtual 79, 3) := dk182 (k := 4) bX5_readLine_24 rfl rfl
theorem dX5_readLine_31 : decode cX5_readLine 31 = .ok (.goto 7, 3) := dk167 (k := 7) bX5_readLine_24 rfl (by decide)
theorem dX5_readLine_34 : decode cX5_readLine 34 = .ok (.aload_n 0, 1) := dk42 (k := 10) bX5_readLine_24 rfl
theorem dX5_readLine_35 : decode cX5_readLine 35 = .ok (.invokevirtual 82, 3) := dk182 (k := 11) bX5_readLine_24 rfl rfl
theorem dX5_readLine_38 : decode cX5_readLine 38 = .ok (.istore_n 1, 1) := dk60 (k := 14) bX5_readLine_24 rfl
theorem dX5_readLine_39 : decode cX5_readLine 39 = .ok (.iload_n 1, 1) := dk27 (k := 15) bX5_readLine_24 rfl
theorem dX5_readLine_40 : decode cX5_readLine 40 = .ok (.ifCond .eq 15, 3) := dk153 (k := 16) bX5_readLine_24 rfl (by decide)
theorem dX5_readLine_43 : decode cX5_readLine 43 = .ok (.aload_n 0, 1) := dk42 (k := 19) bX5_readLine_24 rfl
theorem dX5_readLine_44 : decode cX5_readLine 44 = .ok (.iconst 2, 1) := dk5 (k := 20) bX5_readLine_24 rfl
theorem dX5_readLine_45 : decode cX5_readLine 45 = .ok (.invokevirtual 85, 3) := dk182 (k := 21) bX5_readLine_24 rfl rfl
theorem bX5_readLine_48 : bL cX5_readLine 48 [153, 0, 7, 4, 167, 0, 4, 3, 172] := bL_of (by decide +kernel)
theorem dX5_readLine_48 : decode cX5_readLine 48 = .ok (.ifCond .eq 7, 3) := dk153 (k := 0) bX5_readLine_48 rfl (by decide)
theorem dX5_readLine_51 : decode cX5_readLine 51 = .ok (.iconst 1, 1) := dk4 (k := 3) bX5_readLine_48 rfl
theorem dX5_readLine_52 : decode cX5_readLine 52 = .ok (.goto 4, 3) := dk167 (k := 4) bX5_readLine_48 rfl (by decide)
theorem dX5_readLine_55 : decode cX5_readLine 55 = .ok (.iconst 0, 1) := dk3 (k := 7) bX5_readLine_48 rfl
theorem dX5_readLine_56 : decode cX5_readLine 56 = .ok (.ireturn, 1) := dk172 (k := 8) bX5_readLine_48 rfl
theorem bX5_readMountain_0 : bL cX5_readMountain 0 [42, 180, 0, 12, 180, 0, 88, 76, 42, 7, 182, 0, 85, 153, 0, 29, 42, 43, 182, 0, 92, 153, 0, 21] := bL_of (by decide +kernel)
theorem dX5_readMountain_0 : decode cX5_readMountain 0 = .ok (.aload_n 0, 1) := dk42 (k := 0) bX5_readMountain_0 rfl
theorem dX5_readMountain_1 : decode cX5_readMountain 1 = .ok (.getfield 12, 3) := dk180 (k := 1) bX5_readMountain_0 rfl rfl
theorem dX5_readMountain_4 : decode cX5_readMountain 4 = .ok (.getfield 88, 3) := dk180 (k := 4) bX5_readMountain_0 rfl rfl
theorem dX5_readMountain_7 : decode cX5_readMountain 7 = .ok (.astore_n 1, 1) := dk76 (k := 7) bX5_readMountain_0 rfl
theorem dX5_readMountain_8 : decode cX5_readMountain 8 = .ok (.aload_n 0, 1) := dk42 (k := 8) bX5_readMountain_0 rfl
theorem dX5_readMountain_9 : decode cX5_readMountain 9 = .ok (.iconst 4, 1) := dk7 (k := 9) bX5_readMountain_0 rfl
theorem dX5_readMountain_10 : decode cX5_readMountain 10 = .ok (.invokevirtual 85, 3) := dk182 (k := 10) bX5_readMountain_0 rfl rfl
theorem dX5_readMountain_13 : decode cX5_readMountain 13 = .ok (.ifCond .eq 29, 3) := dk153 (k := 13) bX5_readMountain_0 rfl (by decide)
theorem dX5_readMountain_16 : decode cX5_readMountain 16 = .ok (.aload_n 0, 1) := dk42 (k := 16) bX5_readMountain_0 rfl
theorem dX5_readMountain_17 : decode cX5_readMountain 17 = .ok (.aload_n 1, 1) := dk43 (k := 17) bX5_readMountain_0 rfl
theorem dX5_readMountain_18 : decode cX5_readMountain 18 = .ok (.invokevirtual 92, 3) := dk182 (k := 18) bX5_readMountain_0 rfl rfl
theorem dX5_readMountain_21 : decode cX5_readMountain 21 = .ok (.ifCond .eq 21, 3) := dk153 (k := 21) bX5_readMountain_0 rfl (by decide)
theorem bX5_readMountain_24 : bL cX5_readMountain 24 [42, 8, 182, 0, 85, 153, 0, 13, 42, 3, 16, 40, 182, 0, 96, 154, 0, 5, 3, 172, 43, 42, 182, 0, 100] := bL_of (by decide +kernel)
theorem dX5_readMountain_24 : decode cX5_readMountain 24 = .ok (.aload_n 0, 1) := dk42 (k := 0) bX5_readMountain_24 rfl
theorem dX5_readMountain_25 : decode cX5_readMountain 25 = .ok (.iconst 5, 1) := dk8 (k := 1) bX5_readMountain_24 rfl
theorem dX5_readMountain_26 : decode cX5_readMountain 26 = .ok (.invokevirtual 85, 3) := dk182 (k := 2) bX5_readMountain_24 rfl rfl
theorem dX5_readMountain_29 : decode cX5_readMountain 29 = .ok (.ifCond .eq 13, 3) := dk153 (k := 5) bX5_readMountain_24 rfl (by decide)
theorem dX5_readMountain_32 : decode cX5_readMountain 32 = .ok (.aload_n 0, 1) := dk42 (k := 8) bX5_readMountain_24 rfl
theorem dX5_readMountain_33 : decode cX5_readMountain 33 = .ok (.iconst 0, 1) := dk3 (k := 9) bX5_readMountain_24 rfl
theorem dX5_readMountain_34 : decode cX5_readMountain 34 = .ok (.bipush 40, 2) := dk16 (k := 10) bX5_readMountain_24 rfl (by decide)
theorem dX5_readMountain_36 : decode cX5_readMountain 36 = .ok (.invokevirtual 96, 3) := dk182 (k := 12) bX5_readMountain_24 rfl rfl
theorem dX5_readMountain_39 : decode cX5_readMountain 39 = .ok (.ifCond .ne 5, 3) := dk154 (k := 15) bX5_readMountain_24 rfl (by decide)
theorem dX5_readMountain_42 : decode cX5_readMountain 42 = .ok (.iconst 0, 1) := dk3 (k := 18) bX5_readMountain_24 rfl
theorem dX5_readMountain_43 : decode cX5_readMountain 43 = .ok (.ireturn, 1) := dk172 (k := 19) bX5_readMountain_24 rfl
theorem dX5_readMountain_44 : decode cX5_readMountain 44 = .ok (.aload_n 1, 1) := dk43 (k := 20) bX5_readMountain_24 rfl
theorem dX5_readMountain_45 : decode cX5_readMountain 45 = .ok (.aload_n 0, 1) := dk42 (k := 21) bX5_readMountain_24 rfl
theorem dX5_readMountain_46 : decode cX5_readMountain 46 = .ok (.invokevirtual 100, 3) := dk182 (k := 22) bX5_readMountain_24 rfl rfl
theorem bX5_readMountain_49 : bL cX5_readMountain 49 [181, 0, 104, 42, 16, 6, 182, 0, 85, 153, 0, 13, 42, 4, 16, 40, 182, 0, 96, 154, 0, 5, 3, 172] := bL_of (by decide +kernel)
theorem dX5_readMountain_49 : decode cX5_readMountain 49 = .ok (.putfield 104, 3) := dk181 (k := 0) bX5_readMountain_49 rfl rfl
theorem dX5_readMountain_52 : decode cX5_readMountain 52 = .ok (.aload_n 0, 1) := dk42 (k := 3) bX5_readMountain_49 rfl
theorem dX5_readMountain_53 : decode cX5_readMountain 53 = .ok (.bipush 6, 2) := dk16 (k := 4) bX5_readMountain_49 rfl (by decide)
theorem dX5_readMountain_55 : decode cX5_readMountain 55 = .ok (.invokevirtual 85, 3) := dk182 (k := 6) bX5_readMountain_49 rfl rfl
theorem dX5_readMountain_58 : decode cX5_readMountain 58 = .ok (.ifCond .eq 13, 3) := dk153 (k := 9) bX5_readMountain_49 rfl (by decide)
theorem dX5_readMountain_61 : decode cX5_readMountain 61 = .ok (.aload_n 0, 1) := dk42 (k := 12) bX5_readMountain_49 rfl
theorem dX5_readMountain_62 : decode cX5_readMountain 62 = .ok (.iconst 1, 1) := dk4 (k := 13) bX5_readMountain_49 rfl
theorem dX5_readMountain_63 : decode cX5_readMountain 63 = .ok (.bipush 40, 2) := dk16 (k := 14) bX5_readMountain_49 rfl (by decide)
theorem dX5_readMountain_65 : decode cX5_readMountain 65 = .ok (.invokevirtual 96, 3) := dk182 (k := 16) bX5_readMountain_49 rfl rfl
theorem dX5_readMountain_68 : decode cX5_readMountain 68 = .ok (.ifCond .ne 5, 3) := dk154 (k := 19) bX5_readMountain_49 rfl (by decide)
theorem dX5_readMountain_71 : decode cX5_readMountain 71 = .ok (.iconst 0, 1) := dk3 (k := 22) bX5_readMountain_49 rfl
theorem dX5_readMountain_72 : decode cX5_readMountain 72 = .ok (.ireturn, 1) := dk172 (k := 23) bX5_readMountain_49 rfl
theorem bX5_readMountain_73 : bL cX5_readMountain 73 [43, 42, 182, 0, 100, 181, 0, 109, 42, 16, 7, 182, 0, 85, 153, 0, 14, 42, 4, 17, 3, 231, 182, 0, 96] := bL_of (by decide +kernel)
theorem dX5_readMountain_73 : decode cX5_readMountain 73 = .ok (.aload_n 1, 1) := dk43 (k := 0) bX5_readMountain_73 rfl
theorem dX5_readMountain_74 : decode cX5_readMountain 74 = .ok (.aload_n 0, 1) := dk42 (k := 1) bX5_readMountain_73 rfl
theorem dX5_readMountain_75 : decode cX5_readMountain 75 = .ok (.invokevirtual 100, 3) := dk182 (k := 2) bX5_readMountain_73 rfl rfl
theorem dX5_readMountain_78 : decode cX5_readMountain 78 = .ok (.putfield 109, 3) := dk181 (k := 5) bX5_readMountain_73 rfl rfl
theorem dX5_readMountain_81 : decode cX5_readMountain 81 = .ok (.aload_n 0, 1) := dk42 (k := 8) bX5_readMountain_73 rfl
theorem dX5_readMountain_82 : decode cX5_readMountain 82 = .ok (.bipush 7, 2) := dk16 (k := 9) bX5_readMountain_73 rfl (by decide)
theorem dX5_readMountain_84 : decode cX5_readMountain 84 = .ok (.invokevirtual 85, 3) := dk182 (k := 11) bX5_readMountain_73 rfl rfl
theorem dX5_readMountain_87 : decode cX5_readMountain 87 = .ok (.ifCond .eq 14, 3) := dk153 (k := 14) bX5_readMountain_73 rfl (by decide)
theorem dX5_readMountain_90 : decode cX5_readMountain 90 = .ok (.aload_n 0, 1) := dk42 (k := 17) bX5_readMountain_73 rfl
theorem dX5_readMountain_91 : decode cX5_readMountain 91 = .ok (.iconst 1, 1) := dk4 (k := 18) bX5_readMountain_73 rfl
theorem dX5_readMountain_92 : decode cX5_readMountain 92 = .ok (.sipush 999, 3) := dk17 (k := 19) bX5_readMountain_73 rfl (by decide)
theorem dX5_readMountain_95 : decode cX5_readMountain 95 = .ok (.invokevirtual 96, 3) := dk182 (k := 22) bX5_readMountain_73 rfl rfl
theorem bX5_readMountain_98 : bL cX5_readMountain 98 [154, 0, 5, 3, 172, 42, 180, 0, 12, 42, 182, 0, 100, 181, 0, 112, 43, 42, 180, 0, 43, 16, 16, 160, 0, 7] := bL_of (by decide +kernel)
theorem dX5_readMountain_98 : decode cX5_readMountain 98 = .ok (.ifCond .ne 5, 3) := dk154 (k := 0) bX5_readMountain_98 rfl (by decide)
theorem dX5_readMountain_101 : decode cX5_readMountain 101 = .ok (.iconst 0, 1) := dk3 (k := 3) bX5_readMountain_98 rfl
theorem dX5_readMountain_102 : decode cX5_readMountain 102 = .ok (.ireturn, 1) := dk172 (k := 4) bX5_readMountain_98 rfl
theorem dX5_readMountain_103 : decode cX5_readMountain 103 = .ok (.aload_n 0, 1) := dk42 (k := 5) bX5_readMountain_98 rfl
theorem dX5_readMountain_104 : decode cX5_readMountain 104 = .ok (.getfield 12, 3) := dk180 (k := 6) bX5_readMountain_98 rfl rfl
theorem dX5_readMountain_107 : decode cX5_readMountain 107 = .ok (.aload_n 0, 1) := dk42 (k := 9) bX5_readMountain_98 rfl
theorem dX5_readMountain_108 : decode cX5_readMountain 108 = .ok (.invokevirtual 100, 3) := dk182 (k := 10) bX5_readMountain_98 rfl rfl
theorem dX5_readMountain_111 : decode cX5_readMountain 111 = .ok (.putfield 112, 3) := dk181 (k := 13) bX5_readMountain_98 rfl rfl
theorem dX5_readMountain_114 : decode cX5_readMountain 114 = .ok (.aload_n 1, 1) := dk43 (k := 16) bX5_readMountain_98 rfl
theorem dX5_readMountain_115 : decode cX5_readMountain 115 = .ok (.aload_n 0, 1) := dk42 (k := 17) bX5_readMountain_98 rfl
theorem dX5_readMountain_116 : decode cX5_readMountain 116 = .ok (.getfield 43, 3) := dk180 (k := 18) bX5_readMountain_98 rfl rfl
theorem dX5_readMountain_119 : decode cX5_readMountain 119 = .ok (.bipush 16, 2) := dk16 (k := 21) bX5_readMountain_98 rfl (by decide)
theorem dX5_readMountain_121 : decode cX5_readMountain 121 = .ok (.if_icmp .ne 7, 3) := dk160 (k := 23) bX5_readMountain_98 rfl (by decide)
theorem bX5_readMountain_124 : bL cX5_readMountain 124 [4, 167, 0, 4, 3, 181, 0, 115, 42, 43, 180, 0, 115, 153, 0, 8, 16, 16, 167, 0, 5, 16, 15, 182, 0, 85] := bL_of (by decide +kernel)
theorem dX5_readMountain_124 : decode cX5_readMountain 124 = .ok (.iconst 1, 1) := dk4 (k := 0) bX5_readMountain_124 rfl
theorem dX5_readMountain_125 : decode cX5_readMountain 125 = .ok (.goto 4, 3) := dk167 (k := 1) bX5_readMountain_124 rfl (by decide)
theorem dX5_readMountain_128 : decode cX5_readMountain 128 = .ok (.iconst 0, 1) := dk3 (k := 4) bX5_readMountain_124 rfl
theorem dX5_readMountain_129 : decode cX5_readMountain 129 = .ok (.putfield 115, 3) := dk181 (k := 5) bX5_readMountain_124 rfl rfl
theorem dX5_readMountain_132 : decode cX5_readMountain 132 = .ok (.aload_n 0, 1) := dk42 (k := 8) bX5_readMountain_124 rfl
theorem dX5_readMountain_133 : decode cX5_readMountain 133 = .ok (.aload_n 1, 1) := dk43 (k := 9) bX5_readMountain_124 rfl
theorem dX5_readMountain_134 : decode cX5_readMountain 134 = .ok (.getfield 115, 3) := dk180 (k := 10) bX5_readMountain_124 rfl rfl
theorem dX5_readMountain_137 : decode cX5_readMountain 137 = .ok (.ifCond .eq 8, 3) := dk153 (k := 13) bX5_readMountain_124 rfl (by decide)
theorem dX5_readMountain_140 : decode cX5_readMountain 140 = .ok (.bipush 16, 2) := dk16 (k := 16) bX5_readMountain_124 rfl (by decide)
theorem dX5_readMountain_142 : decode cX5_readMountain 142 = .ok (.goto 5, 3) := dk167 (k := 18) bX5_readMountain_124 rfl (by decide)
theorem dX5_readMountain_145 : decode cX5_readMountain 145 = .ok (.bipush 15, 2) := dk16 (k := 21) bX5_readMountain_124 rfl (by decide)
theorem dX5_readMountain_147 : decode cX5_readMountain 147 = .ok (.invokevirtual 85, 3) := dk182 (k := 23) bX5_readMountain_124 rfl rfl
theorem bX5_readMountain_150 : bL cX5_readMountain 150 [172] := bL_of (by decide +kernel)
theorem dX5_readMountain_150 : decode cX5_readMountain 150 = .ok (.ireturn, 1) := dk172 (k := 0) bX5_readMountain_150 rfl
theorem bX5_readHeights_0 : bL cX5_readHeights 0 [3, 61, 28, 16, 10, 163, 0, 49, 42, 180, 0, 43, 6, 160, 0, 41, 42, 3, 16, 40, 182, 0, 96, 154, 0, 5] := bL_of (by decide +kernel)
theorem dX5_readHeights_0 : decode cX5_readHeights 0 = .ok (.iconst 0, 1) := dk3 (k := 0) bX5_readHeights_0 rfl
theorem dX5_readHeights_1 : decode cX5_readHeights 1 = .ok (.istore_n 2, 1) := dk61 (k := 1) bX5_readHeights_0 rfl
theorem dX5_readHeights_2 : decode cX5_readHeights 2 = .ok (.iload_n 2, 1) := dk28 (k := 2) bX5_readHeights_0 rfl
theorem dX5_readHeights_3 : decode cX5_readHeights 3 = .ok (.bipush 10, 2) := dk16 (k := 3) bX5_readHeights_0 rfl (by decide)
theorem dX5_readHeights_5 : decode cX5_readHeights 5 = .ok (.if_icmp .gt 49, 3) := dk163 (k := 5) bX5_readHeights_0 rfl (by decide)
theorem dX5_readHeights_8 : decode cX5_readHeights 8 = .ok (.aload_n 0, 1) := dk42 (k := 8) bX5_readHeights_0 rfl
theorem dX5_readHeights_9 : decode cX5_readHeights 9 = .ok (.getfield 43, 3) := dk180 (k := 9) bX5_readHeights_0 rfl rfl
theorem dX5_readHeights_12 : decode cX5_readHeights 12 = .ok (.iconst 3, 1) := dk6 (k := 12) bX5_readHeights_0 rfl
theorem dX5_readHeights_13 : decode cX5_readHeights 13 = .ok (.if_icmp .ne 41, 3) := dk160 (k := 13) bX5_readHeights_0 rfl (by decide)
theorem dX5_readHeights_16 : decode cX5_readHeights 16 = .ok (.aload_n 0, 1) := dk42 (k := 16) bX5_readHeights_0 rfl
theorem dX5_readHeights_17 : decode cX5_readHeights 17 = .ok (.iconst 0, 1) := dk3 (k := 17) bX5_readHeights_0 rfl
theorem dX5_readHeights_18 : decode cX5_readHeights 18 = .ok (.bipush 40, 2) := dk16 (k := 18) bX5_readHeights_0 rfl (by decide)
theorem dX5_readHeights_20 : decode cX5_readHeights 20 = .ok (.invokevirtual 96, 3) := dk182 (k := 20) bX5_readHeights_0 rfl rfl
theorem dX5_readHeights_23 : decode cX5_readHeights 23 = .ok (.ifCond .ne 5, 3) := dk154 (k := 23) bX5_readHeights_0 rfl (by decide)
theorem bX5_readHeights_26 : bL cX5_readHeights 26 [3, 172, 28, 16, 10, 160, 0, 9, 42, 6, 182, 0, 72, 172, 43, 42, 182, 0, 100, 182, 0, 119, 132, 2, 1] := bL_of (by decide +kernel)
theorem dX5_readHeights_26 : decode cX5_readHeights 26 = .ok (.iconst 0, 1) := dk3 (k := 0) bX5_readHeights_26 rfl
theorem dX5_readHeights_27 : decode cX5_readHeights 27 = .ok (.ireturn, 1) := dk172 (k := 1) bX5_readHeights_26 rfl
theorem dX5_readHeights_28 : decode cX5_readHeights 28 = .ok (.iload_n 2, 1) := dk28 (k := 2) bX5_readHeights_26 rfl
theorem dX5_readHeights_29 : decode cX5_readHeights 29 = .ok (.bipush 10, 2) := dk16 (k := 3) bX5_readHeights_26 rfl (by decide)
theorem dX5_readHeights_31 : decode cX5_readHeights 31 = .ok (.if_icmp .ne 9, 3) := dk160 (k := 5) bX5_readHeights_26 rfl (by decide)
theorem dX5_readHeights_34 : decode cX5_readHeights 34 = .ok (.aload_n 0, 1) := dk42 (k := 8) bX5_readHeights_26 rfl
theorem dX5_readHeights_35 : decode cX5_readHeights 35 = .ok (.iconst 3, 1) := dk6 (k := 9) bX5_readHeights_26 rfl
theorem dX5_readHeights_36 : decode cX5_readHeights 36 = .ok (.invokevirtual 72, 3) := dk182 (k := 10) bX5_readHeights_26 rfl rfl
theorem dX5_readHeights_39 : decode cX5_readHeights 39 = .ok (.ireturn, 1) := dk172 (k := 13) bX5_readHeights_26 rfl
theorem dX5_readHeights_40 : decode cX5_readHeights 40 = .ok (.aload_n 1, 1) := dk43 (k := 14) bX5_readHeights_26 rfl
theorem dX5_readHeights_41 : decode cX5_readHeights 41 = .ok (.aload_n 0, 1) := dk42 (k := 15) bX5_readHeights_26 rfl
theorem dX5_readHeights_42 : decode cX5_readHeights 42 = .ok (.invokevirtual 100, 3) := dk182 (k := 16) bX5_readHeights_26 rfl rfl
theorem dX5_readHeights_45 : decode cX5_readHeights 45 = .ok (.invokevirtual 119, 3) := dk182 (k := 19) bX5_readHeights_26 rfl rfl
theorem dX5_readHeights_48 : decode cX5_readHeights 48 = .ok (.iinc 2 1, 3) := dk132 (k := 22) bX5_readHeights_26 rfl rfl (by decide)
theorem bX5_readHeights_51 : bL cX5_readHeights 51 [167, 255, 207, 43, 180, 0, 123, 6, 162, 0, 11, 42, 4, 182, 0, 72, 153, 0, 7, 4, 167, 0, 4, 3] := bL_of (by decide +kernel)
theorem dX5_readHeights_51 : decode cX5_readHeights 51 = .ok (.goto (-49), 3) := dk167 (k := 0) bX5_readHeights_51 rfl (by decide)
theorem dX5_readHeights_54 : decode cX5_readHeights 54 = .ok (.aload_n 1, 1) := dk43 (k := 3) bX5_readHeights_51 rfl
theorem dX5_readHeights_55 : decode cX5_readHeights 55 = .ok (.getfield 123, 3) := dk180 (k := 4) bX5_readHeights_51 rfl rfl
theorem dX5_readHeights_58 : decode cX5_readHeights 58 = .ok (.iconst 3, 1) := dk6 (k := 7) bX5_readHeights_51 rfl
theorem dX5_readHeights_59 : decode cX5_readHeights 59 = .ok (.if_icmp .ge 11, 3) := dk162 (k := 8) bX5_readHeights_51 rfl (by decide)
theorem dX5_readHeights_62 : decode cX5_readHeights 62 = .ok (.aload_n 0, 1) := dk42 (k := 11) bX5_readHeights_51 rfl
theorem dX5_readHeights_63 : decode cX5_readHeights 63 = .ok (.iconst 1, 1) := dk4 (k := 12) bX5_readHeights_51 rfl
theorem dX5_readHeights_64 : decode cX5_readHeights 64 = .ok (.invokevirtual 72, 3) := dk182 (k := 13) bX5_readHeights_51 rfl rfl
theorem dX5_readHeights_67 : decode cX5_readHeights 67 = .ok (.ifCond .eq 7, 3) := dk153 (k := 16) bX5_readHeights_51 rfl (by decide)
theorem dX5_readHeights_70 : decode cX5_readHeights 70 = .ok (.iconst 1, 1) := dk4 (k := 19) bX5_readHeights_51 rfl
theorem dX5_readHeights_71 : decode cX5_readHeights 71 = .ok (.goto 4, 3) := dk167 (k := 20) bX5_readHeights_51 rfl (by decide)
theorem dX5_readHeights_74 : decode cX5_readHeights 74 = .ok (.iconst 0, 1) := dk3 (k := 23) bX5_readHeights_51 rfl
theorem bX5_readHeights_75 : bL cX5_readHeights 75 [172] := bL_of (by decide +kernel)
theorem dX5_readHeights_75 : decode cX5_readHeights 75 = .ok (.ireturn, 1) := dk172 (k := 0) bX5_readHeights_75 rfl
theorem bX5_readFolk_0 : bL cX5_readFolk 0 [42, 180, 0, 12, 180, 0, 126, 180, 0, 130, 60, 27, 16, 8, 161, 0, 9, 42, 6, 182, 0, 72, 172, 42] := bL_of (by decide +kernel)
theorem dX5_readFolk_0 : decode cX5_readFolk 0 = .ok (.aload_n 0, 1) := dk42 (k := 0) bX5_readFolk_0 rfl
theorem dX5_readFolk_1 : decode cX5_readFolk 1 = .ok (.getfield 12, 3) := dk180 (k := 1) bX5_readFolk_0 rfl rfl
theorem dX5_readFolk_4 : decode cX5_readFolk 4 = .ok (.getfield 126, 3) := dk180 (k := 4) bX5_readFolk_0 rfl rfl
theorem dX5_readFolk_7 : decode cX5_readFolk 7 = .ok (.getfield 130, 3) := dk180 (k := 7) bX5_readFolk_0 rfl rfl
theorem dX5_readFolk_10 : decode cX5_readFolk 10 = .ok (.istore_n 1, 1) := dk60 (k := 10) bX5_readFolk_0 rfl
theorem dX5_readFolk_11 : decode cX5_readFolk 11 = .ok (.iload_n 1, 1) := dk27 (k := 11) bX5_readFolk_0 rfl
theorem dX5_readFolk_12 : decode cX5_readFolk 12 = .ok (.bipush 8, 2) := dk16 (k := 12) bX5_readFolk_0 rfl (by decide)
theorem dX5_readFolk_14 : decode cX5_readFolk 14 = .ok (.if_icmp .lt 9, 3) := dk161 (k := 14) bX5_readFolk_0 rfl (by decide)
theorem dX5_readFolk_17 : decode cX5_readFolk 17 = .ok (.aload_n 0, 1) := dk42 (k := 17) bX5_readFolk_0 rfl
theorem dX5_readFolk_18 : decode cX5_readFolk 18 = .ok (.iconst 3, 1) := dk6 (k := 18) bX5_readFolk_0 rfl
theorem dX5_readFolk_19 : decode cX5_readFolk 19 = .ok (.invokevirtual 72, 3) := dk182 (k := 19) bX5_readFolk_0 rfl rfl
theorem dX5_readFolk_22 : decode cX5_readFolk 22 = .ok (.ireturn, 1) := dk172 (k := 22) bX5_readFolk_0 rfl
theorem dX5_readFolk_23 : decode cX5_readFolk 23 = .ok (.aload_n 0, 1) := dk42 (k := 23) bX5_readFolk_0 rfl
theorem bX5_readFolk_24 : bL cX5_readFolk 24 [180, 0, 12, 180, 0, 126, 89, 180, 0, 130, 4, 96, 181, 0, 130, 42, 16, 8, 182, 0, 85, 153, 0, 103] := bL_of (by decide +kernel)
theorem dX5_readFolk_24 : decode cX5_readFolk 24 = .ok (.getfield 12, 3) := dk180 (k := 0) bX5_readFolk_24 rfl rfl
theorem dX5_readFolk_27 : decode cX5_readFolk 27 = .ok (.getfield 126, 3) := dk180 (k := 3) bX5_readFolk_24 rfl rfl
theorem dX5_readFolk_30 : decode cX5_readFolk 30 = .ok (.dup, 1) := dk89 (k := 6) bX5_readFolk_24 rfl
theorem dX5_readFolk_31 : decode cX5_readFolk 31 = .ok (.getfield 130, 3) := dk180 (k := 7) bX5_readFolk_24 rfl rfl
theorem dX5_readFolk_34 : decode cX5_readFolk 34 = .ok (.iconst 1, 1) := dk4 (k := 10) bX5_readFolk_24 rfl
theorem dX5_readFolk_35 : decode cX5_readFolk 35 = .ok (.iadd, 1) := dk96 (k := 11) bX5_readFolk_24 rfl
theorem dX5_readFolk_36 : decode cX5_readFolk 36 = .ok (.putfield 130, 3) := dk181 (k := 12) bX5_readFolk_24 rfl rfl
theorem dX5_readFolk_39 : decode cX5_readFolk 39 = .ok (.aload_n 0, 1) := dk42 (k := 15) bX5_readFolk_24 rfl
theorem dX5_readFolk_40 : decode cX5_readFolk 40 = .ok (.bipush 8, 2) := dk16 (k := 16) bX5_readFolk_24 rfl (by decide)
theorem dX5_readFolk_42 : decode cX5_readFolk 42 = .ok (.invokevirtual 85, 3) := dk182 (k := 18) bX5_readFolk_24 rfl rfl
theorem dX5_readFolk_45 : decode cX5_readFolk 45 = .ok (.ifCond .eq 103, 3) := dk153 (k := 21) bX5_readFolk_24 rfl (by decide)
theorem bX5_readFolk_48 : bL cX5_readFolk 48 [42, 27, 16, 9, 3, 3, 42, 180, 0, 12, 180, 0, 88, 180, 0, 123, 4, 100, 182, 0, 135, 153, 0, 79] := bL_of (by decide +kernel)
theorem dX5_readFolk_48 : decode cX5_readFolk 48 = .ok (.aload_n 0, 1) := dk42 (k := 0) bX5_readFolk_48 rfl
theorem dX5_readFolk_49 : decode cX5_readFolk 49 = .ok (.iload_n 1, 1) := dk27 (k := 1) bX5_readFolk_48 rfl
theorem dX5_readFolk_50 : decode cX5_readFolk 50 = .ok (.bipush 9, 2) := dk16 (k := 2) bX5_readFolk_48 rfl (by decide)
theorem dX5_readFolk_52 : decode cX5_readFolk 52 = .ok (.iconst 0, 1) := dk3 (k := 4) bX5_readFolk_48 rfl
theorem dX5_readFolk_53 : decode cX5_readFolk 53 = .ok (.iconst 0, 1) := dk3 (k := 5) bX5_readFolk_48 rfl
theorem dX5_readFolk_54 : decode cX5_readFolk 54 = .ok (.aload_n 0, 1) := dk42 (k := 6) bX5_readFolk_48 rfl
theorem dX5_readFolk_55 : decode cX5_readFolk 55 = .ok (.getfield 12, 3) := dk180 (k := 7) bX5_readFolk_48 rfl rfl
theorem dX5_readFolk_58 : decode cX5_readFolk 58 = .ok (.getfield 88, 3) := dk180 (k := 10) bX5_readFolk_48 rfl rfl
theorem dX5_readFolk_61 : decode cX5_readFolk 61 = .ok (.getfield 123, 3) := dk180 (k := 13) bX5_readFolk_48 rfl rfl
theorem dX5_readFolk_64 : decode cX5_readFolk 64 = .ok (.iconst 1, 1) := dk4 (k := 16) bX5_readFolk_48 rfl
theorem dX5_readFolk_65 : decode cX5_readFolk 65 = .ok (.isub, 1) := dk100 (k := 17) bX5_readFolk_48 rfl
theorem dX5_readFolk_66 : decode cX5_readFolk 66 = .ok (.invokevirtual 135, 3) := dk182 (k := 18) bX5_readFolk_48 rfl rfl
theorem dX5_readFolk_69 : decode cX5_readFolk 69 = .ok (.ifCond .eq 79, 3) := dk153 (k := 21) bX5_readFolk_48 rfl (by decide)
theorem bX5_readFolk_72 : bL cX5_readFolk 72 [42, 27, 16, 7, 4, 4, 16, 99, 182, 0, 135, 153, 0, 65, 42, 27, 16, 10, 5, 3, 16, 9, 182, 0, 135] := bL_of (by decide +kernel)
theorem dX5_readFolk_72 : decode cX5_readFolk 72 = .ok (.aload_n 0, 1) := dk42 (k := 0) bX5_readFolk_72 rfl
theorem dX5_readFolk_73 : decode cX5_readFolk 73 = .ok (.iload_n 1, 1) := dk27 (k := 1) bX5_readFolk_72 rfl
theorem dX5_readFolk_74 : decode cX5_readFolk 74 = .ok (.bipush 7, 2) := dk16 (k := 2) bX5_readFolk_72 rfl (by decide)
theorem dX5_readFolk_76 : decode cX5_readFolk 76 = .ok (.iconst 1, 1) := dk4 (k := 4) bX5_readFolk_72 rfl
theorem dX5_readFolk_77 : decode cX5_readFolk 77 = .ok (.iconst 1, 1) := dk4 (k := 5) bX5_readFolk_72 rfl
theorem dX5_readFolk_78 : decode cX5_readFolk 78 = .ok (.bipush 99, 2) := dk16 (k := 6) bX5_readFolk_72 rfl (by decide)
theorem dX5_readFolk_80 : decode cX5_readFolk 80 = .ok (.invokevirtual 135, 3) := dk182 (k := 8) bX5_readFolk_72 rfl rfl
theorem dX5_readFolk_83 : decode cX5_readFolk 83 = .ok (.ifCond .eq 65, 3) := dk153 (k := 11) bX5_readFolk_72 rfl (by decide)
theorem dX5_readFolk_86 : decode cX5_readFolk 86 = .ok (.aload_n 0, 1) := dk42 (k := 14) bX5_readFolk_72 rfl
theorem dX5_readFolk_87 : decode cX5_readFolk 87 = .ok (.iload_n 1, 1) := dk27 (k := 15) bX5_readFolk_72 rfl
theorem dX5_readFolk_88 : decode cX5_readFolk 88 = .ok (.bipush 10, 2) := dk16 (k := 16) bX5_readFolk_72 rfl (by decide)
theorem dX5_readFolk_90 : decode cX5_readFolk 90 = .ok (.iconst 2, 1) := dk5 (k := 18) bX5_readFolk_72 rfl
theorem dX5_readFolk_91 : decode cX5_readFolk 91 = .ok (.iconst 0, 1) := dk3 (k := 19) bX5_readFolk_72 rfl
theorem dX5_readFolk_92 : decode cX5_readFolk 92 = .ok (.bipush 9, 2) := dk16 (k := 20) bX5_readFolk_72 rfl (by decide)
theorem dX5_readFolk_94 : decode cX5_readFolk 94 = .ok (.invokevirtual 135, 3) := dk182 (k := 22) bX5_readFolk_72 rfl rfl
theorem bX5_readFolk_97 : bL cX5_readFolk 97 [153, 0, 51, 42, 27, 8, 6, 3, 16, 9, 182, 0, 135, 153, 0, 38, 42, 27, 16, 11, 7, 3, 16, 9] := bL_of (by decide +kernel)
theorem dX5_readFolk_97 : decode cX5_readFolk 97 = .ok (.ifCond .eq 51, 3) := dk153 (k := 0) bX5_readFolk_97 rfl (by decide)
theorem dX5_readFolk_100 : decode cX5_readFolk 100 = .ok (.aload_n 0, 1) := dk42 (k := 3) bX5_readFolk_97 rfl
theorem dX5_readFolk_101 : decode cX5_readFolk 101 = .ok (.iload_n 1, 1) := dk27 (k := 4) bX5_readFolk_97 rfl
theorem dX5_readFolk_102 : decode cX5_readFolk 102 = .ok (.iconst 5, 1) := dk8 (k := 5) bX5_readFolk_97 rfl
theorem dX5_readFolk_103 : decode cX5_readFolk 103 = .ok (.iconst 3, 1) := dk6 (k := 6) bX5_readFolk_97 rfl
theorem dX5_readFolk_104 : decode cX5_readFolk 104 = .ok (.iconst 0, 1) := dk3 (k := 7) bX5_readFolk_97 rfl
theorem dX5_readFolk_105 : decode cX5_readFolk 105 = .ok (.bipush 9, 2) := dk16 (k := 8) bX5_readFolk_97 rfl (by decide)
theorem dX5_readFolk_107 : decode cX5_readFolk 107 = .ok (.invokevirtual 135, 3) := dk182 (k := 10) bX5_readFolk_97 rfl rfl
theorem dX5_readFolk_110 : decode cX5_readFolk 110 = .ok (.ifCond .eq 38, 3) := dk153 (k := 13) bX5_readFolk_97 rfl (by decide)
theorem dX5_readFolk_113 : decode cX5_readFolk 113 = .ok (.aload_n 0, 1) := dk42 (k := 16) bX5_readFolk_97 rfl
theorem dX5_readFolk_114 : decode cX5_readFolk 114 = .ok (.iload_n 1, 1) := dk27 (k := 17) bX5_readFolk_97 rfl
theorem dX5_readFolk_115 : decode cX5_readFolk 115 = .ok (.bipush 11, 2) := dk16 (k := 18) bX5_readFolk_97 rfl (by decide)
theorem dX5_readFolk_117 : decode cX5_readFolk 117 = .ok (.iconst 4, 1) := dk7 (k := 20) bX5_readFolk_97 rfl
theorem dX5_readFolk_118 : decode cX5_readFolk 118 = .ok (.iconst 0, 1) := dk3 (k := 21) bX5_readFolk_97 rfl
theorem dX5_readFolk_119 : decode cX5_readFolk 119 = .ok (.bipush 9, 2) := dk16 (k := 22) bX5_readFolk_97 rfl (by decide)
theorem bX5_readFolk_121 : bL cX5_readFolk 121 [182, 0, 135, 153, 0, 24, 42, 180, 0, 43, 16, 12, 160, 0, 11, 42, 27, 182, 0, 139, 153, 0, 7, 4] := bL_of (by decide +kernel)
theorem dX5_readFolk_121 : decode cX5_readFolk 121 = .ok (.invokevirtual 135, 3) := dk182 (k := 0) bX5_readFolk_121 rfl rfl
theorem dX5_readFolk_124 : decode cX5_readFolk 124 = .ok (.ifCond .eq 24, 3) := dk153 (k := 3) bX5_readFolk_121 rfl (by decide)
theorem dX5_readFolk_127 : decode cX5_readFolk 127 = .ok (.aload_n 0, 1) := dk42 (k := 6) bX5_readFolk_121 rfl
theorem dX5_readFolk_128 : decode cX5_readFolk 128 = .ok (.getfield 43, 3) := dk180 (k := 7) bX5_readFolk_121 rfl rfl
theorem dX5_readFolk_131 : decode cX5_readFolk 131 = .ok (.bipush 12, 2) := dk16 (k := 10) bX5_readFolk_121 rfl (by decide)
theorem dX5_readFolk_133 : decode cX5_readFolk 133 = .ok (.if_icmp .ne 11, 3) := dk160 (k := 12) bX5_readFolk_121 rfl (by decide)
theorem dX5_readFolk_136 : decode cX5_readFolk 136 = .ok (.aload_n 0, 1) := dk42 (k := 15) bX5_readFolk_121 rfl
theorem dX5_readFolk_137 : decode cX5_readFolk 137 = .ok (.iload_n 1, 1) := dk27 (k := 16) bX5_readFolk_121 rfl
theorem dX5_readFolk_138 : decode cX5_readFolk 138 = .ok (.invokevirtual 139, 3) := dk182 (k := 17) bX5_readFolk_121 rfl rfl
theorem dX5_readFolk_141 : decode cX5_readFolk 141 = .ok (.ifCond .eq 7, 3) := dk153 (k := 20) bX5_readFolk_121 rfl (by decide)
theorem dX5_readFolk_144 : decode cX5_readFolk 144 = .ok (.iconst 1, 1) := dk4 (k := 23) bX5_readFolk_121 rfl
theorem bX5_readFolk_145 : bL cX5_readFolk 145 [167, 0, 4, 3, 172] := bL_of (by decide +kernel)
theorem dX5_readFolk_145 : decode cX5_readFolk 145 = .ok (.goto 4, 3) := dk167 (k := 0) bX5_readFolk_145 rfl (by decide)
theorem dX5_readFolk_148 : decode cX5_readFolk 148 = .ok (.iconst 0, 1) := dk3 (k := 3) bX5_readFolk_145 rfl
theorem dX5_readFolk_149 : decode cX5_readFolk 149 = .ok (.ireturn, 1) := dk172 (k := 4) bX5_readFolk_145 rfl
theorem bX5_readFact_0 : bL cX5_readFact 0 [42, 28, 182, 0, 85, 153, 0, 14, 42, 21, 4, 21, 5, 182, 0, 96, 154, 0, 5, 3, 172, 42, 180, 0, 12] := bL_of (by decide +kernel)
theorem dX5_readFact_0 : decode cX5_readFact 0 = .ok (.aload_n 0, 1) := dk42 (k := 0) bX5_readFact_0 rfl
theorem dX5_readFact_1 : decode cX5_readFact 1 = .ok (.iload_n 2, 1) := dk28 (k := 1) bX5_readFact_0 rfl
theorem dX5_readFact_2 : decode cX5_readFact 2 = .ok (.invokevirtual 85, 3) := dk182 (k := 2) bX5_readFact_0 rfl rfl
theorem dX5_readFact_5 : decode cX5_readFact 5 = .ok (.ifCond .eq 14, 3) := dk153 (k := 5) bX5_readFact_0 rfl (by decide)
theorem dX5_readFact_8 : decode cX5_readFact 8 = .ok (.aload_n 0, 1) := dk42 (k := 8) bX5_readFact_0 rfl
theorem dX5_readFact_9 : decode cX5_readFact 9 = .ok (.iload 4, 2) := dk21 (k := 9) bX5_readFact_0 rfl rfl
theorem dX5_readFact_11 : decode cX5_readFact 11 = .ok (.iload 5, 2) := dk21 (k := 11) bX5_readFact_0 rfl rfl
theorem dX5_readFact_13 : decode cX5_readFact 13 = .ok (.invokevirtual 96, 3) := dk182 (k := 13) bX5_readFact_0 rfl rfl
theorem dX5_readFact_16 : decode cX5_readFact 16 = .ok (.ifCond .ne 5, 3) := dk154 (k := 16) bX5_readFact_0 rfl (by decide)
theorem dX5_readFact_19 : decode cX5_readFact 19 = .ok (.iconst 0, 1) := dk3 (k := 19) bX5_readFact_0 rfl
theorem dX5_readFact_20 : decode cX5_readFact 20 = .ok (.ireturn, 1) := dk172 (k := 20) bX5_readFact_0 rfl
theorem dX5_readFact_21 : decode cX5_readFact 21 = .ok (.aload_n 0, 1) := dk42 (k := 21) bX5_readFact_0 rfl
theorem dX5_readFact_22 : decode cX5_readFact 22 = .ok (.getfield 12, 3) := dk180 (k := 22) bX5_readFact_0 rfl rfl
theorem bX5_readFact_25 : bL cX5_readFact 25 [180, 0, 126, 27, 29, 42, 182, 0, 100, 182, 0, 142, 4, 172] := bL_of (by decide +kernel)
theorem dX5_readFact_25 : decode cX5_readFact 25 = .ok (.getfield 126, 3) := dk180 (k := 0) bX5_readFact_25 rfl rfl
theorem dX5_readFact_28 : decode cX5_readFact 28 = .ok (.iload_n 1, 1) := dk27 (k := 3) bX5_readFact_25 rfl
theorem dX5_readFact_29 : decode cX5_readFact 29 = .ok (.iload_n 3, 1) := dk29 (k := 4) bX5_readFact_25 rfl
theorem dX5_readFact_30 : decode cX5_readFact 30 = .ok (.aload_n 0, 1) := dk42 (k := 5) bX5_readFact_25 rfl
theorem dX5_readFact_31 : decode cX5_readFact 31 = .ok (.invokevirtual 100, 3) := dk182 (k := 6) bX5_readFact_25 rfl rfl
theorem dX5_readFact_34 : decode cX5_readFact 34 = .ok (.invokevirtual 142, 3) := dk182 (k := 9) bX5_readFact_25 rfl rfl
theorem dX5_readFact_37 : decode cX5_readFact 37 = .ok (.iconst 1, 1) := dk4 (k := 12) bX5_readFact_25 rfl
theorem dX5_readFact_38 : decode cX5_readFact 38 = .ok (.ireturn, 1) := dk172 (k := 13) bX5_readFact_25 rfl
theorem bX5_readTalk_0 : bL cX5_readTalk 0 [42, 27, 16, 12, 8, 4, 16, 7, 182, 0, 135, 153, 0, 23, 42, 16, 13, 182, 0, 85, 153, 0, 14, 42] := bL_of (by decide +kernel)
theorem dX5_readTalk_0 : decode cX5_readTalk 0 = .ok (.aload_n 0, 1) := dk42 (k := 0) bX5_readTalk_0 rfl
theorem dX5_readTalk_1 : decode cX5_readTalk 1 = .ok (.iload_n 1, 1) := dk27 (k := 1) bX5_readTalk_0 rfl
theorem dX5_readTalk_2 : decode cX5_readTalk 2 = .ok (.bipush 12, 2) := dk16 (k := 2) bX5_readTalk_0 rfl (by decide)
theorem dX5_readTalk_4 : decode cX5_readTalk 4 = .ok (.iconst 5, 1) := dk8 (k := 4) bX5_readTalk_0 rfl
theorem dX5_readTalk_5 : decode cX5_readTalk 5 = .ok (.iconst 1, 1) := dk4 (k := 5) bX5_readTalk_0 rfl
theorem dX5_readTalk_6 : decode cX5_readTalk 6 = .ok (.bipush 7, 2) := dk16 (k := 6) bX5_readTalk_0 rfl (by decide)
theorem dX5_readTalk_8 : decode cX5_readTalk 8 = .ok (.invokevirtual 135, 3) := dk182 (k := 8) bX5_readTalk_0 rfl rfl
theorem dX5_readTalk_11 : decode cX5_readTalk 11 = .ok (.ifCond .eq 23, 3) := dk153 (k := 11) bX5_readTalk_0 rfl (by decide)
theorem dX5_readTalk_14 : decode cX5_readTalk 14 = .ok (.aload_n 0, 1) := dk42 (k := 14) bX5_readTalk_0 rfl
theorem dX5_readTalk_15 : decode cX5_readTalk 15 = .ok (.bipush 13, 2) := dk16 (k := 15) bX5_readTalk_0 rfl (by decide)
theorem dX5_readTalk_17 : decode cX5_readTalk 17 = .ok (.invokevirtual 85, 3) := dk182 (k := 17) bX5_readTalk_0 rfl rfl
theorem dX5_readTalk_20 : decode cX5_readTalk 20 = .ok (.ifCond .eq 14, 3) := dk153 (k := 20) bX5_readTalk_0 rfl (by decide)
theorem dX5_readTalk_23 : decode cX5_readTalk 23 = .ok (.aload_n 0, 1) := dk42 (k := 23) bX5_readTalk_0 rfl
theorem bX5_readTalk_24 : bL cX5_readTalk 24 [3, 27, 4, 100, 182, 0, 96, 154, 0, 5, 3, 172, 42, 180, 0, 12, 180, 0, 126, 27, 42, 182, 0, 100] := bL_of (by decide +kernel)
theorem dX5_readTalk_24 : decode cX5_readTalk 24 = .ok (.iconst 0, 1) := dk3 (k := 0) bX5_readTalk_24 rfl
theorem dX5_readTalk_25 : decode cX5_readTalk 25 = .ok (.iload_n 1, 1) := dk27 (k := 1) bX5_readTalk_24 rfl
theorem dX5_readTalk_26 : decode cX5_readTalk 26 = .ok (.iconst 1, 1) := dk4 (k := 2) bX5_readTalk_24 rfl
theorem dX5_readTalk_27 : decode cX5_readTalk 27 = .ok (.isub, 1) := dk100 (k := 3) bX5_readTalk_24 rfl
theorem dX5_readTalk_28 : decode cX5_readTalk 28 = .ok (.invokevirtual 96, 3) := dk182 (k := 4) bX5_readTalk_24 rfl rfl
theorem dX5_readTalk_31 : decode cX5_readTalk 31 = .ok (.ifCond .ne 5, 3) := dk154 (k := 7) bX5_readTalk_24 rfl (by decide)
theorem dX5_readTalk_34 : decode cX5_readTalk 34 = .ok (.iconst 0, 1) := dk3 (k := 10) bX5_readTalk_24 rfl
theorem dX5_readTalk_35 : decode cX5_readTalk 35 = .ok (.ireturn, 1) := dk172 (k := 11) bX5_readTalk_24 rfl
theorem dX5_readTalk_36 : decode cX5_readTalk 36 = .ok (.aload_n 0, 1) := dk42 (k := 12) bX5_readTalk_24 rfl
theorem dX5_readTalk_37 : decode cX5_readTalk 37 = .ok (.getfield 12, 3) := dk180 (k := 13) bX5_readTalk_24 rfl rfl
theorem dX5_readTalk_40 : decode cX5_readTalk 40 = .ok (.getfield 126, 3) := dk180 (k := 16) bX5_readTalk_24 rfl rfl
theorem dX5_readTalk_43 : decode cX5_readTalk 43 = .ok (.iload_n 1, 1) := dk27 (k := 19) bX5_readTalk_24 rfl
theorem dX5_readTalk_44 : decode cX5_readTalk 44 = .ok (.aload_n 0, 1) := dk42 (k := 20) bX5_readTalk_24 rfl
theorem dX5_readTalk_45 : decode cX5_readTalk 45 = .ok (.invokevirtual 100, 3) := dk182 (k := 21) bX5_readTalk_24 rfl rfl
theorem bX5_readTalk_48 : bL cX5_readTalk 48 [182, 0, 146, 3, 61, 28, 17, 3, 132, 162, 0, 45, 42, 180, 0, 43, 6, 160, 0, 37, 42, 3, 27, 4] := bL_of (by decide +kernel)
theorem dX5_readTalk_48 : decode cX5_readTalk 48 = .ok (.invokevirtual 146, 3) := dk182 (k := 0) bX5_readTalk_48 rfl rfl
theorem dX5_readTalk_51 : decode cX5_readTalk 51 = .ok (.iconst 0, 1) := dk3 (k := 3) bX5_readTalk_48 rfl
theorem dX5_readTalk_52 : decode cX5_readTalk 52 = .ok (.istore_n 2, 1) := dk61 (k := 4) bX5_readTalk_48 rfl
theorem dX5_readTalk_53 : decode cX5_readTalk 53 = .ok (.iload_n 2, 1) := dk28 (k := 5) bX5_readTalk_48 rfl
theorem dX5_readTalk_54 : decode cX5_readTalk 54 = .ok (.sipush 900, 3) := dk17 (k := 6) bX5_readTalk_48 rfl (by decide)
theorem dX5_readTalk_57 : decode cX5_readTalk 57 = .ok (.if_icmp .ge 45, 3) := dk162 (k := 9) bX5_readTalk_48 rfl (by decide)
theorem dX5_readTalk_60 : decode cX5_readTalk 60 = .ok (.aload_n 0, 1) := dk42 (k := 12) bX5_readTalk_48 rfl
theorem dX5_readTalk_61 : decode cX5_readTalk 61 = .ok (.getfield 43, 3) := dk180 (k := 13) bX5_readTalk_48 rfl rfl
theorem dX5_readTalk_64 : decode cX5_readTalk 64 = .ok (.iconst 3, 1) := dk6 (k := 16) bX5_readTalk_48 rfl
theorem dX5_readTalk_65 : decode cX5_readTalk 65 = .ok (.if_icmp .ne 37, 3) := dk160 (k := 17) bX5_readTalk_48 rfl (by decide)
theorem dX5_readTalk_68 : decode cX5_readTalk 68 = .ok (.aload_n 0, 1) := dk42 (k := 20) bX5_readTalk_48 rfl
theorem dX5_readTalk_69 : decode cX5_readTalk 69 = .ok (.iconst 0, 1) := dk3 (k := 21) bX5_readTalk_48 rfl
theorem dX5_readTalk_70 : decode cX5_readTalk 70 = .ok (.iload_n 1, 1) := dk27 (k := 22) bX5_readTalk_48 rfl
theorem dX5_readTalk_71 : decode cX5_readTalk 71 = .ok (.iconst 1, 1) := dk4 (k := 23) bX5_readTalk_48 rfl
theorem bX5_readTalk_72 : bL cX5_readTalk 72 [100, 182, 0, 96, 154, 0, 5, 3, 172, 42, 180, 0, 12, 180, 0, 126, 27, 42, 182, 0, 100, 182, 0, 146] := bL_of (by decide +kernel)
theorem dX5_readTalk_72 : decode cX5_readTalk 72 = .ok (.isub, 1) := dk100 (k := 0) bX5_readTalk_72 rfl
theorem dX5_readTalk_73 : decode cX5_readTalk 73 = .ok (.invokevirtual 96, 3) := dk182 (k := 1) bX5_readTalk_72 rfl rfl
theorem dX5_readTalk_76 : decode cX5_readTalk 76 = .ok (.ifCond .ne 5, 3) := dk154 (k := 4) bX5_readTalk_72 rfl (by decide)
theorem dX5_readTalk_79 : decode cX5_readTalk 79 = .ok (.iconst 0, 1) := dk3 (k := 7) bX5_readTalk_72 rfl
theorem dX5_readTalk_80 : decode cX5_readTalk 80 = .ok (.ireturn, 1) := dk172 (k := 8) bX5_readTalk_72 rfl
theorem dX5_readTalk_81 : decode cX5_readTalk 81 = .ok (.aload_n 0, 1) := dk42 (k := 9) bX5_readTalk_72 rfl
theorem dX5_readTalk_82 : decode cX5_readTalk 82 = .ok (.getfield 12, 3) := dk180 (k := 10) bX5_readTalk_72 rfl rfl
theorem dX5_readTalk_85 : decode cX5_readTalk 85 = .ok (.getfield 126, 3) := dk180 (k := 13) bX5_readTalk_72 rfl rfl
theorem dX5_readTalk_88 : decode cX5_readTalk 88 = .ok (.iload_n 1, 1) := dk27 (k := 16) bX5_readTalk_72 rfl
theorem dX5_readTalk_89 : decode cX5_readTalk 89 = .ok (.aload_n 0, 1) := dk42 (k := 17) bX5_readTalk_72 rfl
theorem dX5_readTalk_90 : decode cX5_readTalk 90 = .ok (.invokevirtual 100, 3) := dk182 (k := 18) bX5_readTalk_72 rfl rfl
theorem dX5_readTalk_93 : decode cX5_readTalk 93 = .ok (.invokevirtual 146, 3) := dk182 (k := 21) bX5_readTalk_72 rfl rfl
theorem bX5_readTalk_96 : bL cX5_readTalk 96 [132, 2, 1, 167, 255, 210, 4, 172] := bL_of (by decide +kernel)
theorem dX5_readTalk_96 : decode cX5_readTalk 96 = .ok (.iinc 2 1, 3) := dk132 (k := 0) bX5_readTalk_96 rfl rfl (by decide)
theorem dX5_readTalk_99 : decode cX5_readTalk 99 = .ok (.goto (-46), 3) := dk167 (k := 3) bX5_readTalk_96 rfl (by decide)
theorem dX5_readTalk_102 : decode cX5_readTalk 102 = .ok (.iconst 1, 1) := dk4 (k := 6) bX5_readTalk_96 rfl
theorem dX5_readTalk_103 : decode cX5_readTalk 103 = .ok (.ireturn, 1) := dk172 (k := 7) bX5_readTalk_96 rfl
theorem bX5_readHeap_0 : bL cX5_readHeap 0 [42, 16, 14, 182, 0, 85, 153, 0, 23, 42, 3, 42, 180, 0, 12, 180, 0, 88, 180, 0, 123, 4, 100, 182, 0, 96] := bL_of (by decide +kernel)
theorem dX5_readHeap_0 : decode cX5_readHeap 0 = .ok (.aload_n 0, 1) := dk42 (k := 0) bX5_readHeap_0 rfl
theorem dX5_readHeap_1 : decode cX5_readHeap 1 = .ok (.bipush 14, 2) := dk16 (k := 1) bX5_readHeap_0 rfl (by decide)
theorem dX5_readHeap_3 : decode cX5_readHeap 3 = .ok (.invokevirtual 85, 3) := dk182 (k := 3) bX5_readHeap_0 rfl rfl
theorem dX5_readHeap_6 : decode cX5_readHeap 6 = .ok (.ifCond .eq 23, 3) := dk153 (k := 6) bX5_readHeap_0 rfl (by decide)
theorem dX5_readHeap_9 : decode cX5_readHeap 9 = .ok (.aload_n 0, 1) := dk42 (k := 9) bX5_readHeap_0 rfl
theorem dX5_readHeap_10 : decode cX5_readHeap 10 = .ok (.iconst 0, 1) := dk3 (k := 10) bX5_readHeap_0 rfl
theorem dX5_readHeap_11 : decode cX5_readHeap 11 = .ok (.aload_n 0, 1) := dk42 (k := 11) bX5_readHeap_0 rfl
theorem dX5_readHeap_12 : decode cX5_readHeap 12 = .ok (.getfield 12, 3) := dk180 (k := 12) bX5_readHeap_0 rfl rfl
theorem dX5_readHeap_15 : decode cX5_readHeap 15 = .ok (.getfield 88, 3) := dk180 (k := 15) bX5_readHeap_0 rfl rfl
theorem dX5_readHeap_18 : decode cX5_readHeap 18 = .ok (.getfield 123, 3) := dk180 (k := 18) bX5_readHeap_0 rfl rfl
theorem dX5_readHeap_21 : decode cX5_readHeap 21 = .ok (.iconst 1, 1) := dk4 (k := 21) bX5_readHeap_0 rfl
theorem dX5_readHeap_22 : decode cX5_readHeap 22 = .ok (.isub, 1) := dk100 (k := 22) bX5_readHeap_0 rfl
theorem dX5_readHeap_23 : decode cX5_readHeap 23 = .ok (.invokevirtual 96, 3) := dk182 (k := 23) bX5_readHeap_0 rfl rfl
theorem bX5_readHeap_26 : bL cX5_readHeap 26 [154, 0, 5, 3, 172, 42, 180, 0, 12, 42, 182, 0, 100, 181, 0, 150, 4, 172] := bL_of (by decide +kernel)
theorem dX5_readHeap_26 : decode cX5_readHeap 26 = .ok (.ifCond .ne 5, 3) := dk154 (k := 0) bX5_readHeap_26 rfl (by decide)
theorem dX5_readHeap_29 : decode cX5_readHeap 29 = .ok (.iconst 0, 1) := dk3 (k := 3) bX5_readHeap_26 rfl
theorem dX5_readHeap_30 : decode cX5_readHeap 30 = .ok (.ireturn, 1) := dk172 (k := 4) bX5_readHeap_26 rfl
theorem dX5_readHeap_31 : decode cX5_readHeap 31 = .ok (.aload_n 0, 1) := dk42 (k := 5) bX5_readHeap_26 rfl
theorem dX5_readHeap_32 : decode cX5_readHeap 32 = .ok (.getfield 12, 3) := dk180 (k := 6) bX5_readHeap_26 rfl rfl
theorem dX5_readHeap_35 : decode cX5_readHeap 35 = .ok (.aload_n 0, 1) := dk42 (k := 9) bX5_readHeap_26 rfl
theorem dX5_readHeap_36 : decode cX5_readHeap 36 = .ok (.invokevirtual 100, 3) := dk182 (k := 10) bX5_readHeap_26 rfl rfl
theorem dX5_readHeap_39 : decode cX5_readHeap 39 = .ok (.putfield 150, 3) := dk181 (k := 13) bX5_readHeap_26 rfl rfl
theorem dX5_readHeap_42 : decode cX5_readHeap 42 = .ok (.iconst 1, 1) := dk4 (k := 16) bX5_readHeap_26 rfl
theorem dX5_readHeap_43 : decode cX5_readHeap 43 = .ok (.ireturn, 1) := dk172 (k := 17) bX5_readHeap_26 rfl
theorem bX6_init_0 : bL cX6_init 0 [42, 183, 0, 3, 42, 16, 21] := bL_of (by decide +kernel)
theorem dX6_init_0 : decode cX6_init 0 = .ok (.aload_n 0, 1) := dk42 (k := 0) bX6_init_0 rfl
theorem dX6_init_1 : decode cX6_init 1 = .ok (.invokespecial 3, 3) := dk183 (k := 1) bX6_init_0 rfl rfl
theorem dX6_init_4 : decode cX6_init 4 = .ok (.aload_n 0, 1) := dk42 (k := 4) bX6_init_0 rfl
theorem dX6_init_5 : decode cX6_init 5 = .ok (.bipush 21, 2) := dk16 (k := 5) bX6_init_0 rfl (by decide)
theorem dX6_init_7 : decode cX6_init 7 = .ok (.newarray .int, 2) := by decide +kernel
theorem bX6_init_9 : bL cX6_init 9 [181, 0, 9, 42, 16, 21] := bL_of (by decide +kernel)
theorem dX6_init_9 : decode cX6_init 9 = .ok (.putfield 9, 3) := dk181 (k := 0) bX6_init_9 rfl rfl
theorem dX6_init_12 : decode cX6_init 12 = .ok (.aload_n 0, 1) := dk42 (k := 3) bX6_init_9 rfl
theorem dX6_init_13 : decode cX6_init 13 = .ok (.bipush 21, 2) := dk16 (k := 4) bX6_init_9 rfl (by decide)
theorem dX6_init_15 : decode cX6_init 15 = .ok (.newarray .int, 2) := by decide +kernel
theorem bX6_init_17 : bL cX6_init 17 [181, 0, 15, 42, 16, 19] := bL_of (by decide +kernel)
theorem dX6_init_17 : decode cX6_init 17 = .ok (.putfield 15, 3) := dk181 (k := 0) bX6_init_17 rfl rfl
theorem dX6_init_20 : decode cX6_init 20 = .ok (.aload_n 0, 1) := dk42 (k := 3) bX6_init_17 rfl
theorem dX6_init_21 : decode cX6_init 21 = .ok (.bipush 19, 2) := dk16 (k := 4) bX6_init_17 rfl (by decide)
theorem dX6_init_23 : decode cX6_init 23 = .ok (.newarray .int, 2) := by decide +kernel
theorem bX6_init_25 : bL cX6_init 25 [181, 0, 18, 42, 43, 181, 0, 21, 42, 44, 181, 0, 25, 42, 45, 181, 0, 29, 177] := bL_of (by decide +kernel)
theorem dX6_init_25 : decode cX6_init 25 = .ok (.putfield 18, 3) := dk181 (k := 0) bX6_init_25 rfl rfl
theorem dX6_init_28 : decode cX6_init 28 = .ok (.aload_n 0, 1) := dk42 (k := 3) bX6_init_25 rfl
theorem dX6_init_29 : decode cX6_init 29 = .ok (.aload_n 1, 1) := dk43 (k := 4) bX6_init_25 rfl
theorem dX6_init_30 : decode cX6_init 30 = .ok (.putfield 21, 3) := dk181 (k := 5) bX6_init_25 rfl rfl
theorem dX6_init_33 : decode cX6_init 33 = .ok (.aload_n 0, 1) := dk42 (k := 8) bX6_init_25 rfl
theorem dX6_init_34 : decode cX6_init 34 = .ok (.aload_n 2, 1) := dk44 (k := 9) bX6_init_25 rfl
theorem dX6_init_35 : decode cX6_init 35 = .ok (.putfield 25, 3) := dk181 (k := 10) bX6_init_25 rfl rfl
theorem dX6_init_38 : decode cX6_init 38 = .ok (.aload_n 0, 1) := dk42 (k := 13) bX6_init_25 rfl
theorem dX6_init_39 : decode cX6_init 39 = .ok (.aload_n 3, 1) := dk45 (k := 14) bX6_init_25 rfl
theorem dX6_init_40 : decode cX6_init 40 = .ok (.putfield 29, 3) := dk181 (k := 15) bX6_init_25 rfl rfl
theorem dX6_init_43 : decode cX6_init 43 = .ok (.return_, 1) := dk177 (k := 18) bX6_init_25 rfl
theorem bX6_load_0 : bL cX6_load 0 [42, 180, 0, 25, 27, 182, 0, 33, 153, 0, 13, 42, 180, 0, 21, 182, 0, 39, 154, 0, 6, 16, 254, 172] := bL_of (by decide +kernel)
theorem dX6_load_0 : decode cX6_load 0 = .ok (.aload_n 0, 1) := dk42 (k := 0) bX6_load_0 rfl
theorem dX6_load_1 : decode cX6_load 1 = .ok (.getfield 25, 3) := dk180 (k := 1) bX6_load_0 rfl rfl
theorem dX6_load_4 : decode cX6_load 4 = .ok (.iload_n 1, 1) := dk27 (k := 4) bX6_load_0 rfl
theorem dX6_load_5 : decode cX6_load 5 = .ok (.invokevirtual 33, 3) := dk182 (k := 5) bX6_load_0 rfl rfl
theorem dX6_load_8 : decode cX6_load 8 = .ok (.ifCond .eq 13, 3) := dk153 (k := 8) bX6_load_0 rfl (by decide)
theorem dX6_load_11 : decode cX6_load 11 = .ok (.aload_n 0, 1) := dk42 (k := 11) bX6_load_0 rfl
theorem dX6_load_12 : decode cX6_load 12 = .ok (.getfield 21, 3) := dk180 (k := 12) bX6_load_0 rfl rfl
theorem dX6_load_15 : decode cX6_load 15 = .ok (.invokevirtual 39, 3) := dk182 (k := 15) bX6_load_0 rfl rfl
theorem dX6_load_18 : decode cX6_load 18 = .ok (.ifCond .ne 6, 3) := dk154 (k := 18) bX6_load_0 rfl (by decide)
theorem dX6_load_21 : decode cX6_load 21 = .ok (.bipush (-2), 2) := dk16 (k := 21) bX6_load_0 rfl (by decide)
theorem dX6_load_23 : decode cX6_load 23 = .ok (.ireturn, 1) := dk172 (k := 23) bX6_load_0 rfl
theorem bX6_load_24 : bL cX6_load 24 [42, 180, 0, 25, 27, 182, 0, 45, 154, 0, 6, 16, 250, 172, 42, 27, 182, 0, 48, 154, 0, 6, 16, 254] := bL_of (by decide +kernel)
theorem dX6_load_24 : decode cX6_load 24 = .ok (.aload_n 0, 1) := dk42 (k := 0) bX6_load_24 rfl
theorem dX6_load_25 : decode cX6_load 25 = .ok (.getfield 25, 3) := dk180 (k := 1) bX6_load_24 rfl rfl
theorem dX6_load_28 : decode cX6_load 28 = .ok (.iload_n 1, 1) := dk27 (k := 4) bX6_load_24 rfl
theorem dX6_load_29 : decode cX6_load 29 = .ok (.invokevirtual 45, 3) := dk182 (k := 5) bX6_load_24 rfl rfl
theorem dX6_load_32 : decode cX6_load 32 = .ok (.ifCond .ne 6, 3) := dk154 (k := 8) bX6_load_24 rfl (by decide)
theorem dX6_load_35 : decode cX6_load 35 = .ok (.bipush (-6), 2) := dk16 (k := 11) bX6_load_24 rfl (by decide)
theorem dX6_load_37 : decode cX6_load 37 = .ok (.ireturn, 1) := dk172 (k := 13) bX6_load_24 rfl
theorem dX6_load_38 : decode cX6_load 38 = .ok (.aload_n 0, 1) := dk42 (k := 14) bX6_load_24 rfl
theorem dX6_load_39 : decode cX6_load 39 = .ok (.iload_n 1, 1) := dk27 (k := 15) bX6_load_24 rfl
theorem dX6_load_40 : decode cX6_load 40 = .ok (.invokevirtual 48, 3) := dk182 (k := 16) bX6_load_24 rfl rfl
theorem dX6_load_43 : decode cX6_load 43 = .ok (.ifCond .ne 6, 3) := dk154 (k := 19) bX6_load_24 rfl (by decide)
theorem dX6_load_46 : decode cX6_load 46 = .ok (.bipush (-2), 2) := dk16 (k := 22) bX6_load_24 rfl (by decide)
theorem bX6_load_48 : bL cX6_load 48 [172, 42, 42, 180, 0, 25, 27, 182, 0, 51, 6, 108, 181, 0, 55, 42, 3, 181, 0, 59, 42, 180, 0, 29] := bL_of (by decide +kernel)
theorem dX6_load_48 : decode cX6_load 48 = .ok (.ireturn, 1) := dk172 (k := 0) bX6_load_48 rfl
theorem dX6_load_49 : decode cX6_load 49 = .ok (.aload_n 0, 1) := dk42 (k := 1) bX6_load_48 rfl
theorem dX6_load_50 : decode cX6_load 50 = .ok (.aload_n 0, 1) := dk42 (k := 2) bX6_load_48 rfl
theorem dX6_load_51 : decode cX6_load 51 = .ok (.getfield 25, 3) := dk180 (k := 3) bX6_load_48 rfl rfl
theorem dX6_load_54 : decode cX6_load 54 = .ok (.iload_n 1, 1) := dk27 (k := 6) bX6_load_48 rfl
theorem dX6_load_55 : decode cX6_load 55 = .ok (.invokevirtual 51, 3) := dk182 (k := 7) bX6_load_48 rfl rfl
theorem dX6_load_58 : decode cX6_load 58 = .ok (.iconst 3, 1) := dk6 (k := 10) bX6_load_48 rfl
theorem dX6_load_59 : decode cX6_load 59 = .ok (.idiv, 1) := dk108 (k := 11) bX6_load_48 rfl
theorem dX6_load_60 : decode cX6_load 60 = .ok (.putfield 55, 3) := dk181 (k := 12) bX6_load_48 rfl rfl
theorem dX6_load_63 : decode cX6_load 63 = .ok (.aload_n 0, 1) := dk42 (k := 15) bX6_load_48 rfl
theorem dX6_load_64 : decode cX6_load 64 = .ok (.iconst 0, 1) := dk3 (k := 16) bX6_load_48 rfl
theorem dX6_load_65 : decode cX6_load 65 = .ok (.putfield 59, 3) := dk181 (k := 17) bX6_load_48 rfl rfl
theorem dX6_load_68 : decode cX6_load 68 = .ok (.aload_n 0, 1) := dk42 (k := 20) bX6_load_48 rfl
theorem dX6_load_69 : decode cX6_load 69 = .ok (.getfield 29, 3) := dk180 (k := 21) bX6_load_48 rfl rfl
theorem bX6_load_72 : bL cX6_load 72 [42, 180, 0, 21, 180, 0, 62, 182, 0, 65, 42, 180, 0, 29, 182, 0, 71, 61, 3, 62, 29, 16, 20, 163, 0, 45] := bL_of (by decide +kernel)
theorem dX6_load_72 : decode cX6_load 72 = .ok (.aload_n 0, 1) := dk42 (k := 0) bX6_load_72 rfl
theorem dX6_load_73 : decode cX6_load 73 = .ok (.getfield 21, 3) := dk180 (k := 1) bX6_load_72 rfl rfl
theorem dX6_load_76 : decode cX6_load 76 = .ok (.getfield 62, 3) := dk180 (k := 4) bX6_load_72 rfl rfl
theorem dX6_load_79 : decode cX6_load 79 = .ok (.invokevirtual 65, 3) := dk182 (k := 7) bX6_load_72 rfl rfl
theorem dX6_load_82 : decode cX6_load 82 = .ok (.aload_n 0, 1) := dk42 (k := 10) bX6_load_72 rfl
theorem dX6_load_83 : decode cX6_load 83 = .ok (.getfield 29, 3) := dk180 (k := 11) bX6_load_72 rfl rfl
theorem dX6_load_86 : decode cX6_load 86 = .ok (.invokevirtual 71, 3) := dk182 (k := 14) bX6_load_72 rfl rfl
theorem dX6_load_89 : decode cX6_load 89 = .ok (.istore_n 2, 1) := dk61 (k := 17) bX6_load_72 rfl
theorem dX6_load_90 : decode cX6_load 90 = .ok (.iconst 0, 1) := dk3 (k := 18) bX6_load_72 rfl
theorem dX6_load_91 : decode cX6_load 91 = .ok (.istore_n 3, 1) := dk62 (k := 19) bX6_load_72 rfl
theorem dX6_load_92 : decode cX6_load 92 = .ok (.iload_n 3, 1) := dk29 (k := 20) bX6_load_72 rfl
theorem dX6_load_93 : decode cX6_load 93 = .ok (.bipush 20, 2) := dk16 (k := 21) bX6_load_72 rfl (by decide)
theorem dX6_load_95 : decode cX6_load 95 = .ok (.if_icmp .gt 45, 3) := dk163 (k := 23) bX6_load_72 rfl (by decide)
theorem bX6_load_98 : bL cX6_load 98 [42, 27, 29, 182, 0, 75, 42, 180, 0, 9, 29, 46, 154, 0, 15, 42, 89, 180, 0, 59, 4, 29, 120, 128] := bL_of (by decide +kernel)
theorem dX6_load_98 : decode cX6_load 98 = .ok (.aload_n 0, 1) := dk42 (k := 0) bX6_load_98 rfl
theorem dX6_load_99 : decode cX6_load 99 = .ok (.iload_n 1, 1) := dk27 (k := 1) bX6_load_98 rfl
theorem dX6_load_100 : decode cX6_load 100 = .ok (.iload_n 3, 1) := dk29 (k := 2) bX6_load_98 rfl
theorem dX6_load_101 : decode cX6_load 101 = .ok (.invokevirtual 75, 3) := dk182 (k := 3) bX6_load_98 rfl rfl
theorem dX6_load_104 : decode cX6_load 104 = .ok (.aload_n 0, 1) := dk42 (k := 6) bX6_load_98 rfl
theorem dX6_load_105 : decode cX6_load 105 = .ok (.getfield 9, 3) := dk180 (k := 7) bX6_load_98 rfl rfl
theorem dX6_load_108 : decode cX6_load 108 = .ok (.iload_n 3, 1) := dk29 (k := 10) bX6_load_98 rfl
theorem dX6_load_109 : decode cX6_load 109 = .ok (.iaload, 1) := dk46 (k := 11) bX6_load_98 rfl
theorem dX6_load_110 : decode cX6_load 110 = .ok (.ifCond .ne 15, 3) := dk154 (k := 12) bX6_load_98 rfl (by decide)
theorem dX6_load_113 : decode cX6_load 113 = .ok (.aload_n 0, 1) := dk42 (k := 15) bX6_load_98 rfl
theorem dX6_load_114 : decode cX6_load 114 = .ok (.dup, 1) := dk89 (k := 16) bX6_load_98 rfl
theorem dX6_load_115 : decode cX6_load 115 = .ok (.getfield 59, 3) := dk180 (k := 17) bX6_load_98 rfl rfl
theorem dX6_load_118 : decode cX6_load 118 = .ok (.iconst 1, 1) := dk4 (k := 20) bX6_load_98 rfl
theorem dX6_load_119 : decode cX6_load 119 = .ok (.iload_n 3, 1) := dk29 (k := 21) bX6_load_98 rfl
theorem dX6_load_120 : decode cX6_load 120 = .ok (.ishl, 1) := dk120 (k := 22) bX6_load_98 rfl
theorem dX6_load_121 : decode cX6_load 121 = .ok (.ior, 1) := dk128 (k := 23) bX6_load_98 rfl
theorem bX6_load_122 : bL cX6_load 122 [181, 0, 59, 42, 180, 0, 29, 28, 4, 182, 0, 79, 132, 3, 1, 167, 255, 211, 3, 172] := bL_of (by decide +kernel)
theorem dX6_load_122 : decode cX6_load 122 = .ok (.putfield 59, 3) := dk181 (k := 0) bX6_load_122 rfl rfl
theorem dX6_load_125 : decode cX6_load 125 = .ok (.aload_n 0, 1) := dk42 (k := 3) bX6_load_122 rfl
theorem dX6_load_126 : decode cX6_load 126 = .ok (.getfield 29, 3) := dk180 (k := 4) bX6_load_122 rfl rfl
theorem dX6_load_129 : decode cX6_load 129 = .ok (.iload_n 2, 1) := dk28 (k := 7) bX6_load_122 rfl
theorem dX6_load_130 : decode cX6_load 130 = .ok (.iconst 1, 1) := dk4 (k := 8) bX6_load_122 rfl
theorem dX6_load_131 : decode cX6_load 131 = .ok (.invokevirtual 79, 3) := dk182 (k := 9) bX6_load_122 rfl rfl
theorem dX6_load_134 : decode cX6_load 134 = .ok (.iinc 3 1, 3) := dk132 (k := 12) bX6_load_122 rfl rfl (by decide)
theorem dX6_load_137 : decode cX6_load 137 = .ok (.goto (-45), 3) := dk167 (k := 15) bX6_load_122 rfl (by decide)
theorem dX6_load_140 : decode cX6_load 140 = .ok (.iconst 0, 1) := dk3 (k := 18) bX6_load_122 rfl
theorem dX6_load_141 : decode cX6_load 141 = .ok (.ireturn, 1) := dk172 (k := 19) bX6_load_122 rfl
theorem bX6_isSighting_0 : bL cX6_isSighting 0 [42, 180, 0, 25, 27, 182, 0, 51, 61, 28, 6, 112, 153, 0, 5, 3, 172, 3, 62, 29, 28, 162, 0, 135] := bL_of (by decide +kernel)
theorem dX6_isSighting_0 : decode cX6_isSighting 0 = .ok (.aload_n 0, 1) := dk42 (k := 0) bX6_isSighting_0 rfl
theorem dX6_isSighting_1 : decode cX6_isSighting 1 = .ok (.getfield 25, 3) := dk180 (k := 1) bX6_isSighting_0 rfl rfl
theorem dX6_isSighting_4 : decode cX6_isSighting 4 = .ok (.iload_n 1, 1) := dk27 (k := 4) bX6_isSighting_0 rfl
theorem dX6_isSighting_5 : decode cX6_isSighting 5 = .ok (.invokevirtual 51, 3) := dk182 (k := 5) bX6_isSighting_0 rfl rfl
theorem dX6_isSighting_8 : decode cX6_isSighting 8 = .ok (.istore_n 2, 1) := dk61 (k := 8) bX6_isSighting_0 rfl
theorem dX6_isSighting_9 : decode cX6_isSighting 9 = .ok (.iload_n 2, 1) := dk28 (k := 9) bX6_isSighting_0 rfl
theorem dX6_isSighting_10 : decode cX6_isSighting 10 = .ok (.iconst 3, 1) := dk6 (k := 10) bX6_isSighting_0 rfl
theorem dX6_isSighting_11 : decode cX6_isSighting 11 = .ok (.irem, 1) := dk112 (k := 11) bX6_isSighting_0 rfl
theorem dX6_isSighting_12 : decode cX6_isSighting 12 = .ok (.ifCond .eq 5, 3) := dk153 (k := 12) bX6_isSighting_0 rfl (by decide)
theorem dX6_isSighting_15 : decode cX6_isSighting 15 = .ok (.iconst 0, 1) := dk3 (k := 15) bX6_isSighting_0 rfl
theorem dX6_isSighting_16 : decode cX6_isSighting 16 = .ok (.ireturn, 1) := dk172 (k := 16) bX6_isSighting_0 rfl
theorem dX6_isSighting_17 : decode cX6_isSighting 17 = .ok (.iconst 0, 1) := dk3 (k := 17) bX6_isSighting_0 rfl
theorem dX6_isSighting_18 : decode cX6_isSighting 18 = .ok (.istore_n 3, 1) := dk62 (k := 18) bX6_isSighting_0 rfl
theorem dX6_isSighting_19 : decode cX6_isSighting 19 = .ok (.iload_n 3, 1) := dk29 (k := 19) bX6_isSighting_0 rfl
theorem dX6_isSighting_20 : decode cX6_isSighting 20 = .ok (.iload_n 2, 1) := dk28 (k := 20) bX6_isSighting_0 rfl
theorem dX6_isSighting_21 : decode cX6_isSighting 21 = .ok (.if_icmp .ge 135, 3) := dk162 (k := 21) bX6_isSighting_0 rfl (by decide)
theorem bX6_isSighting_24 : bL cX6_isSighting 24 [42, 180, 0, 25, 27, 29, 182, 0, 82, 55, 4, 42, 180, 0, 25, 27, 29, 4, 96, 182, 0, 82, 55, 6] := bL_of (by decide +kernel)
theorem dX6_isSighting_24 : decode cX6_isSighting 24 = .ok (.aload_n 0, 1) := dk42 (k := 0) bX6_isSighting_24 rfl
theorem dX6_isSighting_25 : decode cX6_isSighting 25 = .ok (.getfield 25, 3) := dk180 (k := 1) bX6_isSighting_24 rfl rfl
theorem dX6_isSighting_28 : decode cX6_isSighting 28 = .ok (.iload_n 1, 1) := dk27 (k := 4) bX6_isSighting_24 rfl
theorem dX6_isSighting_29 : decode cX6_isSighting 29 = .ok (.iload_n 3, 1) := dk29 (k := 5) bX6_isSighting_24 rfl
theorem dX6_isSighting_30 : decode cX6_isSighting 30 = .ok (.invokevirtual 82, 3) := dk182 (k := 6) bX6_isSighting_24 rfl rfl
theorem dX6_isSighting_33 : decode cX6_isSighting 33 = .ok (.lstore 4, 2) := dk55 (k := 9) bX6_isSighting_24 rfl rfl
theorem dX6_isSighting_35 : decode cX6_isSighting 35 = .ok (.aload_n 0, 1) := dk42 (k := 11) bX6_isSighting_24 rfl
theorem dX6_isSighting_36 : decode cX6_isSighting 36 = .ok (.getfield 25, 3) := dk180 (k := 12) bX6_isSighting_24 rfl rfl
theorem dX6_isSighting_39 : decode cX6_isSighting 39 = .ok (.iload_n 1, 1) := dk27 (k := 15) bX6_isSighting_24 rfl
theorem dX6_isSighting_40 : decode cX6_isSighting 40 = .ok (.iload_n 3, 1) := dk29 (k := 16) bX6_isSighting_24 rfl
theorem dX6_isSighting_41 : decode cX6_isSighting 41 = .ok (.iconst 1, 1) := dk4 (k := 17) bX6_isSighting_24 rfl
theorem dX6_isSighting_42 : decode cX6_isSighting 42 = .ok (.iadd, 1) := dk96 (k := 18) bX6_isSighting_24 rfl
theorem dX6_isSighting_43 : decode cX6_isSighting 43 = .ok (.invokevirtual 82, 3) := dk182 (k := 19) bX6_isSighting_24 rfl rfl
theorem dX6_isSighting_46 : decode cX6_isSighting 46 = .ok (.lstore 6, 2) := dk55 (k := 22) bX6_isSighting_24 rfl rfl
theorem bX6_isSighting_48 : bL cX6_isSighting 48 [42, 180, 0, 25, 27, 29, 5, 96, 182, 0, 82, 55, 8, 22, 4, 9, 148, 155, 0, 24, 22, 4, 42, 180, 0, 21] := bL_of (by decide +kernel)
theorem dX6_isSighting_48 : decode cX6_isSighting 48 = .ok (.aload_n 0, 1) := dk42 (k := 0) bX6_isSighting_48 rfl
theorem dX6_isSighting_49 : decode cX6_isSighting 49 = .ok (.getfield 25, 3) := dk180 (k := 1) bX6_isSighting_48 rfl rfl
theorem dX6_isSighting_52 : decode cX6_isSighting 52 = .ok (.iload_n 1, 1) := dk27 (k := 4) bX6_isSighting_48 rfl
theorem dX6_isSighting_53 : decode cX6_isSighting 53 = .ok (.iload_n 3, 1) := dk29 (k := 5) bX6_isSighting_48 rfl
theorem dX6_isSighting_54 : decode cX6_isSighting 54 = .ok (.iconst 2, 1) := dk5 (k := 6) bX6_isSighting_48 rfl
theorem dX6_isSighting_55 : decode cX6_isSighting 55 = .ok (.iadd, 1) := dk96 (k := 7) bX6_isSighting_48 rfl
theorem dX6_isSighting_56 : decode cX6_isSighting 56 = .ok (.invokevirtual 82, 3) := dk182 (k := 8) bX6_isSighting_48 rfl rfl
theorem dX6_isSighting_59 : decode cX6_isSighting 59 = .ok (.lstore 8, 2) := dk55 (k := 11) bX6_isSighting_48 rfl rfl
theorem dX6_isSighting_61 : decode cX6_isSighting 61 = .ok (.lload 4, 2) := dk22 (k := 13) bX6_isSighting_48 rfl rfl
theorem dX6_isSighting_63 : decode cX6_isSighting 63 = .ok (.lconst 0, 1) := dk9 (k := 15) bX6_isSighting_48 rfl
theorem dX6_isSighting_64 : decode cX6_isSighting 64 = .ok (.lcmp, 1) := dk148 (k := 16) bX6_isSighting_48 rfl
theorem dX6_isSighting_65 : decode cX6_isSighting 65 = .ok (.ifCond .lt 24, 3) := dk155 (k := 17) bX6_isSighting_48 rfl (by decide)
theorem dX6_isSighting_68 : decode cX6_isSighting 68 = .ok (.lload 4, 2) := dk22 (k := 20) bX6_isSighting_48 rfl rfl
theorem dX6_isSighting_70 : decode cX6_isSighting 70 = .ok (.aload_n 0, 1) := dk42 (k := 22) bX6_isSighting_48 rfl
theorem dX6_isSighting_71 : decode cX6_isSighting 71 = .ok (.getfield 21, 3) := dk180 (k := 23) bX6_isSighting_48 rfl rfl
theorem bX6_isSighting_74 : bL cX6_isSighting 74 [180, 0, 62, 180, 0, 86, 133, 148, 156, 0, 7, 4, 167, 0, 4, 3, 54, 10, 22, 6, 9, 148, 153, 0, 25] := bL_of (by decide +kernel)
theorem dX6_isSighting_74 : decode cX6_isSighting 74 = .ok (.getfield 62, 3) := dk180 (k := 0) bX6_isSighting_74 rfl rfl
theorem dX6_isSighting_77 : decode cX6_isSighting 77 = .ok (.getfield 86, 3) := dk180 (k := 3) bX6_isSighting_74 rfl rfl
theorem dX6_isSighting_80 : decode cX6_isSighting 80 = .ok (.i2l, 1) := dk133 (k := 6) bX6_isSighting_74 rfl
theorem dX6_isSighting_81 : decode cX6_isSighting 81 = .ok (.lcmp, 1) := dk148 (k := 7) bX6_isSighting_74 rfl
theorem dX6_isSighting_82 : decode cX6_isSighting 82 = .ok (.ifCond .ge 7, 3) := dk156 (k := 8) bX6_isSighting_74 rfl (by decide)
theorem dX6_isSighting_85 : decode cX6_isSighting 85 = .ok (.iconst 1, 1) := dk4 (k := 11) bX6_isSighting_74 rfl
theorem dX6_isSighting_86 : decode cX6_isSighting 86 = .ok (.goto 4, 3) := dk167 (k := 12) bX6_isSighting_74 rfl (by decide)
theorem dX6_isSighting_89 : decode cX6_isSighting 89 = .ok (.iconst 0, 1) := dk3 (k := 15) bX6_isSighting_74 rfl
theorem dX6_isSighting_90 : decode cX6_isSighting 90 = .ok (.istore 10, 2) := dk54 (k := 16) bX6_isSighting_74 rfl rfl
theorem dX6_isSighting_92 : decode cX6_isSighting 92 = .ok (.lload 6, 2) := dk22 (k := 18) bX6_isSighting_74 rfl rfl
theorem dX6_isSighting_94 : decode cX6_isSighting 94 = .ok (.lconst 0, 1) := dk9 (k := 20) bX6_isSighting_74 rfl
theorem dX6_isSighting_95 : decode cX6_isSighting 95 = .ok (.lcmp, 1) := dk148 (k := 21) bX6_isSighting_74 rfl
theorem dX6_isSighting_96 : decode cX6_isSighting 96 = .ok (.ifCond .eq 25, 3) := dk153 (k := 22) bX6_isSighting_74 rfl (by decide)
theorem bX6_isSighting_99 : bL cX6_isSighting 99 [22, 6, 20, 0, 89, 148, 155, 0, 16, 22, 6, 20, 0, 91, 148, 157, 0, 7, 4, 167, 0, 4, 3, 54, 11] := bL_of (by decide +kernel)
theorem dX6_isSighting_99 : decode cX6_isSighting 99 = .ok (.lload 6, 2) := dk22 (k := 0) bX6_isSighting_99 rfl rfl
theorem dX6_isSighting_101 : decode cX6_isSighting 101 = .ok (.ldc2_w 89, 3) := dk20 (k := 2) bX6_isSighting_99 rfl rfl
theorem dX6_isSighting_104 : decode cX6_isSighting 104 = .ok (.lcmp, 1) := dk148 (k := 5) bX6_isSighting_99 rfl
theorem dX6_isSighting_105 : decode cX6_isSighting 105 = .ok (.ifCond .lt 16, 3) := dk155 (k := 6) bX6_isSighting_99 rfl (by decide)
theorem dX6_isSighting_108 : decode cX6_isSighting 108 = .ok (.lload 6, 2) := dk22 (k := 9) bX6_isSighting_99 rfl rfl
theorem dX6_isSighting_110 : decode cX6_isSighting 110 = .ok (.ldc2_w 91, 3) := dk20 (k := 11) bX6_isSighting_99 rfl rfl
theorem dX6_isSighting_113 : decode cX6_isSighting 113 = .ok (.lcmp, 1) := dk148 (k := 14) bX6_isSighting_99 rfl
theorem dX6_isSighting_114 : decode cX6_isSighting 114 = .ok (.ifCond .gt 7, 3) := dk157 (k := 15) bX6_isSighting_99 rfl (by decide)
theorem dX6_isSighting_117 : decode cX6_isSighting 117 = .ok (.iconst 1, 1) := dk4 (k := 18) bX6_isSighting_99 rfl
theorem dX6_isSighting_118 : decode cX6_isSighting 118 = .ok (.goto 4, 3) := dk167 (k := 19) bX6_isSighting_99 rfl (by decide)
theorem dX6_isSighting_121 : decode cX6_isSighting 121 = .ok (.iconst 0, 1) := dk3 (k := 22) bX6_isSighting_99 rfl
theorem dX6_isSighting_122 : decode cX6_isSighting 122 = .ok (.istore 11, 2) := dk54 (k := 23) bX6_isSighting_99 rfl rfl
theorem bX6_isSighting_124 : bL cX6_isSighting 124 [21, 10, 153, 0, 22, 21, 11, 153, 0, 17, 22, 8, 9, 148, 155, 0, 10, 22, 8, 10, 148, 158, 0, 5] := bL_of (by decide +kernel)
theorem dX6_isSighting_124 : decode cX6_isSighting 124 = .ok (.iload 10, 2) := dk21 (k := 0) bX6_isSighting_124 rfl rfl
theorem dX6_isSighting_126 : decode cX6_isSighting 126 = .ok (.ifCond .eq 22, 3) := dk153 (k := 2) bX6_isSighting_124 rfl (by decide)
theorem dX6_isSighting_129 : decode cX6_isSighting 129 = .ok (.iload 11, 2) := dk21 (k := 5) bX6_isSighting_124 rfl rfl
theorem dX6_isSighting_131 : decode cX6_isSighting 131 = .ok (.ifCond .eq 17, 3) := dk153 (k := 7) bX6_isSighting_124 rfl (by decide)
theorem dX6_isSighting_134 : decode cX6_isSighting 134 = .ok (.lload 8, 2) := dk22 (k := 10) bX6_isSighting_124 rfl rfl
theorem dX6_isSighting_136 : decode cX6_isSighting 136 = .ok (.lconst 0, 1) := dk9 (k := 12) bX6_isSighting_124 rfl
theorem dX6_isSighting_137 : decode cX6_isSighting 137 = .ok (.lcmp, 1) := dk148 (k := 13) bX6_isSighting_124 rfl
theorem dX6_isSighting_138 : decode cX6_isSighting 138 = .ok (.ifCond .lt 10, 3) := dk155 (k := 14) bX6_isSighting_124 rfl (by decide)
theorem dX6_isSighting_141 : decode cX6_isSighting 141 = .ok (.lload 8, 2) := dk22 (k := 17) bX6_isSighting_124 rfl rfl
theorem dX6_isSighting_143 : decode cX6_isSighting 143 = .ok (.lconst 1, 1) := dk10 (k := 19) bX6_isSighting_124 rfl
theorem dX6_isSighting_144 : decode cX6_isSighting 144 = .ok (.lcmp, 1) := dk148 (k := 20) bX6_isSighting_124 rfl
theorem dX6_isSighting_145 : decode cX6_isSighting 145 = .ok (.ifCond .le 5, 3) := dk158 (k := 21) bX6_isSighting_124 rfl (by decide)
theorem bX6_isSighting_148 : bL cX6_isSighting 148 [3, 172, 132, 3, 3, 167, 255, 122, 4, 172] := bL_of (by decide +kernel)
theorem dX6_isSighting_148 : decode cX6_isSighting 148 = .ok (.iconst 0, 1) := dk3 (k := 0) bX6_isSighting_148 rfl
theorem dX6_isSighting_149 : decode cX6_isSighting 149 = .ok (.ireturn, 1) := dk172 (k := 1) bX6_isSighting_148 rfl
theorem dX6_isSighting_150 : decode cX6_isSighting 150 = .ok (.iinc 3 3, 3) := dk132 (k := 2) bX6_isSighting_148 rfl rfl (by decide)
theorem dX6_isSighting_153 : decode cX6_isSighting 153 = .ok (.goto (-134), 3) := dk167 (k := 5) bX6_isSighting_148 rfl (by decide)
theorem dX6_isSighting_156 : decode cX6_isSighting 156 = .ok (.iconst 1, 1) := dk4 (k := 8) bX6_isSighting_148 rfl
theorem dX6_isSighting_157 : decode cX6_isSighting 157 = .ok (.ireturn, 1) := dk172 (k := 9) bX6_isSighting_148 rfl
theorem bX6_countMisses_0 : bL cX6_countMisses 0 [28, 155, 0, 12, 28, 42, 180, 0, 9, 190, 161, 0, 4, 177, 42, 180, 0, 9, 28, 3, 79, 42, 180, 0, 15] := bL_of (by decide +kernel)
theorem dX6_countMisses_0 : decode cX6_countMisses 0 = .ok (.iload_n 2, 1) := dk28 (k := 0) bX6_countMisses_0 rfl
theorem dX6_countMisses_1 : decode cX6_countMisses 1 = .ok (.ifCond .lt 12, 3) := dk155 (k := 1) bX6_countMisses_0 rfl (by decide)
theorem dX6_countMisses_4 : decode cX6_countMisses 4 = .ok (.iload_n 2, 1) := dk28 (k := 4) bX6_countMisses_0 rfl
theorem dX6_countMisses_5 : decode cX6_countMisses 5 = .ok (.aload_n 0, 1) := dk42 (k := 5) bX6_countMisses_0 rfl
theorem dX6_countMisses_6 : decode cX6_countMisses 6 = .ok (.getfield 9, 3) := dk180 (k := 6) bX6_countMisses_0 rfl rfl
theorem dX6_countMisses_9 : decode cX6_countMisses 9 = .ok (.arraylength, 1) := dk190 (k := 9) bX6_countMisses_0 rfl
theorem dX6_countMisses_10 : decode cX6_countMisses 10 = .ok (.if_icmp .lt 4, 3) := dk161 (k := 10) bX6_countMisses_0 rfl (by decide)
theorem dX6_countMisses_13 : decode cX6_countMisses 13 = .ok (.return_, 1) := dk177 (k := 13) bX6_countMisses_0 rfl
theorem dX6_countMisses_14 : decode cX6_countMisses 14 = .ok (.aload_n 0, 1) := dk42 (k := 14) bX6_countMisses_0 rfl
theorem dX6_countMisses_15 : decode cX6_countMisses 15 = .ok (.getfield 9, 3) := dk180 (k := 15) bX6_countMisses_0 rfl rfl
theorem dX6_countMisses_18 : decode cX6_countMisses 18 = .ok (.iload_n 2, 1) := dk28 (k := 18) bX6_countMisses_0 rfl
theorem dX6_countMisses_19 : decode cX6_countMisses 19 = .ok (.iconst 0, 1) := dk3 (k := 19) bX6_countMisses_0 rfl
theorem dX6_countMisses_20 : decode cX6_countMisses 20 = .ok (.iastore, 1) := dk79 (k := 20) bX6_countMisses_0 rfl
theorem dX6_countMisses_21 : decode cX6_countMisses 21 = .ok (.aload_n 0, 1) := dk42 (k := 21) bX6_countMisses_0 rfl
theorem dX6_countMisses_22 : decode cX6_countMisses 22 = .ok (.getfield 15, 3) := dk180 (k := 22) bX6_countMisses_0 rfl rfl
theorem bX6_countMisses_25 : bL cX6_countMisses 25 [28, 2, 79, 3, 62, 29, 42, 180, 0, 55, 162, 0, 97, 42, 180, 0, 25, 27, 6, 29, 104, 182, 0, 82] := bL_of (by decide +kernel)
theorem dX6_countMisses_25 : decode cX6_countMisses 25 = .ok (.iload_n 2, 1) := dk28 (k := 0) bX6_countMisses_25 rfl
theorem dX6_countMisses_26 : decode cX6_countMisses 26 = .ok (.iconst (-1), 1) := dk2 (k := 1) bX6_countMisses_25 rfl
theorem dX6_countMisses_27 : decode cX6_countMisses 27 = .ok (.iastore, 1) := dk79 (k := 2) bX6_countMisses_25 rfl
theorem dX6_countMisses_28 : decode cX6_countMisses 28 = .ok (.iconst 0, 1) := dk3 (k := 3) bX6_countMisses_25 rfl
theorem dX6_countMisses_29 : decode cX6_countMisses 29 = .ok (.istore_n 3, 1) := dk62 (k := 4) bX6_countMisses_25 rfl
theorem dX6_countMisses_30 : decode cX6_countMisses 30 = .ok (.iload_n 3, 1) := dk29 (k := 5) bX6_countMisses_25 rfl
theorem dX6_countMisses_31 : decode cX6_countMisses 31 = .ok (.aload_n 0, 1) := dk42 (k := 6) bX6_countMisses_25 rfl
theorem dX6_countMisses_32 : decode cX6_countMisses 32 = .ok (.getfield 55, 3) := dk180 (k := 7) bX6_countMisses_25 rfl rfl
theorem dX6_countMisses_35 : decode cX6_countMisses 35 = .ok (.if_icmp .ge 97, 3) := dk162 (k := 10) bX6_countMisses_25 rfl (by decide)
theorem dX6_countMisses_38 : decode cX6_countMisses 38 = .ok (.aload_n 0, 1) := dk42 (k := 13) bX6_countMisses_25 rfl
theorem dX6_countMisses_39 : decode cX6_countMisses 39 = .ok (.getfield 25, 3) := dk180 (k := 14) bX6_countMisses_25 rfl rfl
theorem dX6_countMisses_42 : decode cX6_countMisses 42 = .ok (.iload_n 1, 1) := dk27 (k := 17) bX6_countMisses_25 rfl
theorem dX6_countMisses_43 : decode cX6_countMisses 43 = .ok (.iconst 3, 1) := dk6 (k := 18) bX6_countMisses_25 rfl
theorem dX6_countMisses_44 : decode cX6_countMisses 44 = .ok (.iload_n 3, 1) := dk29 (k := 19) bX6_countMisses_25 rfl
theorem dX6_countMisses_45 : decode cX6_countMisses 45 = .ok (.imul, 1) := dk104 (k := 20) bX6_countMisses_25 rfl
theorem dX6_countMisses_46 : decode cX6_countMisses 46 = .ok (.invokevirtual 82, 3) := dk182 (k := 21) bX6_countMisses_25 rfl rfl
theorem bX6_countMisses_49 : bL cX6_countMisses 49 [136, 54, 4, 42, 180, 0, 25, 27, 6, 29, 104, 4, 96, 182, 0, 82, 136, 54, 5, 42, 180, 0, 25, 27] := bL_of (by decide +kernel)
theorem dX6_countMisses_49 : decode cX6_countMisses 49 = .ok (.l2i, 1) := dk136 (k := 0) bX6_countMisses_49 rfl
theorem dX6_countMisses_50 : decode cX6_countMisses 50 = .ok (.istore 4, 2) := dk54 (k := 1) bX6_countMisses_49 rfl rfl
theorem dX6_countMisses_52 : decode cX6_countMisses 52 = .ok (.aload_n 0, 1) := dk42 (k := 3) bX6_countMisses_49 rfl
theorem dX6_countMisses_53 : decode cX6_countMisses 53 = .ok (.getfield 25, 3) := dk180 (k := 4) bX6_countMisses_49 rfl rfl
theorem dX6_countMisses_56 : decode cX6_countMisses 56 = .ok (.iload_n 1, 1) := dk27 (k := 7) bX6_countMisses_49 rfl
theorem dX6_countMisses_57 : decode cX6_countMisses 57 = .ok (.iconst 3, 1) := dk6 (k := 8) bX6_countMisses_49 rfl
theorem dX6_countMisses_58 : decode cX6_countMisses 58 = .ok (.iload_n 3, 1) := dk29 (k := 9) bX6_countMisses_49 rfl
theorem dX6_countMisses_59 : decode cX6_countMisses 59 = .ok (.imul, 1) := dk104 (k := 10) bX6_countMisses_49 rfl
theorem dX6_countMisses_60 : decode cX6_countMisses 60 = .ok (.iconst 1, 1) := dk4 (k := 11) bX6_countMisses_49 rfl
theorem dX6_countMisses_61 : decode cX6_countMisses 61 = .ok (.iadd, 1) := dk96 (k := 12) bX6_countMisses_49 rfl
theorem dX6_countMisses_62 : decode cX6_countMisses 62 = .ok (.invokevirtual 82, 3) := dk182 (k := 13) bX6_countMisses_49 rfl rfl
theorem dX6_countMisses_65 : decode cX6_countMisses 65 = .ok (.l2i, 1) := dk136 (k := 16) bX6_countMisses_49 rfl
theorem dX6_countMisses_66 : decode cX6_countMisses 66 = .ok (.istore 5, 2) := dk54 (k := 17) bX6_countMisses_49 rfl rfl
theorem dX6_countMisses_68 : decode cX6_countMisses 68 = .ok (.aload_n 0, 1) := dk42 (k := 19) bX6_countMisses_49 rfl
theorem dX6_countMisses_69 : decode cX6_countMisses 69 = .ok (.getfield 25, 3) := dk180 (k := 20) bX6_countMisses_49 rfl rfl
theorem dX6_countMisses_72 : decode cX6_countMisses 72 = .ok (.iload_n 1, 1) := dk27 (k := 23) bX6_countMisses_49 rfl
theorem bX6_countMisses_73 : bL cX6_countMisses 73 [6, 29, 104, 5, 96, 182, 0, 82, 10, 148, 154, 0, 7, 4, 167, 0, 4, 3, 54, 6, 42, 180, 0, 29] := bL_of (by decide +kernel)
theorem dX6_countMisses_73 : decode cX6_countMisses 73 = .ok (.iconst 3, 1) := dk6 (k := 0) bX6_countMisses_73 rfl
theorem dX6_countMisses_74 : decode cX6_countMisses 74 = .ok (.iload_n 3, 1) := dk29 (k := 1) bX6_countMisses_73 rfl
theorem dX6_countMisses_75 : decode cX6_countMisses 75 = .ok (.imul, 1) := dk104 (k := 2) bX6_countMisses_73 rfl
theorem dX6_countMisses_76 : decode cX6_countMisses 76 = .ok (.iconst 2, 1) := dk5 (k := 3) bX6_countMisses_73 rfl
theorem dX6_countMisses_77 : decode cX6_countMisses 77 = .ok (.iadd, 1) := dk96 (k := 4) bX6_countMisses_73 rfl
theorem dX6_countMisses_78 : decode cX6_countMisses 78 = .ok (.invokevirtual 82, 3) := dk182 (k := 5) bX6_countMisses_73 rfl rfl
theorem dX6_countMisses_81 : decode cX6_countMisses 81 = .ok (.lconst 1, 1) := dk10 (k := 8) bX6_countMisses_73 rfl
theorem dX6_countMisses_82 : decode cX6_countMisses 82 = .ok (.lcmp, 1) := dk148 (k := 9) bX6_countMisses_73 rfl
theorem dX6_countMisses_83 : decode cX6_countMisses 83 = .ok (.ifCond .ne 7, 3) := dk154 (k := 10) bX6_countMisses_73 rfl (by decide)
theorem dX6_countMisses_86 : decode cX6_countMisses 86 = .ok (.iconst 1, 1) := dk4 (k := 13) bX6_countMisses_73 rfl
theorem dX6_countMisses_87 : decode cX6_countMisses 87 = .ok (.goto 4, 3) := dk167 (k := 14) bX6_countMisses_73 rfl (by decide)
theorem dX6_countMisses_90 : decode cX6_countMisses 90 = .ok (.iconst 0, 1) := dk3 (k := 17) bX6_countMisses_73 rfl
theorem dX6_countMisses_91 : decode cX6_countMisses 91 = .ok (.istore 6, 2) := dk54 (k := 18) bX6_countMisses_73 rfl rfl
theorem dX6_countMisses_93 : decode cX6_countMisses 93 = .ok (.aload_n 0, 1) := dk42 (k := 20) bX6_countMisses_73 rfl
theorem dX6_countMisses_94 : decode cX6_countMisses 94 = .ok (.getfield 29, 3) := dk180 (k := 21) bX6_countMisses_73 rfl rfl
theorem bX6_countMisses_97 : bL cX6_countMisses 97 [21, 4, 21, 5, 182, 0, 93, 21, 6, 159, 0, 20, 42, 180, 0, 9, 28, 92, 46, 4, 96, 79, 42, 180, 0, 15] := bL_of (by decide +kernel)
theorem dX6_countMisses_97 : decode cX6_countMisses 97 = .ok (.iload 4, 2) := dk21 (k := 0) bX6_countMisses_97 rfl rfl
theorem dX6_countMisses_99 : decode cX6_countMisses 99 = .ok (.iload 5, 2) := dk21 (k := 2) bX6_countMisses_97 rfl rfl
theorem dX6_countMisses_101 : decode cX6_countMisses 101 = .ok (.invokevirtual 93, 3) := dk182 (k := 4) bX6_countMisses_97 rfl rfl
theorem dX6_countMisses_104 : decode cX6_countMisses 104 = .ok (.iload 6, 2) := dk21 (k := 7) bX6_countMisses_97 rfl rfl
theorem dX6_countMisses_106 : decode cX6_countMisses 106 = .ok (.if_icmp .eq 20, 3) := dk159 (k := 9) bX6_countMisses_97 rfl (by decide)
theorem dX6_countMisses_109 : decode cX6_countMisses 109 = .ok (.aload_n 0, 1) := dk42 (k := 12) bX6_countMisses_97 rfl
theorem dX6_countMisses_110 : decode cX6_countMisses 110 = .ok (.getfield 9, 3) := dk180 (k := 13) bX6_countMisses_97 rfl rfl
theorem dX6_countMisses_113 : decode cX6_countMisses 113 = .ok (.iload_n 2, 1) := dk28 (k := 16) bX6_countMisses_97 rfl
theorem dX6_countMisses_114 : decode cX6_countMisses 114 = .ok (.dup2, 1) := dk92 (k := 17) bX6_countMisses_97 rfl
theorem dX6_countMisses_115 : decode cX6_countMisses 115 = .ok (.iaload, 1) := dk46 (k := 18) bX6_countMisses_97 rfl
theorem dX6_countMisses_116 : decode cX6_countMisses 116 = .ok (.iconst 1, 1) := dk4 (k := 19) bX6_countMisses_97 rfl
theorem dX6_countMisses_117 : decode cX6_countMisses 117 = .ok (.iadd, 1) := dk96 (k := 20) bX6_countMisses_97 rfl
theorem dX6_countMisses_118 : decode cX6_countMisses 118 = .ok (.iastore, 1) := dk79 (k := 21) bX6_countMisses_97 rfl
theorem dX6_countMisses_119 : decode cX6_countMisses 119 = .ok (.aload_n 0, 1) := dk42 (k := 22) bX6_countMisses_97 rfl
theorem dX6_countMisses_120 : decode cX6_countMisses 120 = .ok (.getfield 15, 3) := dk180 (k := 23) bX6_countMisses_97 rfl rfl
theorem bX6_countMisses_123 : bL cX6_countMisses 123 [28, 29, 79, 132, 3, 1, 167, 255, 157, 177] := bL_of (by decide +kernel)
theorem dX6_countMisses_123 : decode cX6_countMisses 123 = .ok (.iload_n 2, 1) := dk28 (k := 0) bX6_countMisses_123 rfl
theorem dX6_countMisses_124 : decode cX6_countMisses 124 = .ok (.iload_n 3, 1) := dk29 (k := 1) bX6_countMisses_123 rfl
theorem dX6_countMisses_125 : decode cX6_countMisses 125 = .ok (.iastore, 1) := dk79 (k := 2) bX6_countMisses_123 rfl
theorem dX6_countMisses_126 : decode cX6_countMisses 126 = .ok (.iinc 3 1, 3) := dk132 (k := 3) bX6_countMisses_123 rfl rfl (by decide)
theorem dX6_countMisses_129 : decode cX6_countMisses 129 = .ok (.goto (-99), 3) := dk167 (k := 6) bX6_countMisses_123 rfl (by decide)
theorem dX6_countMisses_132 : decode cX6_countMisses 132 = .ok (.return_, 1) := dk177 (k := 9) bX6_countMisses_123 rfl
theorem bX6_hourToMeasure_0 : bL cX6_hourToMeasure 0 [42, 27, 182, 0, 97, 42, 180, 0, 59, 184, 0, 101, 61, 3, 62, 42, 28, 181, 0, 106, 4, 54, 4, 21, 4] := bL_of (by decide +kernel)
theorem dX6_hourToMeasure_0 : decode cX6_hourToMeasure 0 = .ok (.aload_n 0, 1) := dk42 (k := 0) bX6_hourToMeasure_0 rfl
theorem dX6_hourToMeasure_1 : decode cX6_hourToMeasure 1 = .ok (.iload_n 1, 1) := dk27 (k := 1) bX6_hourToMeasure_0 rfl
theorem dX6_hourToMeasure_2 : decode cX6_hourToMeasure 2 = .ok (.invokevirtual 97, 3) := dk182 (k := 2) bX6_hourToMeasure_0 rfl rfl
theorem dX6_hourToMeasure_5 : decode cX6_hourToMeasure 5 = .ok (.aload_n 0, 1) := dk42 (k := 5) bX6_hourToMeasure_0 rfl
theorem dX6_hourToMeasure_6 : decode cX6_hourToMeasure 6 = .ok (.getfield 59, 3) := dk180 (k := 6) bX6_hourToMeasure_0 rfl rfl
theorem dX6_hourToMeasure_9 : decode cX6_hourToMeasure 9 = .ok (.invokestatic 101, 3) := dk184 (k := 9) bX6_hourToMeasure_0 rfl rfl
theorem dX6_hourToMeasure_12 : decode cX6_hourToMeasure 12 = .ok (.istore_n 2, 1) := dk61 (k := 12) bX6_hourToMeasure_0 rfl
theorem dX6_hourToMeasure_13 : decode cX6_hourToMeasure 13 = .ok (.iconst 0, 1) := dk3 (k := 13) bX6_hourToMeasure_0 rfl
theorem dX6_hourToMeasure_14 : decode cX6_hourToMeasure 14 = .ok (.istore_n 3, 1) := dk62 (k := 14) bX6_hourToMeasure_0 rfl
theorem dX6_hourToMeasure_15 : decode cX6_hourToMeasure 15 = .ok (.aload_n 0, 1) := dk42 (k := 15) bX6_hourToMeasure_0 rfl
theorem dX6_hourToMeasure_16 : decode cX6_hourToMeasure 16 = .ok (.iload_n 2, 1) := dk28 (k := 16) bX6_hourToMeasure_0 rfl
theorem dX6_hourToMeasure_17 : decode cX6_hourToMeasure 17 = .ok (.putfield 106, 3) := dk181 (k := 17) bX6_hourToMeasure_0 rfl rfl
theorem dX6_hourToMeasure_20 : decode cX6_hourToMeasure 20 = .ok (.iconst 1, 1) := dk4 (k := 20) bX6_hourToMeasure_0 rfl
theorem dX6_hourToMeasure_21 : decode cX6_hourToMeasure 21 = .ok (.istore 4, 2) := dk54 (k := 21) bX6_hourToMeasure_0 rfl rfl
theorem dX6_hourToMeasure_23 : decode cX6_hourToMeasure 23 = .ok (.iload 4, 2) := dk21 (k := 23) bX6_hourToMeasure_0 rfl rfl
theorem bX6_hourToMeasure_25 : bL cX6_hourToMeasure 25 [42, 180, 0, 18, 190, 162, 0, 48, 42, 180, 0, 18, 21, 4, 46, 28, 42, 180, 0, 18, 21, 4, 46, 100] := bL_of (by decide +kernel)
theorem dX6_hourToMeasure_25 : decode cX6_hourToMeasure 25 = .ok (.aload_n 0, 1) := dk42 (k := 0) bX6_hourToMeasure_25 rfl
theorem dX6_hourToMeasure_26 : decode cX6_hourToMeasure 26 = .ok (.getfield 18, 3) := dk180 (k := 1) bX6_hourToMeasure_25 rfl rfl
theorem dX6_hourToMeasure_29 : decode cX6_hourToMeasure 29 = .ok (.arraylength, 1) := dk190 (k := 4) bX6_hourToMeasure_25 rfl
theorem dX6_hourToMeasure_30 : decode cX6_hourToMeasure 30 = .ok (.if_icmp .ge 48, 3) := dk162 (k := 5) bX6_hourToMeasure_25 rfl (by decide)
theorem dX6_hourToMeasure_33 : decode cX6_hourToMeasure 33 = .ok (.aload_n 0, 1) := dk42 (k := 8) bX6_hourToMeasure_25 rfl
theorem dX6_hourToMeasure_34 : decode cX6_hourToMeasure 34 = .ok (.getfield 18, 3) := dk180 (k := 9) bX6_hourToMeasure_25 rfl rfl
theorem dX6_hourToMeasure_37 : decode cX6_hourToMeasure 37 = .ok (.iload 4, 2) := dk21 (k := 12) bX6_hourToMeasure_25 rfl rfl
theorem dX6_hourToMeasure_39 : decode cX6_hourToMeasure 39 = .ok (.iaload, 1) := dk46 (k := 14) bX6_hourToMeasure_25 rfl
theorem dX6_hourToMeasure_40 : decode cX6_hourToMeasure 40 = .ok (.iload_n 2, 1) := dk28 (k := 15) bX6_hourToMeasure_25 rfl
theorem dX6_hourToMeasure_41 : decode cX6_hourToMeasure 41 = .ok (.aload_n 0, 1) := dk42 (k := 16) bX6_hourToMeasure_25 rfl
theorem dX6_hourToMeasure_42 : decode cX6_hourToMeasure 42 = .ok (.getfield 18, 3) := dk180 (k := 17) bX6_hourToMeasure_25 rfl rfl
theorem dX6_hourToMeasure_45 : decode cX6_hourToMeasure 45 = .ok (.iload 4, 2) := dk21 (k := 20) bX6_hourToMeasure_25 rfl rfl
theorem dX6_hourToMeasure_47 : decode cX6_hourToMeasure 47 = .ok (.iaload, 1) := dk46 (k := 22) bX6_hourToMeasure_25 rfl
theorem dX6_hourToMeasure_48 : decode cX6_hourToMeasure 48 = .ok (.isub, 1) := dk100 (k := 23) bX6_hourToMeasure_25 rfl
theorem bX6_hourToMeasure_49 : bL cX6_hourToMeasure 49 [184, 0, 109, 54, 5, 21, 5, 42, 180, 0, 106, 162, 0, 12, 42, 21, 5, 181, 0, 106, 21, 4, 62, 132, 4, 1] := bL_of (by decide +kernel)
theorem dX6_hourToMeasure_49 : decode cX6_hourToMeasure 49 = .ok (.invokestatic 109, 3) := dk184 (k := 0) bX6_hourToMeasure_49 rfl rfl
theorem dX6_hourToMeasure_52 : decode cX6_hourToMeasure 52 = .ok (.istore 5, 2) := dk54 (k := 3) bX6_hourToMeasure_49 rfl rfl
theorem dX6_hourToMeasure_54 : decode cX6_hourToMeasure 54 = .ok (.iload 5, 2) := dk21 (k := 5) bX6_hourToMeasure_49 rfl rfl
theorem dX6_hourToMeasure_56 : decode cX6_hourToMeasure 56 = .ok (.aload_n 0, 1) := dk42 (k := 7) bX6_hourToMeasure_49 rfl
theorem dX6_hourToMeasure_57 : decode cX6_hourToMeasure 57 = .ok (.getfield 106, 3) := dk180 (k := 8) bX6_hourToMeasure_49 rfl rfl
theorem dX6_hourToMeasure_60 : decode cX6_hourToMeasure 60 = .ok (.if_icmp .ge 12, 3) := dk162 (k := 11) bX6_hourToMeasure_49 rfl (by decide)
theorem dX6_hourToMeasure_63 : decode cX6_hourToMeasure 63 = .ok (.aload_n 0, 1) := dk42 (k := 14) bX6_hourToMeasure_49 rfl
theorem dX6_hourToMeasure_64 : decode cX6_hourToMeasure 64 = .ok (.iload 5, 2) := dk21 (k := 15) bX6_hourToMeasure_49 rfl rfl
theorem dX6_hourToMeasure_66 : decode cX6_hourToMeasure 66 = .ok (.putfield 106, 3) := dk181 (k := 17) bX6_hourToMeasure_49 rfl rfl
theorem dX6_hourToMeasure_69 : decode cX6_hourToMeasure 69 = .ok (.iload 4, 2) := dk21 (k := 20) bX6_hourToMeasure_49 rfl rfl
theorem dX6_hourToMeasure_71 : decode cX6_hourToMeasure 71 = .ok (.istore_n 3, 1) := dk62 (k := 22) bX6_hourToMeasure_49 rfl
theorem dX6_hourToMeasure_72 : decode cX6_hourToMeasure 72 = .ok (.iinc 4 1, 3) := dk132 (k := 23) bX6_hourToMeasure_49 rfl rfl (by decide)
theorem bX6_hourToMeasure_75 : bL cX6_hourToMeasure 75 [167, 255, 204, 29, 172] := bL_of (by decide +kernel)
theorem dX6_hourToMeasure_75 : decode cX6_hourToMeasure 75 = .ok (.goto (-52), 3) := dk167 (k := 0) bX6_hourToMeasure_75 rfl (by decide)
theorem dX6_hourToMeasure_78 : decode cX6_hourToMeasure 78 = .ok (.iload_n 3, 1) := dk29 (k := 3) bX6_hourToMeasure_75 rfl
theorem dX6_hourToMeasure_79 : decode cX6_hourToMeasure 79 = .ok (.ireturn, 1) := dk172 (k := 4) bX6_hourToMeasure_75 rfl
theorem bX6_countShaded_0 : bL cX6_countShaded 0 [3, 61, 28, 42, 180, 0, 18, 190, 162, 0, 16, 42, 180, 0, 18, 28, 3, 79, 132, 2, 1, 167, 255, 237] := bL_of (by decide +kernel)
theorem dX6_countShaded_0 : decode cX6_countShaded 0 = .ok (.iconst 0, 1) := dk3 (k := 0) bX6_countShaded_0 rfl
theorem dX6_countShaded_1 : decode cX6_countShaded 1 = .ok (.istore_n 2, 1) := dk61 (k := 1) bX6_countShaded_0 rfl
theorem dX6_countShaded_2 : decode cX6_countShaded 2 = .ok (.iload_n 2, 1) := dk28 (k := 2) bX6_countShaded_0 rfl
theorem dX6_countShaded_3 : decode cX6_countShaded 3 = .ok (.aload_n 0, 1) := dk42 (k := 3) bX6_countShaded_0 rfl
theorem dX6_countShaded_4 : decode cX6_countShaded 4 = .ok (.getfield 18, 3) := dk180 (k := 4) bX6_countShaded_0 rfl rfl
theorem dX6_countShaded_7 : decode cX6_countShaded 7 = .ok (.arraylength, 1) := dk190 (k := 7) bX6_countShaded_0 rfl
theorem dX6_countShaded_8 : decode cX6_countShaded 8 = .ok (.if_icmp .ge 16, 3) := dk162 (k := 8) bX6_countShaded_0 rfl (by decide)
theorem dX6_countShaded_11 : decode cX6_countShaded 11 = .ok (.aload_n 0, 1) := dk42 (k := 11) bX6_countShaded_0 rfl
theorem dX6_countShaded_12 : decode cX6_countShaded 12 = .ok (.getfield 18, 3) := dk180 (k := 12) bX6_countShaded_0 rfl rfl
theorem dX6_countShaded_15 : decode cX6_countShaded 15 = .ok (.iload_n 2, 1) := dk28 (k := 15) bX6_countShaded_0 rfl
theorem dX6_countShaded_16 : decode cX6_countShaded 16 = .ok (.iconst 0, 1) := dk3 (k := 16) bX6_countShaded_0 rfl
theorem dX6_countShaded_17 : decode cX6_countShaded 17 = .ok (.iastore, 1) := dk79 (k := 17) bX6_countShaded_0 rfl
theorem dX6_countShaded_18 : decode cX6_countShaded 18 = .ok (.iinc 2 1, 3) := dk132 (k := 18) bX6_countShaded_0 rfl rfl (by decide)
theorem dX6_countShaded_21 : decode cX6_countShaded 21 = .ok (.goto (-19), 3) := dk167 (k := 21) bX6_countShaded_0 rfl (by decide)
theorem bX6_countShaded_24 : bL cX6_countShaded 24 [42, 180, 0, 29, 42, 180, 0, 21, 180, 0, 62, 182, 0, 65, 42, 180, 0, 29, 182, 0, 71, 61, 3, 62] := bL_of (by decide +kernel)
theorem dX6_countShaded_24 : decode cX6_countShaded 24 = .ok (.aload_n 0, 1) := dk42 (k := 0) bX6_countShaded_24 rfl
theorem dX6_countShaded_25 : decode cX6_countShaded 25 = .ok (.getfield 29, 3) := dk180 (k := 1) bX6_countShaded_24 rfl rfl
theorem dX6_countShaded_28 : decode cX6_countShaded 28 = .ok (.aload_n 0, 1) := dk42 (k := 4) bX6_countShaded_24 rfl
theorem dX6_countShaded_29 : decode cX6_countShaded 29 = .ok (.getfield 21, 3) := dk180 (k := 5) bX6_countShaded_24 rfl rfl
theorem dX6_countShaded_32 : decode cX6_countShaded 32 = .ok (.getfield 62, 3) := dk180 (k := 8) bX6_countShaded_24 rfl rfl
theorem dX6_countShaded_35 : decode cX6_countShaded 35 = .ok (.invokevirtual 65, 3) := dk182 (k := 11) bX6_countShaded_24 rfl rfl
theorem dX6_countShaded_38 : decode cX6_countShaded 38 = .ok (.aload_n 0, 1) := dk42 (k := 14) bX6_countShaded_24 rfl
theorem dX6_countShaded_39 : decode cX6_countShaded 39 = .ok (.getfield 29, 3) := dk180 (k := 15) bX6_countShaded_24 rfl rfl
theorem dX6_countShaded_42 : decode cX6_countShaded 42 = .ok (.invokevirtual 71, 3) := dk182 (k := 18) bX6_countShaded_24 rfl rfl
theorem dX6_countShaded_45 : decode cX6_countShaded 45 = .ok (.istore_n 2, 1) := dk61 (k := 21) bX6_countShaded_24 rfl
theorem dX6_countShaded_46 : decode cX6_countShaded 46 = .ok (.iconst 0, 1) := dk3 (k := 22) bX6_countShaded_24 rfl
theorem dX6_countShaded_47 : decode cX6_countShaded 47 = .ok (.istore_n 3, 1) := dk62 (k := 23) bX6_countShaded_24 rfl
theorem bX6_countShaded_48 : bL cX6_countShaded 48 [29, 16, 20, 163, 0, 59, 42, 180, 0, 59, 29, 122, 4, 126, 4, 160, 0, 32, 42, 42, 180, 0, 29, 27] := bL_of (by decide +kernel)
theorem dX6_countShaded_48 : decode cX6_countShaded 48 = .ok (.iload_n 3, 1) := dk29 (k := 0) bX6_countShaded_48 rfl
theorem dX6_countShaded_49 : decode cX6_countShaded 49 = .ok (.bipush 20, 2) := dk16 (k := 1) bX6_countShaded_48 rfl (by decide)
theorem dX6_countShaded_51 : decode cX6_countShaded 51 = .ok (.if_icmp .gt 59, 3) := dk163 (k := 3) bX6_countShaded_48 rfl (by decide)
theorem dX6_countShaded_54 : decode cX6_countShaded 54 = .ok (.aload_n 0, 1) := dk42 (k := 6) bX6_countShaded_48 rfl
theorem dX6_countShaded_55 : decode cX6_countShaded 55 = .ok (.getfield 59, 3) := dk180 (k := 7) bX6_countShaded_48 rfl rfl
theorem dX6_countShaded_58 : decode cX6_countShaded 58 = .ok (.iload_n 3, 1) := dk29 (k := 10) bX6_countShaded_48 rfl
theorem dX6_countShaded_59 : decode cX6_countShaded 59 = .ok (.ishr, 1) := dk122 (k := 11) bX6_countShaded_48 rfl
theorem dX6_countShaded_60 : decode cX6_countShaded 60 = .ok (.iconst 1, 1) := dk4 (k := 12) bX6_countShaded_48 rfl
theorem dX6_countShaded_61 : decode cX6_countShaded 61 = .ok (.iand, 1) := dk126 (k := 13) bX6_countShaded_48 rfl
theorem dX6_countShaded_62 : decode cX6_countShaded 62 = .ok (.iconst 1, 1) := dk4 (k := 14) bX6_countShaded_48 rfl
theorem dX6_countShaded_63 : decode cX6_countShaded 63 = .ok (.if_icmp .ne 32, 3) := dk160 (k := 15) bX6_countShaded_48 rfl (by decide)
theorem dX6_countShaded_66 : decode cX6_countShaded 66 = .ok (.aload_n 0, 1) := dk42 (k := 18) bX6_countShaded_48 rfl
theorem dX6_countShaded_67 : decode cX6_countShaded 67 = .ok (.aload_n 0, 1) := dk42 (k := 19) bX6_countShaded_48 rfl
theorem dX6_countShaded_68 : decode cX6_countShaded 68 = .ok (.getfield 29, 3) := dk180 (k := 20) bX6_countShaded_48 rfl rfl
theorem dX6_countShaded_71 : decode cX6_countShaded 71 = .ok (.iload_n 1, 1) := dk27 (k := 23) bX6_countShaded_48 rfl
theorem bX6_countShaded_72 : bL cX6_countShaded 72 [2, 182, 0, 115, 3, 182, 0, 118, 42, 42, 180, 0, 29, 27, 4, 182, 0, 115, 16, 9, 182, 0, 118, 42] := bL_of (by decide +kernel)
theorem dX6_countShaded_72 : decode cX6_countShaded 72 = .ok (.iconst (-1), 1) := dk2 (k := 0) bX6_countShaded_72 rfl
theorem dX6_countShaded_73 : decode cX6_countShaded 73 = .ok (.invokevirtual 115, 3) := dk182 (k := 1) bX6_countShaded_72 rfl rfl
theorem dX6_countShaded_76 : decode cX6_countShaded 76 = .ok (.iconst 0, 1) := dk3 (k := 4) bX6_countShaded_72 rfl
theorem dX6_countShaded_77 : decode cX6_countShaded 77 = .ok (.invokevirtual 118, 3) := dk182 (k := 5) bX6_countShaded_72 rfl rfl
theorem dX6_countShaded_80 : decode cX6_countShaded 80 = .ok (.aload_n 0, 1) := dk42 (k := 8) bX6_countShaded_72 rfl
theorem dX6_countShaded_81 : decode cX6_countShaded 81 = .ok (.aload_n 0, 1) := dk42 (k := 9) bX6_countShaded_72 rfl
theorem dX6_countShaded_82 : decode cX6_countShaded 82 = .ok (.getfield 29, 3) := dk180 (k := 10) bX6_countShaded_72 rfl rfl
theorem dX6_countShaded_85 : decode cX6_countShaded 85 = .ok (.iload_n 1, 1) := dk27 (k := 13) bX6_countShaded_72 rfl
theorem dX6_countShaded_86 : decode cX6_countShaded 86 = .ok (.iconst 1, 1) := dk4 (k := 14) bX6_countShaded_72 rfl
theorem dX6_countShaded_87 : decode cX6_countShaded 87 = .ok (.invokevirtual 115, 3) := dk182 (k := 15) bX6_countShaded_72 rfl rfl
theorem dX6_countShaded_90 : decode cX6_countShaded 90 = .ok (.bipush 9, 2) := dk16 (k := 18) bX6_countShaded_72 rfl (by decide)
theorem dX6_countShaded_92 : decode cX6_countShaded 92 = .ok (.invokevirtual 118, 3) := dk182 (k := 20) bX6_countShaded_72 rfl rfl
theorem dX6_countShaded_95 : decode cX6_countShaded 95 = .ok (.aload_n 0, 1) := dk42 (k := 23) bX6_countShaded_72 rfl
theorem bX6_countShaded_96 : bL cX6_countShaded 96 [180, 0, 29, 28, 4, 182, 0, 79, 132, 3, 1, 167, 255, 197, 177] := bL_of (by decide +kernel)
theorem dX6_countShaded_96 : decode cX6_countShaded 96 = .ok (.getfield 29, 3) := dk180 (k := 0) bX6_countShaded_96 rfl rfl
theorem dX6_countShaded_99 : decode cX6_countShaded 99 = .ok (.iload_n 2, 1) := dk28 (k := 3) bX6_countShaded_96 rfl
theorem dX6_countShaded_100 : decode cX6_countShaded 100 = .ok (.iconst 1, 1) := dk4 (k := 4) bX6_countShaded_96 rfl
theorem dX6_countShaded_101 : decode cX6_countShaded 101 = .ok (.invokevirtual 79, 3) := dk182 (k := 5) bX6_countShaded_96 rfl rfl
theorem dX6_countShaded_104 : decode cX6_countShaded 104 = .ok (.iinc 3 1, 3) := dk132 (k := 8) bX6_countShaded_96 rfl rfl (by decide)
theorem dX6_countShaded_107 : decode cX6_countShaded 107 = .ok (.goto (-59), 3) := dk167 (k := 11) bX6_countShaded_96 rfl (by decide)
theorem dX6_countShaded_110 : decode cX6_countShaded 110 = .ok (.return_, 1) := dk177 (k := 14) bX6_countShaded_96 rfl
theorem bX6_addShaded_0 : bL cX6_addShaded 0 [28, 4, 96, 62, 29, 28, 27, 96, 163, 0, 32, 29, 155, 0, 22, 29, 42, 180, 0, 18, 190, 162, 0, 13] := bL_of (by decide +kernel)
theorem dX6_addShaded_0 : decode cX6_addShaded 0 = .ok (.iload_n 2, 1) := dk28 (k := 0) bX6_addShaded_0 rfl
theorem dX6_addShaded_1 : decode cX6_addShaded 1 = .ok (.iconst 1, 1) := dk4 (k := 1) bX6_addShaded_0 rfl
theorem dX6_addShaded_2 : decode cX6_addShaded 2 = .ok (.iadd, 1) := dk96 (k := 2) bX6_addShaded_0 rfl
theorem dX6_addShaded_3 : decode cX6_addShaded 3 = .ok (.istore_n 3, 1) := dk62 (k := 3) bX6_addShaded_0 rfl
theorem dX6_addShaded_4 : decode cX6_addShaded 4 = .ok (.iload_n 3, 1) := dk29 (k := 4) bX6_addShaded_0 rfl
theorem dX6_addShaded_5 : decode cX6_addShaded 5 = .ok (.iload_n 2, 1) := dk28 (k := 5) bX6_addShaded_0 rfl
theorem dX6_addShaded_6 : decode cX6_addShaded 6 = .ok (.iload_n 1, 1) := dk27 (k := 6) bX6_addShaded_0 rfl
theorem dX6_addShaded_7 : decode cX6_addShaded 7 = .ok (.iadd, 1) := dk96 (k := 7) bX6_addShaded_0 rfl
theorem dX6_addShaded_8 : decode cX6_addShaded 8 = .ok (.if_icmp .gt 32, 3) := dk163 (k := 8) bX6_addShaded_0 rfl (by decide)
theorem dX6_addShaded_11 : decode cX6_addShaded 11 = .ok (.iload_n 3, 1) := dk29 (k := 11) bX6_addShaded_0 rfl
theorem dX6_addShaded_12 : decode cX6_addShaded 12 = .ok (.ifCond .lt 22, 3) := dk155 (k := 12) bX6_addShaded_0 rfl (by decide)
theorem dX6_addShaded_15 : decode cX6_addShaded 15 = .ok (.iload_n 3, 1) := dk29 (k := 15) bX6_addShaded_0 rfl
theorem dX6_addShaded_16 : decode cX6_addShaded 16 = .ok (.aload_n 0, 1) := dk42 (k := 16) bX6_addShaded_0 rfl
theorem dX6_addShaded_17 : decode cX6_addShaded 17 = .ok (.getfield 18, 3) := dk180 (k := 17) bX6_addShaded_0 rfl rfl
theorem dX6_addShaded_20 : decode cX6_addShaded 20 = .ok (.arraylength, 1) := dk190 (k := 20) bX6_addShaded_0 rfl
theorem dX6_addShaded_21 : decode cX6_addShaded 21 = .ok (.if_icmp .ge 13, 3) := dk162 (k := 21) bX6_addShaded_0 rfl (by decide)
theorem bX6_addShaded_24 : bL cX6_addShaded 24 [42, 180, 0, 18, 29, 92, 46, 4, 96, 79, 132, 3, 1, 167, 255, 223, 177] := bL_of (by decide +kernel)
theorem dX6_addShaded_24 : decode cX6_addShaded 24 = .ok (.aload_n 0, 1) := dk42 (k := 0) bX6_addShaded_24 rfl
theorem dX6_addShaded_25 : decode cX6_addShaded 25 = .ok (.getfield 18, 3) := dk180 (k := 1) bX6_addShaded_24 rfl rfl
theorem dX6_addShaded_28 : decode cX6_addShaded 28 = .ok (.iload_n 3, 1) := dk29 (k := 4) bX6_addShaded_24 rfl
theorem dX6_addShaded_29 : decode cX6_addShaded 29 = .ok (.dup2, 1) := dk92 (k := 5) bX6_addShaded_24 rfl
theorem dX6_addShaded_30 : decode cX6_addShaded 30 = .ok (.iaload, 1) := dk46 (k := 6) bX6_addShaded_24 rfl
theorem dX6_addShaded_31 : decode cX6_addShaded 31 = .ok (.iconst 1, 1) := dk4 (k := 7) bX6_addShaded_24 rfl
theorem dX6_addShaded_32 : decode cX6_addShaded 32 = .ok (.iadd, 1) := dk96 (k := 8) bX6_addShaded_24 rfl
theorem dX6_addShaded_33 : decode cX6_addShaded 33 = .ok (.iastore, 1) := dk79 (k := 9) bX6_addShaded_24 rfl
theorem dX6_addShaded_34 : decode cX6_addShaded 34 = .ok (.iinc 3 1, 3) := dk132 (k := 10) bX6_addShaded_24 rfl rfl (by decide)
theorem dX6_addShaded_37 : decode cX6_addShaded 37 = .ok (.goto (-33), 3) := dk167 (k := 13) bX6_addShaded_24 rfl (by decide)
theorem dX6_addShaded_40 : decode cX6_addShaded 40 = .ok (.return_, 1) := dk177 (k := 16) bX6_addShaded_24 rfl
theorem bX6_doubtful_0 : bL cX6_doubtful 0 [42, 180, 0, 59, 153, 0, 8, 42, 180, 0, 55, 172, 3, 60, 3, 61, 28, 42, 180, 0, 55, 162, 0, 20] := bL_of (by decide +kernel)
theorem dX6_doubtful_0 : decode cX6_doubtful 0 = .ok (.aload_n 0, 1) := dk42 (k := 0) bX6_doubtful_0 rfl
theorem dX6_doubtful_1 : decode cX6_doubtful 1 = .ok (.getfield 59, 3) := dk180 (k := 1) bX6_doubtful_0 rfl rfl
theorem dX6_doubtful_4 : decode cX6_doubtful 4 = .ok (.ifCond .eq 8, 3) := dk153 (k := 4) bX6_doubtful_0 rfl (by decide)
theorem dX6_doubtful_7 : decode cX6_doubtful 7 = .ok (.aload_n 0, 1) := dk42 (k := 7) bX6_doubtful_0 rfl
theorem dX6_doubtful_8 : decode cX6_doubtful 8 = .ok (.getfield 55, 3) := dk180 (k := 8) bX6_doubtful_0 rfl rfl
theorem dX6_doubtful_11 : decode cX6_doubtful 11 = .ok (.ireturn, 1) := dk172 (k := 11) bX6_doubtful_0 rfl
theorem dX6_doubtful_12 : decode cX6_doubtful 12 = .ok (.iconst 0, 1) := dk3 (k := 12) bX6_doubtful_0 rfl
theorem dX6_doubtful_13 : decode cX6_doubtful 13 = .ok (.istore_n 1, 1) := dk60 (k := 13) bX6_doubtful_0 rfl
theorem dX6_doubtful_14 : decode cX6_doubtful 14 = .ok (.iconst 0, 1) := dk3 (k := 14) bX6_doubtful_0 rfl
theorem dX6_doubtful_15 : decode cX6_doubtful 15 = .ok (.istore_n 2, 1) := dk61 (k := 15) bX6_doubtful_0 rfl
theorem dX6_doubtful_16 : decode cX6_doubtful 16 = .ok (.iload_n 2, 1) := dk28 (k := 16) bX6_doubtful_0 rfl
theorem dX6_doubtful_17 : decode cX6_doubtful 17 = .ok (.aload_n 0, 1) := dk42 (k := 17) bX6_doubtful_0 rfl
theorem dX6_doubtful_18 : decode cX6_doubtful 18 = .ok (.getfield 55, 3) := dk180 (k := 18) bX6_doubtful_0 rfl rfl
theorem dX6_doubtful_21 : decode cX6_doubtful 21 = .ok (.if_icmp .ge 20, 3) := dk162 (k := 21) bX6_doubtful_0 rfl (by decide)
theorem bX6_doubtful_24 : bL cX6_doubtful 24 [42, 28, 182, 0, 121, 153, 0, 6, 132, 1, 1, 132, 2, 1, 167, 255, 234, 27, 172] := bL_of (by decide +kernel)
theorem dX6_doubtful_24 : decode cX6_doubtful 24 = .ok (.aload_n 0, 1) := dk42 (k := 0) bX6_doubtful_24 rfl
theorem dX6_doubtful_25 : decode cX6_doubtful 25 = .ok (.iload_n 2, 1) := dk28 (k := 1) bX6_doubtful_24 rfl
theorem dX6_doubtful_26 : decode cX6_doubtful 26 = .ok (.invokevirtual 121, 3) := dk182 (k := 2) bX6_doubtful_24 rfl rfl
theorem dX6_doubtful_29 : decode cX6_doubtful 29 = .ok (.ifCond .eq 6, 3) := dk153 (k := 5) bX6_doubtful_24 rfl (by decide)
theorem dX6_doubtful_32 : decode cX6_doubtful 32 = .ok (.iinc 1 1, 3) := dk132 (k := 8) bX6_doubtful_24 rfl rfl (by decide)
theorem dX6_doubtful_35 : decode cX6_doubtful 35 = .ok (.iinc 2 1, 3) := dk132 (k := 11) bX6_doubtful_24 rfl rfl (by decide)
theorem dX6_doubtful_38 : decode cX6_doubtful 38 = .ok (.goto (-22), 3) := dk167 (k := 14) bX6_doubtful_24 rfl (by decide)
theorem dX6_doubtful_41 : decode cX6_doubtful 41 = .ok (.iload_n 1, 1) := dk27 (k := 17) bX6_doubtful_24 rfl
theorem dX6_doubtful_42 : decode cX6_doubtful 42 = .ok (.ireturn, 1) := dk172 (k := 18) bX6_doubtful_24 rfl
theorem bX6_isOnlyMiss_0 : bL cX6_isOnlyMiss 0 [3, 61, 28, 16, 20, 163, 0, 31, 42, 180, 0, 9, 28, 46, 4, 160, 0, 15, 42, 180, 0, 15, 28, 46] := bL_of (by decide +kernel)
theorem dX6_isOnlyMiss_0 : decode cX6_isOnlyMiss 0 = .ok (.iconst 0, 1) := dk3 (k := 0) bX6_isOnlyMiss_0 rfl
theorem dX6_isOnlyMiss_1 : decode cX6_isOnlyMiss 1 = .ok (.istore_n 2, 1) := dk61 (k := 1) bX6_isOnlyMiss_0 rfl
theorem dX6_isOnlyMiss_2 : decode cX6_isOnlyMiss 2 = .ok (.iload_n 2, 1) := dk28 (k := 2) bX6_isOnlyMiss_0 rfl
theorem dX6_isOnlyMiss_3 : decode cX6_isOnlyMiss 3 = .ok (.bipush 20, 2) := dk16 (k := 3) bX6_isOnlyMiss_0 rfl (by decide)
theorem dX6_isOnlyMiss_5 : decode cX6_isOnlyMiss 5 = .ok (.if_icmp .gt 31, 3) := dk163 (k := 5) bX6_isOnlyMiss_0 rfl (by decide)
theorem dX6_isOnlyMiss_8 : decode cX6_isOnlyMiss 8 = .ok (.aload_n 0, 1) := dk42 (k := 8) bX6_isOnlyMiss_0 rfl
theorem dX6_isOnlyMiss_9 : decode cX6_isOnlyMiss 9 = .ok (.getfield 9, 3) := dk180 (k := 9) bX6_isOnlyMiss_0 rfl rfl
theorem dX6_isOnlyMiss_12 : decode cX6_isOnlyMiss 12 = .ok (.iload_n 2, 1) := dk28 (k := 12) bX6_isOnlyMiss_0 rfl
theorem dX6_isOnlyMiss_13 : decode cX6_isOnlyMiss 13 = .ok (.iaload, 1) := dk46 (k := 13) bX6_isOnlyMiss_0 rfl
theorem dX6_isOnlyMiss_14 : decode cX6_isOnlyMiss 14 = .ok (.iconst 1, 1) := dk4 (k := 14) bX6_isOnlyMiss_0 rfl
theorem dX6_isOnlyMiss_15 : decode cX6_isOnlyMiss 15 = .ok (.if_icmp .ne 15, 3) := dk160 (k := 15) bX6_isOnlyMiss_0 rfl (by decide)
theorem dX6_isOnlyMiss_18 : decode cX6_isOnlyMiss 18 = .ok (.aload_n 0, 1) := dk42 (k := 18) bX6_isOnlyMiss_0 rfl
theorem dX6_isOnlyMiss_19 : decode cX6_isOnlyMiss 19 = .ok (.getfield 15, 3) := dk180 (k := 19) bX6_isOnlyMiss_0 rfl rfl
theorem dX6_isOnlyMiss_22 : decode cX6_isOnlyMiss 22 = .ok (.iload_n 2, 1) := dk28 (k := 22) bX6_isOnlyMiss_0 rfl
theorem dX6_isOnlyMiss_23 : decode cX6_isOnlyMiss 23 = .ok (.iaload, 1) := dk46 (k := 23) bX6_isOnlyMiss_0 rfl
theorem bX6_isOnlyMiss_24 : bL cX6_isOnlyMiss 24 [27, 160, 0, 5, 4, 172, 132, 2, 1, 167, 255, 225, 3, 172] := bL_of (by decide +kernel)
theorem dX6_isOnlyMiss_24 : decode cX6_isOnlyMiss 24 = .ok (.iload_n 1, 1) := dk27 (k := 0) bX6_isOnlyMiss_24 rfl
theorem dX6_isOnlyMiss_25 : decode cX6_isOnlyMiss 25 = .ok (.if_icmp .ne 5, 3) := dk160 (k := 1) bX6_isOnlyMiss_24 rfl (by decide)
theorem dX6_isOnlyMiss_28 : decode cX6_isOnlyMiss 28 = .ok (.iconst 1, 1) := dk4 (k := 4) bX6_isOnlyMiss_24 rfl
theorem dX6_isOnlyMiss_29 : decode cX6_isOnlyMiss 29 = .ok (.ireturn, 1) := dk172 (k := 5) bX6_isOnlyMiss_24 rfl
theorem dX6_isOnlyMiss_30 : decode cX6_isOnlyMiss 30 = .ok (.iinc 2 1, 3) := dk132 (k := 6) bX6_isOnlyMiss_24 rfl rfl (by decide)
theorem dX6_isOnlyMiss_33 : decode cX6_isOnlyMiss 33 = .ok (.goto (-31), 3) := dk167 (k := 9) bX6_isOnlyMiss_24 rfl (by decide)
theorem dX6_isOnlyMiss_36 : decode cX6_isOnlyMiss 36 = .ok (.iconst 0, 1) := dk3 (k := 12) bX6_isOnlyMiss_24 rfl
theorem dX6_isOnlyMiss_37 : decode cX6_isOnlyMiss 37 = .ok (.ireturn, 1) := dk172 (k := 13) bX6_isOnlyMiss_24 rfl
theorem bX7_init_0 : bL cX7_init 0 [42, 183, 0, 3, 42, 16, 80] := bL_of (by decide +kernel)
theorem dX7_init_0 : decode cX7_init 0 = .ok (.aload_n 0, 1) := dk42 (k := 0) bX7_init_0 rfl
theorem dX7_init_1 : decode cX7_init 1 = .ok (.invokespecial 3, 3) := dk183 (k := 1) bX7_init_0 rfl rfl
theorem dX7_init_4 : decode cX7_init 4 = .ok (.aload_n 0, 1) := dk42 (k := 4) bX7_init_0 rfl
theorem dX7_init_5 : decode cX7_init 5 = .ok (.bipush 80, 2) := dk16 (k := 5) bX7_init_0 rfl (by decide)
theorem dX7_init_7 : decode cX7_init 7 = .ok (.newarray .int, 2) := by decide +kernel
theorem bX7_init_9 : bL cX7_init 9 [181, 0, 9, 42, 6] := bL_of (by decide +kernel)
theorem dX7_init_9 : decode cX7_init 9 = .ok (.putfield 9, 3) := dk181 (k := 0) bX7_init_9 rfl rfl
theorem dX7_init_12 : decode cX7_init 12 = .ok (.aload_n 0, 1) := dk42 (k := 3) bX7_init_9 rfl
theorem dX7_init_13 : decode cX7_init 13 = .ok (.iconst 3, 1) := dk6 (k := 4) bX7_init_9 rfl
theorem dX7_init_14 : decode cX7_init 14 = .ok (.newarray .int, 2) := by decide +kernel
theorem bX7_init_16 : bL cX7_init 16 [181, 0, 15, 42, 6] := bL_of (by decide +kernel)
theorem dX7_init_16 : decode cX7_init 16 = .ok (.putfield 15, 3) := dk181 (k := 0) bX7_init_16 rfl rfl
theorem dX7_init_19 : decode cX7_init 19 = .ok (.aload_n 0, 1) := dk42 (k := 3) bX7_init_16 rfl
theorem dX7_init_20 : decode cX7_init 20 = .ok (.iconst 3, 1) := dk6 (k := 4) bX7_init_16 rfl
theorem dX7_init_21 : decode cX7_init 21 = .ok (.newarray .int, 2) := by decide +kernel
theorem bX7_init_23 : bL cX7_init 23 [181, 0, 18, 42, 43, 181, 0, 21, 42, 44, 181, 0, 25, 177] := bL_of (by decide +kernel)
theorem dX7_init_23 : decode cX7_init 23 = .ok (.putfield 18, 3) := dk181 (k := 0) bX7_init_23 rfl rfl
theorem dX7_init_26 : decode cX7_init 26 = .ok (.aload_n 0, 1) := dk42 (k := 3) bX7_init_23 rfl
theorem dX7_init_27 : decode cX7_init 27 = .ok (.aload_n 1, 1) := dk43 (k := 4) bX7_init_23 rfl
theorem dX7_init_28 : decode cX7_init 28 = .ok (.putfield 21, 3) := dk181 (k := 5) bX7_init_23 rfl rfl
theorem dX7_init_31 : decode cX7_init 31 = .ok (.aload_n 0, 1) := dk42 (k := 8) bX7_init_23 rfl
theorem dX7_init_32 : decode cX7_init 32 = .ok (.aload_n 2, 1) := dk44 (k := 9) bX7_init_23 rfl
theorem dX7_init_33 : decode cX7_init 33 = .ok (.putfield 25, 3) := dk181 (k := 10) bX7_init_23 rfl rfl
theorem dX7_init_36 : decode cX7_init 36 = .ok (.return_, 1) := dk177 (k := 13) bX7_init_23 rfl
theorem bX7_weighCells_0 : bL cX7_weighCells 0 [42, 180, 0, 25, 42, 180, 0, 21, 180, 0, 29, 182, 0, 34, 3, 60, 27, 42, 180, 0, 25, 180, 0, 40] := bL_of (by decide +kernel)
theorem dX7_weighCells_0 : decode cX7_weighCells 0 = .ok (.aload_n 0, 1) := dk42 (k := 0) bX7_weighCells_0 rfl
theorem dX7_weighCells_1 : decode cX7_weighCells 1 = .ok (.getfield 25, 3) := dk180 (k := 1) bX7_weighCells_0 rfl rfl
theorem dX7_weighCells_4 : decode cX7_weighCells 4 = .ok (.aload_n 0, 1) := dk42 (k := 4) bX7_weighCells_0 rfl
theorem dX7_weighCells_5 : decode cX7_weighCells 5 = .ok (.getfield 21, 3) := dk180 (k := 5) bX7_weighCells_0 rfl rfl
theorem dX7_weighCells_8 : decode cX7_weighCells 8 = .ok (.getfield 29, 3) := dk180 (k := 8) bX7_weighCells_0 rfl rfl
theorem dX7_weighCells_11 : decode cX7_weighCells 11 = .ok (.invokevirtual 34, 3) := dk182 (k := 11) bX7_weighCells_0 rfl rfl
theorem dX7_weighCells_14 : decode cX7_weighCells 14 = .ok (.iconst 0, 1) := dk3 (k := 14) bX7_weighCells_0 rfl
theorem dX7_weighCells_15 : decode cX7_weighCells 15 = .ok (.istore_n 1, 1) := dk60 (k := 15) bX7_weighCells_0 rfl
theorem dX7_weighCells_16 : decode cX7_weighCells 16 = .ok (.iload_n 1, 1) := dk27 (k := 16) bX7_weighCells_0 rfl
theorem dX7_weighCells_17 : decode cX7_weighCells 17 = .ok (.aload_n 0, 1) := dk42 (k := 17) bX7_weighCells_0 rfl
theorem dX7_weighCells_18 : decode cX7_weighCells 18 = .ok (.getfield 25, 3) := dk180 (k := 18) bX7_weighCells_0 rfl rfl
theorem dX7_weighCells_21 : decode cX7_weighCells 21 = .ok (.getfield 40, 3) := dk180 (k := 21) bX7_weighCells_0 rfl rfl
theorem bX7_weighCells_24 : bL cX7_weighCells 24 [162, 0, 60, 42, 180, 0, 25, 27, 182, 0, 44, 158, 0, 43] := bL_of (by decide +kernel)
theorem dX7_weighCells_24 : decode cX7_weighCells 24 = .ok (.if_icmp .ge 60, 3) := dk162 (k := 0) bX7_weighCells_24 rfl (by decide)
theorem dX7_weighCells_27 : decode cX7_weighCells 27 = .ok (.aload_n 0, 1) := dk42 (k := 3) bX7_weighCells_24 rfl
theorem dX7_weighCells_28 : decode cX7_weighCells 28 = .ok (.getfield 25, 3) := dk180 (k := 4) bX7_weighCells_24 rfl rfl
theorem dX7_weighCells_31 : decode cX7_weighCells 31 = .ok (.iload_n 1, 1) := dk27 (k := 7) bX7_weighCells_24 rfl
theorem dX7_weighCells_32 : decode cX7_weighCells 32 = .ok (.invokevirtual 44, 3) := dk182 (k := 8) bX7_weighCells_24 rfl rfl
theorem dX7_weighCells_35 : decode cX7_weighCells 35 = .ok (.ifCond .le 43, 3) := dk158 (k := 11) bX7_weighCells_24 rfl (by decide)
