theorem bX7_weighCells_38 : bL cX7_weighCells 38 [42, 180, 0, 25, 27, 2, 182, 0, 48, 42, 180, 0, 21, 180, 0, 52, 42, 180, 0, 25, 42, 180, 0, 9] := bL_of (by decide +kernel)
theorem dX7_weighCells_38 : decode cX7_weighCells 38 = .ok (.aload_n 0, 1) := dk42 (k := 0) bX7_weighCells_38 rfl
theorem dX7_weighCells_39 : decode cX7_weighCells 39 = .ok (.getfield 25, 3) := dk180 (k := 1) bX7_weighCells_38 rfl rfl
theorem dX7_weighCells_42 : decode cX7_weighCells 42 = .ok (.iload_n 1, 1) := dk27 (k := 4) bX7_weighCells_38 rfl
theorem dX7_weighCells_43 : decode cX7_weighCells 43 = .ok (.iconst (-1), 1) := dk2 (k := 5) bX7_weighCells_38 rfl
theorem dX7_weighCells_44 : decode cX7_weighCells 44 = .ok (.invokevirtual 48, 3) := dk182 (k := 6) bX7_weighCells_38 rfl rfl
theorem dX7_weighCells_47 : decode cX7_weighCells 47 = .ok (.aload_n 0, 1) := dk42 (k := 9) bX7_weighCells_38 rfl
theorem dX7_weighCells_48 : decode cX7_weighCells 48 = .ok (.getfield 21, 3) := dk180 (k := 10) bX7_weighCells_38 rfl rfl
theorem dX7_weighCells_51 : decode cX7_weighCells 51 = .ok (.getfield 52, 3) := dk180 (k := 13) bX7_weighCells_38 rfl rfl
theorem dX7_weighCells_54 : decode cX7_weighCells 54 = .ok (.aload_n 0, 1) := dk42 (k := 16) bX7_weighCells_38 rfl
theorem dX7_weighCells_55 : decode cX7_weighCells 55 = .ok (.getfield 25, 3) := dk180 (k := 17) bX7_weighCells_38 rfl rfl
theorem dX7_weighCells_58 : decode cX7_weighCells 58 = .ok (.aload_n 0, 1) := dk42 (k := 20) bX7_weighCells_38 rfl
theorem dX7_weighCells_59 : decode cX7_weighCells 59 = .ok (.getfield 9, 3) := dk180 (k := 21) bX7_weighCells_38 rfl rfl
theorem bX7_weighCells_62 : bL cX7_weighCells 62 [27, 16, 8, 104, 182, 0, 56, 42, 180, 0, 25, 27, 4, 182, 0, 48, 132, 1, 1, 167, 255, 191, 177] := bL_of (by decide +kernel)
theorem dX7_weighCells_62 : decode cX7_weighCells 62 = .ok (.iload_n 1, 1) := dk27 (k := 0) bX7_weighCells_62 rfl
theorem dX7_weighCells_63 : decode cX7_weighCells 63 = .ok (.bipush 8, 2) := dk16 (k := 1) bX7_weighCells_62 rfl (by decide)
theorem dX7_weighCells_65 : decode cX7_weighCells 65 = .ok (.imul, 1) := dk104 (k := 3) bX7_weighCells_62 rfl
theorem dX7_weighCells_66 : decode cX7_weighCells 66 = .ok (.invokevirtual 56, 3) := dk182 (k := 4) bX7_weighCells_62 rfl rfl
theorem dX7_weighCells_69 : decode cX7_weighCells 69 = .ok (.aload_n 0, 1) := dk42 (k := 7) bX7_weighCells_62 rfl
theorem dX7_weighCells_70 : decode cX7_weighCells 70 = .ok (.getfield 25, 3) := dk180 (k := 8) bX7_weighCells_62 rfl rfl
theorem dX7_weighCells_73 : decode cX7_weighCells 73 = .ok (.iload_n 1, 1) := dk27 (k := 11) bX7_weighCells_62 rfl
theorem dX7_weighCells_74 : decode cX7_weighCells 74 = .ok (.iconst 1, 1) := dk4 (k := 12) bX7_weighCells_62 rfl
theorem dX7_weighCells_75 : decode cX7_weighCells 75 = .ok (.invokevirtual 48, 3) := dk182 (k := 13) bX7_weighCells_62 rfl rfl
theorem dX7_weighCells_78 : decode cX7_weighCells 78 = .ok (.iinc 1 1, 3) := dk132 (k := 16) bX7_weighCells_62 rfl rfl (by decide)
theorem dX7_weighCells_81 : decode cX7_weighCells 81 = .ok (.goto (-65), 3) := dk167 (k := 19) bX7_weighCells_62 rfl (by decide)
theorem dX7_weighCells_84 : decode cX7_weighCells 84 = .ok (.return_, 1) := dk177 (k := 22) bX7_weighCells_62 rfl
theorem bX7_weightOf_0 : bL cX7_weightOf 0 [27, 16, 8, 104, 28, 96, 62, 29, 155, 0, 21, 29, 42, 180, 0, 9, 190, 162, 0, 12, 42, 180, 0, 9] := bL_of (by decide +kernel)
theorem dX7_weightOf_0 : decode cX7_weightOf 0 = .ok (.iload_n 1, 1) := dk27 (k := 0) bX7_weightOf_0 rfl
theorem dX7_weightOf_1 : decode cX7_weightOf 1 = .ok (.bipush 8, 2) := dk16 (k := 1) bX7_weightOf_0 rfl (by decide)
theorem dX7_weightOf_3 : decode cX7_weightOf 3 = .ok (.imul, 1) := dk104 (k := 3) bX7_weightOf_0 rfl
theorem dX7_weightOf_4 : decode cX7_weightOf 4 = .ok (.iload_n 2, 1) := dk28 (k := 4) bX7_weightOf_0 rfl
theorem dX7_weightOf_5 : decode cX7_weightOf 5 = .ok (.iadd, 1) := dk96 (k := 5) bX7_weightOf_0 rfl
theorem dX7_weightOf_6 : decode cX7_weightOf 6 = .ok (.istore_n 3, 1) := dk62 (k := 6) bX7_weightOf_0 rfl
theorem dX7_weightOf_7 : decode cX7_weightOf 7 = .ok (.iload_n 3, 1) := dk29 (k := 7) bX7_weightOf_0 rfl
theorem dX7_weightOf_8 : decode cX7_weightOf 8 = .ok (.ifCond .lt 21, 3) := dk155 (k := 8) bX7_weightOf_0 rfl (by decide)
theorem dX7_weightOf_11 : decode cX7_weightOf 11 = .ok (.iload_n 3, 1) := dk29 (k := 11) bX7_weightOf_0 rfl
theorem dX7_weightOf_12 : decode cX7_weightOf 12 = .ok (.aload_n 0, 1) := dk42 (k := 12) bX7_weightOf_0 rfl
theorem dX7_weightOf_13 : decode cX7_weightOf 13 = .ok (.getfield 9, 3) := dk180 (k := 13) bX7_weightOf_0 rfl rfl
theorem dX7_weightOf_16 : decode cX7_weightOf 16 = .ok (.arraylength, 1) := dk190 (k := 16) bX7_weightOf_0 rfl
theorem dX7_weightOf_17 : decode cX7_weightOf 17 = .ok (.if_icmp .ge 12, 3) := dk162 (k := 17) bX7_weightOf_0 rfl (by decide)
theorem dX7_weightOf_20 : decode cX7_weightOf 20 = .ok (.aload_n 0, 1) := dk42 (k := 20) bX7_weightOf_0 rfl
theorem dX7_weightOf_21 : decode cX7_weightOf 21 = .ok (.getfield 9, 3) := dk180 (k := 21) bX7_weightOf_0 rfl rfl
theorem bX7_weightOf_24 : bL cX7_weightOf 24 [29, 46, 167, 0, 4, 3, 172] := bL_of (by decide +kernel)
theorem dX7_weightOf_24 : decode cX7_weightOf 24 = .ok (.iload_n 3, 1) := dk29 (k := 0) bX7_weightOf_24 rfl
theorem dX7_weightOf_25 : decode cX7_weightOf 25 = .ok (.iaload, 1) := dk46 (k := 1) bX7_weightOf_24 rfl
theorem dX7_weightOf_26 : decode cX7_weightOf 26 = .ok (.goto 4, 3) := dk167 (k := 2) bX7_weightOf_24 rfl (by decide)
theorem dX7_weightOf_29 : decode cX7_weightOf 29 = .ok (.iconst 0, 1) := dk3 (k := 5) bX7_weightOf_24 rfl
theorem dX7_weightOf_30 : decode cX7_weightOf 30 = .ok (.ireturn, 1) := dk172 (k := 6) bX7_weightOf_24 rfl
theorem bX7_votersFor_0 : bL cX7_votersFor 0 [3, 62, 3, 54, 4, 21, 4, 42, 180, 0, 21, 180, 0, 52, 180, 0, 62, 162, 0, 33, 42, 27, 21, 4] := bL_of (by decide +kernel)
theorem dX7_votersFor_0 : decode cX7_votersFor 0 = .ok (.iconst 0, 1) := dk3 (k := 0) bX7_votersFor_0 rfl
theorem dX7_votersFor_1 : decode cX7_votersFor 1 = .ok (.istore_n 3, 1) := dk62 (k := 1) bX7_votersFor_0 rfl
theorem dX7_votersFor_2 : decode cX7_votersFor 2 = .ok (.iconst 0, 1) := dk3 (k := 2) bX7_votersFor_0 rfl
theorem dX7_votersFor_3 : decode cX7_votersFor 3 = .ok (.istore 4, 2) := dk54 (k := 3) bX7_votersFor_0 rfl rfl
theorem dX7_votersFor_5 : decode cX7_votersFor 5 = .ok (.iload 4, 2) := dk21 (k := 5) bX7_votersFor_0 rfl rfl
theorem dX7_votersFor_7 : decode cX7_votersFor 7 = .ok (.aload_n 0, 1) := dk42 (k := 7) bX7_votersFor_0 rfl
theorem dX7_votersFor_8 : decode cX7_votersFor 8 = .ok (.getfield 21, 3) := dk180 (k := 8) bX7_votersFor_0 rfl rfl
theorem dX7_votersFor_11 : decode cX7_votersFor 11 = .ok (.getfield 52, 3) := dk180 (k := 11) bX7_votersFor_0 rfl rfl
theorem dX7_votersFor_14 : decode cX7_votersFor 14 = .ok (.getfield 62, 3) := dk180 (k := 14) bX7_votersFor_0 rfl rfl
theorem dX7_votersFor_17 : decode cX7_votersFor 17 = .ok (.if_icmp .ge 33, 3) := dk162 (k := 17) bX7_votersFor_0 rfl (by decide)
theorem dX7_votersFor_20 : decode cX7_votersFor 20 = .ok (.aload_n 0, 1) := dk42 (k := 20) bX7_votersFor_0 rfl
theorem dX7_votersFor_21 : decode cX7_votersFor 21 = .ok (.iload_n 1, 1) := dk27 (k := 21) bX7_votersFor_0 rfl
theorem dX7_votersFor_22 : decode cX7_votersFor 22 = .ok (.iload 4, 2) := dk21 (k := 22) bX7_votersFor_0 rfl rfl
theorem bX7_votersFor_24 : bL cX7_votersFor 24 [182, 0, 65, 42, 28, 21, 4, 182, 0, 65, 164, 0, 10, 29, 4, 21, 4, 120, 128, 62, 132, 4, 1, 167, 255, 214] := bL_of (by decide +kernel)
theorem dX7_votersFor_24 : decode cX7_votersFor 24 = .ok (.invokevirtual 65, 3) := dk182 (k := 0) bX7_votersFor_24 rfl rfl
theorem dX7_votersFor_27 : decode cX7_votersFor 27 = .ok (.aload_n 0, 1) := dk42 (k := 3) bX7_votersFor_24 rfl
theorem dX7_votersFor_28 : decode cX7_votersFor 28 = .ok (.iload_n 2, 1) := dk28 (k := 4) bX7_votersFor_24 rfl
theorem dX7_votersFor_29 : decode cX7_votersFor 29 = .ok (.iload 4, 2) := dk21 (k := 5) bX7_votersFor_24 rfl rfl
theorem dX7_votersFor_31 : decode cX7_votersFor 31 = .ok (.invokevirtual 65, 3) := dk182 (k := 7) bX7_votersFor_24 rfl rfl
theorem dX7_votersFor_34 : decode cX7_votersFor 34 = .ok (.if_icmp .le 10, 3) := dk164 (k := 10) bX7_votersFor_24 rfl (by decide)
theorem dX7_votersFor_37 : decode cX7_votersFor 37 = .ok (.iload_n 3, 1) := dk29 (k := 13) bX7_votersFor_24 rfl
theorem dX7_votersFor_38 : decode cX7_votersFor 38 = .ok (.iconst 1, 1) := dk4 (k := 14) bX7_votersFor_24 rfl
theorem dX7_votersFor_39 : decode cX7_votersFor 39 = .ok (.iload 4, 2) := dk21 (k := 15) bX7_votersFor_24 rfl rfl
theorem dX7_votersFor_41 : decode cX7_votersFor 41 = .ok (.ishl, 1) := dk120 (k := 17) bX7_votersFor_24 rfl
theorem dX7_votersFor_42 : decode cX7_votersFor 42 = .ok (.ior, 1) := dk128 (k := 18) bX7_votersFor_24 rfl
theorem dX7_votersFor_43 : decode cX7_votersFor 43 = .ok (.istore_n 3, 1) := dk62 (k := 19) bX7_votersFor_24 rfl
theorem dX7_votersFor_44 : decode cX7_votersFor 44 = .ok (.iinc 4 1, 3) := dk132 (k := 20) bX7_votersFor_24 rfl rfl (by decide)
theorem dX7_votersFor_47 : decode cX7_votersFor 47 = .ok (.goto (-42), 3) := dk167 (k := 23) bX7_votersFor_24 rfl (by decide)
theorem bX7_votersFor_50 : bL cX7_votersFor 50 [29, 172] := bL_of (by decide +kernel)
theorem dX7_votersFor_50 : decode cX7_votersFor 50 = .ok (.iload_n 3, 1) := dk29 (k := 0) bX7_votersFor_50 rfl
theorem dX7_votersFor_51 : decode cX7_votersFor 51 = .ok (.ireturn, 1) := dk172 (k := 1) bX7_votersFor_50 rfl
theorem bX7_electedCell_0 : bL cX7_electedCell 0 [42, 182, 0, 69, 3, 60, 27, 42, 180, 0, 21, 180, 0, 29, 180, 0, 40, 162, 0, 33, 42, 180, 0, 21] := bL_of (by decide +kernel)
theorem dX7_electedCell_0 : decode cX7_electedCell 0 = .ok (.aload_n 0, 1) := dk42 (k := 0) bX7_electedCell_0 rfl
theorem dX7_electedCell_1 : decode cX7_electedCell 1 = .ok (.invokevirtual 69, 3) := dk182 (k := 1) bX7_electedCell_0 rfl rfl
theorem dX7_electedCell_4 : decode cX7_electedCell 4 = .ok (.iconst 0, 1) := dk3 (k := 4) bX7_electedCell_0 rfl
theorem dX7_electedCell_5 : decode cX7_electedCell 5 = .ok (.istore_n 1, 1) := dk60 (k := 5) bX7_electedCell_0 rfl
theorem dX7_electedCell_6 : decode cX7_electedCell 6 = .ok (.iload_n 1, 1) := dk27 (k := 6) bX7_electedCell_0 rfl
theorem dX7_electedCell_7 : decode cX7_electedCell 7 = .ok (.aload_n 0, 1) := dk42 (k := 7) bX7_electedCell_0 rfl
theorem dX7_electedCell_8 : decode cX7_electedCell 8 = .ok (.getfield 21, 3) := dk180 (k := 8) bX7_electedCell_0 rfl rfl
theorem dX7_electedCell_11 : decode cX7_electedCell 11 = .ok (.getfield 29, 3) := dk180 (k := 11) bX7_electedCell_0 rfl rfl
theorem dX7_electedCell_14 : decode cX7_electedCell 14 = .ok (.getfield 40, 3) := dk180 (k := 14) bX7_electedCell_0 rfl rfl
theorem dX7_electedCell_17 : decode cX7_electedCell 17 = .ok (.if_icmp .ge 33, 3) := dk162 (k := 17) bX7_electedCell_0 rfl (by decide)
theorem dX7_electedCell_20 : decode cX7_electedCell 20 = .ok (.aload_n 0, 1) := dk42 (k := 20) bX7_electedCell_0 rfl
theorem dX7_electedCell_21 : decode cX7_electedCell 21 = .ok (.getfield 21, 3) := dk180 (k := 21) bX7_electedCell_0 rfl rfl
theorem bX7_electedCell_24 : bL cX7_electedCell 24 [180, 0, 29, 27, 182, 0, 44, 158, 0, 13, 42, 27, 182, 0, 72, 153, 0, 5, 27, 172, 132, 1, 1, 167, 255, 215] := bL_of (by decide +kernel)
theorem dX7_electedCell_24 : decode cX7_electedCell 24 = .ok (.getfield 29, 3) := dk180 (k := 0) bX7_electedCell_24 rfl rfl
theorem dX7_electedCell_27 : decode cX7_electedCell 27 = .ok (.iload_n 1, 1) := dk27 (k := 3) bX7_electedCell_24 rfl
theorem dX7_electedCell_28 : decode cX7_electedCell 28 = .ok (.invokevirtual 44, 3) := dk182 (k := 4) bX7_electedCell_24 rfl rfl
theorem dX7_electedCell_31 : decode cX7_electedCell 31 = .ok (.ifCond .le 13, 3) := dk158 (k := 7) bX7_electedCell_24 rfl (by decide)
theorem dX7_electedCell_34 : decode cX7_electedCell 34 = .ok (.aload_n 0, 1) := dk42 (k := 10) bX7_electedCell_24 rfl
theorem dX7_electedCell_35 : decode cX7_electedCell 35 = .ok (.iload_n 1, 1) := dk27 (k := 11) bX7_electedCell_24 rfl
theorem dX7_electedCell_36 : decode cX7_electedCell 36 = .ok (.invokevirtual 72, 3) := dk182 (k := 12) bX7_electedCell_24 rfl rfl
theorem dX7_electedCell_39 : decode cX7_electedCell 39 = .ok (.ifCond .eq 5, 3) := dk153 (k := 15) bX7_electedCell_24 rfl (by decide)
theorem dX7_electedCell_42 : decode cX7_electedCell 42 = .ok (.iload_n 1, 1) := dk27 (k := 18) bX7_electedCell_24 rfl
theorem dX7_electedCell_43 : decode cX7_electedCell 43 = .ok (.ireturn, 1) := dk172 (k := 19) bX7_electedCell_24 rfl
theorem dX7_electedCell_44 : decode cX7_electedCell 44 = .ok (.iinc 1 1, 3) := dk132 (k := 20) bX7_electedCell_24 rfl rfl (by decide)
theorem dX7_electedCell_47 : decode cX7_electedCell 47 = .ok (.goto (-41), 3) := dk167 (k := 23) bX7_electedCell_24 rfl (by decide)
theorem bX7_electedCell_50 : bL cX7_electedCell 50 [2, 172] := bL_of (by decide +kernel)
theorem dX7_electedCell_50 : decode cX7_electedCell 50 = .ok (.iconst (-1), 1) := dk2 (k := 0) bX7_electedCell_50 rfl
theorem dX7_electedCell_51 : decode cX7_electedCell 51 = .ok (.ireturn, 1) := dk172 (k := 1) bX7_electedCell_50 rfl
theorem bX7_isUnbeaten_0 : bL cX7_isUnbeaten 0 [3, 61, 28, 42, 180, 0, 21, 180, 0, 29, 180, 0, 40, 162, 0, 62, 42, 180, 0, 21, 180, 0, 29, 28] := bL_of (by decide +kernel)
theorem dX7_isUnbeaten_0 : decode cX7_isUnbeaten 0 = .ok (.iconst 0, 1) := dk3 (k := 0) bX7_isUnbeaten_0 rfl
theorem dX7_isUnbeaten_1 : decode cX7_isUnbeaten 1 = .ok (.istore_n 2, 1) := dk61 (k := 1) bX7_isUnbeaten_0 rfl
theorem dX7_isUnbeaten_2 : decode cX7_isUnbeaten 2 = .ok (.iload_n 2, 1) := dk28 (k := 2) bX7_isUnbeaten_0 rfl
theorem dX7_isUnbeaten_3 : decode cX7_isUnbeaten 3 = .ok (.aload_n 0, 1) := dk42 (k := 3) bX7_isUnbeaten_0 rfl
theorem dX7_isUnbeaten_4 : decode cX7_isUnbeaten 4 = .ok (.getfield 21, 3) := dk180 (k := 4) bX7_isUnbeaten_0 rfl rfl
theorem dX7_isUnbeaten_7 : decode cX7_isUnbeaten 7 = .ok (.getfield 29, 3) := dk180 (k := 7) bX7_isUnbeaten_0 rfl rfl
theorem dX7_isUnbeaten_10 : decode cX7_isUnbeaten 10 = .ok (.getfield 40, 3) := dk180 (k := 10) bX7_isUnbeaten_0 rfl rfl
theorem dX7_isUnbeaten_13 : decode cX7_isUnbeaten 13 = .ok (.if_icmp .ge 62, 3) := dk162 (k := 13) bX7_isUnbeaten_0 rfl (by decide)
theorem dX7_isUnbeaten_16 : decode cX7_isUnbeaten 16 = .ok (.aload_n 0, 1) := dk42 (k := 16) bX7_isUnbeaten_0 rfl
theorem dX7_isUnbeaten_17 : decode cX7_isUnbeaten 17 = .ok (.getfield 21, 3) := dk180 (k := 17) bX7_isUnbeaten_0 rfl rfl
theorem dX7_isUnbeaten_20 : decode cX7_isUnbeaten 20 = .ok (.getfield 29, 3) := dk180 (k := 20) bX7_isUnbeaten_0 rfl rfl
theorem dX7_isUnbeaten_23 : decode cX7_isUnbeaten 23 = .ok (.iload_n 2, 1) := dk28 (k := 23) bX7_isUnbeaten_0 rfl
theorem bX7_isUnbeaten_24 : bL cX7_isUnbeaten 24 [182, 0, 44, 158, 0, 42, 42, 180, 0, 21, 180, 0, 52, 42, 27, 28, 182, 0, 76, 182, 0, 79, 62, 29] := bL_of (by decide +kernel)
theorem dX7_isUnbeaten_24 : decode cX7_isUnbeaten 24 = .ok (.invokevirtual 44, 3) := dk182 (k := 0) bX7_isUnbeaten_24 rfl rfl
theorem dX7_isUnbeaten_27 : decode cX7_isUnbeaten 27 = .ok (.ifCond .le 42, 3) := dk158 (k := 3) bX7_isUnbeaten_24 rfl (by decide)
theorem dX7_isUnbeaten_30 : decode cX7_isUnbeaten 30 = .ok (.aload_n 0, 1) := dk42 (k := 6) bX7_isUnbeaten_24 rfl
theorem dX7_isUnbeaten_31 : decode cX7_isUnbeaten 31 = .ok (.getfield 21, 3) := dk180 (k := 7) bX7_isUnbeaten_24 rfl rfl
theorem dX7_isUnbeaten_34 : decode cX7_isUnbeaten 34 = .ok (.getfield 52, 3) := dk180 (k := 10) bX7_isUnbeaten_24 rfl rfl
theorem dX7_isUnbeaten_37 : decode cX7_isUnbeaten 37 = .ok (.aload_n 0, 1) := dk42 (k := 13) bX7_isUnbeaten_24 rfl
theorem dX7_isUnbeaten_38 : decode cX7_isUnbeaten 38 = .ok (.iload_n 1, 1) := dk27 (k := 14) bX7_isUnbeaten_24 rfl
theorem dX7_isUnbeaten_39 : decode cX7_isUnbeaten 39 = .ok (.iload_n 2, 1) := dk28 (k := 15) bX7_isUnbeaten_24 rfl
theorem dX7_isUnbeaten_40 : decode cX7_isUnbeaten 40 = .ok (.invokevirtual 76, 3) := dk182 (k := 16) bX7_isUnbeaten_24 rfl rfl
theorem dX7_isUnbeaten_43 : decode cX7_isUnbeaten 43 = .ok (.invokevirtual 79, 3) := dk182 (k := 19) bX7_isUnbeaten_24 rfl rfl
theorem dX7_isUnbeaten_46 : decode cX7_isUnbeaten 46 = .ok (.istore_n 3, 1) := dk62 (k := 22) bX7_isUnbeaten_24 rfl
theorem dX7_isUnbeaten_47 : decode cX7_isUnbeaten 47 = .ok (.iload_n 3, 1) := dk29 (k := 23) bX7_isUnbeaten_24 rfl
theorem bX7_isUnbeaten_48 : bL cX7_isUnbeaten 48 [42, 180, 0, 21, 180, 0, 52, 42, 28, 27, 182, 0, 76, 182, 0, 79, 162, 0, 5, 3, 172, 132, 2, 1] := bL_of (by decide +kernel)
theorem dX7_isUnbeaten_48 : decode cX7_isUnbeaten 48 = .ok (.aload_n 0, 1) := dk42 (k := 0) bX7_isUnbeaten_48 rfl
theorem dX7_isUnbeaten_49 : decode cX7_isUnbeaten 49 = .ok (.getfield 21, 3) := dk180 (k := 1) bX7_isUnbeaten_48 rfl rfl
theorem dX7_isUnbeaten_52 : decode cX7_isUnbeaten 52 = .ok (.getfield 52, 3) := dk180 (k := 4) bX7_isUnbeaten_48 rfl rfl
theorem dX7_isUnbeaten_55 : decode cX7_isUnbeaten 55 = .ok (.aload_n 0, 1) := dk42 (k := 7) bX7_isUnbeaten_48 rfl
theorem dX7_isUnbeaten_56 : decode cX7_isUnbeaten 56 = .ok (.iload_n 2, 1) := dk28 (k := 8) bX7_isUnbeaten_48 rfl
theorem dX7_isUnbeaten_57 : decode cX7_isUnbeaten 57 = .ok (.iload_n 1, 1) := dk27 (k := 9) bX7_isUnbeaten_48 rfl
theorem dX7_isUnbeaten_58 : decode cX7_isUnbeaten 58 = .ok (.invokevirtual 76, 3) := dk182 (k := 10) bX7_isUnbeaten_48 rfl rfl
theorem dX7_isUnbeaten_61 : decode cX7_isUnbeaten 61 = .ok (.invokevirtual 79, 3) := dk182 (k := 13) bX7_isUnbeaten_48 rfl rfl
theorem dX7_isUnbeaten_64 : decode cX7_isUnbeaten 64 = .ok (.if_icmp .ge 5, 3) := dk162 (k := 16) bX7_isUnbeaten_48 rfl (by decide)
theorem dX7_isUnbeaten_67 : decode cX7_isUnbeaten 67 = .ok (.iconst 0, 1) := dk3 (k := 19) bX7_isUnbeaten_48 rfl
theorem dX7_isUnbeaten_68 : decode cX7_isUnbeaten 68 = .ok (.ireturn, 1) := dk172 (k := 20) bX7_isUnbeaten_48 rfl
theorem dX7_isUnbeaten_69 : decode cX7_isUnbeaten 69 = .ok (.iinc 2 1, 3) := dk132 (k := 21) bX7_isUnbeaten_48 rfl rfl (by decide)
theorem bX7_isUnbeaten_72 : bL cX7_isUnbeaten 72 [167, 255, 186, 4, 172] := bL_of (by decide +kernel)
theorem dX7_isUnbeaten_72 : decode cX7_isUnbeaten 72 = .ok (.goto (-70), 3) := dk167 (k := 0) bX7_isUnbeaten_72 rfl (by decide)
theorem dX7_isUnbeaten_75 : decode cX7_isUnbeaten 75 = .ok (.iconst 1, 1) := dk4 (k := 3) bX7_isUnbeaten_72 rfl
theorem dX7_isUnbeaten_76 : decode cX7_isUnbeaten 76 = .ok (.ireturn, 1) := dk172 (k := 4) bX7_isUnbeaten_72 rfl
theorem bX7_canShape_0 : bL cX7_canShape 0 [42, 180, 0, 21, 182, 0, 82, 153, 0, 30, 27, 155, 0, 26, 27, 6, 163, 0, 21, 42, 180, 0, 21, 180, 0, 29] := bL_of (by decide +kernel)
theorem dX7_canShape_0 : decode cX7_canShape 0 = .ok (.aload_n 0, 1) := dk42 (k := 0) bX7_canShape_0 rfl
theorem dX7_canShape_1 : decode cX7_canShape 1 = .ok (.getfield 21, 3) := dk180 (k := 1) bX7_canShape_0 rfl rfl
theorem dX7_canShape_4 : decode cX7_canShape 4 = .ok (.invokevirtual 82, 3) := dk182 (k := 4) bX7_canShape_0 rfl rfl
theorem dX7_canShape_7 : decode cX7_canShape 7 = .ok (.ifCond .eq 30, 3) := dk153 (k := 7) bX7_canShape_0 rfl (by decide)
theorem dX7_canShape_10 : decode cX7_canShape 10 = .ok (.iload_n 1, 1) := dk27 (k := 10) bX7_canShape_0 rfl
theorem dX7_canShape_11 : decode cX7_canShape 11 = .ok (.ifCond .lt 26, 3) := dk155 (k := 11) bX7_canShape_0 rfl (by decide)
theorem dX7_canShape_14 : decode cX7_canShape 14 = .ok (.iload_n 1, 1) := dk27 (k := 14) bX7_canShape_0 rfl
theorem dX7_canShape_15 : decode cX7_canShape 15 = .ok (.iconst 3, 1) := dk6 (k := 15) bX7_canShape_0 rfl
theorem dX7_canShape_16 : decode cX7_canShape 16 = .ok (.if_icmp .gt 21, 3) := dk163 (k := 16) bX7_canShape_0 rfl (by decide)
theorem dX7_canShape_19 : decode cX7_canShape 19 = .ok (.aload_n 0, 1) := dk42 (k := 19) bX7_canShape_0 rfl
theorem dX7_canShape_20 : decode cX7_canShape 20 = .ok (.getfield 21, 3) := dk180 (k := 20) bX7_canShape_0 rfl rfl
theorem dX7_canShape_23 : decode cX7_canShape 23 = .ok (.getfield 29, 3) := dk180 (k := 23) bX7_canShape_0 rfl rfl
theorem bX7_canShape_26 : bL cX7_canShape 26 [182, 0, 86, 27, 161, 0, 7, 4, 167, 0, 4, 3, 172] := bL_of (by decide +kernel)
theorem dX7_canShape_26 : decode cX7_canShape 26 = .ok (.invokevirtual 86, 3) := dk182 (k := 0) bX7_canShape_26 rfl rfl
theorem dX7_canShape_29 : decode cX7_canShape 29 = .ok (.iload_n 1, 1) := dk27 (k := 3) bX7_canShape_26 rfl
theorem dX7_canShape_30 : decode cX7_canShape 30 = .ok (.if_icmp .lt 7, 3) := dk161 (k := 4) bX7_canShape_26 rfl (by decide)
theorem dX7_canShape_33 : decode cX7_canShape 33 = .ok (.iconst 1, 1) := dk4 (k := 7) bX7_canShape_26 rfl
theorem dX7_canShape_34 : decode cX7_canShape 34 = .ok (.goto 4, 3) := dk167 (k := 8) bX7_canShape_26 rfl (by decide)
theorem dX7_canShape_37 : decode cX7_canShape 37 = .ok (.iconst 0, 1) := dk3 (k := 11) bX7_canShape_26 rfl
theorem dX7_canShape_38 : decode cX7_canShape 38 = .ok (.ireturn, 1) := dk172 (k := 12) bX7_canShape_26 rfl
theorem bX7_shapeBy_0 : bL cX7_shapeBy 0 [42, 180, 0, 25, 42, 180, 0, 21, 180, 0, 29, 182, 0, 34, 42, 3, 181, 0, 90, 42, 27, 3, 3, 182, 0, 94] := bL_of (by decide +kernel)
theorem dX7_shapeBy_0 : decode cX7_shapeBy 0 = .ok (.aload_n 0, 1) := dk42 (k := 0) bX7_shapeBy_0 rfl
theorem dX7_shapeBy_1 : decode cX7_shapeBy 1 = .ok (.getfield 25, 3) := dk180 (k := 1) bX7_shapeBy_0 rfl rfl
theorem dX7_shapeBy_4 : decode cX7_shapeBy 4 = .ok (.aload_n 0, 1) := dk42 (k := 4) bX7_shapeBy_0 rfl
theorem dX7_shapeBy_5 : decode cX7_shapeBy 5 = .ok (.getfield 21, 3) := dk180 (k := 5) bX7_shapeBy_0 rfl rfl
theorem dX7_shapeBy_8 : decode cX7_shapeBy 8 = .ok (.getfield 29, 3) := dk180 (k := 8) bX7_shapeBy_0 rfl rfl
theorem dX7_shapeBy_11 : decode cX7_shapeBy 11 = .ok (.invokevirtual 34, 3) := dk182 (k := 11) bX7_shapeBy_0 rfl rfl
theorem dX7_shapeBy_14 : decode cX7_shapeBy 14 = .ok (.aload_n 0, 1) := dk42 (k := 14) bX7_shapeBy_0 rfl
theorem dX7_shapeBy_15 : decode cX7_shapeBy 15 = .ok (.iconst 0, 1) := dk3 (k := 15) bX7_shapeBy_0 rfl
theorem dX7_shapeBy_16 : decode cX7_shapeBy 16 = .ok (.putfield 90, 3) := dk181 (k := 16) bX7_shapeBy_0 rfl rfl
theorem dX7_shapeBy_19 : decode cX7_shapeBy 19 = .ok (.aload_n 0, 1) := dk42 (k := 19) bX7_shapeBy_0 rfl
theorem dX7_shapeBy_20 : decode cX7_shapeBy 20 = .ok (.iload_n 1, 1) := dk27 (k := 20) bX7_shapeBy_0 rfl
theorem dX7_shapeBy_21 : decode cX7_shapeBy 21 = .ok (.iconst 0, 1) := dk3 (k := 21) bX7_shapeBy_0 rfl
theorem dX7_shapeBy_22 : decode cX7_shapeBy 22 = .ok (.iconst 0, 1) := dk3 (k := 22) bX7_shapeBy_0 rfl
theorem dX7_shapeBy_23 : decode cX7_shapeBy 23 = .ok (.invokevirtual 94, 3) := dk182 (k := 23) bX7_shapeBy_0 rfl rfl
theorem bX7_shapeBy_26 : bL cX7_shapeBy 26 [42, 180, 0, 98, 172] := bL_of (by decide +kernel)
theorem dX7_shapeBy_26 : decode cX7_shapeBy 26 = .ok (.aload_n 0, 1) := dk42 (k := 0) bX7_shapeBy_26 rfl
theorem dX7_shapeBy_27 : decode cX7_shapeBy 27 = .ok (.getfield 98, 3) := dk180 (k := 1) bX7_shapeBy_26 rfl rfl
theorem dX7_shapeBy_30 : decode cX7_shapeBy 30 = .ok (.ireturn, 1) := dk172 (k := 4) bX7_shapeBy_26 rfl
theorem bX7_shapedCell_0 : bL cX7_shapedCell 0 [27, 155, 0, 21, 27, 42, 180, 0, 18, 190, 162, 0, 12, 42, 180, 0, 18, 27, 46, 167, 0, 4, 2, 172] := bL_of (by decide +kernel)
theorem dX7_shapedCell_0 : decode cX7_shapedCell 0 = .ok (.iload_n 1, 1) := dk27 (k := 0) bX7_shapedCell_0 rfl
theorem dX7_shapedCell_1 : decode cX7_shapedCell 1 = .ok (.ifCond .lt 21, 3) := dk155 (k := 1) bX7_shapedCell_0 rfl (by decide)
theorem dX7_shapedCell_4 : decode cX7_shapedCell 4 = .ok (.iload_n 1, 1) := dk27 (k := 4) bX7_shapedCell_0 rfl
theorem dX7_shapedCell_5 : decode cX7_shapedCell 5 = .ok (.aload_n 0, 1) := dk42 (k := 5) bX7_shapedCell_0 rfl
theorem dX7_shapedCell_6 : decode cX7_shapedCell 6 = .ok (.getfield 18, 3) := dk180 (k := 6) bX7_shapedCell_0 rfl rfl
theorem dX7_shapedCell_9 : decode cX7_shapedCell 9 = .ok (.arraylength, 1) := dk190 (k := 9) bX7_shapedCell_0 rfl
theorem dX7_shapedCell_10 : decode cX7_shapedCell 10 = .ok (.if_icmp .ge 12, 3) := dk162 (k := 10) bX7_shapedCell_0 rfl (by decide)
theorem dX7_shapedCell_13 : decode cX7_shapedCell 13 = .ok (.aload_n 0, 1) := dk42 (k := 13) bX7_shapedCell_0 rfl
theorem dX7_shapedCell_14 : decode cX7_shapedCell 14 = .ok (.getfield 18, 3) := dk180 (k := 14) bX7_shapedCell_0 rfl rfl
theorem dX7_shapedCell_17 : decode cX7_shapedCell 17 = .ok (.iload_n 1, 1) := dk27 (k := 17) bX7_shapedCell_0 rfl
theorem dX7_shapedCell_18 : decode cX7_shapedCell 18 = .ok (.iaload, 1) := dk46 (k := 18) bX7_shapedCell_0 rfl
theorem dX7_shapedCell_19 : decode cX7_shapedCell 19 = .ok (.goto 4, 3) := dk167 (k := 19) bX7_shapedCell_0 rfl (by decide)
theorem dX7_shapedCell_22 : decode cX7_shapedCell 22 = .ok (.iconst (-1), 1) := dk2 (k := 22) bX7_shapedCell_0 rfl
theorem dX7_shapedCell_23 : decode cX7_shapedCell 23 = .ok (.ireturn, 1) := dk172 (k := 23) bX7_shapedCell_0 rfl
theorem bX7_search_0 : bL cX7_search 0 [28, 27, 162, 0, 8, 28, 6, 161, 0, 8, 42, 182, 0, 101, 177, 29, 54, 4, 21, 4, 42, 180, 0, 25] := bL_of (by decide +kernel)
theorem dX7_search_0 : decode cX7_search 0 = .ok (.iload_n 2, 1) := dk28 (k := 0) bX7_search_0 rfl
theorem dX7_search_1 : decode cX7_search 1 = .ok (.iload_n 1, 1) := dk27 (k := 1) bX7_search_0 rfl
theorem dX7_search_2 : decode cX7_search 2 = .ok (.if_icmp .ge 8, 3) := dk162 (k := 2) bX7_search_0 rfl (by decide)
theorem dX7_search_5 : decode cX7_search 5 = .ok (.iload_n 2, 1) := dk28 (k := 5) bX7_search_0 rfl
theorem dX7_search_6 : decode cX7_search 6 = .ok (.iconst 3, 1) := dk6 (k := 6) bX7_search_0 rfl
theorem dX7_search_7 : decode cX7_search 7 = .ok (.if_icmp .lt 8, 3) := dk161 (k := 7) bX7_search_0 rfl (by decide)
theorem dX7_search_10 : decode cX7_search 10 = .ok (.aload_n 0, 1) := dk42 (k := 10) bX7_search_0 rfl
theorem dX7_search_11 : decode cX7_search 11 = .ok (.invokevirtual 101, 3) := dk182 (k := 11) bX7_search_0 rfl rfl
theorem dX7_search_14 : decode cX7_search 14 = .ok (.return_, 1) := dk177 (k := 14) bX7_search_0 rfl
theorem dX7_search_15 : decode cX7_search 15 = .ok (.iload_n 3, 1) := dk29 (k := 15) bX7_search_0 rfl
theorem dX7_search_16 : decode cX7_search 16 = .ok (.istore 4, 2) := dk54 (k := 16) bX7_search_0 rfl rfl
theorem dX7_search_18 : decode cX7_search 18 = .ok (.iload 4, 2) := dk21 (k := 18) bX7_search_0 rfl rfl
theorem dX7_search_20 : decode cX7_search 20 = .ok (.aload_n 0, 1) := dk42 (k := 20) bX7_search_0 rfl
theorem dX7_search_21 : decode cX7_search 21 = .ok (.getfield 25, 3) := dk180 (k := 21) bX7_search_0 rfl rfl
theorem bX7_search_24 : bL cX7_search 24 [180, 0, 40, 162, 0, 59, 42, 180, 0, 25, 21, 4, 182, 0, 44, 158, 0, 41, 42, 180, 0, 25, 21, 4] := bL_of (by decide +kernel)
theorem dX7_search_24 : decode cX7_search 24 = .ok (.getfield 40, 3) := dk180 (k := 0) bX7_search_24 rfl rfl
theorem dX7_search_27 : decode cX7_search 27 = .ok (.if_icmp .ge 59, 3) := dk162 (k := 3) bX7_search_24 rfl (by decide)
theorem dX7_search_30 : decode cX7_search 30 = .ok (.aload_n 0, 1) := dk42 (k := 6) bX7_search_24 rfl
theorem dX7_search_31 : decode cX7_search 31 = .ok (.getfield 25, 3) := dk180 (k := 7) bX7_search_24 rfl rfl
theorem dX7_search_34 : decode cX7_search 34 = .ok (.iload 4, 2) := dk21 (k := 10) bX7_search_24 rfl rfl
theorem dX7_search_36 : decode cX7_search 36 = .ok (.invokevirtual 44, 3) := dk182 (k := 12) bX7_search_24 rfl rfl
theorem dX7_search_39 : decode cX7_search 39 = .ok (.ifCond .le 41, 3) := dk158 (k := 15) bX7_search_24 rfl (by decide)
theorem dX7_search_42 : decode cX7_search 42 = .ok (.aload_n 0, 1) := dk42 (k := 18) bX7_search_24 rfl
theorem dX7_search_43 : decode cX7_search 43 = .ok (.getfield 25, 3) := dk180 (k := 19) bX7_search_24 rfl rfl
theorem dX7_search_46 : decode cX7_search 46 = .ok (.iload 4, 2) := dk21 (k := 22) bX7_search_24 rfl rfl
theorem bX7_search_48 : bL cX7_search 48 [2, 182, 0, 48, 42, 180, 0, 15, 28, 21, 4, 79, 42, 27, 28, 4, 96, 21, 4, 182, 0, 94, 42, 180, 0, 25] := bL_of (by decide +kernel)
theorem dX7_search_48 : decode cX7_search 48 = .ok (.iconst (-1), 1) := dk2 (k := 0) bX7_search_48 rfl
theorem dX7_search_49 : decode cX7_search 49 = .ok (.invokevirtual 48, 3) := dk182 (k := 1) bX7_search_48 rfl rfl
theorem dX7_search_52 : decode cX7_search 52 = .ok (.aload_n 0, 1) := dk42 (k := 4) bX7_search_48 rfl
theorem dX7_search_53 : decode cX7_search 53 = .ok (.getfield 15, 3) := dk180 (k := 5) bX7_search_48 rfl rfl
theorem dX7_search_56 : decode cX7_search 56 = .ok (.iload_n 2, 1) := dk28 (k := 8) bX7_search_48 rfl
theorem dX7_search_57 : decode cX7_search 57 = .ok (.iload 4, 2) := dk21 (k := 9) bX7_search_48 rfl rfl
theorem dX7_search_59 : decode cX7_search 59 = .ok (.iastore, 1) := dk79 (k := 11) bX7_search_48 rfl
theorem dX7_search_60 : decode cX7_search 60 = .ok (.aload_n 0, 1) := dk42 (k := 12) bX7_search_48 rfl
theorem dX7_search_61 : decode cX7_search 61 = .ok (.iload_n 1, 1) := dk27 (k := 13) bX7_search_48 rfl
theorem dX7_search_62 : decode cX7_search 62 = .ok (.iload_n 2, 1) := dk28 (k := 14) bX7_search_48 rfl
theorem dX7_search_63 : decode cX7_search 63 = .ok (.iconst 1, 1) := dk4 (k := 15) bX7_search_48 rfl
theorem dX7_search_64 : decode cX7_search 64 = .ok (.iadd, 1) := dk96 (k := 16) bX7_search_48 rfl
theorem dX7_search_65 : decode cX7_search 65 = .ok (.iload 4, 2) := dk21 (k := 17) bX7_search_48 rfl rfl
theorem dX7_search_67 : decode cX7_search 67 = .ok (.invokevirtual 94, 3) := dk182 (k := 19) bX7_search_48 rfl rfl
theorem dX7_search_70 : decode cX7_search 70 = .ok (.aload_n 0, 1) := dk42 (k := 22) bX7_search_48 rfl
theorem dX7_search_71 : decode cX7_search 71 = .ok (.getfield 25, 3) := dk180 (k := 23) bX7_search_48 rfl rfl
theorem bX7_search_74 : bL cX7_search 74 [21, 4, 4, 182, 0, 48, 132, 4, 1, 167, 255, 191, 177] := bL_of (by decide +kernel)
theorem dX7_search_74 : decode cX7_search 74 = .ok (.iload 4, 2) := dk21 (k := 0) bX7_search_74 rfl rfl
theorem dX7_search_76 : decode cX7_search 76 = .ok (.iconst 1, 1) := dk4 (k := 2) bX7_search_74 rfl
theorem dX7_search_77 : decode cX7_search 77 = .ok (.invokevirtual 48, 3) := dk182 (k := 3) bX7_search_74 rfl rfl
theorem dX7_search_80 : decode cX7_search 80 = .ok (.iinc 4 1, 3) := dk132 (k := 6) bX7_search_74 rfl rfl (by decide)
theorem dX7_search_83 : decode cX7_search 83 = .ok (.goto (-65), 3) := dk167 (k := 9) bX7_search_74 rfl (by decide)
theorem dX7_search_86 : decode cX7_search 86 = .ok (.return_, 1) := dk177 (k := 12) bX7_search_74 rfl
theorem bX7_keepIfBetter_0 : bL cX7_keepIfBetter 0 [42, 180, 0, 21, 180, 0, 52, 42, 180, 0, 25, 182, 0, 104, 60, 42, 180, 0, 90, 153, 0, 12, 27, 42] := bL_of (by decide +kernel)
theorem dX7_keepIfBetter_0 : decode cX7_keepIfBetter 0 = .ok (.aload_n 0, 1) := dk42 (k := 0) bX7_keepIfBetter_0 rfl
theorem dX7_keepIfBetter_1 : decode cX7_keepIfBetter 1 = .ok (.getfield 21, 3) := dk180 (k := 1) bX7_keepIfBetter_0 rfl rfl
theorem dX7_keepIfBetter_4 : decode cX7_keepIfBetter 4 = .ok (.getfield 52, 3) := dk180 (k := 4) bX7_keepIfBetter_0 rfl rfl
theorem dX7_keepIfBetter_7 : decode cX7_keepIfBetter 7 = .ok (.aload_n 0, 1) := dk42 (k := 7) bX7_keepIfBetter_0 rfl
theorem dX7_keepIfBetter_8 : decode cX7_keepIfBetter 8 = .ok (.getfield 25, 3) := dk180 (k := 8) bX7_keepIfBetter_0 rfl rfl
theorem dX7_keepIfBetter_11 : decode cX7_keepIfBetter 11 = .ok (.invokevirtual 104, 3) := dk182 (k := 11) bX7_keepIfBetter_0 rfl rfl
theorem dX7_keepIfBetter_14 : decode cX7_keepIfBetter 14 = .ok (.istore_n 1, 1) := dk60 (k := 14) bX7_keepIfBetter_0 rfl
theorem dX7_keepIfBetter_15 : decode cX7_keepIfBetter 15 = .ok (.aload_n 0, 1) := dk42 (k := 15) bX7_keepIfBetter_0 rfl
theorem dX7_keepIfBetter_16 : decode cX7_keepIfBetter 16 = .ok (.getfield 90, 3) := dk180 (k := 16) bX7_keepIfBetter_0 rfl rfl
theorem dX7_keepIfBetter_19 : decode cX7_keepIfBetter 19 = .ok (.ifCond .eq 12, 3) := dk153 (k := 19) bX7_keepIfBetter_0 rfl (by decide)
theorem dX7_keepIfBetter_22 : decode cX7_keepIfBetter 22 = .ok (.iload_n 1, 1) := dk27 (k := 22) bX7_keepIfBetter_0 rfl
theorem dX7_keepIfBetter_23 : decode cX7_keepIfBetter 23 = .ok (.aload_n 0, 1) := dk42 (k := 23) bX7_keepIfBetter_0 rfl
theorem bX7_keepIfBetter_24 : bL cX7_keepIfBetter 24 [180, 0, 98, 163, 0, 4, 177, 42, 4, 181, 0, 90, 42, 27, 181, 0, 98, 3, 61, 28, 6, 162, 0, 21] := bL_of (by decide +kernel)
theorem dX7_keepIfBetter_24 : decode cX7_keepIfBetter 24 = .ok (.getfield 98, 3) := dk180 (k := 0) bX7_keepIfBetter_24 rfl rfl
theorem dX7_keepIfBetter_27 : decode cX7_keepIfBetter 27 = .ok (.if_icmp .gt 4, 3) := dk163 (k := 3) bX7_keepIfBetter_24 rfl (by decide)
theorem dX7_keepIfBetter_30 : decode cX7_keepIfBetter 30 = .ok (.return_, 1) := dk177 (k := 6) bX7_keepIfBetter_24 rfl
theorem dX7_keepIfBetter_31 : decode cX7_keepIfBetter 31 = .ok (.aload_n 0, 1) := dk42 (k := 7) bX7_keepIfBetter_24 rfl
theorem dX7_keepIfBetter_32 : decode cX7_keepIfBetter 32 = .ok (.iconst 1, 1) := dk4 (k := 8) bX7_keepIfBetter_24 rfl
theorem dX7_keepIfBetter_33 : decode cX7_keepIfBetter 33 = .ok (.putfield 90, 3) := dk181 (k := 9) bX7_keepIfBetter_24 rfl rfl
theorem dX7_keepIfBetter_36 : decode cX7_keepIfBetter 36 = .ok (.aload_n 0, 1) := dk42 (k := 12) bX7_keepIfBetter_24 rfl
theorem dX7_keepIfBetter_37 : decode cX7_keepIfBetter 37 = .ok (.iload_n 1, 1) := dk27 (k := 13) bX7_keepIfBetter_24 rfl
theorem dX7_keepIfBetter_38 : decode cX7_keepIfBetter 38 = .ok (.putfield 98, 3) := dk181 (k := 14) bX7_keepIfBetter_24 rfl rfl
theorem dX7_keepIfBetter_41 : decode cX7_keepIfBetter 41 = .ok (.iconst 0, 1) := dk3 (k := 17) bX7_keepIfBetter_24 rfl
theorem dX7_keepIfBetter_42 : decode cX7_keepIfBetter 42 = .ok (.istore_n 2, 1) := dk61 (k := 18) bX7_keepIfBetter_24 rfl
theorem dX7_keepIfBetter_43 : decode cX7_keepIfBetter 43 = .ok (.iload_n 2, 1) := dk28 (k := 19) bX7_keepIfBetter_24 rfl
theorem dX7_keepIfBetter_44 : decode cX7_keepIfBetter 44 = .ok (.iconst 3, 1) := dk6 (k := 20) bX7_keepIfBetter_24 rfl
theorem dX7_keepIfBetter_45 : decode cX7_keepIfBetter 45 = .ok (.if_icmp .ge 21, 3) := dk162 (k := 21) bX7_keepIfBetter_24 rfl (by decide)
theorem bX7_keepIfBetter_48 : bL cX7_keepIfBetter 48 [42, 180, 0, 18, 28, 42, 180, 0, 15, 28, 46, 79, 132, 2, 1, 167, 255, 236, 177] := bL_of (by decide +kernel)
theorem dX7_keepIfBetter_48 : decode cX7_keepIfBetter 48 = .ok (.aload_n 0, 1) := dk42 (k := 0) bX7_keepIfBetter_48 rfl
theorem dX7_keepIfBetter_49 : decode cX7_keepIfBetter 49 = .ok (.getfield 18, 3) := dk180 (k := 1) bX7_keepIfBetter_48 rfl rfl
theorem dX7_keepIfBetter_52 : decode cX7_keepIfBetter 52 = .ok (.iload_n 2, 1) := dk28 (k := 4) bX7_keepIfBetter_48 rfl
theorem dX7_keepIfBetter_53 : decode cX7_keepIfBetter 53 = .ok (.aload_n 0, 1) := dk42 (k := 5) bX7_keepIfBetter_48 rfl
theorem dX7_keepIfBetter_54 : decode cX7_keepIfBetter 54 = .ok (.getfield 15, 3) := dk180 (k := 6) bX7_keepIfBetter_48 rfl rfl
theorem dX7_keepIfBetter_57 : decode cX7_keepIfBetter 57 = .ok (.iload_n 2, 1) := dk28 (k := 9) bX7_keepIfBetter_48 rfl
theorem dX7_keepIfBetter_58 : decode cX7_keepIfBetter 58 = .ok (.iaload, 1) := dk46 (k := 10) bX7_keepIfBetter_48 rfl
theorem dX7_keepIfBetter_59 : decode cX7_keepIfBetter 59 = .ok (.iastore, 1) := dk79 (k := 11) bX7_keepIfBetter_48 rfl
theorem dX7_keepIfBetter_60 : decode cX7_keepIfBetter 60 = .ok (.iinc 2 1, 3) := dk132 (k := 12) bX7_keepIfBetter_48 rfl rfl (by decide)
theorem dX7_keepIfBetter_63 : decode cX7_keepIfBetter 63 = .ok (.goto (-20), 3) := dk167 (k := 15) bX7_keepIfBetter_48 rfl (by decide)
theorem dX7_keepIfBetter_66 : decode cX7_keepIfBetter 66 = .ok (.return_, 1) := dk177 (k := 18) bX7_keepIfBetter_48 rfl
theorem bX7_spoilCell_0 : bL cX7_spoilCell 0 [42, 180, 0, 25, 42, 180, 0, 21, 180, 0, 29, 182, 0, 34, 2, 60, 3, 61, 3, 62, 29, 42, 180, 0, 25] := bL_of (by decide +kernel)
theorem dX7_spoilCell_0 : decode cX7_spoilCell 0 = .ok (.aload_n 0, 1) := dk42 (k := 0) bX7_spoilCell_0 rfl
theorem dX7_spoilCell_1 : decode cX7_spoilCell 1 = .ok (.getfield 25, 3) := dk180 (k := 1) bX7_spoilCell_0 rfl rfl
theorem dX7_spoilCell_4 : decode cX7_spoilCell 4 = .ok (.aload_n 0, 1) := dk42 (k := 4) bX7_spoilCell_0 rfl
theorem dX7_spoilCell_5 : decode cX7_spoilCell 5 = .ok (.getfield 21, 3) := dk180 (k := 5) bX7_spoilCell_0 rfl rfl
theorem dX7_spoilCell_8 : decode cX7_spoilCell 8 = .ok (.getfield 29, 3) := dk180 (k := 8) bX7_spoilCell_0 rfl rfl
theorem dX7_spoilCell_11 : decode cX7_spoilCell 11 = .ok (.invokevirtual 34, 3) := dk182 (k := 11) bX7_spoilCell_0 rfl rfl
theorem dX7_spoilCell_14 : decode cX7_spoilCell 14 = .ok (.iconst (-1), 1) := dk2 (k := 14) bX7_spoilCell_0 rfl
theorem dX7_spoilCell_15 : decode cX7_spoilCell 15 = .ok (.istore_n 1, 1) := dk60 (k := 15) bX7_spoilCell_0 rfl
theorem dX7_spoilCell_16 : decode cX7_spoilCell 16 = .ok (.iconst 0, 1) := dk3 (k := 16) bX7_spoilCell_0 rfl
theorem dX7_spoilCell_17 : decode cX7_spoilCell 17 = .ok (.istore_n 2, 1) := dk61 (k := 17) bX7_spoilCell_0 rfl
theorem dX7_spoilCell_18 : decode cX7_spoilCell 18 = .ok (.iconst 0, 1) := dk3 (k := 18) bX7_spoilCell_0 rfl
theorem dX7_spoilCell_19 : decode cX7_spoilCell 19 = .ok (.istore_n 3, 1) := dk62 (k := 19) bX7_spoilCell_0 rfl
theorem dX7_spoilCell_20 : decode cX7_spoilCell 20 = .ok (.iload_n 3, 1) := dk29 (k := 20) bX7_spoilCell_0 rfl
theorem dX7_spoilCell_21 : decode cX7_spoilCell 21 = .ok (.aload_n 0, 1) := dk42 (k := 21) bX7_spoilCell_0 rfl
theorem dX7_spoilCell_22 : decode cX7_spoilCell 22 = .ok (.getfield 25, 3) := dk180 (k := 22) bX7_spoilCell_0 rfl rfl
theorem bX7_spoilCell_25 : bL cX7_spoilCell 25 [180, 0, 40, 162, 0, 77, 42, 180, 0, 25, 29, 182, 0, 108, 54, 4, 21, 4, 2, 159, 0, 55, 42, 180, 0, 25] := bL_of (by decide +kernel)
theorem dX7_spoilCell_25 : decode cX7_spoilCell 25 = .ok (.getfield 40, 3) := dk180 (k := 0) bX7_spoilCell_25 rfl rfl
theorem dX7_spoilCell_28 : decode cX7_spoilCell 28 = .ok (.if_icmp .ge 77, 3) := dk162 (k := 3) bX7_spoilCell_25 rfl (by decide)
theorem dX7_spoilCell_31 : decode cX7_spoilCell 31 = .ok (.aload_n 0, 1) := dk42 (k := 6) bX7_spoilCell_25 rfl
theorem dX7_spoilCell_32 : decode cX7_spoilCell 32 = .ok (.getfield 25, 3) := dk180 (k := 7) bX7_spoilCell_25 rfl rfl
theorem dX7_spoilCell_35 : decode cX7_spoilCell 35 = .ok (.iload_n 3, 1) := dk29 (k := 10) bX7_spoilCell_25 rfl
theorem dX7_spoilCell_36 : decode cX7_spoilCell 36 = .ok (.invokevirtual 108, 3) := dk182 (k := 11) bX7_spoilCell_25 rfl rfl
theorem dX7_spoilCell_39 : decode cX7_spoilCell 39 = .ok (.istore 4, 2) := dk54 (k := 14) bX7_spoilCell_25 rfl rfl
theorem dX7_spoilCell_41 : decode cX7_spoilCell 41 = .ok (.iload 4, 2) := dk21 (k := 16) bX7_spoilCell_25 rfl rfl
theorem dX7_spoilCell_43 : decode cX7_spoilCell 43 = .ok (.iconst (-1), 1) := dk2 (k := 18) bX7_spoilCell_25 rfl
theorem dX7_spoilCell_44 : decode cX7_spoilCell 44 = .ok (.if_icmp .eq 55, 3) := dk159 (k := 19) bX7_spoilCell_25 rfl (by decide)
theorem dX7_spoilCell_47 : decode cX7_spoilCell 47 = .ok (.aload_n 0, 1) := dk42 (k := 22) bX7_spoilCell_25 rfl
theorem dX7_spoilCell_48 : decode cX7_spoilCell 48 = .ok (.getfield 25, 3) := dk180 (k := 23) bX7_spoilCell_25 rfl rfl
theorem bX7_spoilCell_51 : bL cX7_spoilCell 51 [21, 4, 4, 182, 0, 48, 42, 180, 0, 21, 180, 0, 52, 42, 180, 0, 25, 182, 0, 104, 54, 5, 42, 180, 0, 25] := bL_of (by decide +kernel)
theorem dX7_spoilCell_51 : decode cX7_spoilCell 51 = .ok (.iload 4, 2) := dk21 (k := 0) bX7_spoilCell_51 rfl rfl
theorem dX7_spoilCell_53 : decode cX7_spoilCell 53 = .ok (.iconst 1, 1) := dk4 (k := 2) bX7_spoilCell_51 rfl
theorem dX7_spoilCell_54 : decode cX7_spoilCell 54 = .ok (.invokevirtual 48, 3) := dk182 (k := 3) bX7_spoilCell_51 rfl rfl
theorem dX7_spoilCell_57 : decode cX7_spoilCell 57 = .ok (.aload_n 0, 1) := dk42 (k := 6) bX7_spoilCell_51 rfl
theorem dX7_spoilCell_58 : decode cX7_spoilCell 58 = .ok (.getfield 21, 3) := dk180 (k := 7) bX7_spoilCell_51 rfl rfl
theorem dX7_spoilCell_61 : decode cX7_spoilCell 61 = .ok (.getfield 52, 3) := dk180 (k := 10) bX7_spoilCell_51 rfl rfl
theorem dX7_spoilCell_64 : decode cX7_spoilCell 64 = .ok (.aload_n 0, 1) := dk42 (k := 13) bX7_spoilCell_51 rfl
theorem dX7_spoilCell_65 : decode cX7_spoilCell 65 = .ok (.getfield 25, 3) := dk180 (k := 14) bX7_spoilCell_51 rfl rfl
theorem dX7_spoilCell_68 : decode cX7_spoilCell 68 = .ok (.invokevirtual 104, 3) := dk182 (k := 17) bX7_spoilCell_51 rfl rfl
theorem dX7_spoilCell_71 : decode cX7_spoilCell 71 = .ok (.istore 5, 2) := dk54 (k := 20) bX7_spoilCell_51 rfl rfl
theorem dX7_spoilCell_73 : decode cX7_spoilCell 73 = .ok (.aload_n 0, 1) := dk42 (k := 22) bX7_spoilCell_51 rfl
theorem dX7_spoilCell_74 : decode cX7_spoilCell 74 = .ok (.getfield 25, 3) := dk180 (k := 23) bX7_spoilCell_51 rfl rfl
theorem bX7_spoilCell_77 : bL cX7_spoilCell 77 [21, 4, 2, 182, 0, 48, 27, 2, 159, 0, 9, 21, 5, 28, 164, 0, 8, 29, 60, 21, 5, 61, 132, 3, 1] := bL_of (by decide +kernel)
theorem dX7_spoilCell_77 : decode cX7_spoilCell 77 = .ok (.iload 4, 2) := dk21 (k := 0) bX7_spoilCell_77 rfl rfl
theorem dX7_spoilCell_79 : decode cX7_spoilCell 79 = .ok (.iconst (-1), 1) := dk2 (k := 2) bX7_spoilCell_77 rfl
theorem dX7_spoilCell_80 : decode cX7_spoilCell 80 = .ok (.invokevirtual 48, 3) := dk182 (k := 3) bX7_spoilCell_77 rfl rfl
theorem dX7_spoilCell_83 : decode cX7_spoilCell 83 = .ok (.iload_n 1, 1) := dk27 (k := 6) bX7_spoilCell_77 rfl
theorem dX7_spoilCell_84 : decode cX7_spoilCell 84 = .ok (.iconst (-1), 1) := dk2 (k := 7) bX7_spoilCell_77 rfl
theorem dX7_spoilCell_85 : decode cX7_spoilCell 85 = .ok (.if_icmp .eq 9, 3) := dk159 (k := 8) bX7_spoilCell_77 rfl (by decide)
theorem dX7_spoilCell_88 : decode cX7_spoilCell 88 = .ok (.iload 5, 2) := dk21 (k := 11) bX7_spoilCell_77 rfl rfl
theorem dX7_spoilCell_90 : decode cX7_spoilCell 90 = .ok (.iload_n 2, 1) := dk28 (k := 13) bX7_spoilCell_77 rfl
theorem dX7_spoilCell_91 : decode cX7_spoilCell 91 = .ok (.if_icmp .le 8, 3) := dk164 (k := 14) bX7_spoilCell_77 rfl (by decide)
theorem dX7_spoilCell_94 : decode cX7_spoilCell 94 = .ok (.iload_n 3, 1) := dk29 (k := 17) bX7_spoilCell_77 rfl
theorem dX7_spoilCell_95 : decode cX7_spoilCell 95 = .ok (.istore_n 1, 1) := dk60 (k := 18) bX7_spoilCell_77 rfl
theorem dX7_spoilCell_96 : decode cX7_spoilCell 96 = .ok (.iload 5, 2) := dk21 (k := 19) bX7_spoilCell_77 rfl rfl
theorem dX7_spoilCell_98 : decode cX7_spoilCell 98 = .ok (.istore_n 2, 1) := dk61 (k := 21) bX7_spoilCell_77 rfl
theorem dX7_spoilCell_99 : decode cX7_spoilCell 99 = .ok (.iinc 3 1, 3) := dk132 (k := 22) bX7_spoilCell_77 rfl rfl (by decide)
theorem bX7_spoilCell_102 : bL cX7_spoilCell 102 [167, 255, 174, 27, 172] := bL_of (by decide +kernel)
theorem dX7_spoilCell_102 : decode cX7_spoilCell 102 = .ok (.goto (-82), 3) := dk167 (k := 0) bX7_spoilCell_102 rfl (by decide)
theorem dX7_spoilCell_105 : decode cX7_spoilCell 105 = .ok (.iload_n 1, 1) := dk27 (k := 3) bX7_spoilCell_102 rfl
theorem dX7_spoilCell_106 : decode cX7_spoilCell 106 = .ok (.ireturn, 1) := dk172 (k := 4) bX7_spoilCell_102 rfl
theorem bX8_init_0 : bL cX8_init 0 [42, 183, 0, 3, 42, 7, 16, 60] := bL_of (by decide +kernel)
theorem dX8_init_0 : decode cX8_init 0 = .ok (.aload_n 0, 1) := dk42 (k := 0) bX8_init_0 rfl
theorem dX8_init_1 : decode cX8_init 1 = .ok (.invokespecial 3, 3) := dk183 (k := 1) bX8_init_0 rfl rfl
theorem dX8_init_4 : decode cX8_init 4 = .ok (.aload_n 0, 1) := dk42 (k := 4) bX8_init_0 rfl
theorem dX8_init_5 : decode cX8_init 5 = .ok (.iconst 4, 1) := dk7 (k := 5) bX8_init_0 rfl
theorem dX8_init_6 : decode cX8_init 6 = .ok (.bipush 60, 2) := dk16 (k := 6) bX8_init_0 rfl (by decide)
theorem dX8_init_8 : decode cX8_init 8 = .ok (.multianewarray 9 2, 4) := by decide +kernel
theorem bX8_init_12 : bL cX8_init 12 [181, 0, 11, 42, 7] := bL_of (by decide +kernel)
theorem dX8_init_12 : decode cX8_init 12 = .ok (.putfield 11, 3) := dk181 (k := 0) bX8_init_12 rfl rfl
theorem dX8_init_15 : decode cX8_init 15 = .ok (.aload_n 0, 1) := dk42 (k := 3) bX8_init_12 rfl
theorem dX8_init_16 : decode cX8_init 16 = .ok (.iconst 4, 1) := dk7 (k := 4) bX8_init_12 rfl
theorem dX8_init_17 : decode cX8_init 17 = .ok (.newarray .int, 2) := by decide +kernel
theorem bX8_init_19 : bL cX8_init 19 [181, 0, 16, 42, 7] := bL_of (by decide +kernel)
theorem dX8_init_19 : decode cX8_init 19 = .ok (.putfield 16, 3) := dk181 (k := 0) bX8_init_19 rfl rfl
theorem dX8_init_22 : decode cX8_init 22 = .ok (.aload_n 0, 1) := dk42 (k := 3) bX8_init_19 rfl
theorem dX8_init_23 : decode cX8_init 23 = .ok (.iconst 4, 1) := dk7 (k := 4) bX8_init_19 rfl
theorem dX8_init_24 : decode cX8_init 24 = .ok (.newarray .int, 2) := by decide +kernel
theorem bX8_init_26 : bL cX8_init 26 [89, 3, 2, 79, 89, 4, 2, 79, 89, 5, 2, 79, 89, 6, 2, 79, 181, 0, 20, 177] := bL_of (by decide +kernel)
theorem dX8_init_26 : decode cX8_init 26 = .ok (.dup, 1) := dk89 (k := 0) bX8_init_26 rfl
theorem dX8_init_27 : decode cX8_init 27 = .ok (.iconst 0, 1) := dk3 (k := 1) bX8_init_26 rfl
theorem dX8_init_28 : decode cX8_init 28 = .ok (.iconst (-1), 1) := dk2 (k := 2) bX8_init_26 rfl
theorem dX8_init_29 : decode cX8_init 29 = .ok (.iastore, 1) := dk79 (k := 3) bX8_init_26 rfl
theorem dX8_init_30 : decode cX8_init 30 = .ok (.dup, 1) := dk89 (k := 4) bX8_init_26 rfl
theorem dX8_init_31 : decode cX8_init 31 = .ok (.iconst 1, 1) := dk4 (k := 5) bX8_init_26 rfl
theorem dX8_init_32 : decode cX8_init 32 = .ok (.iconst (-1), 1) := dk2 (k := 6) bX8_init_26 rfl
theorem dX8_init_33 : decode cX8_init 33 = .ok (.iastore, 1) := dk79 (k := 7) bX8_init_26 rfl
theorem dX8_init_34 : decode cX8_init 34 = .ok (.dup, 1) := dk89 (k := 8) bX8_init_26 rfl
theorem dX8_init_35 : decode cX8_init 35 = .ok (.iconst 2, 1) := dk5 (k := 9) bX8_init_26 rfl
theorem dX8_init_36 : decode cX8_init 36 = .ok (.iconst (-1), 1) := dk2 (k := 10) bX8_init_26 rfl
theorem dX8_init_37 : decode cX8_init 37 = .ok (.iastore, 1) := dk79 (k := 11) bX8_init_26 rfl
theorem dX8_init_38 : decode cX8_init 38 = .ok (.dup, 1) := dk89 (k := 12) bX8_init_26 rfl
theorem dX8_init_39 : decode cX8_init 39 = .ok (.iconst 3, 1) := dk6 (k := 13) bX8_init_26 rfl
theorem dX8_init_40 : decode cX8_init 40 = .ok (.iconst (-1), 1) := dk2 (k := 14) bX8_init_26 rfl
theorem dX8_init_41 : decode cX8_init 41 = .ok (.iastore, 1) := dk79 (k := 15) bX8_init_26 rfl
theorem dX8_init_42 : decode cX8_init 42 = .ok (.putfield 20, 3) := dk181 (k := 16) bX8_init_26 rfl rfl
theorem dX8_init_45 : decode cX8_init 45 = .ok (.return_, 1) := dk177 (k := 19) bX8_init_26 rfl
theorem bX8_has_0 : bL cX8_has 0 [27, 155, 0, 12, 27, 7, 162, 0, 7, 4, 167, 0, 4, 3, 172] := bL_of (by decide +kernel)
theorem dX8_has_0 : decode cX8_has 0 = .ok (.iload_n 1, 1) := dk27 (k := 0) bX8_has_0 rfl
theorem dX8_has_1 : decode cX8_has 1 = .ok (.ifCond .lt 12, 3) := dk155 (k := 1) bX8_has_0 rfl (by decide)
theorem dX8_has_4 : decode cX8_has 4 = .ok (.iload_n 1, 1) := dk27 (k := 4) bX8_has_0 rfl
theorem dX8_has_5 : decode cX8_has 5 = .ok (.iconst 4, 1) := dk7 (k := 5) bX8_has_0 rfl
theorem dX8_has_6 : decode cX8_has 6 = .ok (.if_icmp .ge 7, 3) := dk162 (k := 6) bX8_has_0 rfl (by decide)
theorem dX8_has_9 : decode cX8_has 9 = .ok (.iconst 1, 1) := dk4 (k := 9) bX8_has_0 rfl
theorem dX8_has_10 : decode cX8_has 10 = .ok (.goto 4, 3) := dk167 (k := 10) bX8_has_0 rfl (by decide)
theorem dX8_has_13 : decode cX8_has 13 = .ok (.iconst 0, 1) := dk3 (k := 13) bX8_has_0 rfl
theorem dX8_has_14 : decode cX8_has 14 = .ok (.ireturn, 1) := dk172 (k := 14) bX8_has_0 rfl
theorem bX8_sizeOf_0 : bL cX8_sizeOf 0 [27, 155, 0, 17, 27, 7, 162, 0, 12, 42, 180, 0, 20, 27, 46, 167, 0, 4, 2, 172] := bL_of (by decide +kernel)
theorem dX8_sizeOf_0 : decode cX8_sizeOf 0 = .ok (.iload_n 1, 1) := dk27 (k := 0) bX8_sizeOf_0 rfl
theorem dX8_sizeOf_1 : decode cX8_sizeOf 1 = .ok (.ifCond .lt 17, 3) := dk155 (k := 1) bX8_sizeOf_0 rfl (by decide)
theorem dX8_sizeOf_4 : decode cX8_sizeOf 4 = .ok (.iload_n 1, 1) := dk27 (k := 4) bX8_sizeOf_0 rfl
theorem dX8_sizeOf_5 : decode cX8_sizeOf 5 = .ok (.iconst 4, 1) := dk7 (k := 5) bX8_sizeOf_0 rfl
theorem dX8_sizeOf_6 : decode cX8_sizeOf 6 = .ok (.if_icmp .ge 12, 3) := dk162 (k := 6) bX8_sizeOf_0 rfl (by decide)
theorem dX8_sizeOf_9 : decode cX8_sizeOf 9 = .ok (.aload_n 0, 1) := dk42 (k := 9) bX8_sizeOf_0 rfl
theorem dX8_sizeOf_10 : decode cX8_sizeOf 10 = .ok (.getfield 20, 3) := dk180 (k := 10) bX8_sizeOf_0 rfl rfl
theorem dX8_sizeOf_13 : decode cX8_sizeOf 13 = .ok (.iload_n 1, 1) := dk27 (k := 13) bX8_sizeOf_0 rfl
theorem dX8_sizeOf_14 : decode cX8_sizeOf 14 = .ok (.iaload, 1) := dk46 (k := 14) bX8_sizeOf_0 rfl
theorem dX8_sizeOf_15 : decode cX8_sizeOf 15 = .ok (.goto 4, 3) := dk167 (k := 15) bX8_sizeOf_0 rfl (by decide)
theorem dX8_sizeOf_18 : decode cX8_sizeOf 18 = .ok (.iconst (-1), 1) := dk2 (k := 18) bX8_sizeOf_0 rfl
theorem dX8_sizeOf_19 : decode cX8_sizeOf 19 = .ok (.ireturn, 1) := dk172 (k := 19) bX8_sizeOf_0 rfl
theorem bX8_isLaid_0 : bL cX8_isLaid 0 [42, 27, 182, 0, 23, 2, 159, 0, 7, 4, 167, 0, 4, 3, 172] := bL_of (by decide +kernel)
theorem dX8_isLaid_0 : decode cX8_isLaid 0 = .ok (.aload_n 0, 1) := dk42 (k := 0) bX8_isLaid_0 rfl
theorem dX8_isLaid_1 : decode cX8_isLaid 1 = .ok (.iload_n 1, 1) := dk27 (k := 1) bX8_isLaid_0 rfl
theorem dX8_isLaid_2 : decode cX8_isLaid 2 = .ok (.invokevirtual 23, 3) := dk182 (k := 2) bX8_isLaid_0 rfl rfl
theorem dX8_isLaid_5 : decode cX8_isLaid 5 = .ok (.iconst (-1), 1) := dk2 (k := 5) bX8_isLaid_0 rfl
theorem dX8_isLaid_6 : decode cX8_isLaid 6 = .ok (.if_icmp .eq 7, 3) := dk159 (k := 6) bX8_isLaid_0 rfl (by decide)
theorem dX8_isLaid_9 : decode cX8_isLaid 9 = .ok (.iconst 1, 1) := dk4 (k := 9) bX8_isLaid_0 rfl
theorem dX8_isLaid_10 : decode cX8_isLaid 10 = .ok (.goto 4, 3) := dk167 (k := 10) bX8_isLaid_0 rfl (by decide)
theorem dX8_isLaid_13 : decode cX8_isLaid 13 = .ok (.iconst 0, 1) := dk3 (k := 13) bX8_isLaid_0 rfl
theorem dX8_isLaid_14 : decode cX8_isLaid 14 = .ok (.ireturn, 1) := dk172 (k := 14) bX8_isLaid_0 rfl
theorem bX8_widthOf_0 : bL cX8_widthOf 0 [42, 27, 182, 0, 27, 153, 0, 12, 42, 180, 0, 16, 27, 46, 167, 0, 4, 2, 172] := bL_of (by decide +kernel)
theorem dX8_widthOf_0 : decode cX8_widthOf 0 = .ok (.aload_n 0, 1) := dk42 (k := 0) bX8_widthOf_0 rfl
theorem dX8_widthOf_1 : decode cX8_widthOf 1 = .ok (.iload_n 1, 1) := dk27 (k := 1) bX8_widthOf_0 rfl
theorem dX8_widthOf_2 : decode cX8_widthOf 2 = .ok (.invokevirtual 27, 3) := dk182 (k := 2) bX8_widthOf_0 rfl rfl
theorem dX8_widthOf_5 : decode cX8_widthOf 5 = .ok (.ifCond .eq 12, 3) := dk153 (k := 5) bX8_widthOf_0 rfl (by decide)
theorem dX8_widthOf_8 : decode cX8_widthOf 8 = .ok (.aload_n 0, 1) := dk42 (k := 8) bX8_widthOf_0 rfl
theorem dX8_widthOf_9 : decode cX8_widthOf 9 = .ok (.getfield 16, 3) := dk180 (k := 9) bX8_widthOf_0 rfl rfl
theorem dX8_widthOf_12 : decode cX8_widthOf 12 = .ok (.iload_n 1, 1) := dk27 (k := 12) bX8_widthOf_0 rfl
theorem dX8_widthOf_13 : decode cX8_widthOf 13 = .ok (.iaload, 1) := dk46 (k := 13) bX8_widthOf_0 rfl
theorem dX8_widthOf_14 : decode cX8_widthOf 14 = .ok (.goto 4, 3) := dk167 (k := 14) bX8_widthOf_0 rfl (by decide)
theorem dX8_widthOf_17 : decode cX8_widthOf 17 = .ok (.iconst (-1), 1) := dk2 (k := 17) bX8_widthOf_0 rfl
theorem dX8_widthOf_18 : decode cX8_widthOf 18 = .ok (.ireturn, 1) := dk172 (k := 18) bX8_widthOf_0 rfl
theorem bX8_rows_0 : bL cX8_rows 0 [3, 60, 3, 61, 28, 7, 162, 0, 20, 42, 28, 182, 0, 31, 153, 0, 6, 132, 1, 1, 132, 2, 1, 167, 255, 237] := bL_of (by decide +kernel)
theorem dX8_rows_0 : decode cX8_rows 0 = .ok (.iconst 0, 1) := dk3 (k := 0) bX8_rows_0 rfl
theorem dX8_rows_1 : decode cX8_rows 1 = .ok (.istore_n 1, 1) := dk60 (k := 1) bX8_rows_0 rfl
theorem dX8_rows_2 : decode cX8_rows 2 = .ok (.iconst 0, 1) := dk3 (k := 2) bX8_rows_0 rfl
theorem dX8_rows_3 : decode cX8_rows 3 = .ok (.istore_n 2, 1) := dk61 (k := 3) bX8_rows_0 rfl
theorem dX8_rows_4 : decode cX8_rows 4 = .ok (.iload_n 2, 1) := dk28 (k := 4) bX8_rows_0 rfl
theorem dX8_rows_5 : decode cX8_rows 5 = .ok (.iconst 4, 1) := dk7 (k := 5) bX8_rows_0 rfl
theorem dX8_rows_6 : decode cX8_rows 6 = .ok (.if_icmp .ge 20, 3) := dk162 (k := 6) bX8_rows_0 rfl (by decide)
theorem dX8_rows_9 : decode cX8_rows 9 = .ok (.aload_n 0, 1) := dk42 (k := 9) bX8_rows_0 rfl
theorem dX8_rows_10 : decode cX8_rows 10 = .ok (.iload_n 2, 1) := dk28 (k := 10) bX8_rows_0 rfl
theorem dX8_rows_11 : decode cX8_rows 11 = .ok (.invokevirtual 31, 3) := dk182 (k := 11) bX8_rows_0 rfl rfl
theorem dX8_rows_14 : decode cX8_rows 14 = .ok (.ifCond .eq 6, 3) := dk153 (k := 14) bX8_rows_0 rfl (by decide)
theorem dX8_rows_17 : decode cX8_rows 17 = .ok (.iinc 1 1, 3) := dk132 (k := 17) bX8_rows_0 rfl rfl (by decide)
theorem dX8_rows_20 : decode cX8_rows 20 = .ok (.iinc 2 1, 3) := dk132 (k := 20) bX8_rows_0 rfl rfl (by decide)
theorem dX8_rows_23 : decode cX8_rows 23 = .ok (.goto (-19), 3) := dk167 (k := 23) bX8_rows_0 rfl (by decide)
theorem bX8_rows_26 : bL cX8_rows 26 [27, 172] := bL_of (by decide +kernel)
theorem dX8_rows_26 : decode cX8_rows 26 = .ok (.iload_n 1, 1) := dk27 (k := 0) bX8_rows_26 rfl
theorem dX8_rows_27 : decode cX8_rows 27 = .ok (.ireturn, 1) := dk172 (k := 1) bX8_rows_26 rfl
theorem bX8_spans_0 : bL cX8_spans 0 [28, 155, 0, 31, 29, 155, 0, 27, 29, 42, 27, 182, 0, 23, 163, 0, 18, 28, 42, 27, 182, 0, 23, 29] := bL_of (by decide +kernel)
theorem dX8_spans_0 : decode cX8_spans 0 = .ok (.iload_n 2, 1) := dk28 (k := 0) bX8_spans_0 rfl
theorem dX8_spans_1 : decode cX8_spans 1 = .ok (.ifCond .lt 31, 3) := dk155 (k := 1) bX8_spans_0 rfl (by decide)
theorem dX8_spans_4 : decode cX8_spans 4 = .ok (.iload_n 3, 1) := dk29 (k := 4) bX8_spans_0 rfl
theorem dX8_spans_5 : decode cX8_spans 5 = .ok (.ifCond .lt 27, 3) := dk155 (k := 5) bX8_spans_0 rfl (by decide)
theorem dX8_spans_8 : decode cX8_spans 8 = .ok (.iload_n 3, 1) := dk29 (k := 8) bX8_spans_0 rfl
theorem dX8_spans_9 : decode cX8_spans 9 = .ok (.aload_n 0, 1) := dk42 (k := 9) bX8_spans_0 rfl
theorem dX8_spans_10 : decode cX8_spans 10 = .ok (.iload_n 1, 1) := dk27 (k := 10) bX8_spans_0 rfl
theorem dX8_spans_11 : decode cX8_spans 11 = .ok (.invokevirtual 23, 3) := dk182 (k := 11) bX8_spans_0 rfl rfl
theorem dX8_spans_14 : decode cX8_spans 14 = .ok (.if_icmp .gt 18, 3) := dk163 (k := 14) bX8_spans_0 rfl (by decide)
theorem dX8_spans_17 : decode cX8_spans 17 = .ok (.iload_n 2, 1) := dk28 (k := 17) bX8_spans_0 rfl
theorem dX8_spans_18 : decode cX8_spans 18 = .ok (.aload_n 0, 1) := dk42 (k := 18) bX8_spans_0 rfl
theorem dX8_spans_19 : decode cX8_spans 19 = .ok (.iload_n 1, 1) := dk27 (k := 19) bX8_spans_0 rfl
theorem dX8_spans_20 : decode cX8_spans 20 = .ok (.invokevirtual 23, 3) := dk182 (k := 20) bX8_spans_0 rfl rfl
theorem dX8_spans_23 : decode cX8_spans 23 = .ok (.iload_n 3, 1) := dk29 (k := 23) bX8_spans_0 rfl
theorem bX8_spans_24 : bL cX8_spans 24 [100, 163, 0, 7, 4, 167, 0, 4, 3, 172] := bL_of (by decide +kernel)
theorem dX8_spans_24 : decode cX8_spans 24 = .ok (.isub, 1) := dk100 (k := 0) bX8_spans_24 rfl
theorem dX8_spans_25 : decode cX8_spans 25 = .ok (.if_icmp .gt 7, 3) := dk163 (k := 1) bX8_spans_24 rfl (by decide)
theorem dX8_spans_28 : decode cX8_spans 28 = .ok (.iconst 1, 1) := dk4 (k := 4) bX8_spans_24 rfl
theorem dX8_spans_29 : decode cX8_spans 29 = .ok (.goto 4, 3) := dk167 (k := 5) bX8_spans_24 rfl (by decide)
theorem dX8_spans_32 : decode cX8_spans 32 = .ok (.iconst 0, 1) := dk3 (k := 8) bX8_spans_24 rfl
theorem dX8_spans_33 : decode cX8_spans 33 = .ok (.ireturn, 1) := dk172 (k := 9) bX8_spans_24 rfl
theorem bX8_numberAt_0 : bL cX8_numberAt 0 [42, 27, 182, 0, 27, 153, 0, 24, 28, 155, 0, 20, 28, 16, 60, 162, 0, 14, 42, 180, 0, 11, 27, 50] := bL_of (by decide +kernel)
theorem dX8_numberAt_0 : decode cX8_numberAt 0 = .ok (.aload_n 0, 1) := dk42 (k := 0) bX8_numberAt_0 rfl
theorem dX8_numberAt_1 : decode cX8_numberAt 1 = .ok (.iload_n 1, 1) := dk27 (k := 1) bX8_numberAt_0 rfl
theorem dX8_numberAt_2 : decode cX8_numberAt 2 = .ok (.invokevirtual 27, 3) := dk182 (k := 2) bX8_numberAt_0 rfl rfl
theorem dX8_numberAt_5 : decode cX8_numberAt 5 = .ok (.ifCond .eq 24, 3) := dk153 (k := 5) bX8_numberAt_0 rfl (by decide)
theorem dX8_numberAt_8 : decode cX8_numberAt 8 = .ok (.iload_n 2, 1) := dk28 (k := 8) bX8_numberAt_0 rfl
theorem dX8_numberAt_9 : decode cX8_numberAt 9 = .ok (.ifCond .lt 20, 3) := dk155 (k := 9) bX8_numberAt_0 rfl (by decide)
theorem dX8_numberAt_12 : decode cX8_numberAt 12 = .ok (.iload_n 2, 1) := dk28 (k := 12) bX8_numberAt_0 rfl
theorem dX8_numberAt_13 : decode cX8_numberAt 13 = .ok (.bipush 60, 2) := dk16 (k := 13) bX8_numberAt_0 rfl (by decide)
theorem dX8_numberAt_15 : decode cX8_numberAt 15 = .ok (.if_icmp .ge 14, 3) := dk162 (k := 15) bX8_numberAt_0 rfl (by decide)
theorem dX8_numberAt_18 : decode cX8_numberAt 18 = .ok (.aload_n 0, 1) := dk42 (k := 18) bX8_numberAt_0 rfl
theorem dX8_numberAt_19 : decode cX8_numberAt 19 = .ok (.getfield 11, 3) := dk180 (k := 19) bX8_numberAt_0 rfl rfl
theorem dX8_numberAt_22 : decode cX8_numberAt 22 = .ok (.iload_n 1, 1) := dk27 (k := 22) bX8_numberAt_0 rfl
theorem dX8_numberAt_23 : decode cX8_numberAt 23 = .ok (.aaload, 1) := dk50 (k := 23) bX8_numberAt_0 rfl
theorem bX8_numberAt_24 : bL cX8_numberAt 24 [28, 47, 167, 0, 4, 9, 173] := bL_of (by decide +kernel)
theorem dX8_numberAt_24 : decode cX8_numberAt 24 = .ok (.iload_n 2, 1) := dk28 (k := 0) bX8_numberAt_24 rfl
theorem dX8_numberAt_25 : decode cX8_numberAt 25 = .ok (.laload, 1) := dk47 (k := 1) bX8_numberAt_24 rfl
theorem dX8_numberAt_26 : decode cX8_numberAt 26 = .ok (.goto 4, 3) := dk167 (k := 2) bX8_numberAt_24 rfl (by decide)
theorem dX8_numberAt_29 : decode cX8_numberAt 29 = .ok (.lconst 0, 1) := dk9 (k := 5) bX8_numberAt_24 rfl
theorem dX8_numberAt_30 : decode cX8_numberAt 30 = .ok (.lreturn, 1) := dk173 (k := 6) bX8_numberAt_24 rfl
theorem bX8_lay_0 : bL cX8_lay 0 [42, 27, 182, 0, 27, 153, 0, 13, 29, 155, 0, 9, 29, 16, 60, 164, 0, 4, 177, 42, 180, 0, 16, 27] := bL_of (by decide +kernel)
theorem dX8_lay_0 : decode cX8_lay 0 = .ok (.aload_n 0, 1) := dk42 (k := 0) bX8_lay_0 rfl
theorem dX8_lay_1 : decode cX8_lay 1 = .ok (.iload_n 1, 1) := dk27 (k := 1) bX8_lay_0 rfl
theorem dX8_lay_2 : decode cX8_lay 2 = .ok (.invokevirtual 27, 3) := dk182 (k := 2) bX8_lay_0 rfl rfl
theorem dX8_lay_5 : decode cX8_lay 5 = .ok (.ifCond .eq 13, 3) := dk153 (k := 5) bX8_lay_0 rfl (by decide)
theorem dX8_lay_8 : decode cX8_lay 8 = .ok (.iload_n 3, 1) := dk29 (k := 8) bX8_lay_0 rfl
theorem dX8_lay_9 : decode cX8_lay 9 = .ok (.ifCond .lt 9, 3) := dk155 (k := 9) bX8_lay_0 rfl (by decide)
theorem dX8_lay_12 : decode cX8_lay 12 = .ok (.iload_n 3, 1) := dk29 (k := 12) bX8_lay_0 rfl
theorem dX8_lay_13 : decode cX8_lay 13 = .ok (.bipush 60, 2) := dk16 (k := 13) bX8_lay_0 rfl (by decide)
theorem dX8_lay_15 : decode cX8_lay 15 = .ok (.if_icmp .le 4, 3) := dk164 (k := 15) bX8_lay_0 rfl (by decide)
theorem dX8_lay_18 : decode cX8_lay 18 = .ok (.return_, 1) := dk177 (k := 18) bX8_lay_0 rfl
theorem dX8_lay_19 : decode cX8_lay 19 = .ok (.aload_n 0, 1) := dk42 (k := 19) bX8_lay_0 rfl
theorem dX8_lay_20 : decode cX8_lay 20 = .ok (.getfield 16, 3) := dk180 (k := 20) bX8_lay_0 rfl rfl
theorem dX8_lay_23 : decode cX8_lay 23 = .ok (.iload_n 1, 1) := dk27 (k := 23) bX8_lay_0 rfl
theorem bX8_lay_24 : bL cX8_lay 24 [28, 79, 42, 180, 0, 20, 27, 29, 79, 3, 54, 4, 21, 4, 16, 60, 162, 0, 19, 42, 180, 0, 11, 27] := bL_of (by decide +kernel)
theorem dX8_lay_24 : decode cX8_lay 24 = .ok (.iload_n 2, 1) := dk28 (k := 0) bX8_lay_24 rfl
theorem dX8_lay_25 : decode cX8_lay 25 = .ok (.iastore, 1) := dk79 (k := 1) bX8_lay_24 rfl
theorem dX8_lay_26 : decode cX8_lay 26 = .ok (.aload_n 0, 1) := dk42 (k := 2) bX8_lay_24 rfl
theorem dX8_lay_27 : decode cX8_lay 27 = .ok (.getfield 20, 3) := dk180 (k := 3) bX8_lay_24 rfl rfl
theorem dX8_lay_30 : decode cX8_lay 30 = .ok (.iload_n 1, 1) := dk27 (k := 6) bX8_lay_24 rfl
theorem dX8_lay_31 : decode cX8_lay 31 = .ok (.iload_n 3, 1) := dk29 (k := 7) bX8_lay_24 rfl
theorem dX8_lay_32 : decode cX8_lay 32 = .ok (.iastore, 1) := dk79 (k := 8) bX8_lay_24 rfl
theorem dX8_lay_33 : decode cX8_lay 33 = .ok (.iconst 0, 1) := dk3 (k := 9) bX8_lay_24 rfl
theorem dX8_lay_34 : decode cX8_lay 34 = .ok (.istore 4, 2) := dk54 (k := 10) bX8_lay_24 rfl rfl
theorem dX8_lay_36 : decode cX8_lay 36 = .ok (.iload 4, 2) := dk21 (k := 12) bX8_lay_24 rfl rfl
theorem dX8_lay_38 : decode cX8_lay 38 = .ok (.bipush 60, 2) := dk16 (k := 14) bX8_lay_24 rfl (by decide)
theorem dX8_lay_40 : decode cX8_lay 40 = .ok (.if_icmp .ge 19, 3) := dk162 (k := 16) bX8_lay_24 rfl (by decide)
theorem dX8_lay_43 : decode cX8_lay 43 = .ok (.aload_n 0, 1) := dk42 (k := 19) bX8_lay_24 rfl
theorem dX8_lay_44 : decode cX8_lay 44 = .ok (.getfield 11, 3) := dk180 (k := 20) bX8_lay_24 rfl rfl
theorem dX8_lay_47 : decode cX8_lay 47 = .ok (.iload_n 1, 1) := dk27 (k := 23) bX8_lay_24 rfl
theorem bX8_lay_48 : bL cX8_lay 48 [50, 21, 4, 9, 80, 132, 4, 1, 167, 255, 236, 177] := bL_of (by decide +kernel)
theorem dX8_lay_48 : decode cX8_lay 48 = .ok (.aaload, 1) := dk50 (k := 0) bX8_lay_48 rfl
theorem dX8_lay_49 : decode cX8_lay 49 = .ok (.iload 4, 2) := dk21 (k := 1) bX8_lay_48 rfl rfl
theorem dX8_lay_51 : decode cX8_lay 51 = .ok (.lconst 0, 1) := dk9 (k := 3) bX8_lay_48 rfl
theorem dX8_lay_52 : decode cX8_lay 52 = .ok (.lastore, 1) := dk80 (k := 4) bX8_lay_48 rfl
theorem dX8_lay_53 : decode cX8_lay 53 = .ok (.iinc 4 1, 3) := dk132 (k := 5) bX8_lay_48 rfl rfl (by decide)
theorem dX8_lay_56 : decode cX8_lay 56 = .ok (.goto (-20), 3) := dk167 (k := 8) bX8_lay_48 rfl (by decide)
theorem dX8_lay_59 : decode cX8_lay 59 = .ok (.return_, 1) := dk177 (k := 11) bX8_lay_48 rfl
theorem bX8_put_0 : bL cX8_put 0 [42, 27, 182, 0, 27, 153, 0, 31, 28, 155, 0, 27, 28, 16, 60, 162, 0, 21, 42, 180, 0, 11, 27, 50] := bL_of (by decide +kernel)
theorem dX8_put_0 : decode cX8_put 0 = .ok (.aload_n 0, 1) := dk42 (k := 0) bX8_put_0 rfl
theorem dX8_put_1 : decode cX8_put 1 = .ok (.iload_n 1, 1) := dk27 (k := 1) bX8_put_0 rfl
theorem dX8_put_2 : decode cX8_put 2 = .ok (.invokevirtual 27, 3) := dk182 (k := 2) bX8_put_0 rfl rfl
theorem dX8_put_5 : decode cX8_put 5 = .ok (.ifCond .eq 31, 3) := dk153 (k := 5) bX8_put_0 rfl (by decide)
theorem dX8_put_8 : decode cX8_put 8 = .ok (.iload_n 2, 1) := dk28 (k := 8) bX8_put_0 rfl
theorem dX8_put_9 : decode cX8_put 9 = .ok (.ifCond .lt 27, 3) := dk155 (k := 9) bX8_put_0 rfl (by decide)
theorem dX8_put_12 : decode cX8_put 12 = .ok (.iload_n 2, 1) := dk28 (k := 12) bX8_put_0 rfl
theorem dX8_put_13 : decode cX8_put 13 = .ok (.bipush 60, 2) := dk16 (k := 13) bX8_put_0 rfl (by decide)
theorem dX8_put_15 : decode cX8_put 15 = .ok (.if_icmp .ge 21, 3) := dk162 (k := 15) bX8_put_0 rfl (by decide)
theorem dX8_put_18 : decode cX8_put 18 = .ok (.aload_n 0, 1) := dk42 (k := 18) bX8_put_0 rfl
theorem dX8_put_19 : decode cX8_put 19 = .ok (.getfield 11, 3) := dk180 (k := 19) bX8_put_0 rfl rfl
theorem dX8_put_22 : decode cX8_put 22 = .ok (.iload_n 1, 1) := dk27 (k := 22) bX8_put_0 rfl
theorem dX8_put_23 : decode cX8_put 23 = .ok (.aaload, 1) := dk50 (k := 23) bX8_put_0 rfl
theorem bX8_put_24 : bL cX8_put 24 [28, 33, 42, 180, 0, 16, 27, 46, 184, 0, 34, 80, 177] := bL_of (by decide +kernel)
theorem dX8_put_24 : decode cX8_put 24 = .ok (.iload_n 2, 1) := dk28 (k := 0) bX8_put_24 rfl
theorem dX8_put_25 : decode cX8_put 25 = .ok (.lload_n 3, 1) := dk33 (k := 1) bX8_put_24 rfl
theorem dX8_put_26 : decode cX8_put 26 = .ok (.aload_n 0, 1) := dk42 (k := 2) bX8_put_24 rfl
theorem dX8_put_27 : decode cX8_put 27 = .ok (.getfield 16, 3) := dk180 (k := 3) bX8_put_24 rfl rfl
theorem dX8_put_30 : decode cX8_put 30 = .ok (.iload_n 1, 1) := dk27 (k := 6) bX8_put_24 rfl
theorem dX8_put_31 : decode cX8_put 31 = .ok (.iaload, 1) := dk46 (k := 7) bX8_put_24 rfl
theorem dX8_put_32 : decode cX8_put 32 = .ok (.invokestatic 34, 3) := dk184 (k := 8) bX8_put_24 rfl rfl
theorem dX8_put_35 : decode cX8_put 35 = .ok (.lastore, 1) := dk80 (k := 11) bX8_put_24 rfl
theorem dX8_put_36 : decode cX8_put 36 = .ok (.return_, 1) := dk177 (k := 12) bX8_put_24 rfl
theorem bX8_cut_0 : bL cX8_cut 0 [28] := bL_of (by decide +kernel)
theorem dX8_cut_0 : decode cX8_cut 0 = .ok (.iload_n 2, 1) := dk28 (k := 0) bX8_cut_0 rfl
theorem dX8_cut_1 : decode cX8_cut 1 = .ok (.tableswitch 41 0 2 #[27, 32, 37], 27) := by decide +kernel
theorem bX8_cut_28 : bL cX8_cut 28 [30, 136, 145, 133, 173, 30, 136, 147, 133, 173, 30, 136, 133, 173, 30, 173] := bL_of (by decide +kernel)
theorem dX8_cut_28 : decode cX8_cut 28 = .ok (.lload_n 0, 1) := dk30 (k := 0) bX8_cut_28 rfl
theorem dX8_cut_29 : decode cX8_cut 29 = .ok (.l2i, 1) := dk136 (k := 1) bX8_cut_28 rfl
theorem dX8_cut_30 : decode cX8_cut 30 = .ok (.i2b, 1) := dk145 (k := 2) bX8_cut_28 rfl
theorem dX8_cut_31 : decode cX8_cut 31 = .ok (.i2l, 1) := dk133 (k := 3) bX8_cut_28 rfl
theorem dX8_cut_32 : decode cX8_cut 32 = .ok (.lreturn, 1) := dk173 (k := 4) bX8_cut_28 rfl
theorem dX8_cut_33 : decode cX8_cut 33 = .ok (.lload_n 0, 1) := dk30 (k := 5) bX8_cut_28 rfl
theorem dX8_cut_34 : decode cX8_cut 34 = .ok (.l2i, 1) := dk136 (k := 6) bX8_cut_28 rfl
theorem dX8_cut_35 : decode cX8_cut 35 = .ok (.i2s, 1) := dk147 (k := 7) bX8_cut_28 rfl
theorem dX8_cut_36 : decode cX8_cut 36 = .ok (.i2l, 1) := dk133 (k := 8) bX8_cut_28 rfl
theorem dX8_cut_37 : decode cX8_cut 37 = .ok (.lreturn, 1) := dk173 (k := 9) bX8_cut_28 rfl
theorem dX8_cut_38 : decode cX8_cut 38 = .ok (.lload_n 0, 1) := dk30 (k := 10) bX8_cut_28 rfl
theorem dX8_cut_39 : decode cX8_cut 39 = .ok (.l2i, 1) := dk136 (k := 11) bX8_cut_28 rfl
theorem dX8_cut_40 : decode cX8_cut 40 = .ok (.i2l, 1) := dk133 (k := 12) bX8_cut_28 rfl
theorem dX8_cut_41 : decode cX8_cut 41 = .ok (.lreturn, 1) := dk173 (k := 13) bX8_cut_28 rfl
theorem dX8_cut_42 : decode cX8_cut 42 = .ok (.lload_n 0, 1) := dk30 (k := 14) bX8_cut_28 rfl
theorem dX8_cut_43 : decode cX8_cut 43 = .ok (.lreturn, 1) := dk173 (k := 15) bX8_cut_28 rfl
theorem bX8_move_0 : bL cX8_move 0 [42, 27, 182, 0, 27, 153, 0, 54, 42, 29, 182, 0, 27, 153, 0, 46, 42, 27, 28, 21, 5, 182, 0, 38] := bL_of (by decide +kernel)
theorem dX8_move_0 : decode cX8_move 0 = .ok (.aload_n 0, 1) := dk42 (k := 0) bX8_move_0 rfl
theorem dX8_move_1 : decode cX8_move 1 = .ok (.iload_n 1, 1) := dk27 (k := 1) bX8_move_0 rfl
theorem dX8_move_2 : decode cX8_move 2 = .ok (.invokevirtual 27, 3) := dk182 (k := 2) bX8_move_0 rfl rfl
theorem dX8_move_5 : decode cX8_move 5 = .ok (.ifCond .eq 54, 3) := dk153 (k := 5) bX8_move_0 rfl (by decide)
theorem dX8_move_8 : decode cX8_move 8 = .ok (.aload_n 0, 1) := dk42 (k := 8) bX8_move_0 rfl
theorem dX8_move_9 : decode cX8_move 9 = .ok (.iload_n 3, 1) := dk29 (k := 9) bX8_move_0 rfl
theorem dX8_move_10 : decode cX8_move 10 = .ok (.invokevirtual 27, 3) := dk182 (k := 10) bX8_move_0 rfl rfl
theorem dX8_move_13 : decode cX8_move 13 = .ok (.ifCond .eq 46, 3) := dk153 (k := 13) bX8_move_0 rfl (by decide)
theorem dX8_move_16 : decode cX8_move 16 = .ok (.aload_n 0, 1) := dk42 (k := 16) bX8_move_0 rfl
theorem dX8_move_17 : decode cX8_move 17 = .ok (.iload_n 1, 1) := dk27 (k := 17) bX8_move_0 rfl
theorem dX8_move_18 : decode cX8_move 18 = .ok (.iload_n 2, 1) := dk28 (k := 18) bX8_move_0 rfl
theorem dX8_move_19 : decode cX8_move 19 = .ok (.iload 5, 2) := dk21 (k := 19) bX8_move_0 rfl rfl
theorem dX8_move_21 : decode cX8_move 21 = .ok (.invokevirtual 38, 3) := dk182 (k := 21) bX8_move_0 rfl rfl
theorem bX8_move_24 : bL cX8_move 24 [153, 0, 35, 42, 29, 21, 4, 21, 5, 182, 0, 38, 153, 0, 23, 42, 180, 0, 11, 27, 50, 28, 42, 180, 0, 11] := bL_of (by decide +kernel)
theorem dX8_move_24 : decode cX8_move 24 = .ok (.ifCond .eq 35, 3) := dk153 (k := 0) bX8_move_24 rfl (by decide)
theorem dX8_move_27 : decode cX8_move 27 = .ok (.aload_n 0, 1) := dk42 (k := 3) bX8_move_24 rfl
theorem dX8_move_28 : decode cX8_move 28 = .ok (.iload_n 3, 1) := dk29 (k := 4) bX8_move_24 rfl
theorem dX8_move_29 : decode cX8_move 29 = .ok (.iload 4, 2) := dk21 (k := 5) bX8_move_24 rfl rfl
theorem dX8_move_31 : decode cX8_move 31 = .ok (.iload 5, 2) := dk21 (k := 7) bX8_move_24 rfl rfl
theorem dX8_move_33 : decode cX8_move 33 = .ok (.invokevirtual 38, 3) := dk182 (k := 9) bX8_move_24 rfl rfl
theorem dX8_move_36 : decode cX8_move 36 = .ok (.ifCond .eq 23, 3) := dk153 (k := 12) bX8_move_24 rfl (by decide)
theorem dX8_move_39 : decode cX8_move 39 = .ok (.aload_n 0, 1) := dk42 (k := 15) bX8_move_24 rfl
theorem dX8_move_40 : decode cX8_move 40 = .ok (.getfield 11, 3) := dk180 (k := 16) bX8_move_24 rfl rfl
theorem dX8_move_43 : decode cX8_move 43 = .ok (.iload_n 1, 1) := dk27 (k := 19) bX8_move_24 rfl
theorem dX8_move_44 : decode cX8_move 44 = .ok (.aaload, 1) := dk50 (k := 20) bX8_move_24 rfl
theorem dX8_move_45 : decode cX8_move 45 = .ok (.iload_n 2, 1) := dk28 (k := 21) bX8_move_24 rfl
theorem dX8_move_46 : decode cX8_move 46 = .ok (.aload_n 0, 1) := dk42 (k := 22) bX8_move_24 rfl
theorem dX8_move_47 : decode cX8_move 47 = .ok (.getfield 11, 3) := dk180 (k := 23) bX8_move_24 rfl rfl
theorem bX8_move_50 : bL cX8_move 50 [29, 50, 21, 4, 21, 5, 184, 0, 42, 177] := bL_of (by decide +kernel)
theorem dX8_move_50 : decode cX8_move 50 = .ok (.iload_n 3, 1) := dk29 (k := 0) bX8_move_50 rfl
theorem dX8_move_51 : decode cX8_move 51 = .ok (.aaload, 1) := dk50 (k := 1) bX8_move_50 rfl
theorem dX8_move_52 : decode cX8_move 52 = .ok (.iload 4, 2) := dk21 (k := 2) bX8_move_50 rfl rfl
theorem dX8_move_54 : decode cX8_move 54 = .ok (.iload 5, 2) := dk21 (k := 4) bX8_move_50 rfl rfl
theorem dX8_move_56 : decode cX8_move 56 = .ok (.invokestatic 42, 3) := dk184 (k := 6) bX8_move_50 rfl rfl
theorem dX8_move_59 : decode cX8_move 59 = .ok (.return_, 1) := dk177 (k := 9) bX8_move_50 rfl
theorem bX9_init_0 : bL cX9_init 0 [42, 183, 0, 3, 42, 17, 3, 132] := bL_of (by decide +kernel)
theorem dX9_init_0 : decode cX9_init 0 = .ok (.aload_n 0, 1) := dk42 (k := 0) bX9_init_0 rfl
theorem dX9_init_1 : decode cX9_init 1 = .ok (.invokespecial 3, 3) := dk183 (k := 1) bX9_init_0 rfl rfl
theorem dX9_init_4 : decode cX9_init 4 = .ok (.aload_n 0, 1) := dk42 (k := 4) bX9_init_0 rfl
theorem dX9_init_5 : decode cX9_init 5 = .ok (.sipush 900, 3) := dk17 (k := 5) bX9_init_0 rfl (by decide)
theorem dX9_init_8 : decode cX9_init 8 = .ok (.newarray .byte, 2) := by decide +kernel
theorem bX9_init_10 : bL cX9_init 10 [181, 0, 9, 42, 17, 3, 133] := bL_of (by decide +kernel)
theorem dX9_init_10 : decode cX9_init 10 = .ok (.putfield 9, 3) := dk181 (k := 0) bX9_init_10 rfl rfl
theorem dX9_init_13 : decode cX9_init 13 = .ok (.aload_n 0, 1) := dk42 (k := 3) bX9_init_10 rfl
theorem dX9_init_14 : decode cX9_init 14 = .ok (.sipush 901, 3) := dk17 (k := 4) bX9_init_10 rfl (by decide)
theorem dX9_init_17 : decode cX9_init 17 = .ok (.newarray .int, 2) := by decide +kernel
theorem bX9_init_19 : bL cX9_init 19 [181, 0, 15, 42, 17, 3, 133] := bL_of (by decide +kernel)
theorem dX9_init_19 : decode cX9_init 19 = .ok (.putfield 15, 3) := dk181 (k := 0) bX9_init_19 rfl rfl
theorem dX9_init_22 : decode cX9_init 22 = .ok (.aload_n 0, 1) := dk42 (k := 3) bX9_init_19 rfl
theorem dX9_init_23 : decode cX9_init 23 = .ok (.sipush 901, 3) := dk17 (k := 4) bX9_init_19 rfl (by decide)
theorem dX9_init_26 : decode cX9_init 26 = .ok (.newarray .int, 2) := by decide +kernel
theorem bX9_init_28 : bL cX9_init 28 [181, 0, 19, 42, 17, 3, 133] := bL_of (by decide +kernel)
theorem dX9_init_28 : decode cX9_init 28 = .ok (.putfield 19, 3) := dk181 (k := 0) bX9_init_28 rfl rfl
theorem dX9_init_31 : decode cX9_init 31 = .ok (.aload_n 0, 1) := dk42 (k := 3) bX9_init_28 rfl
theorem dX9_init_32 : decode cX9_init 32 = .ok (.sipush 901, 3) := dk17 (k := 4) bX9_init_28 rfl (by decide)
theorem dX9_init_35 : decode cX9_init 35 = .ok (.newarray .int, 2) := by decide +kernel
theorem bX9_init_37 : bL cX9_init 37 [181, 0, 22, 177] := bL_of (by decide +kernel)
theorem dX9_init_37 : decode cX9_init 37 = .ok (.putfield 22, 3) := dk181 (k := 0) bX9_init_37 rfl rfl
theorem dX9_init_40 : decode cX9_init 40 = .ok (.return_, 1) := dk177 (k := 3) bX9_init_37 rfl
theorem bX9_hasRoomFor_0 : bL cX9_hasRoomFor 0 [42, 180, 0, 25, 27, 96, 17, 3, 132, 163, 0, 7, 4, 167, 0, 4, 3, 172] := bL_of (by decide +kernel)
theorem dX9_hasRoomFor_0 : decode cX9_hasRoomFor 0 = .ok (.aload_n 0, 1) := dk42 (k := 0) bX9_hasRoomFor_0 rfl
theorem dX9_hasRoomFor_1 : decode cX9_hasRoomFor 1 = .ok (.getfield 25, 3) := dk180 (k := 1) bX9_hasRoomFor_0 rfl rfl
theorem dX9_hasRoomFor_4 : decode cX9_hasRoomFor 4 = .ok (.iload_n 1, 1) := dk27 (k := 4) bX9_hasRoomFor_0 rfl
theorem dX9_hasRoomFor_5 : decode cX9_hasRoomFor 5 = .ok (.iadd, 1) := dk96 (k := 5) bX9_hasRoomFor_0 rfl
theorem dX9_hasRoomFor_6 : decode cX9_hasRoomFor 6 = .ok (.sipush 900, 3) := dk17 (k := 6) bX9_hasRoomFor_0 rfl (by decide)
theorem dX9_hasRoomFor_9 : decode cX9_hasRoomFor 9 = .ok (.if_icmp .gt 7, 3) := dk163 (k := 9) bX9_hasRoomFor_0 rfl (by decide)
theorem dX9_hasRoomFor_12 : decode cX9_hasRoomFor 12 = .ok (.iconst 1, 1) := dk4 (k := 12) bX9_hasRoomFor_0 rfl
theorem dX9_hasRoomFor_13 : decode cX9_hasRoomFor 13 = .ok (.goto 4, 3) := dk167 (k := 13) bX9_hasRoomFor_0 rfl (by decide)
theorem dX9_hasRoomFor_16 : decode cX9_hasRoomFor 16 = .ok (.iconst 0, 1) := dk3 (k := 16) bX9_hasRoomFor_0 rfl
theorem dX9_hasRoomFor_17 : decode cX9_hasRoomFor 17 = .ok (.ireturn, 1) := dk172 (k := 17) bX9_hasRoomFor_0 rfl
theorem bX9_addNumber_0 : bL cX9_addNumber 0 [16, 24, 61, 28, 155, 0, 51, 42, 180, 0, 25, 155, 0, 38, 42, 180, 0, 25, 42, 180, 0, 9, 190, 162, 0, 26] := bL_of (by decide +kernel)
theorem dX9_addNumber_0 : decode cX9_addNumber 0 = .ok (.bipush 24, 2) := dk16 (k := 0) bX9_addNumber_0 rfl (by decide)
theorem dX9_addNumber_2 : decode cX9_addNumber 2 = .ok (.istore_n 2, 1) := dk61 (k := 2) bX9_addNumber_0 rfl
theorem dX9_addNumber_3 : decode cX9_addNumber 3 = .ok (.iload_n 2, 1) := dk28 (k := 3) bX9_addNumber_0 rfl
theorem dX9_addNumber_4 : decode cX9_addNumber 4 = .ok (.ifCond .lt 51, 3) := dk155 (k := 4) bX9_addNumber_0 rfl (by decide)
theorem dX9_addNumber_7 : decode cX9_addNumber 7 = .ok (.aload_n 0, 1) := dk42 (k := 7) bX9_addNumber_0 rfl
theorem dX9_addNumber_8 : decode cX9_addNumber 8 = .ok (.getfield 25, 3) := dk180 (k := 8) bX9_addNumber_0 rfl rfl
theorem dX9_addNumber_11 : decode cX9_addNumber 11 = .ok (.ifCond .lt 38, 3) := dk155 (k := 11) bX9_addNumber_0 rfl (by decide)
theorem dX9_addNumber_14 : decode cX9_addNumber 14 = .ok (.aload_n 0, 1) := dk42 (k := 14) bX9_addNumber_0 rfl
theorem dX9_addNumber_15 : decode cX9_addNumber 15 = .ok (.getfield 25, 3) := dk180 (k := 15) bX9_addNumber_0 rfl rfl
theorem dX9_addNumber_18 : decode cX9_addNumber 18 = .ok (.aload_n 0, 1) := dk42 (k := 18) bX9_addNumber_0 rfl
theorem dX9_addNumber_19 : decode cX9_addNumber 19 = .ok (.getfield 9, 3) := dk180 (k := 19) bX9_addNumber_0 rfl rfl
theorem dX9_addNumber_22 : decode cX9_addNumber 22 = .ok (.arraylength, 1) := dk190 (k := 22) bX9_addNumber_0 rfl
theorem dX9_addNumber_23 : decode cX9_addNumber 23 = .ok (.if_icmp .ge 26, 3) := dk162 (k := 23) bX9_addNumber_0 rfl (by decide)
theorem bX9_addNumber_26 : bL cX9_addNumber 26 [42, 180, 0, 9, 42, 180, 0, 25, 27, 28, 122, 145, 84, 42, 89, 180, 0, 25, 4, 96, 181, 0, 25, 132, 2, 248] := bL_of (by decide +kernel)
theorem dX9_addNumber_26 : decode cX9_addNumber 26 = .ok (.aload_n 0, 1) := dk42 (k := 0) bX9_addNumber_26 rfl
theorem dX9_addNumber_27 : decode cX9_addNumber 27 = .ok (.getfield 9, 3) := dk180 (k := 1) bX9_addNumber_26 rfl rfl
theorem dX9_addNumber_30 : decode cX9_addNumber 30 = .ok (.aload_n 0, 1) := dk42 (k := 4) bX9_addNumber_26 rfl
theorem dX9_addNumber_31 : decode cX9_addNumber 31 = .ok (.getfield 25, 3) := dk180 (k := 5) bX9_addNumber_26 rfl rfl
theorem dX9_addNumber_34 : decode cX9_addNumber 34 = .ok (.iload_n 1, 1) := dk27 (k := 8) bX9_addNumber_26 rfl
theorem dX9_addNumber_35 : decode cX9_addNumber 35 = .ok (.iload_n 2, 1) := dk28 (k := 9) bX9_addNumber_26 rfl
theorem dX9_addNumber_36 : decode cX9_addNumber 36 = .ok (.ishr, 1) := dk122 (k := 10) bX9_addNumber_26 rfl
theorem dX9_addNumber_37 : decode cX9_addNumber 37 = .ok (.i2b, 1) := dk145 (k := 11) bX9_addNumber_26 rfl
theorem dX9_addNumber_38 : decode cX9_addNumber 38 = .ok (.bastore, 1) := dk84 (k := 12) bX9_addNumber_26 rfl
theorem dX9_addNumber_39 : decode cX9_addNumber 39 = .ok (.aload_n 0, 1) := dk42 (k := 13) bX9_addNumber_26 rfl
theorem dX9_addNumber_40 : decode cX9_addNumber 40 = .ok (.dup, 1) := dk89 (k := 14) bX9_addNumber_26 rfl
theorem dX9_addNumber_41 : decode cX9_addNumber 41 = .ok (.getfield 25, 3) := dk180 (k := 15) bX9_addNumber_26 rfl rfl
theorem dX9_addNumber_44 : decode cX9_addNumber 44 = .ok (.iconst 1, 1) := dk4 (k := 18) bX9_addNumber_26 rfl
theorem dX9_addNumber_45 : decode cX9_addNumber 45 = .ok (.iadd, 1) := dk96 (k := 19) bX9_addNumber_26 rfl
theorem dX9_addNumber_46 : decode cX9_addNumber 46 = .ok (.putfield 25, 3) := dk181 (k := 20) bX9_addNumber_26 rfl rfl
theorem dX9_addNumber_49 : decode cX9_addNumber 49 = .ok (.iinc 2 (-8), 3) := dk132 (k := 23) bX9_addNumber_26 rfl rfl (by decide)
theorem bX9_addNumber_52 : bL cX9_addNumber 52 [167, 255, 207, 177] := bL_of (by decide +kernel)
theorem dX9_addNumber_52 : decode cX9_addNumber 52 = .ok (.goto (-49), 3) := dk167 (k := 0) bX9_addNumber_52 rfl (by decide)
theorem dX9_addNumber_55 : decode cX9_addNumber 55 = .ok (.return_, 1) := dk177 (k := 3) bX9_addNumber_52 rfl
theorem bX9_byteAt_0 : bL cX9_byteAt 0 [27, 155, 0, 33, 27, 42, 180, 0, 25, 162, 0, 25, 27, 42, 180, 0, 9, 190, 162, 0, 16, 42, 180, 0, 9] := bL_of (by decide +kernel)
theorem dX9_byteAt_0 : decode cX9_byteAt 0 = .ok (.iload_n 1, 1) := dk27 (k := 0) bX9_byteAt_0 rfl
theorem dX9_byteAt_1 : decode cX9_byteAt 1 = .ok (.ifCond .lt 33, 3) := dk155 (k := 1) bX9_byteAt_0 rfl (by decide)
theorem dX9_byteAt_4 : decode cX9_byteAt 4 = .ok (.iload_n 1, 1) := dk27 (k := 4) bX9_byteAt_0 rfl
theorem dX9_byteAt_5 : decode cX9_byteAt 5 = .ok (.aload_n 0, 1) := dk42 (k := 5) bX9_byteAt_0 rfl
theorem dX9_byteAt_6 : decode cX9_byteAt 6 = .ok (.getfield 25, 3) := dk180 (k := 6) bX9_byteAt_0 rfl rfl
theorem dX9_byteAt_9 : decode cX9_byteAt 9 = .ok (.if_icmp .ge 25, 3) := dk162 (k := 9) bX9_byteAt_0 rfl (by decide)
theorem dX9_byteAt_12 : decode cX9_byteAt 12 = .ok (.iload_n 1, 1) := dk27 (k := 12) bX9_byteAt_0 rfl
theorem dX9_byteAt_13 : decode cX9_byteAt 13 = .ok (.aload_n 0, 1) := dk42 (k := 13) bX9_byteAt_0 rfl
theorem dX9_byteAt_14 : decode cX9_byteAt 14 = .ok (.getfield 9, 3) := dk180 (k := 14) bX9_byteAt_0 rfl rfl
theorem dX9_byteAt_17 : decode cX9_byteAt 17 = .ok (.arraylength, 1) := dk190 (k := 17) bX9_byteAt_0 rfl
theorem dX9_byteAt_18 : decode cX9_byteAt 18 = .ok (.if_icmp .ge 16, 3) := dk162 (k := 18) bX9_byteAt_0 rfl (by decide)
theorem dX9_byteAt_21 : decode cX9_byteAt 21 = .ok (.aload_n 0, 1) := dk42 (k := 21) bX9_byteAt_0 rfl
theorem dX9_byteAt_22 : decode cX9_byteAt 22 = .ok (.getfield 9, 3) := dk180 (k := 22) bX9_byteAt_0 rfl rfl
theorem bX9_byteAt_25 : bL cX9_byteAt 25 [27, 51, 17, 0, 255, 126, 167, 0, 4, 2, 172] := bL_of (by decide +kernel)
theorem dX9_byteAt_25 : decode cX9_byteAt 25 = .ok (.iload_n 1, 1) := dk27 (k := 0) bX9_byteAt_25 rfl
theorem dX9_byteAt_26 : decode cX9_byteAt 26 = .ok (.baload, 1) := dk51 (k := 1) bX9_byteAt_25 rfl
theorem dX9_byteAt_27 : decode cX9_byteAt 27 = .ok (.sipush 255, 3) := dk17 (k := 2) bX9_byteAt_25 rfl (by decide)
theorem dX9_byteAt_30 : decode cX9_byteAt 30 = .ok (.iand, 1) := dk126 (k := 5) bX9_byteAt_25 rfl
theorem dX9_byteAt_31 : decode cX9_byteAt 31 = .ok (.goto 4, 3) := dk167 (k := 6) bX9_byteAt_25 rfl (by decide)
theorem dX9_byteAt_34 : decode cX9_byteAt 34 = .ok (.iconst (-1), 1) := dk2 (k := 9) bX9_byteAt_25 rfl
theorem dX9_byteAt_35 : decode cX9_byteAt 35 = .ok (.ireturn, 1) := dk172 (k := 10) bX9_byteAt_25 rfl
theorem bX9_cutTokens_0 : bL cX9_cutTokens 0 [42, 3, 181, 0, 29, 3, 60, 3, 61, 28, 17, 3, 132, 162, 0, 120, 27, 42, 180, 0, 25, 162, 0, 112] := bL_of (by decide +kernel)
theorem dX9_cutTokens_0 : decode cX9_cutTokens 0 = .ok (.aload_n 0, 1) := dk42 (k := 0) bX9_cutTokens_0 rfl
theorem dX9_cutTokens_1 : decode cX9_cutTokens 1 = .ok (.iconst 0, 1) := dk3 (k := 1) bX9_cutTokens_0 rfl
theorem dX9_cutTokens_2 : decode cX9_cutTokens 2 = .ok (.putfield 29, 3) := dk181 (k := 2) bX9_cutTokens_0 rfl rfl
theorem dX9_cutTokens_5 : decode cX9_cutTokens 5 = .ok (.iconst 0, 1) := dk3 (k := 5) bX9_cutTokens_0 rfl
theorem dX9_cutTokens_6 : decode cX9_cutTokens 6 = .ok (.istore_n 1, 1) := dk60 (k := 6) bX9_cutTokens_0 rfl
theorem dX9_cutTokens_7 : decode cX9_cutTokens 7 = .ok (.iconst 0, 1) := dk3 (k := 7) bX9_cutTokens_0 rfl
theorem dX9_cutTokens_8 : decode cX9_cutTokens 8 = .ok (.istore_n 2, 1) := dk61 (k := 8) bX9_cutTokens_0 rfl
theorem dX9_cutTokens_9 : decode cX9_cutTokens 9 = .ok (.iload_n 2, 1) := dk28 (k := 9) bX9_cutTokens_0 rfl
theorem dX9_cutTokens_10 : decode cX9_cutTokens 10 = .ok (.sipush 900, 3) := dk17 (k := 10) bX9_cutTokens_0 rfl (by decide)
theorem dX9_cutTokens_13 : decode cX9_cutTokens 13 = .ok (.if_icmp .ge 120, 3) := dk162 (k := 13) bX9_cutTokens_0 rfl (by decide)
theorem dX9_cutTokens_16 : decode cX9_cutTokens 16 = .ok (.iload_n 1, 1) := dk27 (k := 16) bX9_cutTokens_0 rfl
theorem dX9_cutTokens_17 : decode cX9_cutTokens 17 = .ok (.aload_n 0, 1) := dk42 (k := 17) bX9_cutTokens_0 rfl
theorem dX9_cutTokens_18 : decode cX9_cutTokens 18 = .ok (.getfield 25, 3) := dk180 (k := 18) bX9_cutTokens_0 rfl rfl
theorem dX9_cutTokens_21 : decode cX9_cutTokens 21 = .ok (.if_icmp .ge 112, 3) := dk162 (k := 21) bX9_cutTokens_0 rfl (by decide)
theorem bX9_cutTokens_24 : bL cX9_cutTokens 24 [42, 27, 182, 0, 32, 62, 27, 4, 96, 54, 4, 29, 184, 0, 36, 153, 0, 26, 42, 27, 182, 0, 40, 54, 4] := bL_of (by decide +kernel)
theorem dX9_cutTokens_24 : decode cX9_cutTokens 24 = .ok (.aload_n 0, 1) := dk42 (k := 0) bX9_cutTokens_24 rfl
theorem dX9_cutTokens_25 : decode cX9_cutTokens 25 = .ok (.iload_n 1, 1) := dk27 (k := 1) bX9_cutTokens_24 rfl
theorem dX9_cutTokens_26 : decode cX9_cutTokens 26 = .ok (.invokevirtual 32, 3) := dk182 (k := 2) bX9_cutTokens_24 rfl rfl
theorem dX9_cutTokens_29 : decode cX9_cutTokens 29 = .ok (.istore_n 3, 1) := dk62 (k := 5) bX9_cutTokens_24 rfl
theorem dX9_cutTokens_30 : decode cX9_cutTokens 30 = .ok (.iload_n 1, 1) := dk27 (k := 6) bX9_cutTokens_24 rfl
theorem dX9_cutTokens_31 : decode cX9_cutTokens 31 = .ok (.iconst 1, 1) := dk4 (k := 7) bX9_cutTokens_24 rfl
theorem dX9_cutTokens_32 : decode cX9_cutTokens 32 = .ok (.iadd, 1) := dk96 (k := 8) bX9_cutTokens_24 rfl
theorem dX9_cutTokens_33 : decode cX9_cutTokens 33 = .ok (.istore 4, 2) := dk54 (k := 9) bX9_cutTokens_24 rfl rfl
theorem dX9_cutTokens_35 : decode cX9_cutTokens 35 = .ok (.iload_n 3, 1) := dk29 (k := 11) bX9_cutTokens_24 rfl
theorem dX9_cutTokens_36 : decode cX9_cutTokens 36 = .ok (.invokestatic 36, 3) := dk184 (k := 12) bX9_cutTokens_24 rfl rfl
theorem dX9_cutTokens_39 : decode cX9_cutTokens 39 = .ok (.ifCond .eq 26, 3) := dk153 (k := 15) bX9_cutTokens_24 rfl (by decide)
theorem dX9_cutTokens_42 : decode cX9_cutTokens 42 = .ok (.aload_n 0, 1) := dk42 (k := 18) bX9_cutTokens_24 rfl
theorem dX9_cutTokens_43 : decode cX9_cutTokens 43 = .ok (.iload_n 1, 1) := dk27 (k := 19) bX9_cutTokens_24 rfl
theorem dX9_cutTokens_44 : decode cX9_cutTokens 44 = .ok (.invokevirtual 40, 3) := dk182 (k := 20) bX9_cutTokens_24 rfl rfl
theorem dX9_cutTokens_47 : decode cX9_cutTokens 47 = .ok (.istore 4, 2) := dk54 (k := 23) bX9_cutTokens_24 rfl rfl
theorem bX9_cutTokens_49 : bL cX9_cutTokens 49 [42, 42, 27, 21, 4, 182, 0, 43, 27, 3, 182, 0, 47, 167, 0, 62, 29, 184, 0, 51, 153, 0, 26, 42] := bL_of (by decide +kernel)
theorem dX9_cutTokens_49 : decode cX9_cutTokens 49 = .ok (.aload_n 0, 1) := dk42 (k := 0) bX9_cutTokens_49 rfl
theorem dX9_cutTokens_50 : decode cX9_cutTokens 50 = .ok (.aload_n 0, 1) := dk42 (k := 1) bX9_cutTokens_49 rfl
theorem dX9_cutTokens_51 : decode cX9_cutTokens 51 = .ok (.iload_n 1, 1) := dk27 (k := 2) bX9_cutTokens_49 rfl
theorem dX9_cutTokens_52 : decode cX9_cutTokens 52 = .ok (.iload 4, 2) := dk21 (k := 3) bX9_cutTokens_49 rfl rfl
theorem dX9_cutTokens_54 : decode cX9_cutTokens 54 = .ok (.invokevirtual 43, 3) := dk182 (k := 5) bX9_cutTokens_49 rfl rfl
theorem dX9_cutTokens_57 : decode cX9_cutTokens 57 = .ok (.iload_n 1, 1) := dk27 (k := 8) bX9_cutTokens_49 rfl
theorem dX9_cutTokens_58 : decode cX9_cutTokens 58 = .ok (.iconst 0, 1) := dk3 (k := 9) bX9_cutTokens_49 rfl
theorem dX9_cutTokens_59 : decode cX9_cutTokens 59 = .ok (.invokevirtual 47, 3) := dk182 (k := 10) bX9_cutTokens_49 rfl rfl
theorem dX9_cutTokens_62 : decode cX9_cutTokens 62 = .ok (.goto 62, 3) := dk167 (k := 13) bX9_cutTokens_49 rfl (by decide)
theorem dX9_cutTokens_65 : decode cX9_cutTokens 65 = .ok (.iload_n 3, 1) := dk29 (k := 16) bX9_cutTokens_49 rfl
theorem dX9_cutTokens_66 : decode cX9_cutTokens 66 = .ok (.invokestatic 51, 3) := dk184 (k := 17) bX9_cutTokens_49 rfl rfl
theorem dX9_cutTokens_69 : decode cX9_cutTokens 69 = .ok (.ifCond .eq 26, 3) := dk153 (k := 20) bX9_cutTokens_49 rfl (by decide)
theorem dX9_cutTokens_72 : decode cX9_cutTokens 72 = .ok (.aload_n 0, 1) := dk42 (k := 23) bX9_cutTokens_49 rfl
theorem bX9_cutTokens_73 : bL cX9_cutTokens 73 [27, 182, 0, 54, 54, 4, 42, 6, 27, 42, 27, 21, 4, 182, 0, 57, 182, 0, 47, 167, 0, 32, 29, 16, 32] := bL_of (by decide +kernel)
theorem dX9_cutTokens_73 : decode cX9_cutTokens 73 = .ok (.iload_n 1, 1) := dk27 (k := 0) bX9_cutTokens_73 rfl
theorem dX9_cutTokens_74 : decode cX9_cutTokens 74 = .ok (.invokevirtual 54, 3) := dk182 (k := 1) bX9_cutTokens_73 rfl rfl
theorem dX9_cutTokens_77 : decode cX9_cutTokens 77 = .ok (.istore 4, 2) := dk54 (k := 4) bX9_cutTokens_73 rfl rfl
theorem dX9_cutTokens_79 : decode cX9_cutTokens 79 = .ok (.aload_n 0, 1) := dk42 (k := 6) bX9_cutTokens_73 rfl
theorem dX9_cutTokens_80 : decode cX9_cutTokens 80 = .ok (.iconst 3, 1) := dk6 (k := 7) bX9_cutTokens_73 rfl
theorem dX9_cutTokens_81 : decode cX9_cutTokens 81 = .ok (.iload_n 1, 1) := dk27 (k := 8) bX9_cutTokens_73 rfl
theorem dX9_cutTokens_82 : decode cX9_cutTokens 82 = .ok (.aload_n 0, 1) := dk42 (k := 9) bX9_cutTokens_73 rfl
theorem dX9_cutTokens_83 : decode cX9_cutTokens 83 = .ok (.iload_n 1, 1) := dk27 (k := 10) bX9_cutTokens_73 rfl
theorem dX9_cutTokens_84 : decode cX9_cutTokens 84 = .ok (.iload 4, 2) := dk21 (k := 11) bX9_cutTokens_73 rfl rfl
theorem dX9_cutTokens_86 : decode cX9_cutTokens 86 = .ok (.invokevirtual 57, 3) := dk182 (k := 13) bX9_cutTokens_73 rfl rfl
theorem dX9_cutTokens_89 : decode cX9_cutTokens 89 = .ok (.invokevirtual 47, 3) := dk182 (k := 16) bX9_cutTokens_73 rfl rfl
theorem dX9_cutTokens_92 : decode cX9_cutTokens 92 = .ok (.goto 32, 3) := dk167 (k := 19) bX9_cutTokens_73 rfl (by decide)
theorem dX9_cutTokens_95 : decode cX9_cutTokens 95 = .ok (.iload_n 3, 1) := dk29 (k := 22) bX9_cutTokens_73 rfl
theorem dX9_cutTokens_96 : decode cX9_cutTokens 96 = .ok (.bipush 32, 2) := dk16 (k := 23) bX9_cutTokens_73 rfl (by decide)
theorem bX9_cutTokens_98 : bL cX9_cutTokens 98 [159, 0, 26, 29, 16, 10, 159, 0, 20, 42, 29, 16, 59, 160, 0, 7, 5, 167, 0, 4, 4, 27, 3, 182, 0, 47] := bL_of (by decide +kernel)
theorem dX9_cutTokens_98 : decode cX9_cutTokens 98 = .ok (.if_icmp .eq 26, 3) := dk159 (k := 0) bX9_cutTokens_98 rfl (by decide)
theorem dX9_cutTokens_101 : decode cX9_cutTokens 101 = .ok (.iload_n 3, 1) := dk29 (k := 3) bX9_cutTokens_98 rfl
theorem dX9_cutTokens_102 : decode cX9_cutTokens 102 = .ok (.bipush 10, 2) := dk16 (k := 4) bX9_cutTokens_98 rfl (by decide)
theorem dX9_cutTokens_104 : decode cX9_cutTokens 104 = .ok (.if_icmp .eq 20, 3) := dk159 (k := 6) bX9_cutTokens_98 rfl (by decide)
theorem dX9_cutTokens_107 : decode cX9_cutTokens 107 = .ok (.aload_n 0, 1) := dk42 (k := 9) bX9_cutTokens_98 rfl
theorem dX9_cutTokens_108 : decode cX9_cutTokens 108 = .ok (.iload_n 3, 1) := dk29 (k := 10) bX9_cutTokens_98 rfl
theorem dX9_cutTokens_109 : decode cX9_cutTokens 109 = .ok (.bipush 59, 2) := dk16 (k := 11) bX9_cutTokens_98 rfl (by decide)
theorem dX9_cutTokens_111 : decode cX9_cutTokens 111 = .ok (.if_icmp .ne 7, 3) := dk160 (k := 13) bX9_cutTokens_98 rfl (by decide)
theorem dX9_cutTokens_114 : decode cX9_cutTokens 114 = .ok (.iconst 2, 1) := dk5 (k := 16) bX9_cutTokens_98 rfl
theorem dX9_cutTokens_115 : decode cX9_cutTokens 115 = .ok (.goto 4, 3) := dk167 (k := 17) bX9_cutTokens_98 rfl (by decide)
theorem dX9_cutTokens_118 : decode cX9_cutTokens 118 = .ok (.iconst 1, 1) := dk4 (k := 20) bX9_cutTokens_98 rfl
theorem dX9_cutTokens_119 : decode cX9_cutTokens 119 = .ok (.iload_n 1, 1) := dk27 (k := 21) bX9_cutTokens_98 rfl
theorem dX9_cutTokens_120 : decode cX9_cutTokens 120 = .ok (.iconst 0, 1) := dk3 (k := 22) bX9_cutTokens_98 rfl
theorem dX9_cutTokens_121 : decode cX9_cutTokens 121 = .ok (.invokevirtual 47, 3) := dk182 (k := 23) bX9_cutTokens_98 rfl rfl
theorem bX9_cutTokens_124 : bL cX9_cutTokens 124 [21, 4, 60, 132, 2, 1, 167, 255, 135, 42, 3, 42, 180, 0, 25, 3, 182, 0, 47, 177] := bL_of (by decide +kernel)
theorem dX9_cutTokens_124 : decode cX9_cutTokens 124 = .ok (.iload 4, 2) := dk21 (k := 0) bX9_cutTokens_124 rfl rfl
theorem dX9_cutTokens_126 : decode cX9_cutTokens 126 = .ok (.istore_n 1, 1) := dk60 (k := 2) bX9_cutTokens_124 rfl
theorem dX9_cutTokens_127 : decode cX9_cutTokens 127 = .ok (.iinc 2 1, 3) := dk132 (k := 3) bX9_cutTokens_124 rfl rfl (by decide)
theorem dX9_cutTokens_130 : decode cX9_cutTokens 130 = .ok (.goto (-121), 3) := dk167 (k := 6) bX9_cutTokens_124 rfl (by decide)
theorem dX9_cutTokens_133 : decode cX9_cutTokens 133 = .ok (.aload_n 0, 1) := dk42 (k := 9) bX9_cutTokens_124 rfl
theorem dX9_cutTokens_134 : decode cX9_cutTokens 134 = .ok (.iconst 0, 1) := dk3 (k := 10) bX9_cutTokens_124 rfl
theorem dX9_cutTokens_135 : decode cX9_cutTokens 135 = .ok (.aload_n 0, 1) := dk42 (k := 11) bX9_cutTokens_124 rfl
theorem dX9_cutTokens_136 : decode cX9_cutTokens 136 = .ok (.getfield 25, 3) := dk180 (k := 12) bX9_cutTokens_124 rfl rfl
theorem dX9_cutTokens_139 : decode cX9_cutTokens 139 = .ok (.iconst 0, 1) := dk3 (k := 15) bX9_cutTokens_124 rfl
theorem dX9_cutTokens_140 : decode cX9_cutTokens 140 = .ok (.invokevirtual 47, 3) := dk182 (k := 16) bX9_cutTokens_124 rfl rfl
theorem dX9_cutTokens_143 : decode cX9_cutTokens 143 = .ok (.return_, 1) := dk177 (k := 19) bX9_cutTokens_124 rfl
theorem bX9_addToken_0 : bL cX9_addToken 0 [42, 180, 0, 29, 155, 0, 55, 42, 180, 0, 29, 42, 180, 0, 15, 190, 162, 0, 43, 42, 180, 0, 15, 42] := bL_of (by decide +kernel)
theorem dX9_addToken_0 : decode cX9_addToken 0 = .ok (.aload_n 0, 1) := dk42 (k := 0) bX9_addToken_0 rfl
theorem dX9_addToken_1 : decode cX9_addToken 1 = .ok (.getfield 29, 3) := dk180 (k := 1) bX9_addToken_0 rfl rfl
theorem dX9_addToken_4 : decode cX9_addToken 4 = .ok (.ifCond .lt 55, 3) := dk155 (k := 4) bX9_addToken_0 rfl (by decide)
theorem dX9_addToken_7 : decode cX9_addToken 7 = .ok (.aload_n 0, 1) := dk42 (k := 7) bX9_addToken_0 rfl
theorem dX9_addToken_8 : decode cX9_addToken 8 = .ok (.getfield 29, 3) := dk180 (k := 8) bX9_addToken_0 rfl rfl
theorem dX9_addToken_11 : decode cX9_addToken 11 = .ok (.aload_n 0, 1) := dk42 (k := 11) bX9_addToken_0 rfl
theorem dX9_addToken_12 : decode cX9_addToken 12 = .ok (.getfield 15, 3) := dk180 (k := 12) bX9_addToken_0 rfl rfl
theorem dX9_addToken_15 : decode cX9_addToken 15 = .ok (.arraylength, 1) := dk190 (k := 15) bX9_addToken_0 rfl
theorem dX9_addToken_16 : decode cX9_addToken 16 = .ok (.if_icmp .ge 43, 3) := dk162 (k := 16) bX9_addToken_0 rfl (by decide)
theorem dX9_addToken_19 : decode cX9_addToken 19 = .ok (.aload_n 0, 1) := dk42 (k := 19) bX9_addToken_0 rfl
theorem dX9_addToken_20 : decode cX9_addToken 20 = .ok (.getfield 15, 3) := dk180 (k := 20) bX9_addToken_0 rfl rfl
theorem dX9_addToken_23 : decode cX9_addToken 23 = .ok (.aload_n 0, 1) := dk42 (k := 23) bX9_addToken_0 rfl
theorem bX9_addToken_24 : bL cX9_addToken 24 [180, 0, 29, 27, 79, 42, 180, 0, 19, 42, 180, 0, 29, 28, 79, 42, 180, 0, 22, 42, 180, 0, 29, 29] := bL_of (by decide +kernel)
theorem dX9_addToken_24 : decode cX9_addToken 24 = .ok (.getfield 29, 3) := dk180 (k := 0) bX9_addToken_24 rfl rfl
theorem dX9_addToken_27 : decode cX9_addToken 27 = .ok (.iload_n 1, 1) := dk27 (k := 3) bX9_addToken_24 rfl
theorem dX9_addToken_28 : decode cX9_addToken 28 = .ok (.iastore, 1) := dk79 (k := 4) bX9_addToken_24 rfl
theorem dX9_addToken_29 : decode cX9_addToken 29 = .ok (.aload_n 0, 1) := dk42 (k := 5) bX9_addToken_24 rfl
theorem dX9_addToken_30 : decode cX9_addToken 30 = .ok (.getfield 19, 3) := dk180 (k := 6) bX9_addToken_24 rfl rfl
theorem dX9_addToken_33 : decode cX9_addToken 33 = .ok (.aload_n 0, 1) := dk42 (k := 9) bX9_addToken_24 rfl
theorem dX9_addToken_34 : decode cX9_addToken 34 = .ok (.getfield 29, 3) := dk180 (k := 10) bX9_addToken_24 rfl rfl
theorem dX9_addToken_37 : decode cX9_addToken 37 = .ok (.iload_n 2, 1) := dk28 (k := 13) bX9_addToken_24 rfl
theorem dX9_addToken_38 : decode cX9_addToken 38 = .ok (.iastore, 1) := dk79 (k := 14) bX9_addToken_24 rfl
theorem dX9_addToken_39 : decode cX9_addToken 39 = .ok (.aload_n 0, 1) := dk42 (k := 15) bX9_addToken_24 rfl
theorem dX9_addToken_40 : decode cX9_addToken 40 = .ok (.getfield 22, 3) := dk180 (k := 16) bX9_addToken_24 rfl rfl
theorem dX9_addToken_43 : decode cX9_addToken 43 = .ok (.aload_n 0, 1) := dk42 (k := 19) bX9_addToken_24 rfl
theorem dX9_addToken_44 : decode cX9_addToken 44 = .ok (.getfield 29, 3) := dk180 (k := 20) bX9_addToken_24 rfl rfl
theorem dX9_addToken_47 : decode cX9_addToken 47 = .ok (.iload_n 3, 1) := dk29 (k := 23) bX9_addToken_24 rfl
theorem bX9_addToken_48 : bL cX9_addToken 48 [79, 42, 89, 180, 0, 29, 4, 96, 181, 0, 29, 177] := bL_of (by decide +kernel)
theorem dX9_addToken_48 : decode cX9_addToken 48 = .ok (.iastore, 1) := dk79 (k := 0) bX9_addToken_48 rfl
theorem dX9_addToken_49 : decode cX9_addToken 49 = .ok (.aload_n 0, 1) := dk42 (k := 1) bX9_addToken_48 rfl
theorem dX9_addToken_50 : decode cX9_addToken 50 = .ok (.dup, 1) := dk89 (k := 2) bX9_addToken_48 rfl
theorem dX9_addToken_51 : decode cX9_addToken 51 = .ok (.getfield 29, 3) := dk180 (k := 3) bX9_addToken_48 rfl rfl
theorem dX9_addToken_54 : decode cX9_addToken 54 = .ok (.iconst 1, 1) := dk4 (k := 6) bX9_addToken_48 rfl
theorem dX9_addToken_55 : decode cX9_addToken 55 = .ok (.iadd, 1) := dk96 (k := 7) bX9_addToken_48 rfl
theorem dX9_addToken_56 : decode cX9_addToken 56 = .ok (.putfield 29, 3) := dk181 (k := 8) bX9_addToken_48 rfl rfl
theorem dX9_addToken_59 : decode cX9_addToken 59 = .ok (.return_, 1) := dk177 (k := 11) bX9_addToken_48 rfl
theorem bX9_wordEnd_0 : bL cX9_wordEnd 0 [27, 61, 3, 62, 29, 17, 3, 132, 162, 0, 23, 42, 28, 182, 0, 32, 184, 0, 36, 153, 0, 12, 132, 2, 1] := bL_of (by decide +kernel)
theorem dX9_wordEnd_0 : decode cX9_wordEnd 0 = .ok (.iload_n 1, 1) := dk27 (k := 0) bX9_wordEnd_0 rfl
theorem dX9_wordEnd_1 : decode cX9_wordEnd 1 = .ok (.istore_n 2, 1) := dk61 (k := 1) bX9_wordEnd_0 rfl
theorem dX9_wordEnd_2 : decode cX9_wordEnd 2 = .ok (.iconst 0, 1) := dk3 (k := 2) bX9_wordEnd_0 rfl
theorem dX9_wordEnd_3 : decode cX9_wordEnd 3 = .ok (.istore_n 3, 1) := dk62 (k := 3) bX9_wordEnd_0 rfl
theorem dX9_wordEnd_4 : decode cX9_wordEnd 4 = .ok (.iload_n 3, 1) := dk29 (k := 4) bX9_wordEnd_0 rfl
theorem dX9_wordEnd_5 : decode cX9_wordEnd 5 = .ok (.sipush 900, 3) := dk17 (k := 5) bX9_wordEnd_0 rfl (by decide)
theorem dX9_wordEnd_8 : decode cX9_wordEnd 8 = .ok (.if_icmp .ge 23, 3) := dk162 (k := 8) bX9_wordEnd_0 rfl (by decide)
theorem dX9_wordEnd_11 : decode cX9_wordEnd 11 = .ok (.aload_n 0, 1) := dk42 (k := 11) bX9_wordEnd_0 rfl
theorem dX9_wordEnd_12 : decode cX9_wordEnd 12 = .ok (.iload_n 2, 1) := dk28 (k := 12) bX9_wordEnd_0 rfl
theorem dX9_wordEnd_13 : decode cX9_wordEnd 13 = .ok (.invokevirtual 32, 3) := dk182 (k := 13) bX9_wordEnd_0 rfl rfl
theorem dX9_wordEnd_16 : decode cX9_wordEnd 16 = .ok (.invokestatic 36, 3) := dk184 (k := 16) bX9_wordEnd_0 rfl rfl
theorem dX9_wordEnd_19 : decode cX9_wordEnd 19 = .ok (.ifCond .eq 12, 3) := dk153 (k := 19) bX9_wordEnd_0 rfl (by decide)
theorem dX9_wordEnd_22 : decode cX9_wordEnd 22 = .ok (.iinc 2 1, 3) := dk132 (k := 22) bX9_wordEnd_0 rfl rfl (by decide)
theorem bX9_wordEnd_25 : bL cX9_wordEnd 25 [132, 3, 1, 167, 255, 232, 28, 172] := bL_of (by decide +kernel)
theorem dX9_wordEnd_25 : decode cX9_wordEnd 25 = .ok (.iinc 3 1, 3) := dk132 (k := 0) bX9_wordEnd_25 rfl rfl (by decide)
theorem dX9_wordEnd_28 : decode cX9_wordEnd 28 = .ok (.goto (-24), 3) := dk167 (k := 3) bX9_wordEnd_25 rfl (by decide)
theorem dX9_wordEnd_31 : decode cX9_wordEnd 31 = .ok (.iload_n 2, 1) := dk28 (k := 6) bX9_wordEnd_25 rfl
theorem dX9_wordEnd_32 : decode cX9_wordEnd 32 = .ok (.ireturn, 1) := dk172 (k := 7) bX9_wordEnd_25 rfl
theorem bX9_numberEnd_0 : bL cX9_numberEnd 0 [27, 61, 3, 62, 29, 17, 3, 132, 162, 0, 23, 42, 28, 182, 0, 32, 184, 0, 51, 153, 0, 12, 132, 2, 1] := bL_of (by decide +kernel)
theorem dX9_numberEnd_0 : decode cX9_numberEnd 0 = .ok (.iload_n 1, 1) := dk27 (k := 0) bX9_numberEnd_0 rfl
theorem dX9_numberEnd_1 : decode cX9_numberEnd 1 = .ok (.istore_n 2, 1) := dk61 (k := 1) bX9_numberEnd_0 rfl
theorem dX9_numberEnd_2 : decode cX9_numberEnd 2 = .ok (.iconst 0, 1) := dk3 (k := 2) bX9_numberEnd_0 rfl
theorem dX9_numberEnd_3 : decode cX9_numberEnd 3 = .ok (.istore_n 3, 1) := dk62 (k := 3) bX9_numberEnd_0 rfl
theorem dX9_numberEnd_4 : decode cX9_numberEnd 4 = .ok (.iload_n 3, 1) := dk29 (k := 4) bX9_numberEnd_0 rfl
theorem dX9_numberEnd_5 : decode cX9_numberEnd 5 = .ok (.sipush 900, 3) := dk17 (k := 5) bX9_numberEnd_0 rfl (by decide)
theorem dX9_numberEnd_8 : decode cX9_numberEnd 8 = .ok (.if_icmp .ge 23, 3) := dk162 (k := 8) bX9_numberEnd_0 rfl (by decide)
theorem dX9_numberEnd_11 : decode cX9_numberEnd 11 = .ok (.aload_n 0, 1) := dk42 (k := 11) bX9_numberEnd_0 rfl
theorem dX9_numberEnd_12 : decode cX9_numberEnd 12 = .ok (.iload_n 2, 1) := dk28 (k := 12) bX9_numberEnd_0 rfl
theorem dX9_numberEnd_13 : decode cX9_numberEnd 13 = .ok (.invokevirtual 32, 3) := dk182 (k := 13) bX9_numberEnd_0 rfl rfl
theorem dX9_numberEnd_16 : decode cX9_numberEnd 16 = .ok (.invokestatic 51, 3) := dk184 (k := 16) bX9_numberEnd_0 rfl rfl
theorem dX9_numberEnd_19 : decode cX9_numberEnd 19 = .ok (.ifCond .eq 12, 3) := dk153 (k := 19) bX9_numberEnd_0 rfl (by decide)
theorem dX9_numberEnd_22 : decode cX9_numberEnd 22 = .ok (.iinc 2 1, 3) := dk132 (k := 22) bX9_numberEnd_0 rfl rfl (by decide)
theorem bX9_numberEnd_25 : bL cX9_numberEnd 25 [132, 3, 1, 167, 255, 232, 28, 172] := bL_of (by decide +kernel)
theorem dX9_numberEnd_25 : decode cX9_numberEnd 25 = .ok (.iinc 3 1, 3) := dk132 (k := 0) bX9_numberEnd_25 rfl rfl (by decide)
theorem dX9_numberEnd_28 : decode cX9_numberEnd 28 = .ok (.goto (-24), 3) := dk167 (k := 3) bX9_numberEnd_25 rfl (by decide)
theorem dX9_numberEnd_31 : decode cX9_numberEnd 31 = .ok (.iload_n 2, 1) := dk28 (k := 6) bX9_numberEnd_25 rfl
theorem dX9_numberEnd_32 : decode cX9_numberEnd 32 = .ok (.ireturn, 1) := dk172 (k := 7) bX9_numberEnd_25 rfl
theorem bX9_numberOf_0 : bL cX9_numberOf 0 [3, 62, 27, 54, 4, 21, 4, 28, 162, 0, 30, 29, 18, 60, 162, 0, 18, 29, 16, 10, 104, 42, 21, 4] := bL_of (by decide +kernel)
theorem dX9_numberOf_0 : decode cX9_numberOf 0 = .ok (.iconst 0, 1) := dk3 (k := 0) bX9_numberOf_0 rfl
theorem dX9_numberOf_1 : decode cX9_numberOf 1 = .ok (.istore_n 3, 1) := dk62 (k := 1) bX9_numberOf_0 rfl
theorem dX9_numberOf_2 : decode cX9_numberOf 2 = .ok (.iload_n 1, 1) := dk27 (k := 2) bX9_numberOf_0 rfl
theorem dX9_numberOf_3 : decode cX9_numberOf 3 = .ok (.istore 4, 2) := dk54 (k := 3) bX9_numberOf_0 rfl rfl
theorem dX9_numberOf_5 : decode cX9_numberOf 5 = .ok (.iload 4, 2) := dk21 (k := 5) bX9_numberOf_0 rfl rfl
theorem dX9_numberOf_7 : decode cX9_numberOf 7 = .ok (.iload_n 2, 1) := dk28 (k := 7) bX9_numberOf_0 rfl
theorem dX9_numberOf_8 : decode cX9_numberOf 8 = .ok (.if_icmp .ge 30, 3) := dk162 (k := 8) bX9_numberOf_0 rfl (by decide)
theorem dX9_numberOf_11 : decode cX9_numberOf 11 = .ok (.iload_n 3, 1) := dk29 (k := 11) bX9_numberOf_0 rfl
theorem dX9_numberOf_12 : decode cX9_numberOf 12 = .ok (.ldc 60, 2) := dk18 (k := 12) bX9_numberOf_0 rfl rfl
theorem dX9_numberOf_14 : decode cX9_numberOf 14 = .ok (.if_icmp .ge 18, 3) := dk162 (k := 14) bX9_numberOf_0 rfl (by decide)
theorem dX9_numberOf_17 : decode cX9_numberOf 17 = .ok (.iload_n 3, 1) := dk29 (k := 17) bX9_numberOf_0 rfl
theorem dX9_numberOf_18 : decode cX9_numberOf 18 = .ok (.bipush 10, 2) := dk16 (k := 18) bX9_numberOf_0 rfl (by decide)
theorem dX9_numberOf_20 : decode cX9_numberOf 20 = .ok (.imul, 1) := dk104 (k := 20) bX9_numberOf_0 rfl
theorem dX9_numberOf_21 : decode cX9_numberOf 21 = .ok (.aload_n 0, 1) := dk42 (k := 21) bX9_numberOf_0 rfl
theorem dX9_numberOf_22 : decode cX9_numberOf 22 = .ok (.iload 4, 2) := dk21 (k := 22) bX9_numberOf_0 rfl rfl
theorem bX9_numberOf_24 : bL cX9_numberOf 24 [182, 0, 32, 96, 16, 48, 100, 62, 132, 4, 1, 167, 255, 226, 29, 172] := bL_of (by decide +kernel)
theorem dX9_numberOf_24 : decode cX9_numberOf 24 = .ok (.invokevirtual 32, 3) := dk182 (k := 0) bX9_numberOf_24 rfl rfl
theorem dX9_numberOf_27 : decode cX9_numberOf 27 = .ok (.iadd, 1) := dk96 (k := 3) bX9_numberOf_24 rfl
theorem dX9_numberOf_28 : decode cX9_numberOf 28 = .ok (.bipush 48, 2) := dk16 (k := 4) bX9_numberOf_24 rfl (by decide)
theorem dX9_numberOf_30 : decode cX9_numberOf 30 = .ok (.isub, 1) := dk100 (k := 6) bX9_numberOf_24 rfl
theorem dX9_numberOf_31 : decode cX9_numberOf 31 = .ok (.istore_n 3, 1) := dk62 (k := 7) bX9_numberOf_24 rfl
theorem dX9_numberOf_32 : decode cX9_numberOf 32 = .ok (.iinc 4 1, 3) := dk132 (k := 8) bX9_numberOf_24 rfl rfl (by decide)
theorem dX9_numberOf_35 : decode cX9_numberOf 35 = .ok (.goto (-30), 3) := dk167 (k := 11) bX9_numberOf_24 rfl (by decide)
theorem dX9_numberOf_38 : decode cX9_numberOf 38 = .ok (.iload_n 3, 1) := dk29 (k := 14) bX9_numberOf_24 rfl
theorem dX9_numberOf_39 : decode cX9_numberOf 39 = .ok (.ireturn, 1) := dk172 (k := 15) bX9_numberOf_24 rfl
theorem bX9_wordKind_0 : bL cX9_wordKind 0 [7, 62, 29, 16, 16, 163, 0, 24, 42, 27, 28, 29, 184, 0, 61, 182, 0, 65, 153, 0, 5, 29, 172, 132, 3, 1] := bL_of (by decide +kernel)
theorem dX9_wordKind_0 : decode cX9_wordKind 0 = .ok (.iconst 4, 1) := dk7 (k := 0) bX9_wordKind_0 rfl
theorem dX9_wordKind_1 : decode cX9_wordKind 1 = .ok (.istore_n 3, 1) := dk62 (k := 1) bX9_wordKind_0 rfl
theorem dX9_wordKind_2 : decode cX9_wordKind 2 = .ok (.iload_n 3, 1) := dk29 (k := 2) bX9_wordKind_0 rfl
theorem dX9_wordKind_3 : decode cX9_wordKind 3 = .ok (.bipush 16, 2) := dk16 (k := 3) bX9_wordKind_0 rfl (by decide)
theorem dX9_wordKind_5 : decode cX9_wordKind 5 = .ok (.if_icmp .gt 24, 3) := dk163 (k := 5) bX9_wordKind_0 rfl (by decide)
theorem dX9_wordKind_8 : decode cX9_wordKind 8 = .ok (.aload_n 0, 1) := dk42 (k := 8) bX9_wordKind_0 rfl
theorem dX9_wordKind_9 : decode cX9_wordKind 9 = .ok (.iload_n 1, 1) := dk27 (k := 9) bX9_wordKind_0 rfl
theorem dX9_wordKind_10 : decode cX9_wordKind 10 = .ok (.iload_n 2, 1) := dk28 (k := 10) bX9_wordKind_0 rfl
theorem dX9_wordKind_11 : decode cX9_wordKind 11 = .ok (.iload_n 3, 1) := dk29 (k := 11) bX9_wordKind_0 rfl
theorem dX9_wordKind_12 : decode cX9_wordKind 12 = .ok (.invokestatic 61, 3) := dk184 (k := 12) bX9_wordKind_0 rfl rfl
theorem dX9_wordKind_15 : decode cX9_wordKind 15 = .ok (.invokevirtual 65, 3) := dk182 (k := 15) bX9_wordKind_0 rfl rfl
theorem dX9_wordKind_18 : decode cX9_wordKind 18 = .ok (.ifCond .eq 5, 3) := dk153 (k := 18) bX9_wordKind_0 rfl (by decide)
theorem dX9_wordKind_21 : decode cX9_wordKind 21 = .ok (.iload_n 3, 1) := dk29 (k := 21) bX9_wordKind_0 rfl
theorem dX9_wordKind_22 : decode cX9_wordKind 22 = .ok (.ireturn, 1) := dk172 (k := 22) bX9_wordKind_0 rfl
theorem dX9_wordKind_23 : decode cX9_wordKind 23 = .ok (.iinc 3 1, 3) := dk132 (k := 23) bX9_wordKind_0 rfl rfl (by decide)
theorem bX9_wordKind_26 : bL cX9_wordKind 26 [167, 255, 232, 4, 172] := bL_of (by decide +kernel)
theorem dX9_wordKind_26 : decode cX9_wordKind 26 = .ok (.goto (-24), 3) := dk167 (k := 0) bX9_wordKind_26 rfl (by decide)
theorem dX9_wordKind_29 : decode cX9_wordKind 29 = .ok (.iconst 1, 1) := dk4 (k := 3) bX9_wordKind_26 rfl
theorem dX9_wordKind_30 : decode cX9_wordKind 30 = .ok (.ireturn, 1) := dk172 (k := 4) bX9_wordKind_26 rfl
theorem bX9_isText_0 : bL cX9_isText 0 [28, 27, 100, 45, 182, 0, 69, 159, 0, 5, 3, 172, 3, 54, 4, 21, 4, 45, 182, 0, 69, 162, 0, 28] := bL_of (by decide +kernel)
theorem dX9_isText_0 : decode cX9_isText 0 = .ok (.iload_n 2, 1) := dk28 (k := 0) bX9_isText_0 rfl
theorem dX9_isText_1 : decode cX9_isText 1 = .ok (.iload_n 1, 1) := dk27 (k := 1) bX9_isText_0 rfl
theorem dX9_isText_2 : decode cX9_isText 2 = .ok (.isub, 1) := dk100 (k := 2) bX9_isText_0 rfl
theorem dX9_isText_3 : decode cX9_isText 3 = .ok (.aload_n 3, 1) := dk45 (k := 3) bX9_isText_0 rfl
theorem dX9_isText_4 : decode cX9_isText 4 = .ok (.invokevirtual 69, 3) := dk182 (k := 4) bX9_isText_0 rfl rfl
theorem dX9_isText_7 : decode cX9_isText 7 = .ok (.if_icmp .eq 5, 3) := dk159 (k := 7) bX9_isText_0 rfl (by decide)
theorem dX9_isText_10 : decode cX9_isText 10 = .ok (.iconst 0, 1) := dk3 (k := 10) bX9_isText_0 rfl
theorem dX9_isText_11 : decode cX9_isText 11 = .ok (.ireturn, 1) := dk172 (k := 11) bX9_isText_0 rfl
theorem dX9_isText_12 : decode cX9_isText 12 = .ok (.iconst 0, 1) := dk3 (k := 12) bX9_isText_0 rfl
theorem dX9_isText_13 : decode cX9_isText 13 = .ok (.istore 4, 2) := dk54 (k := 13) bX9_isText_0 rfl rfl
theorem dX9_isText_15 : decode cX9_isText 15 = .ok (.iload 4, 2) := dk21 (k := 15) bX9_isText_0 rfl rfl
theorem dX9_isText_17 : decode cX9_isText 17 = .ok (.aload_n 3, 1) := dk45 (k := 17) bX9_isText_0 rfl
theorem dX9_isText_18 : decode cX9_isText 18 = .ok (.invokevirtual 69, 3) := dk182 (k := 18) bX9_isText_0 rfl rfl
theorem dX9_isText_21 : decode cX9_isText 21 = .ok (.if_icmp .ge 28, 3) := dk162 (k := 21) bX9_isText_0 rfl (by decide)
theorem bX9_isText_24 : bL cX9_isText 24 [42, 27, 21, 4, 96, 182, 0, 32, 45, 21, 4, 182, 0, 75, 159, 0, 5, 3, 172, 132, 4, 1, 167, 255, 225] := bL_of (by decide +kernel)
theorem dX9_isText_24 : decode cX9_isText 24 = .ok (.aload_n 0, 1) := dk42 (k := 0) bX9_isText_24 rfl
theorem dX9_isText_25 : decode cX9_isText 25 = .ok (.iload_n 1, 1) := dk27 (k := 1) bX9_isText_24 rfl
theorem dX9_isText_26 : decode cX9_isText 26 = .ok (.iload 4, 2) := dk21 (k := 2) bX9_isText_24 rfl rfl
theorem dX9_isText_28 : decode cX9_isText 28 = .ok (.iadd, 1) := dk96 (k := 4) bX9_isText_24 rfl
theorem dX9_isText_29 : decode cX9_isText 29 = .ok (.invokevirtual 32, 3) := dk182 (k := 5) bX9_isText_24 rfl rfl
theorem dX9_isText_32 : decode cX9_isText 32 = .ok (.aload_n 3, 1) := dk45 (k := 8) bX9_isText_24 rfl
theorem dX9_isText_33 : decode cX9_isText 33 = .ok (.iload 4, 2) := dk21 (k := 9) bX9_isText_24 rfl rfl
theorem dX9_isText_35 : decode cX9_isText 35 = .ok (.invokevirtual 75, 3) := dk182 (k := 11) bX9_isText_24 rfl rfl
theorem dX9_isText_38 : decode cX9_isText 38 = .ok (.if_icmp .eq 5, 3) := dk159 (k := 14) bX9_isText_24 rfl (by decide)
theorem dX9_isText_41 : decode cX9_isText 41 = .ok (.iconst 0, 1) := dk3 (k := 17) bX9_isText_24 rfl
theorem dX9_isText_42 : decode cX9_isText 42 = .ok (.ireturn, 1) := dk172 (k := 18) bX9_isText_24 rfl
theorem dX9_isText_43 : decode cX9_isText 43 = .ok (.iinc 4 1, 3) := dk132 (k := 19) bX9_isText_24 rfl rfl (by decide)
theorem dX9_isText_46 : decode cX9_isText 46 = .ok (.goto (-31), 3) := dk167 (k := 22) bX9_isText_24 rfl (by decide)
theorem bX9_isText_49 : bL cX9_isText 49 [4, 172] := bL_of (by decide +kernel)
theorem dX9_isText_49 : decode cX9_isText 49 = .ok (.iconst 1, 1) := dk4 (k := 0) bX9_isText_49 rfl
theorem dX9_isText_50 : decode cX9_isText 50 = .ok (.ireturn, 1) := dk172 (k := 1) bX9_isText_49 rfl
theorem bX9_textOf_0 : bL cX9_textOf 0 [26] := bL_of (by decide +kernel)
theorem dX9_textOf_0 : decode cX9_textOf 0 = .ok (.iload_n 0, 1) := dk26 (k := 0) bX9_textOf_0 rfl
theorem dX9_textOf_1 : decode cX9_textOf 1 = .ok (.tableswitch 99 4 15 #[63, 66, 69, 72, 75, 78, 81, 84, 87, 90, 93, 96], 63) := by decide +kernel
theorem bX9_textOf_64 : bL cX9_textOf 64 [18, 79, 176, 18, 81, 176, 18, 83, 176, 18, 85, 176, 18, 87, 176, 18, 89, 176, 18, 91, 176, 18, 93, 176] := bL_of (by decide +kernel)
theorem dX9_textOf_64 : decode cX9_textOf 64 = .ok (.ldc 79, 2) := dk18 (k := 0) bX9_textOf_64 rfl rfl
theorem dX9_textOf_66 : decode cX9_textOf 66 = .ok (.areturn, 1) := dk176 (k := 2) bX9_textOf_64 rfl
theorem dX9_textOf_67 : decode cX9_textOf 67 = .ok (.ldc 81, 2) := dk18 (k := 3) bX9_textOf_64 rfl rfl
theorem dX9_textOf_69 : decode cX9_textOf 69 = .ok (.areturn, 1) := dk176 (k := 5) bX9_textOf_64 rfl
theorem dX9_textOf_70 : decode cX9_textOf 70 = .ok (.ldc 83, 2) := dk18 (k := 6) bX9_textOf_64 rfl rfl
theorem dX9_textOf_72 : decode cX9_textOf 72 = .ok (.areturn, 1) := dk176 (k := 8) bX9_textOf_64 rfl
theorem dX9_textOf_73 : decode cX9_textOf 73 = .ok (.ldc 85, 2) := dk18 (k := 9) bX9_textOf_64 rfl rfl
theorem dX9_textOf_75 : decode cX9_textOf 75 = .ok (.areturn, 1) := dk176 (k := 11) bX9_textOf_64 rfl
theorem dX9_textOf_76 : decode cX9_textOf 76 = .ok (.ldc 87, 2) := dk18 (k := 12) bX9_textOf_64 rfl rfl
theorem dX9_textOf_78 : decode cX9_textOf 78 = .ok (.areturn, 1) := dk176 (k := 14) bX9_textOf_64 rfl
theorem dX9_textOf_79 : decode cX9_textOf 79 = .ok (.ldc 89, 2) := dk18 (k := 15) bX9_textOf_64 rfl rfl
theorem dX9_textOf_81 : decode cX9_textOf 81 = .ok (.areturn, 1) := dk176 (k := 17) bX9_textOf_64 rfl
theorem dX9_textOf_82 : decode cX9_textOf 82 = .ok (.ldc 91, 2) := dk18 (k := 18) bX9_textOf_64 rfl rfl
theorem dX9_textOf_84 : decode cX9_textOf 84 = .ok (.areturn, 1) := dk176 (k := 20) bX9_textOf_64 rfl
theorem dX9_textOf_85 : decode cX9_textOf 85 = .ok (.ldc 93, 2) := dk18 (k := 21) bX9_textOf_64 rfl rfl
theorem dX9_textOf_87 : decode cX9_textOf 87 = .ok (.areturn, 1) := dk176 (k := 23) bX9_textOf_64 rfl
theorem bX9_textOf_88 : bL cX9_textOf 88 [18, 95, 176, 18, 97, 176, 18, 99, 176, 18, 101, 176, 18, 103, 176] := bL_of (by decide +kernel)
theorem dX9_textOf_88 : decode cX9_textOf 88 = .ok (.ldc 95, 2) := dk18 (k := 0) bX9_textOf_88 rfl rfl
theorem dX9_textOf_90 : decode cX9_textOf 90 = .ok (.areturn, 1) := dk176 (k := 2) bX9_textOf_88 rfl
theorem dX9_textOf_91 : decode cX9_textOf 91 = .ok (.ldc 97, 2) := dk18 (k := 3) bX9_textOf_88 rfl rfl
theorem dX9_textOf_93 : decode cX9_textOf 93 = .ok (.areturn, 1) := dk176 (k := 5) bX9_textOf_88 rfl
theorem dX9_textOf_94 : decode cX9_textOf 94 = .ok (.ldc 99, 2) := dk18 (k := 6) bX9_textOf_88 rfl rfl
theorem dX9_textOf_96 : decode cX9_textOf 96 = .ok (.areturn, 1) := dk176 (k := 8) bX9_textOf_88 rfl
theorem dX9_textOf_97 : decode cX9_textOf 97 = .ok (.ldc 101, 2) := dk18 (k := 9) bX9_textOf_88 rfl rfl
theorem dX9_textOf_99 : decode cX9_textOf 99 = .ok (.areturn, 1) := dk176 (k := 11) bX9_textOf_88 rfl
theorem dX9_textOf_100 : decode cX9_textOf 100 = .ok (.ldc 103, 2) := dk18 (k := 12) bX9_textOf_88 rfl rfl
theorem dX9_textOf_102 : decode cX9_textOf 102 = .ok (.areturn, 1) := dk176 (k := 14) bX9_textOf_88 rfl
theorem bX9_isLetter_0 : bL cX9_isLetter 0 [26, 16, 97, 161, 0, 13, 26, 16, 122, 163, 0, 7, 4, 167, 0, 4, 3, 172] := bL_of (by decide +kernel)
theorem dX9_isLetter_0 : decode cX9_isLetter 0 = .ok (.iload_n 0, 1) := dk26 (k := 0) bX9_isLetter_0 rfl
theorem dX9_isLetter_1 : decode cX9_isLetter 1 = .ok (.bipush 97, 2) := dk16 (k := 1) bX9_isLetter_0 rfl (by decide)
theorem dX9_isLetter_3 : decode cX9_isLetter 3 = .ok (.if_icmp .lt 13, 3) := dk161 (k := 3) bX9_isLetter_0 rfl (by decide)
theorem dX9_isLetter_6 : decode cX9_isLetter 6 = .ok (.iload_n 0, 1) := dk26 (k := 6) bX9_isLetter_0 rfl
theorem dX9_isLetter_7 : decode cX9_isLetter 7 = .ok (.bipush 122, 2) := dk16 (k := 7) bX9_isLetter_0 rfl (by decide)
theorem dX9_isLetter_9 : decode cX9_isLetter 9 = .ok (.if_icmp .gt 7, 3) := dk163 (k := 9) bX9_isLetter_0 rfl (by decide)
theorem dX9_isLetter_12 : decode cX9_isLetter 12 = .ok (.iconst 1, 1) := dk4 (k := 12) bX9_isLetter_0 rfl
theorem dX9_isLetter_13 : decode cX9_isLetter 13 = .ok (.goto 4, 3) := dk167 (k := 13) bX9_isLetter_0 rfl (by decide)
theorem dX9_isLetter_16 : decode cX9_isLetter 16 = .ok (.iconst 0, 1) := dk3 (k := 16) bX9_isLetter_0 rfl
theorem dX9_isLetter_17 : decode cX9_isLetter 17 = .ok (.ireturn, 1) := dk172 (k := 17) bX9_isLetter_0 rfl
theorem bX9_isDigit_0 : bL cX9_isDigit 0 [26, 16, 48, 161, 0, 13, 26, 16, 57, 163, 0, 7, 4, 167, 0, 4, 3, 172] := bL_of (by decide +kernel)
theorem dX9_isDigit_0 : decode cX9_isDigit 0 = .ok (.iload_n 0, 1) := dk26 (k := 0) bX9_isDigit_0 rfl
theorem dX9_isDigit_1 : decode cX9_isDigit 1 = .ok (.bipush 48, 2) := dk16 (k := 1) bX9_isDigit_0 rfl (by decide)
theorem dX9_isDigit_3 : decode cX9_isDigit 3 = .ok (.if_icmp .lt 13, 3) := dk161 (k := 3) bX9_isDigit_0 rfl (by decide)
theorem dX9_isDigit_6 : decode cX9_isDigit 6 = .ok (.iload_n 0, 1) := dk26 (k := 6) bX9_isDigit_0 rfl
theorem dX9_isDigit_7 : decode cX9_isDigit 7 = .ok (.bipush 57, 2) := dk16 (k := 7) bX9_isDigit_0 rfl (by decide)
theorem dX9_isDigit_9 : decode cX9_isDigit 9 = .ok (.if_icmp .gt 7, 3) := dk163 (k := 9) bX9_isDigit_0 rfl (by decide)
theorem dX9_isDigit_12 : decode cX9_isDigit 12 = .ok (.iconst 1, 1) := dk4 (k := 12) bX9_isDigit_0 rfl
theorem dX9_isDigit_13 : decode cX9_isDigit 13 = .ok (.goto 4, 3) := dk167 (k := 13) bX9_isDigit_0 rfl (by decide)
theorem dX9_isDigit_16 : decode cX9_isDigit 16 = .ok (.iconst 0, 1) := dk3 (k := 16) bX9_isDigit_0 rfl
theorem dX9_isDigit_17 : decode cX9_isDigit 17 = .ok (.ireturn, 1) := dk172 (k := 17) bX9_isDigit_0 rfl
theorem bX10_init_0 : bL cX10_init 0 [42, 183, 0, 3, 42, 16, 11] := bL_of (by decide +kernel)
theorem dX10_init_0 : decode cX10_init 0 = .ok (.aload_n 0, 1) := dk42 (k := 0) bX10_init_0 rfl
theorem dX10_init_1 : decode cX10_init 1 = .ok (.invokespecial 3, 3) := dk183 (k := 1) bX10_init_0 rfl rfl
theorem dX10_init_4 : decode cX10_init 4 = .ok (.aload_n 0, 1) := dk42 (k := 4) bX10_init_0 rfl
theorem dX10_init_5 : decode cX10_init 5 = .ok (.bipush 11, 2) := dk16 (k := 5) bX10_init_0 rfl (by decide)
theorem dX10_init_7 : decode cX10_init 7 = .ok (.newarray .int, 2) := by decide +kernel
theorem bX10_init_9 : bL cX10_init 9 [181, 0, 9, 42, 43, 181, 0, 15, 177] := bL_of (by decide +kernel)
theorem dX10_init_9 : decode cX10_init 9 = .ok (.putfield 9, 3) := dk181 (k := 0) bX10_init_9 rfl rfl
theorem dX10_init_12 : decode cX10_init 12 = .ok (.aload_n 0, 1) := dk42 (k := 3) bX10_init_9 rfl
theorem dX10_init_13 : decode cX10_init 13 = .ok (.aload_n 1, 1) := dk43 (k := 4) bX10_init_9 rfl
theorem dX10_init_14 : decode cX10_init 14 = .ok (.putfield 15, 3) := dk181 (k := 5) bX10_init_9 rfl rfl
theorem dX10_init_17 : decode cX10_init 17 = .ok (.return_, 1) := dk177 (k := 8) bX10_init_9 rfl
theorem bX10_gatherNames_0 : bL cX10_gatherNames 0 [42, 180, 0, 15, 180, 0, 19, 42, 180, 0, 15, 180, 0, 25, 2, 182, 0, 29, 60, 3, 61, 28, 16, 10] := bL_of (by decide +kernel)
theorem dX10_gatherNames_0 : decode cX10_gatherNames 0 = .ok (.aload_n 0, 1) := dk42 (k := 0) bX10_gatherNames_0 rfl
theorem dX10_gatherNames_1 : decode cX10_gatherNames 1 = .ok (.getfield 15, 3) := dk180 (k := 1) bX10_gatherNames_0 rfl rfl
theorem dX10_gatherNames_4 : decode cX10_gatherNames 4 = .ok (.getfield 19, 3) := dk180 (k := 4) bX10_gatherNames_0 rfl rfl
theorem dX10_gatherNames_7 : decode cX10_gatherNames 7 = .ok (.aload_n 0, 1) := dk42 (k := 7) bX10_gatherNames_0 rfl
theorem dX10_gatherNames_8 : decode cX10_gatherNames 8 = .ok (.getfield 15, 3) := dk180 (k := 8) bX10_gatherNames_0 rfl rfl
theorem dX10_gatherNames_11 : decode cX10_gatherNames 11 = .ok (.getfield 25, 3) := dk180 (k := 11) bX10_gatherNames_0 rfl rfl
theorem dX10_gatherNames_14 : decode cX10_gatherNames 14 = .ok (.iconst (-1), 1) := dk2 (k := 14) bX10_gatherNames_0 rfl
theorem dX10_gatherNames_15 : decode cX10_gatherNames 15 = .ok (.invokevirtual 29, 3) := dk182 (k := 15) bX10_gatherNames_0 rfl rfl
theorem dX10_gatherNames_18 : decode cX10_gatherNames 18 = .ok (.istore_n 1, 1) := dk60 (k := 18) bX10_gatherNames_0 rfl
theorem dX10_gatherNames_19 : decode cX10_gatherNames 19 = .ok (.iconst 0, 1) := dk3 (k := 19) bX10_gatherNames_0 rfl
theorem dX10_gatherNames_20 : decode cX10_gatherNames 20 = .ok (.istore_n 2, 1) := dk61 (k := 20) bX10_gatherNames_0 rfl
theorem dX10_gatherNames_21 : decode cX10_gatherNames 21 = .ok (.iload_n 2, 1) := dk28 (k := 21) bX10_gatherNames_0 rfl
theorem dX10_gatherNames_22 : decode cX10_gatherNames 22 = .ok (.bipush 10, 2) := dk16 (k := 22) bX10_gatherNames_0 rfl (by decide)
theorem bX10_gatherNames_24 : bL cX10_gatherNames 24 [162, 0, 94, 3, 62, 3, 54, 4, 21, 4, 42, 180, 0, 15, 180, 0, 19, 180, 0, 35, 162, 0, 52, 27] := bL_of (by decide +kernel)
theorem dX10_gatherNames_24 : decode cX10_gatherNames 24 = .ok (.if_icmp .ge 94, 3) := dk162 (k := 0) bX10_gatherNames_24 rfl (by decide)
theorem dX10_gatherNames_27 : decode cX10_gatherNames 27 = .ok (.iconst 0, 1) := dk3 (k := 3) bX10_gatherNames_24 rfl
theorem dX10_gatherNames_28 : decode cX10_gatherNames 28 = .ok (.istore_n 3, 1) := dk62 (k := 4) bX10_gatherNames_24 rfl
theorem dX10_gatherNames_29 : decode cX10_gatherNames 29 = .ok (.iconst 0, 1) := dk3 (k := 5) bX10_gatherNames_24 rfl
theorem dX10_gatherNames_30 : decode cX10_gatherNames 30 = .ok (.istore 4, 2) := dk54 (k := 6) bX10_gatherNames_24 rfl rfl
theorem dX10_gatherNames_32 : decode cX10_gatherNames 32 = .ok (.iload 4, 2) := dk21 (k := 8) bX10_gatherNames_24 rfl rfl
theorem dX10_gatherNames_34 : decode cX10_gatherNames 34 = .ok (.aload_n 0, 1) := dk42 (k := 10) bX10_gatherNames_24 rfl
theorem dX10_gatherNames_35 : decode cX10_gatherNames 35 = .ok (.getfield 15, 3) := dk180 (k := 11) bX10_gatherNames_24 rfl rfl
theorem dX10_gatherNames_38 : decode cX10_gatherNames 38 = .ok (.getfield 19, 3) := dk180 (k := 14) bX10_gatherNames_24 rfl rfl
theorem dX10_gatherNames_41 : decode cX10_gatherNames 41 = .ok (.getfield 35, 3) := dk180 (k := 17) bX10_gatherNames_24 rfl rfl
theorem dX10_gatherNames_44 : decode cX10_gatherNames 44 = .ok (.if_icmp .ge 52, 3) := dk162 (k := 20) bX10_gatherNames_24 rfl (by decide)
theorem dX10_gatherNames_47 : decode cX10_gatherNames 47 = .ok (.iload_n 1, 1) := dk27 (k := 23) bX10_gatherNames_24 rfl
theorem bX10_gatherNames_48 : bL cX10_gatherNames 48 [21, 4, 122, 4, 126, 4, 160, 0, 36, 42, 180, 0, 15, 180, 0, 19, 21, 4, 3, 182, 0, 39, 28, 160, 0, 19] := bL_of (by decide +kernel)
theorem dX10_gatherNames_48 : decode cX10_gatherNames 48 = .ok (.iload 4, 2) := dk21 (k := 0) bX10_gatherNames_48 rfl rfl
theorem dX10_gatherNames_50 : decode cX10_gatherNames 50 = .ok (.ishr, 1) := dk122 (k := 2) bX10_gatherNames_48 rfl
theorem dX10_gatherNames_51 : decode cX10_gatherNames 51 = .ok (.iconst 1, 1) := dk4 (k := 3) bX10_gatherNames_48 rfl
theorem dX10_gatherNames_52 : decode cX10_gatherNames 52 = .ok (.iand, 1) := dk126 (k := 4) bX10_gatherNames_48 rfl
theorem dX10_gatherNames_53 : decode cX10_gatherNames 53 = .ok (.iconst 1, 1) := dk4 (k := 5) bX10_gatherNames_48 rfl
theorem dX10_gatherNames_54 : decode cX10_gatherNames 54 = .ok (.if_icmp .ne 36, 3) := dk160 (k := 6) bX10_gatherNames_48 rfl (by decide)
theorem dX10_gatherNames_57 : decode cX10_gatherNames 57 = .ok (.aload_n 0, 1) := dk42 (k := 9) bX10_gatherNames_48 rfl
theorem dX10_gatherNames_58 : decode cX10_gatherNames 58 = .ok (.getfield 15, 3) := dk180 (k := 10) bX10_gatherNames_48 rfl rfl
theorem dX10_gatherNames_61 : decode cX10_gatherNames 61 = .ok (.getfield 19, 3) := dk180 (k := 13) bX10_gatherNames_48 rfl rfl
theorem dX10_gatherNames_64 : decode cX10_gatherNames 64 = .ok (.iload 4, 2) := dk21 (k := 16) bX10_gatherNames_48 rfl rfl
theorem dX10_gatherNames_66 : decode cX10_gatherNames 66 = .ok (.iconst 0, 1) := dk3 (k := 18) bX10_gatherNames_48 rfl
theorem dX10_gatherNames_67 : decode cX10_gatherNames 67 = .ok (.invokevirtual 39, 3) := dk182 (k := 19) bX10_gatherNames_48 rfl rfl
theorem dX10_gatherNames_70 : decode cX10_gatherNames 70 = .ok (.iload_n 2, 1) := dk28 (k := 22) bX10_gatherNames_48 rfl
theorem dX10_gatherNames_71 : decode cX10_gatherNames 71 = .ok (.if_icmp .ne 19, 3) := dk160 (k := 23) bX10_gatherNames_48 rfl (by decide)
theorem bX10_gatherNames_74 : bL cX10_gatherNames 74 [29, 42, 180, 0, 15, 180, 0, 19, 21, 4, 4, 182, 0, 39, 96, 62, 132, 4, 1, 167, 255, 195, 42, 180, 0, 9] := bL_of (by decide +kernel)
theorem dX10_gatherNames_74 : decode cX10_gatherNames 74 = .ok (.iload_n 3, 1) := dk29 (k := 0) bX10_gatherNames_74 rfl
theorem dX10_gatherNames_75 : decode cX10_gatherNames 75 = .ok (.aload_n 0, 1) := dk42 (k := 1) bX10_gatherNames_74 rfl
theorem dX10_gatherNames_76 : decode cX10_gatherNames 76 = .ok (.getfield 15, 3) := dk180 (k := 2) bX10_gatherNames_74 rfl rfl
theorem dX10_gatherNames_79 : decode cX10_gatherNames 79 = .ok (.getfield 19, 3) := dk180 (k := 5) bX10_gatherNames_74 rfl rfl
theorem dX10_gatherNames_82 : decode cX10_gatherNames 82 = .ok (.iload 4, 2) := dk21 (k := 8) bX10_gatherNames_74 rfl rfl
theorem dX10_gatherNames_84 : decode cX10_gatherNames 84 = .ok (.iconst 1, 1) := dk4 (k := 10) bX10_gatherNames_74 rfl
theorem dX10_gatherNames_85 : decode cX10_gatherNames 85 = .ok (.invokevirtual 39, 3) := dk182 (k := 11) bX10_gatherNames_74 rfl rfl
theorem dX10_gatherNames_88 : decode cX10_gatherNames 88 = .ok (.iadd, 1) := dk96 (k := 14) bX10_gatherNames_74 rfl
theorem dX10_gatherNames_89 : decode cX10_gatherNames 89 = .ok (.istore_n 3, 1) := dk62 (k := 15) bX10_gatherNames_74 rfl
theorem dX10_gatherNames_90 : decode cX10_gatherNames 90 = .ok (.iinc 4 1, 3) := dk132 (k := 16) bX10_gatherNames_74 rfl rfl (by decide)
theorem dX10_gatherNames_93 : decode cX10_gatherNames 93 = .ok (.goto (-61), 3) := dk167 (k := 19) bX10_gatherNames_74 rfl (by decide)
theorem dX10_gatherNames_96 : decode cX10_gatherNames 96 = .ok (.aload_n 0, 1) := dk42 (k := 22) bX10_gatherNames_74 rfl
theorem dX10_gatherNames_97 : decode cX10_gatherNames 97 = .ok (.getfield 9, 3) := dk180 (k := 23) bX10_gatherNames_74 rfl rfl
theorem bX10_gatherNames_100 : bL cX10_gatherNames 100 [28, 4, 96, 42, 180, 0, 9, 28, 46, 29, 96, 79, 132, 2, 1, 167, 255, 162, 177] := bL_of (by decide +kernel)
theorem dX10_gatherNames_100 : decode cX10_gatherNames 100 = .ok (.iload_n 2, 1) := dk28 (k := 0) bX10_gatherNames_100 rfl
theorem dX10_gatherNames_101 : decode cX10_gatherNames 101 = .ok (.iconst 1, 1) := dk4 (k := 1) bX10_gatherNames_100 rfl
theorem dX10_gatherNames_102 : decode cX10_gatherNames 102 = .ok (.iadd, 1) := dk96 (k := 2) bX10_gatherNames_100 rfl
theorem dX10_gatherNames_103 : decode cX10_gatherNames 103 = .ok (.aload_n 0, 1) := dk42 (k := 3) bX10_gatherNames_100 rfl
theorem dX10_gatherNames_104 : decode cX10_gatherNames 104 = .ok (.getfield 9, 3) := dk180 (k := 4) bX10_gatherNames_100 rfl rfl
theorem dX10_gatherNames_107 : decode cX10_gatherNames 107 = .ok (.iload_n 2, 1) := dk28 (k := 7) bX10_gatherNames_100 rfl
theorem dX10_gatherNames_108 : decode cX10_gatherNames 108 = .ok (.iaload, 1) := dk46 (k := 8) bX10_gatherNames_100 rfl
theorem dX10_gatherNames_109 : decode cX10_gatherNames 109 = .ok (.iload_n 3, 1) := dk29 (k := 9) bX10_gatherNames_100 rfl
theorem dX10_gatherNames_110 : decode cX10_gatherNames 110 = .ok (.iadd, 1) := dk96 (k := 10) bX10_gatherNames_100 rfl
theorem dX10_gatherNames_111 : decode cX10_gatherNames 111 = .ok (.iastore, 1) := dk79 (k := 11) bX10_gatherNames_100 rfl
theorem dX10_gatherNames_112 : decode cX10_gatherNames 112 = .ok (.iinc 2 1, 3) := dk132 (k := 12) bX10_gatherNames_100 rfl rfl (by decide)
theorem dX10_gatherNames_115 : decode cX10_gatherNames 115 = .ok (.goto (-94), 3) := dk167 (k := 15) bX10_gatherNames_100 rfl (by decide)
theorem dX10_gatherNames_118 : decode cX10_gatherNames 118 = .ok (.return_, 1) := dk177 (k := 18) bX10_gatherNames_100 rfl
theorem bX10_namesWithin_0 : bL cX10_namesWithin 0 [27, 28, 163, 0, 18, 27, 155, 0, 14, 28, 4, 96, 42, 180, 0, 9, 190, 161, 0, 5, 3, 172, 42, 180, 0, 9] := bL_of (by decide +kernel)
theorem dX10_namesWithin_0 : decode cX10_namesWithin 0 = .ok (.iload_n 1, 1) := dk27 (k := 0) bX10_namesWithin_0 rfl
theorem dX10_namesWithin_1 : decode cX10_namesWithin 1 = .ok (.iload_n 2, 1) := dk28 (k := 1) bX10_namesWithin_0 rfl
theorem dX10_namesWithin_2 : decode cX10_namesWithin 2 = .ok (.if_icmp .gt 18, 3) := dk163 (k := 2) bX10_namesWithin_0 rfl (by decide)
theorem dX10_namesWithin_5 : decode cX10_namesWithin 5 = .ok (.iload_n 1, 1) := dk27 (k := 5) bX10_namesWithin_0 rfl
theorem dX10_namesWithin_6 : decode cX10_namesWithin 6 = .ok (.ifCond .lt 14, 3) := dk155 (k := 6) bX10_namesWithin_0 rfl (by decide)
theorem dX10_namesWithin_9 : decode cX10_namesWithin 9 = .ok (.iload_n 2, 1) := dk28 (k := 9) bX10_namesWithin_0 rfl
theorem dX10_namesWithin_10 : decode cX10_namesWithin 10 = .ok (.iconst 1, 1) := dk4 (k := 10) bX10_namesWithin_0 rfl
theorem dX10_namesWithin_11 : decode cX10_namesWithin 11 = .ok (.iadd, 1) := dk96 (k := 11) bX10_namesWithin_0 rfl
theorem dX10_namesWithin_12 : decode cX10_namesWithin 12 = .ok (.aload_n 0, 1) := dk42 (k := 12) bX10_namesWithin_0 rfl
theorem dX10_namesWithin_13 : decode cX10_namesWithin 13 = .ok (.getfield 9, 3) := dk180 (k := 13) bX10_namesWithin_0 rfl rfl
theorem dX10_namesWithin_16 : decode cX10_namesWithin 16 = .ok (.arraylength, 1) := dk190 (k := 16) bX10_namesWithin_0 rfl
theorem dX10_namesWithin_17 : decode cX10_namesWithin 17 = .ok (.if_icmp .lt 5, 3) := dk161 (k := 17) bX10_namesWithin_0 rfl (by decide)
theorem dX10_namesWithin_20 : decode cX10_namesWithin 20 = .ok (.iconst 0, 1) := dk3 (k := 20) bX10_namesWithin_0 rfl
theorem dX10_namesWithin_21 : decode cX10_namesWithin 21 = .ok (.ireturn, 1) := dk172 (k := 21) bX10_namesWithin_0 rfl
theorem dX10_namesWithin_22 : decode cX10_namesWithin 22 = .ok (.aload_n 0, 1) := dk42 (k := 22) bX10_namesWithin_0 rfl
theorem dX10_namesWithin_23 : decode cX10_namesWithin 23 = .ok (.getfield 9, 3) := dk180 (k := 23) bX10_namesWithin_0 rfl rfl
theorem bX10_namesWithin_26 : bL cX10_namesWithin 26 [28, 4, 96, 46, 42, 180, 0, 9, 27, 46, 100, 172] := bL_of (by decide +kernel)
theorem dX10_namesWithin_26 : decode cX10_namesWithin 26 = .ok (.iload_n 2, 1) := dk28 (k := 0) bX10_namesWithin_26 rfl
theorem dX10_namesWithin_27 : decode cX10_namesWithin 27 = .ok (.iconst 1, 1) := dk4 (k := 1) bX10_namesWithin_26 rfl
theorem dX10_namesWithin_28 : decode cX10_namesWithin 28 = .ok (.iadd, 1) := dk96 (k := 2) bX10_namesWithin_26 rfl
theorem dX10_namesWithin_29 : decode cX10_namesWithin 29 = .ok (.iaload, 1) := dk46 (k := 3) bX10_namesWithin_26 rfl
theorem dX10_namesWithin_30 : decode cX10_namesWithin 30 = .ok (.aload_n 0, 1) := dk42 (k := 4) bX10_namesWithin_26 rfl
theorem dX10_namesWithin_31 : decode cX10_namesWithin 31 = .ok (.getfield 9, 3) := dk180 (k := 5) bX10_namesWithin_26 rfl rfl
theorem dX10_namesWithin_34 : decode cX10_namesWithin 34 = .ok (.iload_n 1, 1) := dk27 (k := 8) bX10_namesWithin_26 rfl
theorem dX10_namesWithin_35 : decode cX10_namesWithin 35 = .ok (.iaload, 1) := dk46 (k := 9) bX10_namesWithin_26 rfl
theorem dX10_namesWithin_36 : decode cX10_namesWithin 36 = .ok (.isub, 1) := dk100 (k := 10) bX10_namesWithin_26 rfl
theorem dX10_namesWithin_37 : decode cX10_namesWithin 37 = .ok (.ireturn, 1) := dk172 (k := 11) bX10_namesWithin_26 rfl
theorem bX10_namesOfBoth_0 : bL cX10_namesOfBoth 0 [42, 27, 29, 184, 0, 43, 28, 21, 4, 184, 0, 48, 182, 0, 51, 54, 5, 42, 27, 28, 182, 0, 51, 42] := bL_of (by decide +kernel)
theorem dX10_namesOfBoth_0 : decode cX10_namesOfBoth 0 = .ok (.aload_n 0, 1) := dk42 (k := 0) bX10_namesOfBoth_0 rfl
theorem dX10_namesOfBoth_1 : decode cX10_namesOfBoth 1 = .ok (.iload_n 1, 1) := dk27 (k := 1) bX10_namesOfBoth_0 rfl
theorem dX10_namesOfBoth_2 : decode cX10_namesOfBoth 2 = .ok (.iload_n 3, 1) := dk29 (k := 2) bX10_namesOfBoth_0 rfl
theorem dX10_namesOfBoth_3 : decode cX10_namesOfBoth 3 = .ok (.invokestatic 43, 3) := dk184 (k := 3) bX10_namesOfBoth_0 rfl rfl
theorem dX10_namesOfBoth_6 : decode cX10_namesOfBoth 6 = .ok (.iload_n 2, 1) := dk28 (k := 6) bX10_namesOfBoth_0 rfl
theorem dX10_namesOfBoth_7 : decode cX10_namesOfBoth 7 = .ok (.iload 4, 2) := dk21 (k := 7) bX10_namesOfBoth_0 rfl rfl
theorem dX10_namesOfBoth_9 : decode cX10_namesOfBoth 9 = .ok (.invokestatic 48, 3) := dk184 (k := 9) bX10_namesOfBoth_0 rfl rfl
theorem dX10_namesOfBoth_12 : decode cX10_namesOfBoth 12 = .ok (.invokevirtual 51, 3) := dk182 (k := 12) bX10_namesOfBoth_0 rfl rfl
theorem dX10_namesOfBoth_15 : decode cX10_namesOfBoth 15 = .ok (.istore 5, 2) := dk54 (k := 15) bX10_namesOfBoth_0 rfl rfl
theorem dX10_namesOfBoth_17 : decode cX10_namesOfBoth 17 = .ok (.aload_n 0, 1) := dk42 (k := 17) bX10_namesOfBoth_0 rfl
theorem dX10_namesOfBoth_18 : decode cX10_namesOfBoth 18 = .ok (.iload_n 1, 1) := dk27 (k := 18) bX10_namesOfBoth_0 rfl
theorem dX10_namesOfBoth_19 : decode cX10_namesOfBoth 19 = .ok (.iload_n 2, 1) := dk28 (k := 19) bX10_namesOfBoth_0 rfl
theorem dX10_namesOfBoth_20 : decode cX10_namesOfBoth 20 = .ok (.invokevirtual 51, 3) := dk182 (k := 20) bX10_namesOfBoth_0 rfl rfl
theorem dX10_namesOfBoth_23 : decode cX10_namesOfBoth 23 = .ok (.aload_n 0, 1) := dk42 (k := 23) bX10_namesOfBoth_0 rfl
theorem bX10_namesOfBoth_24 : bL cX10_namesOfBoth 24 [29, 21, 4, 182, 0, 51, 96, 21, 5, 100, 172] := bL_of (by decide +kernel)
theorem dX10_namesOfBoth_24 : decode cX10_namesOfBoth 24 = .ok (.iload_n 3, 1) := dk29 (k := 0) bX10_namesOfBoth_24 rfl
theorem dX10_namesOfBoth_25 : decode cX10_namesOfBoth 25 = .ok (.iload 4, 2) := dk21 (k := 1) bX10_namesOfBoth_24 rfl rfl
theorem dX10_namesOfBoth_27 : decode cX10_namesOfBoth 27 = .ok (.invokevirtual 51, 3) := dk182 (k := 3) bX10_namesOfBoth_24 rfl rfl
theorem dX10_namesOfBoth_30 : decode cX10_namesOfBoth 30 = .ok (.iadd, 1) := dk96 (k := 6) bX10_namesOfBoth_24 rfl
theorem dX10_namesOfBoth_31 : decode cX10_namesOfBoth 31 = .ok (.iload 5, 2) := dk21 (k := 7) bX10_namesOfBoth_24 rfl rfl
theorem dX10_namesOfBoth_33 : decode cX10_namesOfBoth 33 = .ok (.isub, 1) := dk100 (k := 9) bX10_namesOfBoth_24 rfl
theorem dX10_namesOfBoth_34 : decode cX10_namesOfBoth 34 = .ok (.ireturn, 1) := dk172 (k := 10) bX10_namesOfBoth_24 rfl
theorem bX10_stepsOf_0 : bL cX10_stepsOf 0 [28, 27, 100, 26, 27, 100, 28, 26, 100, 184, 0, 48, 96, 172] := bL_of (by decide +kernel)
theorem dX10_stepsOf_0 : decode cX10_stepsOf 0 = .ok (.iload_n 2, 1) := dk28 (k := 0) bX10_stepsOf_0 rfl
theorem dX10_stepsOf_1 : decode cX10_stepsOf 1 = .ok (.iload_n 1, 1) := dk27 (k := 1) bX10_stepsOf_0 rfl
theorem dX10_stepsOf_2 : decode cX10_stepsOf 2 = .ok (.isub, 1) := dk100 (k := 2) bX10_stepsOf_0 rfl
theorem dX10_stepsOf_3 : decode cX10_stepsOf 3 = .ok (.iload_n 0, 1) := dk26 (k := 3) bX10_stepsOf_0 rfl
theorem dX10_stepsOf_4 : decode cX10_stepsOf 4 = .ok (.iload_n 1, 1) := dk27 (k := 4) bX10_stepsOf_0 rfl
theorem dX10_stepsOf_5 : decode cX10_stepsOf 5 = .ok (.isub, 1) := dk100 (k := 5) bX10_stepsOf_0 rfl
theorem dX10_stepsOf_6 : decode cX10_stepsOf 6 = .ok (.iload_n 2, 1) := dk28 (k := 6) bX10_stepsOf_0 rfl
theorem dX10_stepsOf_7 : decode cX10_stepsOf 7 = .ok (.iload_n 0, 1) := dk26 (k := 7) bX10_stepsOf_0 rfl
theorem dX10_stepsOf_8 : decode cX10_stepsOf 8 = .ok (.isub, 1) := dk100 (k := 8) bX10_stepsOf_0 rfl
theorem dX10_stepsOf_9 : decode cX10_stepsOf 9 = .ok (.invokestatic 48, 3) := dk184 (k := 9) bX10_stepsOf_0 rfl rfl
theorem dX10_stepsOf_12 : decode cX10_stepsOf 12 = .ok (.iadd, 1) := dk96 (k := 12) bX10_stepsOf_0 rfl
theorem dX10_stepsOf_13 : decode cX10_stepsOf 13 = .ok (.ireturn, 1) := dk172 (k := 13) bX10_stepsOf_0 rfl
theorem bX10_walkOne_0 : bL cX10_walkOne 0 [42, 182, 0, 54, 2, 62, 3, 54, 4, 21, 4, 27, 163, 0, 81, 27, 54, 5, 21, 5, 42, 180, 0, 15] := bL_of (by decide +kernel)
theorem dX10_walkOne_0 : decode cX10_walkOne 0 = .ok (.aload_n 0, 1) := dk42 (k := 0) bX10_walkOne_0 rfl
theorem dX10_walkOne_1 : decode cX10_walkOne 1 = .ok (.invokevirtual 54, 3) := dk182 (k := 1) bX10_walkOne_0 rfl rfl
theorem dX10_walkOne_4 : decode cX10_walkOne 4 = .ok (.iconst (-1), 1) := dk2 (k := 4) bX10_walkOne_0 rfl
theorem dX10_walkOne_5 : decode cX10_walkOne 5 = .ok (.istore_n 3, 1) := dk62 (k := 5) bX10_walkOne_0 rfl
theorem dX10_walkOne_6 : decode cX10_walkOne 6 = .ok (.iconst 0, 1) := dk3 (k := 6) bX10_walkOne_0 rfl
theorem dX10_walkOne_7 : decode cX10_walkOne 7 = .ok (.istore 4, 2) := dk54 (k := 7) bX10_walkOne_0 rfl rfl
theorem dX10_walkOne_9 : decode cX10_walkOne 9 = .ok (.iload 4, 2) := dk21 (k := 9) bX10_walkOne_0 rfl rfl
theorem dX10_walkOne_11 : decode cX10_walkOne 11 = .ok (.iload_n 1, 1) := dk27 (k := 11) bX10_walkOne_0 rfl
theorem dX10_walkOne_12 : decode cX10_walkOne 12 = .ok (.if_icmp .gt 81, 3) := dk163 (k := 12) bX10_walkOne_0 rfl (by decide)
theorem dX10_walkOne_15 : decode cX10_walkOne 15 = .ok (.iload_n 1, 1) := dk27 (k := 15) bX10_walkOne_0 rfl
theorem dX10_walkOne_16 : decode cX10_walkOne 16 = .ok (.istore 5, 2) := dk54 (k := 16) bX10_walkOne_0 rfl rfl
theorem dX10_walkOne_18 : decode cX10_walkOne 18 = .ok (.iload 5, 2) := dk21 (k := 18) bX10_walkOne_0 rfl rfl
theorem dX10_walkOne_20 : decode cX10_walkOne 20 = .ok (.aload_n 0, 1) := dk42 (k := 20) bX10_walkOne_0 rfl
theorem dX10_walkOne_21 : decode cX10_walkOne 21 = .ok (.getfield 15, 3) := dk180 (k := 21) bX10_walkOne_0 rfl rfl
theorem bX10_walkOne_24 : bL cX10_walkOne 24 [180, 0, 25, 180, 0, 57, 162, 0, 57, 27, 21, 4, 21, 5, 184, 0, 62, 54, 6, 29, 2, 159, 0, 9] := bL_of (by decide +kernel)
theorem dX10_walkOne_24 : decode cX10_walkOne 24 = .ok (.getfield 25, 3) := dk180 (k := 0) bX10_walkOne_24 rfl rfl
theorem dX10_walkOne_27 : decode cX10_walkOne 27 = .ok (.getfield 57, 3) := dk180 (k := 3) bX10_walkOne_24 rfl rfl
theorem dX10_walkOne_30 : decode cX10_walkOne 30 = .ok (.if_icmp .ge 57, 3) := dk162 (k := 6) bX10_walkOne_24 rfl (by decide)
theorem dX10_walkOne_33 : decode cX10_walkOne 33 = .ok (.iload_n 1, 1) := dk27 (k := 9) bX10_walkOne_24 rfl
theorem dX10_walkOne_34 : decode cX10_walkOne 34 = .ok (.iload 4, 2) := dk21 (k := 10) bX10_walkOne_24 rfl rfl
theorem dX10_walkOne_36 : decode cX10_walkOne 36 = .ok (.iload 5, 2) := dk21 (k := 12) bX10_walkOne_24 rfl rfl
theorem dX10_walkOne_38 : decode cX10_walkOne 38 = .ok (.invokestatic 62, 3) := dk184 (k := 14) bX10_walkOne_24 rfl rfl
theorem dX10_walkOne_41 : decode cX10_walkOne 41 = .ok (.istore 6, 2) := dk54 (k := 17) bX10_walkOne_24 rfl rfl
theorem dX10_walkOne_43 : decode cX10_walkOne 43 = .ok (.iload_n 3, 1) := dk29 (k := 19) bX10_walkOne_24 rfl
theorem dX10_walkOne_44 : decode cX10_walkOne 44 = .ok (.iconst (-1), 1) := dk2 (k := 20) bX10_walkOne_24 rfl
theorem dX10_walkOne_45 : decode cX10_walkOne 45 = .ok (.if_icmp .eq 9, 3) := dk159 (k := 21) bX10_walkOne_24 rfl (by decide)
theorem bX10_walkOne_48 : bL cX10_walkOne 48 [21, 6, 29, 162, 0, 30, 42, 21, 4, 21, 5, 182, 0, 51, 28, 161, 0, 18, 21, 6, 62, 42, 21, 4] := bL_of (by decide +kernel)
theorem dX10_walkOne_48 : decode cX10_walkOne 48 = .ok (.iload 6, 2) := dk21 (k := 0) bX10_walkOne_48 rfl rfl
theorem dX10_walkOne_50 : decode cX10_walkOne 50 = .ok (.iload_n 3, 1) := dk29 (k := 2) bX10_walkOne_48 rfl
theorem dX10_walkOne_51 : decode cX10_walkOne 51 = .ok (.if_icmp .ge 30, 3) := dk162 (k := 3) bX10_walkOne_48 rfl (by decide)
theorem dX10_walkOne_54 : decode cX10_walkOne 54 = .ok (.aload_n 0, 1) := dk42 (k := 6) bX10_walkOne_48 rfl
theorem dX10_walkOne_55 : decode cX10_walkOne 55 = .ok (.iload 4, 2) := dk21 (k := 7) bX10_walkOne_48 rfl rfl
theorem dX10_walkOne_57 : decode cX10_walkOne 57 = .ok (.iload 5, 2) := dk21 (k := 9) bX10_walkOne_48 rfl rfl
theorem dX10_walkOne_59 : decode cX10_walkOne 59 = .ok (.invokevirtual 51, 3) := dk182 (k := 11) bX10_walkOne_48 rfl rfl
theorem dX10_walkOne_62 : decode cX10_walkOne 62 = .ok (.iload_n 2, 1) := dk28 (k := 14) bX10_walkOne_48 rfl
theorem dX10_walkOne_63 : decode cX10_walkOne 63 = .ok (.if_icmp .lt 18, 3) := dk161 (k := 15) bX10_walkOne_48 rfl (by decide)
theorem dX10_walkOne_66 : decode cX10_walkOne 66 = .ok (.iload 6, 2) := dk21 (k := 18) bX10_walkOne_48 rfl rfl
theorem dX10_walkOne_68 : decode cX10_walkOne 68 = .ok (.istore_n 3, 1) := dk62 (k := 20) bX10_walkOne_48 rfl
theorem dX10_walkOne_69 : decode cX10_walkOne 69 = .ok (.aload_n 0, 1) := dk42 (k := 21) bX10_walkOne_48 rfl
theorem dX10_walkOne_70 : decode cX10_walkOne 70 = .ok (.iload 4, 2) := dk21 (k := 22) bX10_walkOne_48 rfl rfl
theorem bX10_walkOne_72 : bL cX10_walkOne 72 [181, 0, 66, 42, 21, 5, 181, 0, 69, 132, 5, 1, 167, 255, 190, 132, 4, 1, 167, 255, 175, 29, 172] := bL_of (by decide +kernel)
theorem dX10_walkOne_72 : decode cX10_walkOne 72 = .ok (.putfield 66, 3) := dk181 (k := 0) bX10_walkOne_72 rfl rfl
theorem dX10_walkOne_75 : decode cX10_walkOne 75 = .ok (.aload_n 0, 1) := dk42 (k := 3) bX10_walkOne_72 rfl
theorem dX10_walkOne_76 : decode cX10_walkOne 76 = .ok (.iload 5, 2) := dk21 (k := 4) bX10_walkOne_72 rfl rfl
theorem dX10_walkOne_78 : decode cX10_walkOne 78 = .ok (.putfield 69, 3) := dk181 (k := 6) bX10_walkOne_72 rfl rfl
theorem dX10_walkOne_81 : decode cX10_walkOne 81 = .ok (.iinc 5 1, 3) := dk132 (k := 9) bX10_walkOne_72 rfl rfl (by decide)
theorem dX10_walkOne_84 : decode cX10_walkOne 84 = .ok (.goto (-66), 3) := dk167 (k := 12) bX10_walkOne_72 rfl (by decide)
theorem dX10_walkOne_87 : decode cX10_walkOne 87 = .ok (.iinc 4 1, 3) := dk132 (k := 15) bX10_walkOne_72 rfl rfl (by decide)
theorem dX10_walkOne_90 : decode cX10_walkOne 90 = .ok (.goto (-81), 3) := dk167 (k := 18) bX10_walkOne_72 rfl (by decide)
theorem dX10_walkOne_93 : decode cX10_walkOne 93 = .ok (.iload_n 3, 1) := dk29 (k := 21) bX10_walkOne_72 rfl
theorem dX10_walkOne_94 : decode cX10_walkOne 94 = .ok (.ireturn, 1) := dk172 (k := 22) bX10_walkOne_72 rfl
theorem bX10_walkTwo_0 : bL cX10_walkTwo 0 [42, 182, 0, 54, 2, 54, 4, 3, 54, 5, 21, 5, 27, 163, 0, 86, 27, 54, 6, 21, 6, 42, 180, 0, 15] := bL_of (by decide +kernel)
theorem dX10_walkTwo_0 : decode cX10_walkTwo 0 = .ok (.aload_n 0, 1) := dk42 (k := 0) bX10_walkTwo_0 rfl
theorem dX10_walkTwo_1 : decode cX10_walkTwo 1 = .ok (.invokevirtual 54, 3) := dk182 (k := 1) bX10_walkTwo_0 rfl rfl
theorem dX10_walkTwo_4 : decode cX10_walkTwo 4 = .ok (.iconst (-1), 1) := dk2 (k := 4) bX10_walkTwo_0 rfl
theorem dX10_walkTwo_5 : decode cX10_walkTwo 5 = .ok (.istore 4, 2) := dk54 (k := 5) bX10_walkTwo_0 rfl rfl
theorem dX10_walkTwo_7 : decode cX10_walkTwo 7 = .ok (.iconst 0, 1) := dk3 (k := 7) bX10_walkTwo_0 rfl
theorem dX10_walkTwo_8 : decode cX10_walkTwo 8 = .ok (.istore 5, 2) := dk54 (k := 8) bX10_walkTwo_0 rfl rfl
theorem dX10_walkTwo_10 : decode cX10_walkTwo 10 = .ok (.iload 5, 2) := dk21 (k := 10) bX10_walkTwo_0 rfl rfl
theorem dX10_walkTwo_12 : decode cX10_walkTwo 12 = .ok (.iload_n 1, 1) := dk27 (k := 12) bX10_walkTwo_0 rfl
theorem dX10_walkTwo_13 : decode cX10_walkTwo 13 = .ok (.if_icmp .gt 86, 3) := dk163 (k := 13) bX10_walkTwo_0 rfl (by decide)
theorem dX10_walkTwo_16 : decode cX10_walkTwo 16 = .ok (.iload_n 1, 1) := dk27 (k := 16) bX10_walkTwo_0 rfl
theorem dX10_walkTwo_17 : decode cX10_walkTwo 17 = .ok (.istore 6, 2) := dk54 (k := 17) bX10_walkTwo_0 rfl rfl
theorem dX10_walkTwo_19 : decode cX10_walkTwo 19 = .ok (.iload 6, 2) := dk21 (k := 19) bX10_walkTwo_0 rfl rfl
theorem dX10_walkTwo_21 : decode cX10_walkTwo 21 = .ok (.aload_n 0, 1) := dk42 (k := 21) bX10_walkTwo_0 rfl
theorem dX10_walkTwo_22 : decode cX10_walkTwo 22 = .ok (.getfield 15, 3) := dk180 (k := 22) bX10_walkTwo_0 rfl rfl
theorem bX10_walkTwo_25 : bL cX10_walkTwo 25 [180, 0, 25, 180, 0, 57, 162, 0, 62, 42, 28, 29, 21, 5, 21, 6, 182, 0, 72, 54, 7, 21, 7, 2] := bL_of (by decide +kernel)
theorem dX10_walkTwo_25 : decode cX10_walkTwo 25 = .ok (.getfield 25, 3) := dk180 (k := 0) bX10_walkTwo_25 rfl rfl
theorem dX10_walkTwo_28 : decode cX10_walkTwo 28 = .ok (.getfield 57, 3) := dk180 (k := 3) bX10_walkTwo_25 rfl rfl
theorem dX10_walkTwo_31 : decode cX10_walkTwo 31 = .ok (.if_icmp .ge 62, 3) := dk162 (k := 6) bX10_walkTwo_25 rfl (by decide)
theorem dX10_walkTwo_34 : decode cX10_walkTwo 34 = .ok (.aload_n 0, 1) := dk42 (k := 9) bX10_walkTwo_25 rfl
theorem dX10_walkTwo_35 : decode cX10_walkTwo 35 = .ok (.iload_n 2, 1) := dk28 (k := 10) bX10_walkTwo_25 rfl
theorem dX10_walkTwo_36 : decode cX10_walkTwo 36 = .ok (.iload_n 3, 1) := dk29 (k := 11) bX10_walkTwo_25 rfl
theorem dX10_walkTwo_37 : decode cX10_walkTwo 37 = .ok (.iload 5, 2) := dk21 (k := 12) bX10_walkTwo_25 rfl rfl
theorem dX10_walkTwo_39 : decode cX10_walkTwo 39 = .ok (.iload 6, 2) := dk21 (k := 14) bX10_walkTwo_25 rfl rfl
theorem dX10_walkTwo_41 : decode cX10_walkTwo 41 = .ok (.invokevirtual 72, 3) := dk182 (k := 16) bX10_walkTwo_25 rfl rfl
theorem dX10_walkTwo_44 : decode cX10_walkTwo 44 = .ok (.istore 7, 2) := dk54 (k := 19) bX10_walkTwo_25 rfl rfl
theorem dX10_walkTwo_46 : decode cX10_walkTwo 46 = .ok (.iload 7, 2) := dk21 (k := 21) bX10_walkTwo_25 rfl rfl
theorem dX10_walkTwo_48 : decode cX10_walkTwo 48 = .ok (.iconst (-1), 1) := dk2 (k := 23) bX10_walkTwo_25 rfl
theorem bX10_walkTwo_49 : bL cX10_walkTwo 49 [159, 0, 38, 21, 7, 27, 21, 5, 21, 6, 184, 0, 62, 184, 0, 43, 54, 7, 21, 4, 2, 160, 0, 8] := bL_of (by decide +kernel)
theorem dX10_walkTwo_49 : decode cX10_walkTwo 49 = .ok (.if_icmp .eq 38, 3) := dk159 (k := 0) bX10_walkTwo_49 rfl (by decide)
theorem dX10_walkTwo_52 : decode cX10_walkTwo 52 = .ok (.iload 7, 2) := dk21 (k := 3) bX10_walkTwo_49 rfl rfl
theorem dX10_walkTwo_54 : decode cX10_walkTwo 54 = .ok (.iload_n 1, 1) := dk27 (k := 5) bX10_walkTwo_49 rfl
theorem dX10_walkTwo_55 : decode cX10_walkTwo 55 = .ok (.iload 5, 2) := dk21 (k := 6) bX10_walkTwo_49 rfl rfl
theorem dX10_walkTwo_57 : decode cX10_walkTwo 57 = .ok (.iload 6, 2) := dk21 (k := 8) bX10_walkTwo_49 rfl rfl
theorem dX10_walkTwo_59 : decode cX10_walkTwo 59 = .ok (.invokestatic 62, 3) := dk184 (k := 10) bX10_walkTwo_49 rfl rfl
theorem dX10_walkTwo_62 : decode cX10_walkTwo 62 = .ok (.invokestatic 43, 3) := dk184 (k := 13) bX10_walkTwo_49 rfl rfl
theorem dX10_walkTwo_65 : decode cX10_walkTwo 65 = .ok (.istore 7, 2) := dk54 (k := 16) bX10_walkTwo_49 rfl rfl
theorem dX10_walkTwo_67 : decode cX10_walkTwo 67 = .ok (.iload 4, 2) := dk21 (k := 18) bX10_walkTwo_49 rfl rfl
theorem dX10_walkTwo_69 : decode cX10_walkTwo 69 = .ok (.iconst (-1), 1) := dk2 (k := 20) bX10_walkTwo_49 rfl
theorem dX10_walkTwo_70 : decode cX10_walkTwo 70 = .ok (.if_icmp .ne 8, 3) := dk160 (k := 21) bX10_walkTwo_49 rfl (by decide)
theorem bX10_walkTwo_73 : bL cX10_walkTwo 73 [21, 7, 167, 0, 10, 21, 4, 21, 7, 184, 0, 48, 54, 4, 132, 6, 1, 167, 255, 185, 132, 5, 1, 167, 255, 170] := bL_of (by decide +kernel)
theorem dX10_walkTwo_73 : decode cX10_walkTwo 73 = .ok (.iload 7, 2) := dk21 (k := 0) bX10_walkTwo_73 rfl rfl
theorem dX10_walkTwo_75 : decode cX10_walkTwo 75 = .ok (.goto 10, 3) := dk167 (k := 2) bX10_walkTwo_73 rfl (by decide)
theorem dX10_walkTwo_78 : decode cX10_walkTwo 78 = .ok (.iload 4, 2) := dk21 (k := 5) bX10_walkTwo_73 rfl rfl
theorem dX10_walkTwo_80 : decode cX10_walkTwo 80 = .ok (.iload 7, 2) := dk21 (k := 7) bX10_walkTwo_73 rfl rfl
theorem dX10_walkTwo_82 : decode cX10_walkTwo 82 = .ok (.invokestatic 48, 3) := dk184 (k := 9) bX10_walkTwo_73 rfl rfl
theorem dX10_walkTwo_85 : decode cX10_walkTwo 85 = .ok (.istore 4, 2) := dk54 (k := 12) bX10_walkTwo_73 rfl rfl
theorem dX10_walkTwo_87 : decode cX10_walkTwo 87 = .ok (.iinc 6 1, 3) := dk132 (k := 14) bX10_walkTwo_73 rfl rfl (by decide)
theorem dX10_walkTwo_90 : decode cX10_walkTwo 90 = .ok (.goto (-71), 3) := dk167 (k := 17) bX10_walkTwo_73 rfl (by decide)
theorem dX10_walkTwo_93 : decode cX10_walkTwo 93 = .ok (.iinc 5 1, 3) := dk132 (k := 20) bX10_walkTwo_73 rfl rfl (by decide)
theorem dX10_walkTwo_96 : decode cX10_walkTwo 96 = .ok (.goto (-86), 3) := dk167 (k := 23) bX10_walkTwo_73 rfl (by decide)
theorem bX10_walkTwo_99 : bL cX10_walkTwo 99 [21, 4, 172] := bL_of (by decide +kernel)
theorem dX10_walkTwo_99 : decode cX10_walkTwo 99 = .ok (.iload 4, 2) := dk21 (k := 0) bX10_walkTwo_99 rfl rfl
theorem dX10_walkTwo_101 : decode cX10_walkTwo 101 = .ok (.ireturn, 1) := dk172 (k := 2) bX10_walkTwo_99 rfl
theorem bX10_besides_0 : bL cX10_besides 0 [2, 54, 5, 3, 54, 6, 21, 6, 27, 163, 0, 75, 27, 54, 7, 21, 7, 42, 180, 0, 15, 180, 0, 25] := bL_of (by decide +kernel)
theorem dX10_besides_0 : decode cX10_besides 0 = .ok (.iconst (-1), 1) := dk2 (k := 0) bX10_besides_0 rfl
theorem dX10_besides_1 : decode cX10_besides 1 = .ok (.istore 5, 2) := dk54 (k := 1) bX10_besides_0 rfl rfl
theorem dX10_besides_3 : decode cX10_besides 3 = .ok (.iconst 0, 1) := dk3 (k := 3) bX10_besides_0 rfl
theorem dX10_besides_4 : decode cX10_besides 4 = .ok (.istore 6, 2) := dk54 (k := 4) bX10_besides_0 rfl rfl
theorem dX10_besides_6 : decode cX10_besides 6 = .ok (.iload 6, 2) := dk21 (k := 6) bX10_besides_0 rfl rfl
theorem dX10_besides_8 : decode cX10_besides 8 = .ok (.iload_n 1, 1) := dk27 (k := 8) bX10_besides_0 rfl
theorem dX10_besides_9 : decode cX10_besides 9 = .ok (.if_icmp .gt 75, 3) := dk163 (k := 9) bX10_besides_0 rfl (by decide)
theorem dX10_besides_12 : decode cX10_besides 12 = .ok (.iload_n 1, 1) := dk27 (k := 12) bX10_besides_0 rfl
theorem dX10_besides_13 : decode cX10_besides 13 = .ok (.istore 7, 2) := dk54 (k := 13) bX10_besides_0 rfl rfl
theorem dX10_besides_15 : decode cX10_besides 15 = .ok (.iload 7, 2) := dk21 (k := 15) bX10_besides_0 rfl rfl
theorem dX10_besides_17 : decode cX10_besides 17 = .ok (.aload_n 0, 1) := dk42 (k := 17) bX10_besides_0 rfl
theorem dX10_besides_18 : decode cX10_besides 18 = .ok (.getfield 15, 3) := dk180 (k := 18) bX10_besides_0 rfl rfl
theorem dX10_besides_21 : decode cX10_besides 21 = .ok (.getfield 25, 3) := dk180 (k := 21) bX10_besides_0 rfl rfl
theorem bX10_besides_24 : bL cX10_besides 24 [180, 0, 57, 162, 0, 51, 27, 21, 6, 21, 7, 184, 0, 62, 54, 8, 21, 5, 2, 159, 0, 10, 21, 8] := bL_of (by decide +kernel)
theorem dX10_besides_24 : decode cX10_besides 24 = .ok (.getfield 57, 3) := dk180 (k := 0) bX10_besides_24 rfl rfl
theorem dX10_besides_27 : decode cX10_besides 27 = .ok (.if_icmp .ge 51, 3) := dk162 (k := 3) bX10_besides_24 rfl (by decide)
theorem dX10_besides_30 : decode cX10_besides 30 = .ok (.iload_n 1, 1) := dk27 (k := 6) bX10_besides_24 rfl
theorem dX10_besides_31 : decode cX10_besides 31 = .ok (.iload 6, 2) := dk21 (k := 7) bX10_besides_24 rfl rfl
theorem dX10_besides_33 : decode cX10_besides 33 = .ok (.iload 7, 2) := dk21 (k := 9) bX10_besides_24 rfl rfl
theorem dX10_besides_35 : decode cX10_besides 35 = .ok (.invokestatic 62, 3) := dk184 (k := 11) bX10_besides_24 rfl rfl
theorem dX10_besides_38 : decode cX10_besides 38 = .ok (.istore 8, 2) := dk54 (k := 14) bX10_besides_24 rfl rfl
theorem dX10_besides_40 : decode cX10_besides 40 = .ok (.iload 5, 2) := dk21 (k := 16) bX10_besides_24 rfl rfl
theorem dX10_besides_42 : decode cX10_besides 42 = .ok (.iconst (-1), 1) := dk2 (k := 18) bX10_besides_24 rfl
theorem dX10_besides_43 : decode cX10_besides 43 = .ok (.if_icmp .eq 10, 3) := dk159 (k := 19) bX10_besides_24 rfl (by decide)
theorem dX10_besides_46 : decode cX10_besides 46 = .ok (.iload 8, 2) := dk21 (k := 22) bX10_besides_24 rfl rfl
theorem bX10_besides_48 : bL cX10_besides 48 [21, 5, 162, 0, 22, 42, 29, 21, 4, 21, 6, 21, 7, 182, 0, 76, 28, 161, 0, 7, 21, 8, 54, 5] := bL_of (by decide +kernel)
theorem dX10_besides_48 : decode cX10_besides 48 = .ok (.iload 5, 2) := dk21 (k := 0) bX10_besides_48 rfl rfl
theorem dX10_besides_50 : decode cX10_besides 50 = .ok (.if_icmp .ge 22, 3) := dk162 (k := 2) bX10_besides_48 rfl (by decide)
theorem dX10_besides_53 : decode cX10_besides 53 = .ok (.aload_n 0, 1) := dk42 (k := 5) bX10_besides_48 rfl
theorem dX10_besides_54 : decode cX10_besides 54 = .ok (.iload_n 3, 1) := dk29 (k := 6) bX10_besides_48 rfl
theorem dX10_besides_55 : decode cX10_besides 55 = .ok (.iload 4, 2) := dk21 (k := 7) bX10_besides_48 rfl rfl
theorem dX10_besides_57 : decode cX10_besides 57 = .ok (.iload 6, 2) := dk21 (k := 9) bX10_besides_48 rfl rfl
theorem dX10_besides_59 : decode cX10_besides 59 = .ok (.iload 7, 2) := dk21 (k := 11) bX10_besides_48 rfl rfl
theorem dX10_besides_61 : decode cX10_besides 61 = .ok (.invokevirtual 76, 3) := dk182 (k := 13) bX10_besides_48 rfl rfl
theorem dX10_besides_64 : decode cX10_besides 64 = .ok (.iload_n 2, 1) := dk28 (k := 16) bX10_besides_48 rfl
theorem dX10_besides_65 : decode cX10_besides 65 = .ok (.if_icmp .lt 7, 3) := dk161 (k := 17) bX10_besides_48 rfl (by decide)
theorem dX10_besides_68 : decode cX10_besides 68 = .ok (.iload 8, 2) := dk21 (k := 20) bX10_besides_48 rfl rfl
theorem dX10_besides_70 : decode cX10_besides 70 = .ok (.istore 5, 2) := dk54 (k := 22) bX10_besides_48 rfl rfl
theorem bX10_besides_72 : bL cX10_besides 72 [132, 7, 1, 167, 255, 196, 132, 6, 1, 167, 255, 181, 21, 5, 172] := bL_of (by decide +kernel)
theorem dX10_besides_72 : decode cX10_besides 72 = .ok (.iinc 7 1, 3) := dk132 (k := 0) bX10_besides_72 rfl rfl (by decide)
theorem dX10_besides_75 : decode cX10_besides 75 = .ok (.goto (-60), 3) := dk167 (k := 3) bX10_besides_72 rfl (by decide)
theorem dX10_besides_78 : decode cX10_besides 78 = .ok (.iinc 6 1, 3) := dk132 (k := 6) bX10_besides_72 rfl rfl (by decide)
theorem dX10_besides_81 : decode cX10_besides 81 = .ok (.goto (-75), 3) := dk167 (k := 9) bX10_besides_72 rfl (by decide)
theorem dX10_besides_84 : decode cX10_besides 84 = .ok (.iload 5, 2) := dk21 (k := 12) bX10_besides_72 rfl rfl
theorem dX10_besides_86 : decode cX10_besides 86 = .ok (.ireturn, 1) := dk172 (k := 14) bX10_besides_72 rfl
theorem bX11_init_0 : bL cX11_init 0 [42, 183, 0, 1, 42, 187, 0, 7, 89, 183, 0, 9, 181, 0, 10, 42, 187, 0, 16, 89, 42, 180, 0, 10] := bL_of (by decide +kernel)
theorem dX11_init_0 : decode cX11_init 0 = .ok (.aload_n 0, 1) := dk42 (k := 0) bX11_init_0 rfl
theorem dX11_init_1 : decode cX11_init 1 = .ok (.invokespecial 1, 3) := dk183 (k := 1) bX11_init_0 rfl rfl
theorem dX11_init_4 : decode cX11_init 4 = .ok (.aload_n 0, 1) := dk42 (k := 4) bX11_init_0 rfl
theorem dX11_init_5 : decode cX11_init 5 = .ok (.new 7, 3) := dk187 (k := 5) bX11_init_0 rfl rfl
theorem dX11_init_8 : decode cX11_init 8 = .ok (.dup, 1) := dk89 (k := 8) bX11_init_0 rfl
theorem dX11_init_9 : decode cX11_init 9 = .ok (.invokespecial 9, 3) := dk183 (k := 9) bX11_init_0 rfl rfl
theorem dX11_init_12 : decode cX11_init 12 = .ok (.putfield 10, 3) := dk181 (k := 12) bX11_init_0 rfl rfl
theorem dX11_init_15 : decode cX11_init 15 = .ok (.aload_n 0, 1) := dk42 (k := 15) bX11_init_0 rfl
theorem dX11_init_16 : decode cX11_init 16 = .ok (.new 16, 3) := dk187 (k := 16) bX11_init_0 rfl rfl
theorem dX11_init_19 : decode cX11_init 19 = .ok (.dup, 1) := dk89 (k := 19) bX11_init_0 rfl
theorem dX11_init_20 : decode cX11_init 20 = .ok (.aload_n 0, 1) := dk42 (k := 20) bX11_init_0 rfl
theorem dX11_init_21 : decode cX11_init 21 = .ok (.getfield 10, 3) := dk180 (k := 21) bX11_init_0 rfl rfl
theorem bX11_init_24 : bL cX11_init 24 [183, 0, 18, 181, 0, 21, 42, 187, 0, 25, 89, 183, 0, 27, 181, 0, 28, 42, 6, 189, 0, 25, 181, 0, 32] := bL_of (by decide +kernel)
theorem dX11_init_24 : decode cX11_init 24 = .ok (.invokespecial 18, 3) := dk183 (k := 0) bX11_init_24 rfl rfl
theorem dX11_init_27 : decode cX11_init 27 = .ok (.putfield 21, 3) := dk181 (k := 3) bX11_init_24 rfl rfl
theorem dX11_init_30 : decode cX11_init 30 = .ok (.aload_n 0, 1) := dk42 (k := 6) bX11_init_24 rfl
theorem dX11_init_31 : decode cX11_init 31 = .ok (.new 25, 3) := dk187 (k := 7) bX11_init_24 rfl rfl
theorem dX11_init_34 : decode cX11_init 34 = .ok (.dup, 1) := dk89 (k := 10) bX11_init_24 rfl
theorem dX11_init_35 : decode cX11_init 35 = .ok (.invokespecial 27, 3) := dk183 (k := 11) bX11_init_24 rfl rfl
theorem dX11_init_38 : decode cX11_init 38 = .ok (.putfield 28, 3) := dk181 (k := 14) bX11_init_24 rfl rfl
theorem dX11_init_41 : decode cX11_init 41 = .ok (.aload_n 0, 1) := dk42 (k := 17) bX11_init_24 rfl
theorem dX11_init_42 : decode cX11_init 42 = .ok (.iconst 3, 1) := dk6 (k := 18) bX11_init_24 rfl
theorem dX11_init_43 : decode cX11_init 43 = .ok (.anewarray 25, 3) := dk189 (k := 19) bX11_init_24 rfl rfl
theorem dX11_init_46 : decode cX11_init 46 = .ok (.putfield 32, 3) := dk181 (k := 22) bX11_init_24 rfl rfl
theorem bX11_init_49 : bL cX11_init 49 [3, 60, 27, 6, 162, 0, 22, 42, 180, 0, 32, 27, 187, 0, 25, 89, 183, 0, 27, 83, 132, 1, 1, 167, 255, 235] := bL_of (by decide +kernel)
theorem dX11_init_49 : decode cX11_init 49 = .ok (.iconst 0, 1) := dk3 (k := 0) bX11_init_49 rfl
theorem dX11_init_50 : decode cX11_init 50 = .ok (.istore_n 1, 1) := dk60 (k := 1) bX11_init_49 rfl
theorem dX11_init_51 : decode cX11_init 51 = .ok (.iload_n 1, 1) := dk27 (k := 2) bX11_init_49 rfl
theorem dX11_init_52 : decode cX11_init 52 = .ok (.iconst 3, 1) := dk6 (k := 3) bX11_init_49 rfl
theorem dX11_init_53 : decode cX11_init 53 = .ok (.if_icmp .ge 22, 3) := dk162 (k := 4) bX11_init_49 rfl (by decide)
theorem dX11_init_56 : decode cX11_init 56 = .ok (.aload_n 0, 1) := dk42 (k := 7) bX11_init_49 rfl
theorem dX11_init_57 : decode cX11_init 57 = .ok (.getfield 32, 3) := dk180 (k := 8) bX11_init_49 rfl rfl
theorem dX11_init_60 : decode cX11_init 60 = .ok (.iload_n 1, 1) := dk27 (k := 11) bX11_init_49 rfl
theorem dX11_init_61 : decode cX11_init 61 = .ok (.new 25, 3) := dk187 (k := 12) bX11_init_49 rfl rfl
theorem dX11_init_64 : decode cX11_init 64 = .ok (.dup, 1) := dk89 (k := 15) bX11_init_49 rfl
theorem dX11_init_65 : decode cX11_init 65 = .ok (.invokespecial 27, 3) := dk183 (k := 16) bX11_init_49 rfl rfl
theorem dX11_init_68 : decode cX11_init 68 = .ok (.aastore, 1) := dk83 (k := 19) bX11_init_49 rfl
theorem dX11_init_69 : decode cX11_init 69 = .ok (.iinc 1 1, 3) := dk132 (k := 20) bX11_init_49 rfl rfl (by decide)
theorem dX11_init_72 : decode cX11_init 72 = .ok (.goto (-21), 3) := dk167 (k := 23) bX11_init_49 rfl (by decide)
theorem bX11_init_75 : bL cX11_init 75 [42, 6] := bL_of (by decide +kernel)
theorem dX11_init_75 : decode cX11_init 75 = .ok (.aload_n 0, 1) := dk42 (k := 0) bX11_init_75 rfl
theorem dX11_init_76 : decode cX11_init 76 = .ok (.iconst 3, 1) := dk6 (k := 1) bX11_init_75 rfl
theorem dX11_init_77 : decode cX11_init 77 = .ok (.newarray .boolean, 2) := by decide +kernel
theorem bX11_init_79 : bL cX11_init 79 [181, 0, 36, 42, 187, 0, 40, 89, 183, 0, 42, 181, 0, 43, 42, 187, 0, 47, 89, 183, 0, 49, 181, 0, 50] := bL_of (by decide +kernel)
theorem dX11_init_79 : decode cX11_init 79 = .ok (.putfield 36, 3) := dk181 (k := 0) bX11_init_79 rfl rfl
theorem dX11_init_82 : decode cX11_init 82 = .ok (.aload_n 0, 1) := dk42 (k := 3) bX11_init_79 rfl
theorem dX11_init_83 : decode cX11_init 83 = .ok (.new 40, 3) := dk187 (k := 4) bX11_init_79 rfl rfl
theorem dX11_init_86 : decode cX11_init 86 = .ok (.dup, 1) := dk89 (k := 7) bX11_init_79 rfl
theorem dX11_init_87 : decode cX11_init 87 = .ok (.invokespecial 42, 3) := dk183 (k := 8) bX11_init_79 rfl rfl
theorem dX11_init_90 : decode cX11_init 90 = .ok (.putfield 43, 3) := dk181 (k := 11) bX11_init_79 rfl rfl
theorem dX11_init_93 : decode cX11_init 93 = .ok (.aload_n 0, 1) := dk42 (k := 14) bX11_init_79 rfl
theorem dX11_init_94 : decode cX11_init 94 = .ok (.new 47, 3) := dk187 (k := 15) bX11_init_79 rfl rfl
theorem dX11_init_97 : decode cX11_init 97 = .ok (.dup, 1) := dk89 (k := 18) bX11_init_79 rfl
theorem dX11_init_98 : decode cX11_init 98 = .ok (.invokespecial 49, 3) := dk183 (k := 19) bX11_init_79 rfl rfl
theorem dX11_init_101 : decode cX11_init 101 = .ok (.putfield 50, 3) := dk181 (k := 22) bX11_init_79 rfl rfl
theorem bX11_init_104 : bL cX11_init 104 [42, 187, 0, 54, 89, 42, 180, 0, 28, 183, 0, 56, 181, 0, 59, 42, 187, 0, 63, 89, 42, 180, 0, 28] := bL_of (by decide +kernel)
theorem dX11_init_104 : decode cX11_init 104 = .ok (.aload_n 0, 1) := dk42 (k := 0) bX11_init_104 rfl
theorem dX11_init_105 : decode cX11_init 105 = .ok (.new 54, 3) := dk187 (k := 1) bX11_init_104 rfl rfl
theorem dX11_init_108 : decode cX11_init 108 = .ok (.dup, 1) := dk89 (k := 4) bX11_init_104 rfl
theorem dX11_init_109 : decode cX11_init 109 = .ok (.aload_n 0, 1) := dk42 (k := 5) bX11_init_104 rfl
theorem dX11_init_110 : decode cX11_init 110 = .ok (.getfield 28, 3) := dk180 (k := 6) bX11_init_104 rfl rfl
theorem dX11_init_113 : decode cX11_init 113 = .ok (.invokespecial 56, 3) := dk183 (k := 9) bX11_init_104 rfl rfl
theorem dX11_init_116 : decode cX11_init 116 = .ok (.putfield 59, 3) := dk181 (k := 12) bX11_init_104 rfl rfl
theorem dX11_init_119 : decode cX11_init 119 = .ok (.aload_n 0, 1) := dk42 (k := 15) bX11_init_104 rfl
theorem dX11_init_120 : decode cX11_init 120 = .ok (.new 63, 3) := dk187 (k := 16) bX11_init_104 rfl rfl
theorem dX11_init_123 : decode cX11_init 123 = .ok (.dup, 1) := dk89 (k := 19) bX11_init_104 rfl
theorem dX11_init_124 : decode cX11_init 124 = .ok (.aload_n 0, 1) := dk42 (k := 20) bX11_init_104 rfl
theorem dX11_init_125 : decode cX11_init 125 = .ok (.getfield 28, 3) := dk180 (k := 21) bX11_init_104 rfl rfl
theorem bX11_init_128 : bL cX11_init 128 [183, 0, 65, 181, 0, 66, 42, 187, 0, 70, 89, 42, 180, 0, 28, 42, 180, 0, 50, 183, 0, 72, 181, 0, 75] := bL_of (by decide +kernel)
theorem dX11_init_128 : decode cX11_init 128 = .ok (.invokespecial 65, 3) := dk183 (k := 0) bX11_init_128 rfl rfl
theorem dX11_init_131 : decode cX11_init 131 = .ok (.putfield 66, 3) := dk181 (k := 3) bX11_init_128 rfl rfl
theorem dX11_init_134 : decode cX11_init 134 = .ok (.aload_n 0, 1) := dk42 (k := 6) bX11_init_128 rfl
theorem dX11_init_135 : decode cX11_init 135 = .ok (.new 70, 3) := dk187 (k := 7) bX11_init_128 rfl rfl
theorem dX11_init_138 : decode cX11_init 138 = .ok (.dup, 1) := dk89 (k := 10) bX11_init_128 rfl
theorem dX11_init_139 : decode cX11_init 139 = .ok (.aload_n 0, 1) := dk42 (k := 11) bX11_init_128 rfl
theorem dX11_init_140 : decode cX11_init 140 = .ok (.getfield 28, 3) := dk180 (k := 12) bX11_init_128 rfl rfl
theorem dX11_init_143 : decode cX11_init 143 = .ok (.aload_n 0, 1) := dk42 (k := 15) bX11_init_128 rfl
theorem dX11_init_144 : decode cX11_init 144 = .ok (.getfield 50, 3) := dk180 (k := 16) bX11_init_128 rfl rfl
theorem dX11_init_147 : decode cX11_init 147 = .ok (.invokespecial 72, 3) := dk183 (k := 19) bX11_init_128 rfl rfl
theorem dX11_init_150 : decode cX11_init 150 = .ok (.putfield 75, 3) := dk181 (k := 22) bX11_init_128 rfl rfl
theorem bX11_init_153 : bL cX11_init 153 [42, 187, 0, 79, 89, 42, 180, 0, 28, 42, 180, 0, 50, 183, 0, 81, 181, 0, 82, 42, 187, 0, 86, 89] := bL_of (by decide +kernel)
theorem dX11_init_153 : decode cX11_init 153 = .ok (.aload_n 0, 1) := dk42 (k := 0) bX11_init_153 rfl
theorem dX11_init_154 : decode cX11_init 154 = .ok (.new 79, 3) := dk187 (k := 1) bX11_init_153 rfl rfl
theorem dX11_init_157 : decode cX11_init 157 = .ok (.dup, 1) := dk89 (k := 4) bX11_init_153 rfl
theorem dX11_init_158 : decode cX11_init 158 = .ok (.aload_n 0, 1) := dk42 (k := 5) bX11_init_153 rfl
theorem dX11_init_159 : decode cX11_init 159 = .ok (.getfield 28, 3) := dk180 (k := 6) bX11_init_153 rfl rfl
theorem dX11_init_162 : decode cX11_init 162 = .ok (.aload_n 0, 1) := dk42 (k := 9) bX11_init_153 rfl
theorem dX11_init_163 : decode cX11_init 163 = .ok (.getfield 50, 3) := dk180 (k := 10) bX11_init_153 rfl rfl
theorem dX11_init_166 : decode cX11_init 166 = .ok (.invokespecial 81, 3) := dk183 (k := 13) bX11_init_153 rfl rfl
theorem dX11_init_169 : decode cX11_init 169 = .ok (.putfield 82, 3) := dk181 (k := 16) bX11_init_153 rfl rfl
theorem dX11_init_172 : decode cX11_init 172 = .ok (.aload_n 0, 1) := dk42 (k := 19) bX11_init_153 rfl
theorem dX11_init_173 : decode cX11_init 173 = .ok (.new 86, 3) := dk187 (k := 20) bX11_init_153 rfl rfl
theorem dX11_init_176 : decode cX11_init 176 = .ok (.dup, 1) := dk89 (k := 23) bX11_init_153 rfl
theorem bX11_init_177 : bL cX11_init 177 [42, 180, 0, 28, 42, 180, 0, 43, 42, 180, 0, 50, 183, 0, 88, 181, 0, 91, 177] := bL_of (by decide +kernel)
theorem dX11_init_177 : decode cX11_init 177 = .ok (.aload_n 0, 1) := dk42 (k := 0) bX11_init_177 rfl
theorem dX11_init_178 : decode cX11_init 178 = .ok (.getfield 28, 3) := dk180 (k := 1) bX11_init_177 rfl rfl
theorem dX11_init_181 : decode cX11_init 181 = .ok (.aload_n 0, 1) := dk42 (k := 4) bX11_init_177 rfl
theorem dX11_init_182 : decode cX11_init 182 = .ok (.getfield 43, 3) := dk180 (k := 5) bX11_init_177 rfl rfl
theorem dX11_init_185 : decode cX11_init 185 = .ok (.aload_n 0, 1) := dk42 (k := 8) bX11_init_177 rfl
theorem dX11_init_186 : decode cX11_init 186 = .ok (.getfield 50, 3) := dk180 (k := 9) bX11_init_177 rfl rfl
theorem dX11_init_189 : decode cX11_init 189 = .ok (.invokespecial 88, 3) := dk183 (k := 12) bX11_init_177 rfl rfl
theorem dX11_init_192 : decode cX11_init 192 = .ok (.putfield 91, 3) := dk181 (k := 15) bX11_init_177 rfl rfl
theorem dX11_init_195 : decode cX11_init 195 = .ok (.return_, 1) := dk177 (k := 18) bX11_init_177 rfl
theorem bX11_feed_0 : bL cX11_feed 0 [42, 180, 0, 10, 16, 20, 182, 0, 95, 154, 0, 5, 2, 172, 42, 180, 0, 10, 27, 182, 0, 99, 42, 180, 0, 10] := bL_of (by decide +kernel)
theorem dX11_feed_0 : decode cX11_feed 0 = .ok (.aload_n 0, 1) := dk42 (k := 0) bX11_feed_0 rfl
theorem dX11_feed_1 : decode cX11_feed 1 = .ok (.getfield 10, 3) := dk180 (k := 1) bX11_feed_0 rfl rfl
theorem dX11_feed_4 : decode cX11_feed 4 = .ok (.bipush 20, 2) := dk16 (k := 4) bX11_feed_0 rfl (by decide)
theorem dX11_feed_6 : decode cX11_feed 6 = .ok (.invokevirtual 95, 3) := dk182 (k := 6) bX11_feed_0 rfl rfl
theorem dX11_feed_9 : decode cX11_feed 9 = .ok (.ifCond .ne 5, 3) := dk154 (k := 9) bX11_feed_0 rfl (by decide)
theorem dX11_feed_12 : decode cX11_feed 12 = .ok (.iconst (-1), 1) := dk2 (k := 12) bX11_feed_0 rfl
theorem dX11_feed_13 : decode cX11_feed 13 = .ok (.ireturn, 1) := dk172 (k := 13) bX11_feed_0 rfl
theorem dX11_feed_14 : decode cX11_feed 14 = .ok (.aload_n 0, 1) := dk42 (k := 14) bX11_feed_0 rfl
theorem dX11_feed_15 : decode cX11_feed 15 = .ok (.getfield 10, 3) := dk180 (k := 15) bX11_feed_0 rfl rfl
theorem dX11_feed_18 : decode cX11_feed 18 = .ok (.iload_n 1, 1) := dk27 (k := 18) bX11_feed_0 rfl
theorem dX11_feed_19 : decode cX11_feed 19 = .ok (.invokevirtual 99, 3) := dk182 (k := 19) bX11_feed_0 rfl rfl
theorem dX11_feed_22 : decode cX11_feed 22 = .ok (.aload_n 0, 1) := dk42 (k := 22) bX11_feed_0 rfl
theorem dX11_feed_23 : decode cX11_feed 23 = .ok (.getfield 10, 3) := dk180 (k := 23) bX11_feed_0 rfl rfl
theorem bX11_feed_26 : bL cX11_feed 26 [28, 182, 0, 99, 42, 180, 0, 10, 29, 182, 0, 99, 42, 180, 0, 10, 21, 4, 182, 0, 99, 42, 180, 0, 10] := bL_of (by decide +kernel)
theorem dX11_feed_26 : decode cX11_feed 26 = .ok (.iload_n 2, 1) := dk28 (k := 0) bX11_feed_26 rfl
theorem dX11_feed_27 : decode cX11_feed 27 = .ok (.invokevirtual 99, 3) := dk182 (k := 1) bX11_feed_26 rfl rfl
theorem dX11_feed_30 : decode cX11_feed 30 = .ok (.aload_n 0, 1) := dk42 (k := 4) bX11_feed_26 rfl
theorem dX11_feed_31 : decode cX11_feed 31 = .ok (.getfield 10, 3) := dk180 (k := 5) bX11_feed_26 rfl rfl
theorem dX11_feed_34 : decode cX11_feed 34 = .ok (.iload_n 3, 1) := dk29 (k := 8) bX11_feed_26 rfl
theorem dX11_feed_35 : decode cX11_feed 35 = .ok (.invokevirtual 99, 3) := dk182 (k := 9) bX11_feed_26 rfl rfl
theorem dX11_feed_38 : decode cX11_feed 38 = .ok (.aload_n 0, 1) := dk42 (k := 12) bX11_feed_26 rfl
theorem dX11_feed_39 : decode cX11_feed 39 = .ok (.getfield 10, 3) := dk180 (k := 13) bX11_feed_26 rfl rfl
theorem dX11_feed_42 : decode cX11_feed 42 = .ok (.iload 4, 2) := dk21 (k := 16) bX11_feed_26 rfl rfl
theorem dX11_feed_44 : decode cX11_feed 44 = .ok (.invokevirtual 99, 3) := dk182 (k := 18) bX11_feed_26 rfl rfl
theorem dX11_feed_47 : decode cX11_feed 47 = .ok (.aload_n 0, 1) := dk42 (k := 21) bX11_feed_26 rfl
theorem dX11_feed_48 : decode cX11_feed 48 = .ok (.getfield 10, 3) := dk180 (k := 22) bX11_feed_26 rfl rfl
theorem bX11_feed_51 : bL cX11_feed 51 [21, 5, 182, 0, 99, 42, 180, 0, 10, 180, 0, 103, 172] := bL_of (by decide +kernel)
theorem dX11_feed_51 : decode cX11_feed 51 = .ok (.iload 5, 2) := dk21 (k := 0) bX11_feed_51 rfl rfl
theorem dX11_feed_53 : decode cX11_feed 53 = .ok (.invokevirtual 99, 3) := dk182 (k := 2) bX11_feed_51 rfl rfl
theorem dX11_feed_56 : decode cX11_feed 56 = .ok (.aload_n 0, 1) := dk42 (k := 5) bX11_feed_51 rfl
theorem dX11_feed_57 : decode cX11_feed 57 = .ok (.getfield 10, 3) := dk180 (k := 6) bX11_feed_51 rfl rfl
theorem dX11_feed_60 : decode cX11_feed 60 = .ok (.getfield 103, 3) := dk180 (k := 9) bX11_feed_51 rfl rfl
theorem dX11_feed_63 : decode cX11_feed 63 = .ok (.ireturn, 1) := dk172 (k := 12) bX11_feed_51 rfl
theorem bX11_end_0 : bL cX11_end 0 [27, 155, 0, 14, 27, 42, 180, 0, 10, 180, 0, 103, 164, 0, 5, 2, 172, 42, 180, 0, 10, 27, 181, 0, 103] := bL_of (by decide +kernel)
theorem dX11_end_0 : decode cX11_end 0 = .ok (.iload_n 1, 1) := dk27 (k := 0) bX11_end_0 rfl
theorem dX11_end_1 : decode cX11_end 1 = .ok (.ifCond .lt 14, 3) := dk155 (k := 1) bX11_end_0 rfl (by decide)
theorem dX11_end_4 : decode cX11_end 4 = .ok (.iload_n 1, 1) := dk27 (k := 4) bX11_end_0 rfl
theorem dX11_end_5 : decode cX11_end 5 = .ok (.aload_n 0, 1) := dk42 (k := 5) bX11_end_0 rfl
theorem dX11_end_6 : decode cX11_end 6 = .ok (.getfield 10, 3) := dk180 (k := 6) bX11_end_0 rfl rfl
theorem dX11_end_9 : decode cX11_end 9 = .ok (.getfield 103, 3) := dk180 (k := 9) bX11_end_0 rfl rfl
theorem dX11_end_12 : decode cX11_end 12 = .ok (.if_icmp .le 5, 3) := dk164 (k := 12) bX11_end_0 rfl (by decide)
theorem dX11_end_15 : decode cX11_end 15 = .ok (.iconst (-1), 1) := dk2 (k := 15) bX11_end_0 rfl
theorem dX11_end_16 : decode cX11_end 16 = .ok (.ireturn, 1) := dk172 (k := 16) bX11_end_0 rfl
theorem dX11_end_17 : decode cX11_end 17 = .ok (.aload_n 0, 1) := dk42 (k := 17) bX11_end_0 rfl
theorem dX11_end_18 : decode cX11_end 18 = .ok (.getfield 10, 3) := dk180 (k := 18) bX11_end_0 rfl rfl
theorem dX11_end_21 : decode cX11_end 21 = .ok (.iload_n 1, 1) := dk27 (k := 21) bX11_end_0 rfl
theorem dX11_end_22 : decode cX11_end 22 = .ok (.putfield 103, 3) := dk181 (k := 22) bX11_end_0 rfl rfl
theorem bX11_end_25 : bL cX11_end 25 [27, 172] := bL_of (by decide +kernel)
theorem dX11_end_25 : decode cX11_end 25 = .ok (.iload_n 1, 1) := dk27 (k := 0) bX11_end_25 rfl
theorem dX11_end_26 : decode cX11_end 26 = .ok (.ireturn, 1) := dk172 (k := 1) bX11_end_25 rfl
theorem bX11_mount_0 : bL cX11_mount 0 [42, 180, 0, 21, 182, 0, 107, 60, 42, 180, 0, 10, 3, 181, 0, 103, 27, 154, 0, 6, 16, 252, 172, 42] := bL_of (by decide +kernel)
theorem dX11_mount_0 : decode cX11_mount 0 = .ok (.aload_n 0, 1) := dk42 (k := 0) bX11_mount_0 rfl
theorem dX11_mount_1 : decode cX11_mount 1 = .ok (.getfield 21, 3) := dk180 (k := 1) bX11_mount_0 rfl rfl
theorem dX11_mount_4 : decode cX11_mount 4 = .ok (.invokevirtual 107, 3) := dk182 (k := 4) bX11_mount_0 rfl rfl
theorem dX11_mount_7 : decode cX11_mount 7 = .ok (.istore_n 1, 1) := dk60 (k := 7) bX11_mount_0 rfl
theorem dX11_mount_8 : decode cX11_mount 8 = .ok (.aload_n 0, 1) := dk42 (k := 8) bX11_mount_0 rfl
theorem dX11_mount_9 : decode cX11_mount 9 = .ok (.getfield 10, 3) := dk180 (k := 9) bX11_mount_0 rfl rfl
theorem dX11_mount_12 : decode cX11_mount 12 = .ok (.iconst 0, 1) := dk3 (k := 12) bX11_mount_0 rfl
theorem dX11_mount_13 : decode cX11_mount 13 = .ok (.putfield 103, 3) := dk181 (k := 13) bX11_mount_0 rfl rfl
theorem dX11_mount_16 : decode cX11_mount 16 = .ok (.iload_n 1, 1) := dk27 (k := 16) bX11_mount_0 rfl
theorem dX11_mount_17 : decode cX11_mount 17 = .ok (.ifCond .ne 6, 3) := dk154 (k := 17) bX11_mount_0 rfl (by decide)
theorem dX11_mount_20 : decode cX11_mount 20 = .ok (.bipush (-4), 2) := dk16 (k := 20) bX11_mount_0 rfl (by decide)
theorem dX11_mount_22 : decode cX11_mount 22 = .ok (.ireturn, 1) := dk172 (k := 22) bX11_mount_0 rfl
theorem dX11_mount_23 : decode cX11_mount 23 = .ok (.aload_n 0, 1) := dk42 (k := 23) bX11_mount_0 rfl
theorem bX11_mount_24 : bL cX11_mount 24 [180, 0, 28, 42, 180, 0, 21, 180, 0, 111, 182, 0, 114, 42, 180, 0, 28, 180, 0, 117, 172] := bL_of (by decide +kernel)
theorem dX11_mount_24 : decode cX11_mount 24 = .ok (.getfield 28, 3) := dk180 (k := 0) bX11_mount_24 rfl rfl
theorem dX11_mount_27 : decode cX11_mount 27 = .ok (.aload_n 0, 1) := dk42 (k := 3) bX11_mount_24 rfl
theorem dX11_mount_28 : decode cX11_mount 28 = .ok (.getfield 21, 3) := dk180 (k := 4) bX11_mount_24 rfl rfl
theorem dX11_mount_31 : decode cX11_mount 31 = .ok (.getfield 111, 3) := dk180 (k := 7) bX11_mount_24 rfl rfl
theorem dX11_mount_34 : decode cX11_mount 34 = .ok (.invokevirtual 114, 3) := dk182 (k := 10) bX11_mount_24 rfl rfl
theorem dX11_mount_37 : decode cX11_mount 37 = .ok (.aload_n 0, 1) := dk42 (k := 13) bX11_mount_24 rfl
theorem dX11_mount_38 : decode cX11_mount 38 = .ok (.getfield 28, 3) := dk180 (k := 14) bX11_mount_24 rfl rfl
theorem dX11_mount_41 : decode cX11_mount 41 = .ok (.getfield 117, 3) := dk180 (k := 17) bX11_mount_24 rfl rfl
theorem dX11_mount_44 : decode cX11_mount 44 = .ok (.ireturn, 1) := dk172 (k := 20) bX11_mount_24 rfl
theorem bX11_fault_0 : bL cX11_fault 0 [27, 154, 0, 11, 42, 180, 0, 21, 180, 0, 120, 172, 27, 4, 160, 0, 13, 42, 180, 0, 21, 180, 0, 123] := bL_of (by decide +kernel)
theorem dX11_fault_0 : decode cX11_fault 0 = .ok (.iload_n 1, 1) := dk27 (k := 0) bX11_fault_0 rfl
theorem dX11_fault_1 : decode cX11_fault 1 = .ok (.ifCond .ne 11, 3) := dk154 (k := 1) bX11_fault_0 rfl (by decide)
theorem dX11_fault_4 : decode cX11_fault 4 = .ok (.aload_n 0, 1) := dk42 (k := 4) bX11_fault_0 rfl
theorem dX11_fault_5 : decode cX11_fault 5 = .ok (.getfield 21, 3) := dk180 (k := 5) bX11_fault_0 rfl rfl
theorem dX11_fault_8 : decode cX11_fault 8 = .ok (.getfield 120, 3) := dk180 (k := 8) bX11_fault_0 rfl rfl
theorem dX11_fault_11 : decode cX11_fault 11 = .ok (.ireturn, 1) := dk172 (k := 11) bX11_fault_0 rfl
theorem dX11_fault_12 : decode cX11_fault 12 = .ok (.iload_n 1, 1) := dk27 (k := 12) bX11_fault_0 rfl
theorem dX11_fault_13 : decode cX11_fault 13 = .ok (.iconst 1, 1) := dk4 (k := 13) bX11_fault_0 rfl
theorem dX11_fault_14 : decode cX11_fault 14 = .ok (.if_icmp .ne 13, 3) := dk160 (k := 14) bX11_fault_0 rfl (by decide)
theorem dX11_fault_17 : decode cX11_fault 17 = .ok (.aload_n 0, 1) := dk42 (k := 17) bX11_fault_0 rfl
theorem dX11_fault_18 : decode cX11_fault 18 = .ok (.getfield 21, 3) := dk180 (k := 18) bX11_fault_0 rfl rfl
theorem dX11_fault_21 : decode cX11_fault 21 = .ok (.getfield 123, 3) := dk180 (k := 21) bX11_fault_0 rfl rfl
theorem bX11_fault_24 : bL cX11_fault 24 [167, 0, 4, 2, 172] := bL_of (by decide +kernel)
theorem dX11_fault_24 : decode cX11_fault 24 = .ok (.goto 4, 3) := dk167 (k := 0) bX11_fault_24 rfl (by decide)
theorem dX11_fault_27 : decode cX11_fault 27 = .ok (.iconst (-1), 1) := dk2 (k := 3) bX11_fault_24 rfl
theorem dX11_fault_28 : decode cX11_fault 28 = .ok (.ireturn, 1) := dk172 (k := 4) bX11_fault_24 rfl
theorem bX11_folk_0 : bL cX11_folk 0 [42, 180, 0, 28, 180, 0, 126, 27, 182, 0, 130, 153, 0, 13, 28, 155, 0, 9, 28, 16, 7, 161, 0, 6] := bL_of (by decide +kernel)
theorem dX11_folk_0 : decode cX11_folk 0 = .ok (.aload_n 0, 1) := dk42 (k := 0) bX11_folk_0 rfl
theorem dX11_folk_1 : decode cX11_folk 1 = .ok (.getfield 28, 3) := dk180 (k := 1) bX11_folk_0 rfl rfl
theorem dX11_folk_4 : decode cX11_folk 4 = .ok (.getfield 126, 3) := dk180 (k := 4) bX11_folk_0 rfl rfl
theorem dX11_folk_7 : decode cX11_folk 7 = .ok (.iload_n 1, 1) := dk27 (k := 7) bX11_folk_0 rfl
theorem dX11_folk_8 : decode cX11_folk 8 = .ok (.invokevirtual 130, 3) := dk182 (k := 8) bX11_folk_0 rfl rfl
theorem dX11_folk_11 : decode cX11_folk 11 = .ok (.ifCond .eq 13, 3) := dk153 (k := 11) bX11_folk_0 rfl (by decide)
theorem dX11_folk_14 : decode cX11_folk 14 = .ok (.iload_n 2, 1) := dk28 (k := 14) bX11_folk_0 rfl
theorem dX11_folk_15 : decode cX11_folk 15 = .ok (.ifCond .lt 9, 3) := dk155 (k := 15) bX11_folk_0 rfl (by decide)
theorem dX11_folk_18 : decode cX11_folk 18 = .ok (.iload_n 2, 1) := dk28 (k := 18) bX11_folk_0 rfl
theorem dX11_folk_19 : decode cX11_folk 19 = .ok (.bipush 7, 2) := dk16 (k := 19) bX11_folk_0 rfl (by decide)
theorem dX11_folk_21 : decode cX11_folk 21 = .ok (.if_icmp .lt 6, 3) := dk161 (k := 21) bX11_folk_0 rfl (by decide)
theorem bX11_folk_24 : bL cX11_folk 24 [16, 254, 172, 42, 180, 0, 28, 180, 0, 126, 27, 28, 182, 0, 135, 172] := bL_of (by decide +kernel)
theorem dX11_folk_24 : decode cX11_folk 24 = .ok (.bipush (-2), 2) := dk16 (k := 0) bX11_folk_24 rfl (by decide)
theorem dX11_folk_26 : decode cX11_folk 26 = .ok (.ireturn, 1) := dk172 (k := 2) bX11_folk_24 rfl
theorem dX11_folk_27 : decode cX11_folk 27 = .ok (.aload_n 0, 1) := dk42 (k := 3) bX11_folk_24 rfl
theorem dX11_folk_28 : decode cX11_folk 28 = .ok (.getfield 28, 3) := dk180 (k := 4) bX11_folk_24 rfl rfl
theorem dX11_folk_31 : decode cX11_folk 31 = .ok (.getfield 126, 3) := dk180 (k := 7) bX11_folk_24 rfl rfl
theorem dX11_folk_34 : decode cX11_folk 34 = .ok (.iload_n 1, 1) := dk27 (k := 10) bX11_folk_24 rfl
theorem dX11_folk_35 : decode cX11_folk 35 = .ok (.iload_n 2, 1) := dk28 (k := 11) bX11_folk_24 rfl
theorem dX11_folk_36 : decode cX11_folk 36 = .ok (.invokevirtual 135, 3) := dk182 (k := 12) bX11_folk_24 rfl rfl
theorem dX11_folk_39 : decode cX11_folk 39 = .ok (.ireturn, 1) := dk172 (k := 15) bX11_folk_24 rfl
theorem bX11_height_0 : bL cX11_height 0 [42, 180, 0, 28, 180, 0, 139, 27, 182, 0, 142, 153, 0, 17, 42, 180, 0, 28, 180, 0, 139, 27, 182, 0, 143] := bL_of (by decide +kernel)
theorem dX11_height_0 : decode cX11_height 0 = .ok (.aload_n 0, 1) := dk42 (k := 0) bX11_height_0 rfl
theorem dX11_height_1 : decode cX11_height 1 = .ok (.getfield 28, 3) := dk180 (k := 1) bX11_height_0 rfl rfl
theorem dX11_height_4 : decode cX11_height 4 = .ok (.getfield 139, 3) := dk180 (k := 4) bX11_height_0 rfl rfl
theorem dX11_height_7 : decode cX11_height 7 = .ok (.iload_n 1, 1) := dk27 (k := 7) bX11_height_0 rfl
theorem dX11_height_8 : decode cX11_height 8 = .ok (.invokevirtual 142, 3) := dk182 (k := 8) bX11_height_0 rfl rfl
theorem dX11_height_11 : decode cX11_height 11 = .ok (.ifCond .eq 17, 3) := dk153 (k := 11) bX11_height_0 rfl (by decide)
theorem dX11_height_14 : decode cX11_height 14 = .ok (.aload_n 0, 1) := dk42 (k := 14) bX11_height_0 rfl
theorem dX11_height_15 : decode cX11_height 15 = .ok (.getfield 28, 3) := dk180 (k := 15) bX11_height_0 rfl rfl
theorem dX11_height_18 : decode cX11_height 18 = .ok (.getfield 139, 3) := dk180 (k := 18) bX11_height_0 rfl rfl
theorem dX11_height_21 : decode cX11_height 21 = .ok (.iload_n 1, 1) := dk27 (k := 21) bX11_height_0 rfl
theorem dX11_height_22 : decode cX11_height 22 = .ok (.invokevirtual 143, 3) := dk182 (k := 22) bX11_height_0 rfl rfl
theorem bX11_height_25 : bL cX11_height 25 [167, 0, 5, 16, 254, 172] := bL_of (by decide +kernel)
theorem dX11_height_25 : decode cX11_height 25 = .ok (.goto 5, 3) := dk167 (k := 0) bX11_height_25 rfl (by decide)
theorem dX11_height_28 : decode cX11_height 28 = .ok (.bipush (-2), 2) := dk16 (k := 3) bX11_height_25 rfl (by decide)
theorem dX11_height_30 : decode cX11_height 30 = .ok (.ireturn, 1) := dk172 (k := 5) bX11_height_25 rfl
theorem bX11_shade_0 : bL cX11_shade 0 [42, 180, 0, 28, 180, 0, 139, 27, 182, 0, 142, 153, 0, 10, 28, 184, 0, 147, 154, 0, 6, 16, 254, 172] := bL_of (by decide +kernel)
theorem dX11_shade_0 : decode cX11_shade 0 = .ok (.aload_n 0, 1) := dk42 (k := 0) bX11_shade_0 rfl
theorem dX11_shade_1 : decode cX11_shade 1 = .ok (.getfield 28, 3) := dk180 (k := 1) bX11_shade_0 rfl rfl
theorem dX11_shade_4 : decode cX11_shade 4 = .ok (.getfield 139, 3) := dk180 (k := 4) bX11_shade_0 rfl rfl
theorem dX11_shade_7 : decode cX11_shade 7 = .ok (.iload_n 1, 1) := dk27 (k := 7) bX11_shade_0 rfl
theorem dX11_shade_8 : decode cX11_shade 8 = .ok (.invokevirtual 142, 3) := dk182 (k := 8) bX11_shade_0 rfl rfl
theorem dX11_shade_11 : decode cX11_shade 11 = .ok (.ifCond .eq 10, 3) := dk153 (k := 11) bX11_shade_0 rfl (by decide)
theorem dX11_shade_14 : decode cX11_shade 14 = .ok (.iload_n 2, 1) := dk28 (k := 14) bX11_shade_0 rfl
theorem dX11_shade_15 : decode cX11_shade 15 = .ok (.invokestatic 147, 3) := dk184 (k := 15) bX11_shade_0 rfl rfl
theorem dX11_shade_18 : decode cX11_shade 18 = .ok (.ifCond .ne 6, 3) := dk154 (k := 18) bX11_shade_0 rfl (by decide)
theorem dX11_shade_21 : decode cX11_shade 21 = .ok (.bipush (-2), 2) := dk16 (k := 21) bX11_shade_0 rfl (by decide)
theorem dX11_shade_23 : decode cX11_shade 23 = .ok (.ireturn, 1) := dk172 (k := 23) bX11_shade_0 rfl
theorem bX11_shade_24 : bL cX11_shade 24 [42, 180, 0, 28, 180, 0, 139, 27, 28, 182, 0, 150, 153, 0, 7, 4, 167, 0, 4, 3, 172] := bL_of (by decide +kernel)
theorem dX11_shade_24 : decode cX11_shade 24 = .ok (.aload_n 0, 1) := dk42 (k := 0) bX11_shade_24 rfl
theorem dX11_shade_25 : decode cX11_shade 25 = .ok (.getfield 28, 3) := dk180 (k := 1) bX11_shade_24 rfl rfl
theorem dX11_shade_28 : decode cX11_shade 28 = .ok (.getfield 139, 3) := dk180 (k := 4) bX11_shade_24 rfl rfl
theorem dX11_shade_31 : decode cX11_shade 31 = .ok (.iload_n 1, 1) := dk27 (k := 7) bX11_shade_24 rfl
theorem dX11_shade_32 : decode cX11_shade 32 = .ok (.iload_n 2, 1) := dk28 (k := 8) bX11_shade_24 rfl
theorem dX11_shade_33 : decode cX11_shade 33 = .ok (.invokevirtual 150, 3) := dk182 (k := 9) bX11_shade_24 rfl rfl
theorem dX11_shade_36 : decode cX11_shade 36 = .ok (.ifCond .eq 7, 3) := dk153 (k := 12) bX11_shade_24 rfl (by decide)
theorem dX11_shade_39 : decode cX11_shade 39 = .ok (.iconst 1, 1) := dk4 (k := 15) bX11_shade_24 rfl
theorem dX11_shade_40 : decode cX11_shade 40 = .ok (.goto 4, 3) := dk167 (k := 16) bX11_shade_24 rfl (by decide)
theorem dX11_shade_43 : decode cX11_shade 43 = .ok (.iconst 0, 1) := dk3 (k := 19) bX11_shade_24 rfl
theorem dX11_shade_44 : decode cX11_shade 44 = .ok (.ireturn, 1) := dk172 (k := 20) bX11_shade_24 rfl
theorem bX11_light_0 : bL cX11_light 0 [42, 180, 0, 28, 180, 0, 139, 27, 182, 0, 142, 153, 0, 17, 42, 180, 0, 28, 180, 0, 139, 27, 182, 0, 154] := bL_of (by decide +kernel)
theorem dX11_light_0 : decode cX11_light 0 = .ok (.aload_n 0, 1) := dk42 (k := 0) bX11_light_0 rfl
theorem dX11_light_1 : decode cX11_light 1 = .ok (.getfield 28, 3) := dk180 (k := 1) bX11_light_0 rfl rfl
theorem dX11_light_4 : decode cX11_light 4 = .ok (.getfield 139, 3) := dk180 (k := 4) bX11_light_0 rfl rfl
theorem dX11_light_7 : decode cX11_light 7 = .ok (.iload_n 1, 1) := dk27 (k := 7) bX11_light_0 rfl
theorem dX11_light_8 : decode cX11_light 8 = .ok (.invokevirtual 142, 3) := dk182 (k := 8) bX11_light_0 rfl rfl
theorem dX11_light_11 : decode cX11_light 11 = .ok (.ifCond .eq 17, 3) := dk153 (k := 11) bX11_light_0 rfl (by decide)
theorem dX11_light_14 : decode cX11_light 14 = .ok (.aload_n 0, 1) := dk42 (k := 14) bX11_light_0 rfl
theorem dX11_light_15 : decode cX11_light 15 = .ok (.getfield 28, 3) := dk180 (k := 15) bX11_light_0 rfl rfl
theorem dX11_light_18 : decode cX11_light 18 = .ok (.getfield 139, 3) := dk180 (k := 18) bX11_light_0 rfl rfl
theorem dX11_light_21 : decode cX11_light 21 = .ok (.iload_n 1, 1) := dk27 (k := 21) bX11_light_0 rfl
theorem dX11_light_22 : decode cX11_light 22 = .ok (.invokevirtual 154, 3) := dk182 (k := 22) bX11_light_0 rfl rfl
theorem bX11_light_25 : bL cX11_light 25 [167, 0, 5, 16, 254, 172] := bL_of (by decide +kernel)
theorem dX11_light_25 : decode cX11_light 25 = .ok (.goto 5, 3) := dk167 (k := 0) bX11_light_25 rfl (by decide)
theorem dX11_light_28 : decode cX11_light 28 = .ok (.bipush (-2), 2) := dk16 (k := 3) bX11_light_25 rfl (by decide)
theorem dX11_light_30 : decode cX11_light 30 = .ok (.ireturn, 1) := dk172 (k := 5) bX11_light_25 rfl
theorem bX11_dark_0 : bL cX11_dark 0 [42, 180, 0, 28, 182, 0, 157, 153, 0, 24, 27, 184, 0, 147, 153, 0, 17, 42, 180, 0, 28, 180, 0, 139] := bL_of (by decide +kernel)
theorem dX11_dark_0 : decode cX11_dark 0 = .ok (.aload_n 0, 1) := dk42 (k := 0) bX11_dark_0 rfl
theorem dX11_dark_1 : decode cX11_dark 1 = .ok (.getfield 28, 3) := dk180 (k := 1) bX11_dark_0 rfl rfl
theorem dX11_dark_4 : decode cX11_dark 4 = .ok (.invokevirtual 157, 3) := dk182 (k := 4) bX11_dark_0 rfl rfl
theorem dX11_dark_7 : decode cX11_dark 7 = .ok (.ifCond .eq 24, 3) := dk153 (k := 7) bX11_dark_0 rfl (by decide)
theorem dX11_dark_10 : decode cX11_dark 10 = .ok (.iload_n 1, 1) := dk27 (k := 10) bX11_dark_0 rfl
theorem dX11_dark_11 : decode cX11_dark 11 = .ok (.invokestatic 147, 3) := dk184 (k := 11) bX11_dark_0 rfl rfl
theorem dX11_dark_14 : decode cX11_dark 14 = .ok (.ifCond .eq 17, 3) := dk153 (k := 14) bX11_dark_0 rfl (by decide)
theorem dX11_dark_17 : decode cX11_dark 17 = .ok (.aload_n 0, 1) := dk42 (k := 17) bX11_dark_0 rfl
theorem dX11_dark_18 : decode cX11_dark 18 = .ok (.getfield 28, 3) := dk180 (k := 18) bX11_dark_0 rfl rfl
theorem dX11_dark_21 : decode cX11_dark 21 = .ok (.getfield 139, 3) := dk180 (k := 21) bX11_dark_0 rfl rfl
theorem bX11_dark_24 : bL cX11_dark 24 [27, 182, 0, 160, 167, 0, 5, 16, 254, 172] := bL_of (by decide +kernel)
theorem dX11_dark_24 : decode cX11_dark 24 = .ok (.iload_n 1, 1) := dk27 (k := 0) bX11_dark_24 rfl
theorem dX11_dark_25 : decode cX11_dark 25 = .ok (.invokevirtual 160, 3) := dk182 (k := 1) bX11_dark_24 rfl rfl
theorem dX11_dark_28 : decode cX11_dark 28 = .ok (.goto 5, 3) := dk167 (k := 4) bX11_dark_24 rfl (by decide)
theorem dX11_dark_31 : decode cX11_dark 31 = .ok (.bipush (-2), 2) := dk16 (k := 7) bX11_dark_24 rfl (by decide)
theorem dX11_dark_33 : decode cX11_dark 33 = .ok (.ireturn, 1) := dk172 (k := 9) bX11_dark_24 rfl
theorem bX11_snow_0 : bL cX11_snow 0 [42, 180, 0, 28, 182, 0, 157, 153, 0, 16, 42, 180, 0, 28, 180, 0, 139, 182, 0, 163, 167, 0, 5, 16, 254] := bL_of (by decide +kernel)
theorem dX11_snow_0 : decode cX11_snow 0 = .ok (.aload_n 0, 1) := dk42 (k := 0) bX11_snow_0 rfl
theorem dX11_snow_1 : decode cX11_snow 1 = .ok (.getfield 28, 3) := dk180 (k := 1) bX11_snow_0 rfl rfl
theorem dX11_snow_4 : decode cX11_snow 4 = .ok (.invokevirtual 157, 3) := dk182 (k := 4) bX11_snow_0 rfl rfl
theorem dX11_snow_7 : decode cX11_snow 7 = .ok (.ifCond .eq 16, 3) := dk153 (k := 7) bX11_snow_0 rfl (by decide)
theorem dX11_snow_10 : decode cX11_snow 10 = .ok (.aload_n 0, 1) := dk42 (k := 10) bX11_snow_0 rfl
theorem dX11_snow_11 : decode cX11_snow 11 = .ok (.getfield 28, 3) := dk180 (k := 11) bX11_snow_0 rfl rfl
theorem dX11_snow_14 : decode cX11_snow 14 = .ok (.getfield 139, 3) := dk180 (k := 14) bX11_snow_0 rfl rfl
theorem dX11_snow_17 : decode cX11_snow 17 = .ok (.invokevirtual 163, 3) := dk182 (k := 17) bX11_snow_0 rfl rfl
theorem dX11_snow_20 : decode cX11_snow 20 = .ok (.goto 5, 3) := dk167 (k := 20) bX11_snow_0 rfl (by decide)
theorem dX11_snow_23 : decode cX11_snow 23 = .ok (.bipush (-2), 2) := dk16 (k := 23) bX11_snow_0 rfl (by decide)
theorem bX11_snow_25 : bL cX11_snow 25 [172] := bL_of (by decide +kernel)
theorem dX11_snow_25 : decode cX11_snow 25 = .ok (.ireturn, 1) := dk172 (k := 0) bX11_snow_25 rfl
theorem bX11_top_0 : bL cX11_top 0 [42, 180, 0, 28, 182, 0, 157, 153, 0, 16, 42, 180, 0, 28, 180, 0, 139, 182, 0, 167, 167, 0, 5, 16, 254] := bL_of (by decide +kernel)
theorem dX11_top_0 : decode cX11_top 0 = .ok (.aload_n 0, 1) := dk42 (k := 0) bX11_top_0 rfl
theorem dX11_top_1 : decode cX11_top 1 = .ok (.getfield 28, 3) := dk180 (k := 1) bX11_top_0 rfl rfl
theorem dX11_top_4 : decode cX11_top 4 = .ok (.invokevirtual 157, 3) := dk182 (k := 4) bX11_top_0 rfl rfl
theorem dX11_top_7 : decode cX11_top 7 = .ok (.ifCond .eq 16, 3) := dk153 (k := 7) bX11_top_0 rfl (by decide)
theorem dX11_top_10 : decode cX11_top 10 = .ok (.aload_n 0, 1) := dk42 (k := 10) bX11_top_0 rfl
theorem dX11_top_11 : decode cX11_top 11 = .ok (.getfield 28, 3) := dk180 (k := 11) bX11_top_0 rfl rfl
theorem dX11_top_14 : decode cX11_top 14 = .ok (.getfield 139, 3) := dk180 (k := 14) bX11_top_0 rfl rfl
theorem dX11_top_17 : decode cX11_top 17 = .ok (.invokevirtual 167, 3) := dk182 (k := 17) bX11_top_0 rfl rfl
theorem dX11_top_20 : decode cX11_top 20 = .ok (.goto 5, 3) := dk167 (k := 20) bX11_top_0 rfl (by decide)
theorem dX11_top_23 : decode cX11_top 23 = .ok (.bipush (-2), 2) := dk16 (k := 23) bX11_top_0 rfl (by decide)
theorem bX11_top_25 : bL cX11_top 25 [172] := bL_of (by decide +kernel)
theorem dX11_top_25 : decode cX11_top 25 = .ok (.ireturn, 1) := dk172 (k := 0) bX11_top_25 rfl
theorem bX11_gain_0 : bL cX11_gain 0 [42, 180, 0, 28, 180, 0, 126, 27, 182, 0, 130, 153, 0, 24, 42, 180, 0, 28, 180, 0, 126, 42, 180, 0, 28] := bL_of (by decide +kernel)
theorem dX11_gain_0 : decode cX11_gain 0 = .ok (.aload_n 0, 1) := dk42 (k := 0) bX11_gain_0 rfl
theorem dX11_gain_1 : decode cX11_gain 1 = .ok (.getfield 28, 3) := dk180 (k := 1) bX11_gain_0 rfl rfl
theorem dX11_gain_4 : decode cX11_gain 4 = .ok (.getfield 126, 3) := dk180 (k := 4) bX11_gain_0 rfl rfl
theorem dX11_gain_7 : decode cX11_gain 7 = .ok (.iload_n 1, 1) := dk27 (k := 7) bX11_gain_0 rfl
theorem dX11_gain_8 : decode cX11_gain 8 = .ok (.invokevirtual 130, 3) := dk182 (k := 8) bX11_gain_0 rfl rfl
theorem dX11_gain_11 : decode cX11_gain 11 = .ok (.ifCond .eq 24, 3) := dk153 (k := 11) bX11_gain_0 rfl (by decide)
theorem dX11_gain_14 : decode cX11_gain 14 = .ok (.aload_n 0, 1) := dk42 (k := 14) bX11_gain_0 rfl
theorem dX11_gain_15 : decode cX11_gain 15 = .ok (.getfield 28, 3) := dk180 (k := 15) bX11_gain_0 rfl rfl
theorem dX11_gain_18 : decode cX11_gain 18 = .ok (.getfield 126, 3) := dk180 (k := 18) bX11_gain_0 rfl rfl
theorem dX11_gain_21 : decode cX11_gain 21 = .ok (.aload_n 0, 1) := dk42 (k := 21) bX11_gain_0 rfl
theorem dX11_gain_22 : decode cX11_gain 22 = .ok (.getfield 28, 3) := dk180 (k := 22) bX11_gain_0 rfl rfl
theorem bX11_gain_25 : bL cX11_gain 25 [180, 0, 139, 27, 182, 0, 170, 167, 0, 6, 17, 252, 24, 172] := bL_of (by decide +kernel)
theorem dX11_gain_25 : decode cX11_gain 25 = .ok (.getfield 139, 3) := dk180 (k := 0) bX11_gain_25 rfl rfl
theorem dX11_gain_28 : decode cX11_gain 28 = .ok (.iload_n 1, 1) := dk27 (k := 3) bX11_gain_25 rfl
theorem dX11_gain_29 : decode cX11_gain 29 = .ok (.invokevirtual 170, 3) := dk182 (k := 4) bX11_gain_25 rfl rfl
theorem dX11_gain_32 : decode cX11_gain 32 = .ok (.goto 6, 3) := dk167 (k := 7) bX11_gain_25 rfl (by decide)
theorem dX11_gain_35 : decode cX11_gain 35 = .ok (.sipush (-1000), 3) := dk17 (k := 10) bX11_gain_25 rfl (by decide)
theorem dX11_gain_38 : decode cX11_gain 38 = .ok (.ireturn, 1) := dk172 (k := 13) bX11_gain_25 rfl
theorem bX11_hopes_0 : bL cX11_hopes 0 [42, 180, 0, 28, 180, 0, 126, 27, 182, 0, 130, 153, 0, 13, 28, 155, 0, 9, 28, 16, 20, 164, 0, 7] := bL_of (by decide +kernel)
theorem dX11_hopes_0 : decode cX11_hopes 0 = .ok (.aload_n 0, 1) := dk42 (k := 0) bX11_hopes_0 rfl
theorem dX11_hopes_1 : decode cX11_hopes 1 = .ok (.getfield 28, 3) := dk180 (k := 1) bX11_hopes_0 rfl rfl
theorem dX11_hopes_4 : decode cX11_hopes 4 = .ok (.getfield 126, 3) := dk180 (k := 4) bX11_hopes_0 rfl rfl
theorem dX11_hopes_7 : decode cX11_hopes 7 = .ok (.iload_n 1, 1) := dk27 (k := 7) bX11_hopes_0 rfl
theorem dX11_hopes_8 : decode cX11_hopes 8 = .ok (.invokevirtual 130, 3) := dk182 (k := 8) bX11_hopes_0 rfl rfl
theorem dX11_hopes_11 : decode cX11_hopes 11 = .ok (.ifCond .eq 13, 3) := dk153 (k := 11) bX11_hopes_0 rfl (by decide)
theorem dX11_hopes_14 : decode cX11_hopes 14 = .ok (.iload_n 2, 1) := dk28 (k := 14) bX11_hopes_0 rfl
theorem dX11_hopes_15 : decode cX11_hopes 15 = .ok (.ifCond .lt 9, 3) := dk155 (k := 15) bX11_hopes_0 rfl (by decide)
theorem dX11_hopes_18 : decode cX11_hopes 18 = .ok (.iload_n 2, 1) := dk28 (k := 18) bX11_hopes_0 rfl
theorem dX11_hopes_19 : decode cX11_hopes 19 = .ok (.bipush 20, 2) := dk16 (k := 19) bX11_hopes_0 rfl (by decide)
theorem dX11_hopes_21 : decode cX11_hopes 21 = .ok (.if_icmp .le 7, 3) := dk164 (k := 21) bX11_hopes_0 rfl (by decide)
theorem bX11_hopes_24 : bL cX11_hopes 24 [17, 252, 24, 172, 42, 180, 0, 82, 27, 28, 182, 0, 174, 42, 180, 0, 28, 180, 0, 126, 42, 180, 0, 28] := bL_of (by decide +kernel)
theorem dX11_hopes_24 : decode cX11_hopes 24 = .ok (.sipush (-1000), 3) := dk17 (k := 0) bX11_hopes_24 rfl (by decide)
theorem dX11_hopes_27 : decode cX11_hopes 27 = .ok (.ireturn, 1) := dk172 (k := 3) bX11_hopes_24 rfl
theorem dX11_hopes_28 : decode cX11_hopes 28 = .ok (.aload_n 0, 1) := dk42 (k := 4) bX11_hopes_24 rfl
theorem dX11_hopes_29 : decode cX11_hopes 29 = .ok (.getfield 82, 3) := dk180 (k := 5) bX11_hopes_24 rfl rfl
theorem dX11_hopes_32 : decode cX11_hopes 32 = .ok (.iload_n 1, 1) := dk27 (k := 8) bX11_hopes_24 rfl
theorem dX11_hopes_33 : decode cX11_hopes 33 = .ok (.iload_n 2, 1) := dk28 (k := 9) bX11_hopes_24 rfl
theorem dX11_hopes_34 : decode cX11_hopes 34 = .ok (.invokevirtual 174, 3) := dk182 (k := 10) bX11_hopes_24 rfl rfl
theorem dX11_hopes_37 : decode cX11_hopes 37 = .ok (.aload_n 0, 1) := dk42 (k := 13) bX11_hopes_24 rfl
theorem dX11_hopes_38 : decode cX11_hopes 38 = .ok (.getfield 28, 3) := dk180 (k := 14) bX11_hopes_24 rfl rfl
theorem dX11_hopes_41 : decode cX11_hopes 41 = .ok (.getfield 126, 3) := dk180 (k := 17) bX11_hopes_24 rfl rfl
theorem dX11_hopes_44 : decode cX11_hopes 44 = .ok (.aload_n 0, 1) := dk42 (k := 20) bX11_hopes_24 rfl
theorem dX11_hopes_45 : decode cX11_hopes 45 = .ok (.getfield 28, 3) := dk180 (k := 21) bX11_hopes_24 rfl rfl
theorem bX11_hopes_48 : bL cX11_hopes 48 [180, 0, 139, 27, 182, 0, 170, 100, 172] := bL_of (by decide +kernel)
theorem dX11_hopes_48 : decode cX11_hopes 48 = .ok (.getfield 139, 3) := dk180 (k := 0) bX11_hopes_48 rfl rfl
theorem dX11_hopes_51 : decode cX11_hopes 51 = .ok (.iload_n 1, 1) := dk27 (k := 3) bX11_hopes_48 rfl
theorem dX11_hopes_52 : decode cX11_hopes 52 = .ok (.invokevirtual 170, 3) := dk182 (k := 4) bX11_hopes_48 rfl rfl
theorem dX11_hopes_55 : decode cX11_hopes 55 = .ok (.isub, 1) := dk100 (k := 7) bX11_hopes_48 rfl
theorem dX11_hopes_56 : decode cX11_hopes 56 = .ok (.ireturn, 1) := dk172 (k := 8) bX11_hopes_48 rfl
theorem bX11_wishes_0 : bL cX11_wishes 0 [42, 180, 0, 28, 180, 0, 126, 27, 182, 0, 130, 153, 0, 14, 42, 180, 0, 82, 27, 182, 0, 177, 167, 0, 5] := bL_of (by decide +kernel)
theorem dX11_wishes_0 : decode cX11_wishes 0 = .ok (.aload_n 0, 1) := dk42 (k := 0) bX11_wishes_0 rfl
theorem dX11_wishes_1 : decode cX11_wishes 1 = .ok (.getfield 28, 3) := dk180 (k := 1) bX11_wishes_0 rfl rfl
theorem dX11_wishes_4 : decode cX11_wishes 4 = .ok (.getfield 126, 3) := dk180 (k := 4) bX11_wishes_0 rfl rfl
theorem dX11_wishes_7 : decode cX11_wishes 7 = .ok (.iload_n 1, 1) := dk27 (k := 7) bX11_wishes_0 rfl
theorem dX11_wishes_8 : decode cX11_wishes 8 = .ok (.invokevirtual 130, 3) := dk182 (k := 8) bX11_wishes_0 rfl rfl
theorem dX11_wishes_11 : decode cX11_wishes 11 = .ok (.ifCond .eq 14, 3) := dk153 (k := 11) bX11_wishes_0 rfl (by decide)
theorem dX11_wishes_14 : decode cX11_wishes 14 = .ok (.aload_n 0, 1) := dk42 (k := 14) bX11_wishes_0 rfl
theorem dX11_wishes_15 : decode cX11_wishes 15 = .ok (.getfield 82, 3) := dk180 (k := 15) bX11_wishes_0 rfl rfl
theorem dX11_wishes_18 : decode cX11_wishes 18 = .ok (.iload_n 1, 1) := dk27 (k := 18) bX11_wishes_0 rfl
theorem dX11_wishes_19 : decode cX11_wishes 19 = .ok (.invokevirtual 177, 3) := dk182 (k := 19) bX11_wishes_0 rfl rfl
theorem dX11_wishes_22 : decode cX11_wishes 22 = .ok (.goto 5, 3) := dk167 (k := 22) bX11_wishes_0 rfl (by decide)
theorem bX11_wishes_25 : bL cX11_wishes 25 [16, 254, 172] := bL_of (by decide +kernel)
theorem dX11_wishes_25 : decode cX11_wishes 25 = .ok (.bipush (-2), 2) := dk16 (k := 0) bX11_wishes_25 rfl (by decide)
theorem dX11_wishes_27 : decode cX11_wishes 27 = .ok (.ireturn, 1) := dk172 (k := 2) bX11_wishes_25 rfl
theorem bX11_gains_0 : bL cX11_gains 0 [42, 180, 0, 28, 182, 0, 157, 153, 0, 23, 42, 180, 0, 28, 180, 0, 126, 42, 180, 0, 28, 180, 0, 139] := bL_of (by decide +kernel)
theorem dX11_gains_0 : decode cX11_gains 0 = .ok (.aload_n 0, 1) := dk42 (k := 0) bX11_gains_0 rfl
theorem dX11_gains_1 : decode cX11_gains 1 = .ok (.getfield 28, 3) := dk180 (k := 1) bX11_gains_0 rfl rfl
theorem dX11_gains_4 : decode cX11_gains 4 = .ok (.invokevirtual 157, 3) := dk182 (k := 4) bX11_gains_0 rfl rfl
theorem dX11_gains_7 : decode cX11_gains 7 = .ok (.ifCond .eq 23, 3) := dk153 (k := 7) bX11_gains_0 rfl (by decide)
theorem dX11_gains_10 : decode cX11_gains 10 = .ok (.aload_n 0, 1) := dk42 (k := 10) bX11_gains_0 rfl
theorem dX11_gains_11 : decode cX11_gains 11 = .ok (.getfield 28, 3) := dk180 (k := 11) bX11_gains_0 rfl rfl
theorem dX11_gains_14 : decode cX11_gains 14 = .ok (.getfield 126, 3) := dk180 (k := 14) bX11_gains_0 rfl rfl
theorem dX11_gains_17 : decode cX11_gains 17 = .ok (.aload_n 0, 1) := dk42 (k := 17) bX11_gains_0 rfl
theorem dX11_gains_18 : decode cX11_gains 18 = .ok (.getfield 28, 3) := dk180 (k := 18) bX11_gains_0 rfl rfl
theorem dX11_gains_21 : decode cX11_gains 21 = .ok (.getfield 139, 3) := dk180 (k := 21) bX11_gains_0 rfl rfl
theorem bX11_gains_24 : bL cX11_gains 24 [182, 0, 180, 167, 0, 5, 16, 254, 172] := bL_of (by decide +kernel)
theorem dX11_gains_24 : decode cX11_gains 24 = .ok (.invokevirtual 180, 3) := dk182 (k := 0) bX11_gains_24 rfl rfl
theorem dX11_gains_27 : decode cX11_gains 27 = .ok (.goto 5, 3) := dk167 (k := 3) bX11_gains_24 rfl (by decide)
theorem dX11_gains_30 : decode cX11_gains 30 = .ok (.bipush (-2), 2) := dk16 (k := 6) bX11_gains_24 rfl (by decide)
theorem dX11_gains_32 : decode cX11_gains 32 = .ok (.ireturn, 1) := dk172 (k := 8) bX11_gains_24 rfl
theorem bX11_take_0 : bL cX11_take 0 [42, 180, 0, 28, 182, 0, 157, 154, 0, 6, 16, 254, 172, 42, 180, 0, 28, 182, 0, 184, 153, 0, 16, 42] := bL_of (by decide +kernel)
theorem dX11_take_0 : decode cX11_take 0 = .ok (.aload_n 0, 1) := dk42 (k := 0) bX11_take_0 rfl
theorem dX11_take_1 : decode cX11_take 1 = .ok (.getfield 28, 3) := dk180 (k := 1) bX11_take_0 rfl rfl
theorem dX11_take_4 : decode cX11_take 4 = .ok (.invokevirtual 157, 3) := dk182 (k := 4) bX11_take_0 rfl rfl
theorem dX11_take_7 : decode cX11_take 7 = .ok (.ifCond .ne 6, 3) := dk154 (k := 7) bX11_take_0 rfl (by decide)
theorem dX11_take_10 : decode cX11_take 10 = .ok (.bipush (-2), 2) := dk16 (k := 10) bX11_take_0 rfl (by decide)
theorem dX11_take_12 : decode cX11_take 12 = .ok (.ireturn, 1) := dk172 (k := 12) bX11_take_0 rfl
theorem dX11_take_13 : decode cX11_take 13 = .ok (.aload_n 0, 1) := dk42 (k := 13) bX11_take_0 rfl
theorem dX11_take_14 : decode cX11_take 14 = .ok (.getfield 28, 3) := dk180 (k := 14) bX11_take_0 rfl rfl
theorem dX11_take_17 : decode cX11_take 17 = .ok (.invokevirtual 184, 3) := dk182 (k := 17) bX11_take_0 rfl rfl
theorem dX11_take_20 : decode cX11_take 20 = .ok (.ifCond .eq 16, 3) := dk153 (k := 20) bX11_take_0 rfl (by decide)
theorem dX11_take_23 : decode cX11_take 23 = .ok (.aload_n 0, 1) := dk42 (k := 23) bX11_take_0 rfl
theorem bX11_take_24 : bL cX11_take 24 [180, 0, 28, 180, 0, 139, 182, 0, 187, 154, 0, 6, 16, 251, 172, 42, 180, 0, 28, 180, 0, 139, 182, 0, 167] := bL_of (by decide +kernel)
theorem dX11_take_24 : decode cX11_take 24 = .ok (.getfield 28, 3) := dk180 (k := 0) bX11_take_24 rfl rfl
theorem dX11_take_27 : decode cX11_take 27 = .ok (.getfield 139, 3) := dk180 (k := 3) bX11_take_24 rfl rfl
theorem dX11_take_30 : decode cX11_take 30 = .ok (.invokevirtual 187, 3) := dk182 (k := 6) bX11_take_24 rfl rfl
theorem dX11_take_33 : decode cX11_take 33 = .ok (.ifCond .ne 6, 3) := dk154 (k := 9) bX11_take_24 rfl (by decide)
theorem dX11_take_36 : decode cX11_take 36 = .ok (.bipush (-5), 2) := dk16 (k := 12) bX11_take_24 rfl (by decide)
theorem dX11_take_38 : decode cX11_take 38 = .ok (.ireturn, 1) := dk172 (k := 14) bX11_take_24 rfl
theorem dX11_take_39 : decode cX11_take 39 = .ok (.aload_n 0, 1) := dk42 (k := 15) bX11_take_24 rfl
theorem dX11_take_40 : decode cX11_take 40 = .ok (.getfield 28, 3) := dk180 (k := 16) bX11_take_24 rfl rfl
theorem dX11_take_43 : decode cX11_take 43 = .ok (.getfield 139, 3) := dk180 (k := 19) bX11_take_24 rfl rfl
theorem dX11_take_46 : decode cX11_take 46 = .ok (.invokevirtual 167, 3) := dk182 (k := 22) bX11_take_24 rfl rfl
theorem bX11_take_49 : bL cX11_take 49 [60, 42, 180, 0, 28, 27, 2, 182, 0, 190, 27, 172] := bL_of (by decide +kernel)
theorem dX11_take_49 : decode cX11_take 49 = .ok (.istore_n 1, 1) := dk60 (k := 0) bX11_take_49 rfl
theorem dX11_take_50 : decode cX11_take 50 = .ok (.aload_n 0, 1) := dk42 (k := 1) bX11_take_49 rfl
theorem dX11_take_51 : decode cX11_take 51 = .ok (.getfield 28, 3) := dk180 (k := 2) bX11_take_49 rfl rfl
theorem dX11_take_54 : decode cX11_take 54 = .ok (.iload_n 1, 1) := dk27 (k := 5) bX11_take_49 rfl
theorem dX11_take_55 : decode cX11_take 55 = .ok (.iconst (-1), 1) := dk2 (k := 6) bX11_take_49 rfl
theorem dX11_take_56 : decode cX11_take 56 = .ok (.invokevirtual 190, 3) := dk182 (k := 7) bX11_take_49 rfl rfl
theorem dX11_take_59 : decode cX11_take 59 = .ok (.iload_n 1, 1) := dk27 (k := 10) bX11_take_49 rfl
theorem dX11_take_60 : decode cX11_take 60 = .ok (.ireturn, 1) := dk172 (k := 11) bX11_take_49 rfl
theorem bX11_heap_0 : bL cX11_heap 0 [42, 180, 0, 28, 180, 0, 139, 27, 182, 0, 142, 154, 0, 6, 16, 254, 172, 42, 180, 0, 28, 180, 0, 139] := bL_of (by decide +kernel)
theorem dX11_heap_0 : decode cX11_heap 0 = .ok (.aload_n 0, 1) := dk42 (k := 0) bX11_heap_0 rfl
theorem dX11_heap_1 : decode cX11_heap 1 = .ok (.getfield 28, 3) := dk180 (k := 1) bX11_heap_0 rfl rfl
theorem dX11_heap_4 : decode cX11_heap 4 = .ok (.getfield 139, 3) := dk180 (k := 4) bX11_heap_0 rfl rfl
theorem dX11_heap_7 : decode cX11_heap 7 = .ok (.iload_n 1, 1) := dk27 (k := 7) bX11_heap_0 rfl
theorem dX11_heap_8 : decode cX11_heap 8 = .ok (.invokevirtual 142, 3) := dk182 (k := 8) bX11_heap_0 rfl rfl
theorem dX11_heap_11 : decode cX11_heap 11 = .ok (.ifCond .ne 6, 3) := dk154 (k := 11) bX11_heap_0 rfl (by decide)
theorem dX11_heap_14 : decode cX11_heap 14 = .ok (.bipush (-2), 2) := dk16 (k := 14) bX11_heap_0 rfl (by decide)
theorem dX11_heap_16 : decode cX11_heap 16 = .ok (.ireturn, 1) := dk172 (k := 16) bX11_heap_0 rfl
theorem dX11_heap_17 : decode cX11_heap 17 = .ok (.aload_n 0, 1) := dk42 (k := 17) bX11_heap_0 rfl
theorem dX11_heap_18 : decode cX11_heap 18 = .ok (.getfield 28, 3) := dk180 (k := 18) bX11_heap_0 rfl rfl
theorem dX11_heap_21 : decode cX11_heap 21 = .ok (.getfield 139, 3) := dk180 (k := 21) bX11_heap_0 rfl rfl
theorem bX11_heap_24 : bL cX11_heap 24 [27, 182, 0, 194, 61, 42, 180, 0, 28, 182, 0, 184, 153, 0, 8, 28, 2, 160, 0, 6, 16, 251, 172, 42] := bL_of (by decide +kernel)
theorem dX11_heap_24 : decode cX11_heap 24 = .ok (.iload_n 1, 1) := dk27 (k := 0) bX11_heap_24 rfl
theorem dX11_heap_25 : decode cX11_heap 25 = .ok (.invokevirtual 194, 3) := dk182 (k := 1) bX11_heap_24 rfl rfl
theorem dX11_heap_28 : decode cX11_heap 28 = .ok (.istore_n 2, 1) := dk61 (k := 4) bX11_heap_24 rfl
theorem dX11_heap_29 : decode cX11_heap 29 = .ok (.aload_n 0, 1) := dk42 (k := 5) bX11_heap_24 rfl
theorem dX11_heap_30 : decode cX11_heap 30 = .ok (.getfield 28, 3) := dk180 (k := 6) bX11_heap_24 rfl rfl
theorem dX11_heap_33 : decode cX11_heap 33 = .ok (.invokevirtual 184, 3) := dk182 (k := 9) bX11_heap_24 rfl rfl
theorem dX11_heap_36 : decode cX11_heap 36 = .ok (.ifCond .eq 8, 3) := dk153 (k := 12) bX11_heap_24 rfl (by decide)
theorem dX11_heap_39 : decode cX11_heap 39 = .ok (.iload_n 2, 1) := dk28 (k := 15) bX11_heap_24 rfl
theorem dX11_heap_40 : decode cX11_heap 40 = .ok (.iconst (-1), 1) := dk2 (k := 16) bX11_heap_24 rfl
theorem dX11_heap_41 : decode cX11_heap 41 = .ok (.if_icmp .ne 6, 3) := dk160 (k := 17) bX11_heap_24 rfl (by decide)
theorem dX11_heap_44 : decode cX11_heap 44 = .ok (.bipush (-5), 2) := dk16 (k := 20) bX11_heap_24 rfl (by decide)
theorem dX11_heap_46 : decode cX11_heap 46 = .ok (.ireturn, 1) := dk172 (k := 22) bX11_heap_24 rfl
theorem dX11_heap_47 : decode cX11_heap 47 = .ok (.aload_n 0, 1) := dk42 (k := 23) bX11_heap_24 rfl
theorem bX11_heap_48 : bL cX11_heap 48 [180, 0, 28, 28, 4, 182, 0, 190, 28, 172] := bL_of (by decide +kernel)
theorem dX11_heap_48 : decode cX11_heap 48 = .ok (.getfield 28, 3) := dk180 (k := 0) bX11_heap_48 rfl rfl
theorem dX11_heap_51 : decode cX11_heap 51 = .ok (.iload_n 2, 1) := dk28 (k := 3) bX11_heap_48 rfl
theorem dX11_heap_52 : decode cX11_heap 52 = .ok (.iconst 1, 1) := dk4 (k := 4) bX11_heap_48 rfl
theorem dX11_heap_53 : decode cX11_heap 53 = .ok (.invokevirtual 190, 3) := dk182 (k := 5) bX11_heap_48 rfl rfl
theorem dX11_heap_56 : decode cX11_heap 56 = .ok (.iload_n 2, 1) := dk28 (k := 8) bX11_heap_48 rfl
theorem dX11_heap_57 : decode cX11_heap 57 = .ok (.ireturn, 1) := dk172 (k := 9) bX11_heap_48 rfl
theorem bX11_slides_0 : bL cX11_slides 0 [42, 180, 0, 28, 180, 0, 139, 27, 182, 0, 142, 153, 0, 17, 42, 180, 0, 28, 180, 0, 139, 27, 182, 0, 194] := bL_of (by decide +kernel)
theorem dX11_slides_0 : decode cX11_slides 0 = .ok (.aload_n 0, 1) := dk42 (k := 0) bX11_slides_0 rfl
theorem dX11_slides_1 : decode cX11_slides 1 = .ok (.getfield 28, 3) := dk180 (k := 1) bX11_slides_0 rfl rfl
theorem dX11_slides_4 : decode cX11_slides 4 = .ok (.getfield 139, 3) := dk180 (k := 4) bX11_slides_0 rfl rfl
theorem dX11_slides_7 : decode cX11_slides 7 = .ok (.iload_n 1, 1) := dk27 (k := 7) bX11_slides_0 rfl
theorem dX11_slides_8 : decode cX11_slides 8 = .ok (.invokevirtual 142, 3) := dk182 (k := 8) bX11_slides_0 rfl rfl
theorem dX11_slides_11 : decode cX11_slides 11 = .ok (.ifCond .eq 17, 3) := dk153 (k := 11) bX11_slides_0 rfl (by decide)
theorem dX11_slides_14 : decode cX11_slides 14 = .ok (.aload_n 0, 1) := dk42 (k := 14) bX11_slides_0 rfl
theorem dX11_slides_15 : decode cX11_slides 15 = .ok (.getfield 28, 3) := dk180 (k := 15) bX11_slides_0 rfl rfl
theorem dX11_slides_18 : decode cX11_slides 18 = .ok (.getfield 139, 3) := dk180 (k := 18) bX11_slides_0 rfl rfl
theorem dX11_slides_21 : decode cX11_slides 21 = .ok (.iload_n 1, 1) := dk27 (k := 21) bX11_slides_0 rfl
theorem dX11_slides_22 : decode cX11_slides 22 = .ok (.invokevirtual 194, 3) := dk182 (k := 22) bX11_slides_0 rfl rfl
theorem bX11_slides_25 : bL cX11_slides 25 [167, 0, 5, 16, 254, 172] := bL_of (by decide +kernel)
theorem dX11_slides_25 : decode cX11_slides 25 = .ok (.goto 5, 3) := dk167 (k := 0) bX11_slides_25 rfl (by decide)
theorem dX11_slides_28 : decode cX11_slides 28 = .ok (.bipush (-2), 2) := dk16 (k := 3) bX11_slides_25 rfl (by decide)
theorem dX11_slides_30 : decode cX11_slides 30 = .ok (.ireturn, 1) := dk172 (k := 5) bX11_slides_25 rfl
theorem bX11_undo_0 : bL cX11_undo 0 [42, 180, 0, 28, 182, 0, 157, 154, 0, 6, 16, 254, 172, 42, 180, 0, 28, 182, 0, 197, 153, 0, 13, 42] := bL_of (by decide +kernel)
theorem dX11_undo_0 : decode cX11_undo 0 = .ok (.aload_n 0, 1) := dk42 (k := 0) bX11_undo_0 rfl
theorem dX11_undo_1 : decode cX11_undo 1 = .ok (.getfield 28, 3) := dk180 (k := 1) bX11_undo_0 rfl rfl
theorem dX11_undo_4 : decode cX11_undo 4 = .ok (.invokevirtual 157, 3) := dk182 (k := 4) bX11_undo_0 rfl rfl
theorem dX11_undo_7 : decode cX11_undo 7 = .ok (.ifCond .ne 6, 3) := dk154 (k := 7) bX11_undo_0 rfl (by decide)
theorem dX11_undo_10 : decode cX11_undo 10 = .ok (.bipush (-2), 2) := dk16 (k := 10) bX11_undo_0 rfl (by decide)
theorem dX11_undo_12 : decode cX11_undo 12 = .ok (.ireturn, 1) := dk172 (k := 12) bX11_undo_0 rfl
theorem dX11_undo_13 : decode cX11_undo 13 = .ok (.aload_n 0, 1) := dk42 (k := 13) bX11_undo_0 rfl
theorem dX11_undo_14 : decode cX11_undo 14 = .ok (.getfield 28, 3) := dk180 (k := 14) bX11_undo_0 rfl rfl
theorem dX11_undo_17 : decode cX11_undo 17 = .ok (.invokevirtual 197, 3) := dk182 (k := 17) bX11_undo_0 rfl rfl
theorem dX11_undo_20 : decode cX11_undo 20 = .ok (.ifCond .eq 13, 3) := dk153 (k := 20) bX11_undo_0 rfl (by decide)
theorem dX11_undo_23 : decode cX11_undo 23 = .ok (.aload_n 0, 1) := dk42 (k := 23) bX11_undo_0 rfl
theorem bX11_undo_24 : bL cX11_undo 24 [180, 0, 28, 180, 0, 200, 167, 0, 5, 16, 251, 172] := bL_of (by decide +kernel)
theorem dX11_undo_24 : decode cX11_undo 24 = .ok (.getfield 28, 3) := dk180 (k := 0) bX11_undo_24 rfl rfl
theorem dX11_undo_27 : decode cX11_undo 27 = .ok (.getfield 200, 3) := dk180 (k := 3) bX11_undo_24 rfl rfl
theorem dX11_undo_30 : decode cX11_undo 30 = .ok (.goto 5, 3) := dk167 (k := 6) bX11_undo_24 rfl (by decide)
theorem dX11_undo_33 : decode cX11_undo 33 = .ok (.bipush (-5), 2) := dk16 (k := 9) bX11_undo_24 rfl (by decide)
theorem dX11_undo_35 : decode cX11_undo 35 = .ok (.ireturn, 1) := dk172 (k := 11) bX11_undo_24 rfl
theorem bX11_anew_0 : bL cX11_anew 0 [42, 180, 0, 28, 182, 0, 157, 154, 0, 6, 16, 254, 172, 42, 180, 0, 28, 180, 0, 200, 60, 3, 61, 28] := bL_of (by decide +kernel)
theorem dX11_anew_0 : decode cX11_anew 0 = .ok (.aload_n 0, 1) := dk42 (k := 0) bX11_anew_0 rfl
theorem dX11_anew_1 : decode cX11_anew 1 = .ok (.getfield 28, 3) := dk180 (k := 1) bX11_anew_0 rfl rfl
theorem dX11_anew_4 : decode cX11_anew 4 = .ok (.invokevirtual 157, 3) := dk182 (k := 4) bX11_anew_0 rfl rfl
theorem dX11_anew_7 : decode cX11_anew 7 = .ok (.ifCond .ne 6, 3) := dk154 (k := 7) bX11_anew_0 rfl (by decide)
theorem dX11_anew_10 : decode cX11_anew 10 = .ok (.bipush (-2), 2) := dk16 (k := 10) bX11_anew_0 rfl (by decide)
theorem dX11_anew_12 : decode cX11_anew 12 = .ok (.ireturn, 1) := dk172 (k := 12) bX11_anew_0 rfl
theorem dX11_anew_13 : decode cX11_anew 13 = .ok (.aload_n 0, 1) := dk42 (k := 13) bX11_anew_0 rfl
theorem dX11_anew_14 : decode cX11_anew 14 = .ok (.getfield 28, 3) := dk180 (k := 14) bX11_anew_0 rfl rfl
theorem dX11_anew_17 : decode cX11_anew 17 = .ok (.getfield 200, 3) := dk180 (k := 17) bX11_anew_0 rfl rfl
theorem dX11_anew_20 : decode cX11_anew 20 = .ok (.istore_n 1, 1) := dk60 (k := 20) bX11_anew_0 rfl
theorem dX11_anew_21 : decode cX11_anew 21 = .ok (.iconst 0, 1) := dk3 (k := 21) bX11_anew_0 rfl
theorem dX11_anew_22 : decode cX11_anew 22 = .ok (.istore_n 2, 1) := dk61 (k := 22) bX11_anew_0 rfl
theorem dX11_anew_23 : decode cX11_anew 23 = .ok (.iload_n 2, 1) := dk28 (k := 23) bX11_anew_0 rfl
theorem bX11_anew_24 : bL cX11_anew 24 [27, 162, 0, 17, 42, 180, 0, 28, 182, 0, 197, 87, 132, 2, 1, 167, 255, 240, 27, 172] := bL_of (by decide +kernel)
theorem dX11_anew_24 : decode cX11_anew 24 = .ok (.iload_n 1, 1) := dk27 (k := 0) bX11_anew_24 rfl
theorem dX11_anew_25 : decode cX11_anew 25 = .ok (.if_icmp .ge 17, 3) := dk162 (k := 1) bX11_anew_24 rfl (by decide)
theorem dX11_anew_28 : decode cX11_anew 28 = .ok (.aload_n 0, 1) := dk42 (k := 4) bX11_anew_24 rfl
theorem dX11_anew_29 : decode cX11_anew 29 = .ok (.getfield 28, 3) := dk180 (k := 5) bX11_anew_24 rfl rfl
theorem dX11_anew_32 : decode cX11_anew 32 = .ok (.invokevirtual 197, 3) := dk182 (k := 8) bX11_anew_24 rfl rfl
theorem dX11_anew_35 : decode cX11_anew 35 = .ok (.pop, 1) := dk87 (k := 11) bX11_anew_24 rfl
theorem dX11_anew_36 : decode cX11_anew 36 = .ok (.iinc 2 1, 3) := dk132 (k := 12) bX11_anew_24 rfl rfl (by decide)
theorem dX11_anew_39 : decode cX11_anew 39 = .ok (.goto (-16), 3) := dk167 (k := 15) bX11_anew_24 rfl (by decide)
theorem dX11_anew_42 : decode cX11_anew 42 = .ok (.iload_n 1, 1) := dk27 (k := 18) bX11_anew_24 rfl
theorem dX11_anew_43 : decode cX11_anew 43 = .ok (.ireturn, 1) := dk172 (k := 19) bX11_anew_24 rfl
theorem bX11_willing_0 : bL cX11_willing 0 [42, 180, 0, 28, 182, 0, 157, 153, 0, 24, 42, 180, 0, 28, 180, 0, 126, 42, 180, 0, 28, 180, 0, 139] := bL_of (by decide +kernel)
theorem dX11_willing_0 : decode cX11_willing 0 = .ok (.aload_n 0, 1) := dk42 (k := 0) bX11_willing_0 rfl
theorem dX11_willing_1 : decode cX11_willing 1 = .ok (.getfield 28, 3) := dk180 (k := 1) bX11_willing_0 rfl rfl
theorem dX11_willing_4 : decode cX11_willing 4 = .ok (.invokevirtual 157, 3) := dk182 (k := 4) bX11_willing_0 rfl rfl
theorem dX11_willing_7 : decode cX11_willing 7 = .ok (.ifCond .eq 24, 3) := dk153 (k := 7) bX11_willing_0 rfl (by decide)
theorem dX11_willing_10 : decode cX11_willing 10 = .ok (.aload_n 0, 1) := dk42 (k := 10) bX11_willing_0 rfl
theorem dX11_willing_11 : decode cX11_willing 11 = .ok (.getfield 28, 3) := dk180 (k := 11) bX11_willing_0 rfl rfl
theorem dX11_willing_14 : decode cX11_willing 14 = .ok (.getfield 126, 3) := dk180 (k := 14) bX11_willing_0 rfl rfl
theorem dX11_willing_17 : decode cX11_willing 17 = .ok (.aload_n 0, 1) := dk42 (k := 17) bX11_willing_0 rfl
theorem dX11_willing_18 : decode cX11_willing 18 = .ok (.getfield 28, 3) := dk180 (k := 18) bX11_willing_0 rfl rfl
theorem dX11_willing_21 : decode cX11_willing 21 = .ok (.getfield 139, 3) := dk180 (k := 21) bX11_willing_0 rfl rfl
theorem bX11_willing_24 : bL cX11_willing 24 [2, 182, 0, 203, 167, 0, 5, 16, 254, 172] := bL_of (by decide +kernel)
theorem dX11_willing_24 : decode cX11_willing 24 = .ok (.iconst (-1), 1) := dk2 (k := 0) bX11_willing_24 rfl
theorem dX11_willing_25 : decode cX11_willing 25 = .ok (.invokevirtual 203, 3) := dk182 (k := 1) bX11_willing_24 rfl rfl
theorem dX11_willing_28 : decode cX11_willing 28 = .ok (.goto 5, 3) := dk167 (k := 4) bX11_willing_24 rfl (by decide)
theorem dX11_willing_31 : decode cX11_willing 31 = .ok (.bipush (-2), 2) := dk16 (k := 7) bX11_willing_24 rfl (by decide)
theorem dX11_willing_33 : decode cX11_willing 33 = .ok (.ireturn, 1) := dk172 (k := 9) bX11_willing_24 rfl
theorem bX11_signers_0 : bL cX11_signers 0 [42, 180, 0, 28, 27, 182, 0, 206, 153, 0, 14, 42, 180, 0, 59, 27, 182, 0, 209, 167, 0, 5, 16, 254] := bL_of (by decide +kernel)
theorem dX11_signers_0 : decode cX11_signers 0 = .ok (.aload_n 0, 1) := dk42 (k := 0) bX11_signers_0 rfl
theorem dX11_signers_1 : decode cX11_signers 1 = .ok (.getfield 28, 3) := dk180 (k := 1) bX11_signers_0 rfl rfl
theorem dX11_signers_4 : decode cX11_signers 4 = .ok (.iload_n 1, 1) := dk27 (k := 4) bX11_signers_0 rfl
theorem dX11_signers_5 : decode cX11_signers 5 = .ok (.invokevirtual 206, 3) := dk182 (k := 5) bX11_signers_0 rfl rfl
theorem dX11_signers_8 : decode cX11_signers 8 = .ok (.ifCond .eq 14, 3) := dk153 (k := 8) bX11_signers_0 rfl (by decide)
theorem dX11_signers_11 : decode cX11_signers 11 = .ok (.aload_n 0, 1) := dk42 (k := 11) bX11_signers_0 rfl
theorem dX11_signers_12 : decode cX11_signers 12 = .ok (.getfield 59, 3) := dk180 (k := 12) bX11_signers_0 rfl rfl
theorem dX11_signers_15 : decode cX11_signers 15 = .ok (.iload_n 1, 1) := dk27 (k := 15) bX11_signers_0 rfl
theorem dX11_signers_16 : decode cX11_signers 16 = .ok (.invokevirtual 209, 3) := dk182 (k := 16) bX11_signers_0 rfl rfl
theorem dX11_signers_19 : decode cX11_signers 19 = .ok (.goto 5, 3) := dk167 (k := 19) bX11_signers_0 rfl (by decide)
theorem dX11_signers_22 : decode cX11_signers 22 = .ok (.bipush (-2), 2) := dk16 (k := 22) bX11_signers_0 rfl (by decide)
theorem bX11_signers_24 : bL cX11_signers 24 [172] := bL_of (by decide +kernel)
theorem dX11_signers_24 : decode cX11_signers 24 = .ok (.ireturn, 1) := dk172 (k := 0) bX11_signers_24 rfl
theorem bX11_names_0 : bL cX11_names 0 [42, 180, 0, 28, 27, 182, 0, 206, 153, 0, 24, 42, 180, 0, 28, 180, 0, 126, 42, 180, 0, 59, 27, 182, 0, 209] := bL_of (by decide +kernel)
theorem dX11_names_0 : decode cX11_names 0 = .ok (.aload_n 0, 1) := dk42 (k := 0) bX11_names_0 rfl
theorem dX11_names_1 : decode cX11_names 1 = .ok (.getfield 28, 3) := dk180 (k := 1) bX11_names_0 rfl rfl
theorem dX11_names_4 : decode cX11_names 4 = .ok (.iload_n 1, 1) := dk27 (k := 4) bX11_names_0 rfl
theorem dX11_names_5 : decode cX11_names 5 = .ok (.invokevirtual 206, 3) := dk182 (k := 5) bX11_names_0 rfl rfl
theorem dX11_names_8 : decode cX11_names 8 = .ok (.ifCond .eq 24, 3) := dk153 (k := 8) bX11_names_0 rfl (by decide)
theorem dX11_names_11 : decode cX11_names 11 = .ok (.aload_n 0, 1) := dk42 (k := 11) bX11_names_0 rfl
theorem dX11_names_12 : decode cX11_names 12 = .ok (.getfield 28, 3) := dk180 (k := 12) bX11_names_0 rfl rfl
theorem dX11_names_15 : decode cX11_names 15 = .ok (.getfield 126, 3) := dk180 (k := 15) bX11_names_0 rfl rfl
theorem dX11_names_18 : decode cX11_names 18 = .ok (.aload_n 0, 1) := dk42 (k := 18) bX11_names_0 rfl
theorem dX11_names_19 : decode cX11_names 19 = .ok (.getfield 59, 3) := dk180 (k := 19) bX11_names_0 rfl rfl
theorem dX11_names_22 : decode cX11_names 22 = .ok (.iload_n 1, 1) := dk27 (k := 22) bX11_names_0 rfl
theorem dX11_names_23 : decode cX11_names 23 = .ok (.invokevirtual 209, 3) := dk182 (k := 23) bX11_names_0 rfl rfl
theorem bX11_names_26 : bL cX11_names 26 [182, 0, 212, 167, 0, 5, 16, 254, 172] := bL_of (by decide +kernel)
theorem dX11_names_26 : decode cX11_names 26 = .ok (.invokevirtual 212, 3) := dk182 (k := 0) bX11_names_26 rfl rfl
theorem dX11_names_29 : decode cX11_names 29 = .ok (.goto 5, 3) := dk167 (k := 3) bX11_names_26 rfl (by decide)
theorem dX11_names_32 : decode cX11_names 32 = .ok (.bipush (-2), 2) := dk16 (k := 6) bX11_names_26 rfl (by decide)
theorem dX11_names_34 : decode cX11_names 34 = .ok (.ireturn, 1) := dk172 (k := 8) bX11_names_26 rfl
theorem bX11_first_0 : bL cX11_first 0 [42, 180, 0, 28, 182, 0, 157, 154, 0, 6, 16, 254, 172, 42, 180, 0, 59, 182, 0, 215, 60, 27, 2, 160, 0, 7] := bL_of (by decide +kernel)
theorem dX11_first_0 : decode cX11_first 0 = .ok (.aload_n 0, 1) := dk42 (k := 0) bX11_first_0 rfl
theorem dX11_first_1 : decode cX11_first 1 = .ok (.getfield 28, 3) := dk180 (k := 1) bX11_first_0 rfl rfl
theorem dX11_first_4 : decode cX11_first 4 = .ok (.invokevirtual 157, 3) := dk182 (k := 4) bX11_first_0 rfl rfl
theorem dX11_first_7 : decode cX11_first 7 = .ok (.ifCond .ne 6, 3) := dk154 (k := 7) bX11_first_0 rfl (by decide)
theorem dX11_first_10 : decode cX11_first 10 = .ok (.bipush (-2), 2) := dk16 (k := 10) bX11_first_0 rfl (by decide)
theorem dX11_first_12 : decode cX11_first 12 = .ok (.ireturn, 1) := dk172 (k := 12) bX11_first_0 rfl
theorem dX11_first_13 : decode cX11_first 13 = .ok (.aload_n 0, 1) := dk42 (k := 13) bX11_first_0 rfl
theorem dX11_first_14 : decode cX11_first 14 = .ok (.getfield 59, 3) := dk180 (k := 14) bX11_first_0 rfl rfl
theorem dX11_first_17 : decode cX11_first 17 = .ok (.invokevirtual 215, 3) := dk182 (k := 17) bX11_first_0 rfl rfl
theorem dX11_first_20 : decode cX11_first 20 = .ok (.istore_n 1, 1) := dk60 (k := 20) bX11_first_0 rfl
theorem dX11_first_21 : decode cX11_first 21 = .ok (.iload_n 1, 1) := dk27 (k := 21) bX11_first_0 rfl
theorem dX11_first_22 : decode cX11_first 22 = .ok (.iconst (-1), 1) := dk2 (k := 22) bX11_first_0 rfl
theorem dX11_first_23 : decode cX11_first 23 = .ok (.if_icmp .ne 7, 3) := dk160 (k := 23) bX11_first_0 rfl (by decide)
theorem bX11_first_26 : bL cX11_first 26 [2, 167, 0, 7, 27, 184, 0, 218, 172] := bL_of (by decide +kernel)
theorem dX11_first_26 : decode cX11_first 26 = .ok (.iconst (-1), 1) := dk2 (k := 0) bX11_first_26 rfl
theorem dX11_first_27 : decode cX11_first 27 = .ok (.goto 7, 3) := dk167 (k := 1) bX11_first_26 rfl (by decide)
theorem dX11_first_30 : decode cX11_first 30 = .ok (.iload_n 1, 1) := dk27 (k := 4) bX11_first_26 rfl
theorem dX11_first_31 : decode cX11_first 31 = .ok (.invokestatic 218, 3) := dk184 (k := 5) bX11_first_26 rfl rfl
theorem dX11_first_34 : decode cX11_first 34 = .ok (.ireturn, 1) := dk172 (k := 8) bX11_first_26 rfl
theorem bX11_firsts_0 : bL cX11_firsts 0 [42, 180, 0, 28, 182, 0, 157, 153, 0, 13, 42, 180, 0, 59, 182, 0, 215, 167, 0, 5, 16, 254, 172] := bL_of (by decide +kernel)
theorem dX11_firsts_0 : decode cX11_firsts 0 = .ok (.aload_n 0, 1) := dk42 (k := 0) bX11_firsts_0 rfl
theorem dX11_firsts_1 : decode cX11_firsts 1 = .ok (.getfield 28, 3) := dk180 (k := 1) bX11_firsts_0 rfl rfl
theorem dX11_firsts_4 : decode cX11_firsts 4 = .ok (.invokevirtual 157, 3) := dk182 (k := 4) bX11_firsts_0 rfl rfl
theorem dX11_firsts_7 : decode cX11_firsts 7 = .ok (.ifCond .eq 13, 3) := dk153 (k := 7) bX11_firsts_0 rfl (by decide)
theorem dX11_firsts_10 : decode cX11_firsts 10 = .ok (.aload_n 0, 1) := dk42 (k := 10) bX11_firsts_0 rfl
theorem dX11_firsts_11 : decode cX11_firsts 11 = .ok (.getfield 59, 3) := dk180 (k := 11) bX11_firsts_0 rfl rfl
theorem dX11_firsts_14 : decode cX11_firsts 14 = .ok (.invokevirtual 215, 3) := dk182 (k := 14) bX11_firsts_0 rfl rfl
theorem dX11_firsts_17 : decode cX11_firsts 17 = .ok (.goto 5, 3) := dk167 (k := 17) bX11_firsts_0 rfl (by decide)
theorem dX11_firsts_20 : decode cX11_firsts 20 = .ok (.bipush (-2), 2) := dk16 (k := 20) bX11_firsts_0 rfl (by decide)
theorem dX11_firsts_22 : decode cX11_firsts 22 = .ok (.ireturn, 1) := dk172 (k := 22) bX11_firsts_0 rfl
theorem bX11_next_0 : bL cX11_next 0 [42, 180, 0, 28, 27, 182, 0, 206, 153, 0, 14, 42, 180, 0, 59, 27, 182, 0, 223, 167, 0, 5, 16, 254] := bL_of (by decide +kernel)
theorem dX11_next_0 : decode cX11_next 0 = .ok (.aload_n 0, 1) := dk42 (k := 0) bX11_next_0 rfl
theorem dX11_next_1 : decode cX11_next 1 = .ok (.getfield 28, 3) := dk180 (k := 1) bX11_next_0 rfl rfl
theorem dX11_next_4 : decode cX11_next 4 = .ok (.iload_n 1, 1) := dk27 (k := 4) bX11_next_0 rfl
theorem dX11_next_5 : decode cX11_next 5 = .ok (.invokevirtual 206, 3) := dk182 (k := 5) bX11_next_0 rfl rfl
theorem dX11_next_8 : decode cX11_next 8 = .ok (.ifCond .eq 14, 3) := dk153 (k := 8) bX11_next_0 rfl (by decide)
theorem dX11_next_11 : decode cX11_next 11 = .ok (.aload_n 0, 1) := dk42 (k := 11) bX11_next_0 rfl
theorem dX11_next_12 : decode cX11_next 12 = .ok (.getfield 59, 3) := dk180 (k := 12) bX11_next_0 rfl rfl
theorem dX11_next_15 : decode cX11_next 15 = .ok (.iload_n 1, 1) := dk27 (k := 15) bX11_next_0 rfl
theorem dX11_next_16 : decode cX11_next 16 = .ok (.invokevirtual 223, 3) := dk182 (k := 16) bX11_next_0 rfl rfl
theorem dX11_next_19 : decode cX11_next 19 = .ok (.goto 5, 3) := dk167 (k := 19) bX11_next_0 rfl (by decide)
theorem dX11_next_22 : decode cX11_next 22 = .ok (.bipush (-2), 2) := dk16 (k := 22) bX11_next_0 rfl (by decide)
theorem bX11_next_24 : bL cX11_next 24 [172] := bL_of (by decide +kernel)
theorem dX11_next_24 : decode cX11_next 24 = .ok (.ireturn, 1) := dk172 (k := 0) bX11_next_24 rfl
theorem bX11_needed_0 : bL cX11_needed 0 [42, 180, 0, 28, 182, 0, 157, 153, 0, 13, 42, 180, 0, 59, 182, 0, 226, 167, 0, 5, 16, 254, 172] := bL_of (by decide +kernel)
theorem dX11_needed_0 : decode cX11_needed 0 = .ok (.aload_n 0, 1) := dk42 (k := 0) bX11_needed_0 rfl
theorem dX11_needed_1 : decode cX11_needed 1 = .ok (.getfield 28, 3) := dk180 (k := 1) bX11_needed_0 rfl rfl
theorem dX11_needed_4 : decode cX11_needed 4 = .ok (.invokevirtual 157, 3) := dk182 (k := 4) bX11_needed_0 rfl rfl
theorem dX11_needed_7 : decode cX11_needed 7 = .ok (.ifCond .eq 13, 3) := dk153 (k := 7) bX11_needed_0 rfl (by decide)
theorem dX11_needed_10 : decode cX11_needed 10 = .ok (.aload_n 0, 1) := dk42 (k := 10) bX11_needed_0 rfl
theorem dX11_needed_11 : decode cX11_needed 11 = .ok (.getfield 59, 3) := dk180 (k := 11) bX11_needed_0 rfl rfl
theorem dX11_needed_14 : decode cX11_needed 14 = .ok (.invokevirtual 226, 3) := dk182 (k := 14) bX11_needed_0 rfl rfl
theorem dX11_needed_17 : decode cX11_needed 17 = .ok (.goto 5, 3) := dk167 (k := 17) bX11_needed_0 rfl (by decide)
theorem dX11_needed_20 : decode cX11_needed 20 = .ok (.bipush (-2), 2) := dk16 (k := 20) bX11_needed_0 rfl (by decide)
theorem dX11_needed_22 : decode cX11_needed 22 = .ok (.ireturn, 1) := dk172 (k := 22) bX11_needed_0 rfl
theorem bX11_play_0 : bL cX11_play 0 [42, 27, 28, 182, 0, 229, 154, 0, 6, 16, 254, 172, 42, 180, 0, 59, 27, 28, 182, 0, 232, 153, 0, 7] := bL_of (by decide +kernel)
theorem dX11_play_0 : decode cX11_play 0 = .ok (.aload_n 0, 1) := dk42 (k := 0) bX11_play_0 rfl
theorem dX11_play_1 : decode cX11_play 1 = .ok (.iload_n 1, 1) := dk27 (k := 1) bX11_play_0 rfl
theorem dX11_play_2 : decode cX11_play 2 = .ok (.iload_n 2, 1) := dk28 (k := 2) bX11_play_0 rfl
theorem dX11_play_3 : decode cX11_play 3 = .ok (.invokevirtual 229, 3) := dk182 (k := 3) bX11_play_0 rfl rfl
theorem dX11_play_6 : decode cX11_play 6 = .ok (.ifCond .ne 6, 3) := dk154 (k := 6) bX11_play_0 rfl (by decide)
theorem dX11_play_9 : decode cX11_play 9 = .ok (.bipush (-2), 2) := dk16 (k := 9) bX11_play_0 rfl (by decide)
theorem dX11_play_11 : decode cX11_play 11 = .ok (.ireturn, 1) := dk172 (k := 11) bX11_play_0 rfl
theorem dX11_play_12 : decode cX11_play 12 = .ok (.aload_n 0, 1) := dk42 (k := 12) bX11_play_0 rfl
theorem dX11_play_13 : decode cX11_play 13 = .ok (.getfield 59, 3) := dk180 (k := 13) bX11_play_0 rfl rfl
theorem dX11_play_16 : decode cX11_play 16 = .ok (.iload_n 1, 1) := dk27 (k := 16) bX11_play_0 rfl
theorem dX11_play_17 : decode cX11_play 17 = .ok (.iload_n 2, 1) := dk28 (k := 17) bX11_play_0 rfl
theorem dX11_play_18 : decode cX11_play 18 = .ok (.invokevirtual 232, 3) := dk182 (k := 18) bX11_play_0 rfl rfl
theorem dX11_play_21 : decode cX11_play 21 = .ok (.ifCond .eq 7, 3) := dk153 (k := 21) bX11_play_0 rfl (by decide)
theorem bX11_play_24 : bL cX11_play 24 [4, 167, 0, 4, 3, 172] := bL_of (by decide +kernel)
theorem dX11_play_24 : decode cX11_play 24 = .ok (.iconst 1, 1) := dk4 (k := 0) bX11_play_24 rfl
theorem dX11_play_25 : decode cX11_play 25 = .ok (.goto 4, 3) := dk167 (k := 1) bX11_play_24 rfl (by decide)
theorem dX11_play_28 : decode cX11_play 28 = .ok (.iconst 0, 1) := dk3 (k := 4) bX11_play_24 rfl
theorem dX11_play_29 : decode cX11_play 29 = .ok (.ireturn, 1) := dk172 (k := 5) bX11_play_24 rfl
theorem bX11_moves_0 : bL cX11_moves 0 [42, 27, 28, 182, 0, 229, 154, 0, 6, 16, 254, 172, 42, 180, 0, 59, 27, 28, 182, 0, 235, 172] := bL_of (by decide +kernel)
theorem dX11_moves_0 : decode cX11_moves 0 = .ok (.aload_n 0, 1) := dk42 (k := 0) bX11_moves_0 rfl
theorem dX11_moves_1 : decode cX11_moves 1 = .ok (.iload_n 1, 1) := dk27 (k := 1) bX11_moves_0 rfl
theorem dX11_moves_2 : decode cX11_moves 2 = .ok (.iload_n 2, 1) := dk28 (k := 2) bX11_moves_0 rfl
theorem dX11_moves_3 : decode cX11_moves 3 = .ok (.invokevirtual 229, 3) := dk182 (k := 3) bX11_moves_0 rfl rfl
theorem dX11_moves_6 : decode cX11_moves 6 = .ok (.ifCond .ne 6, 3) := dk154 (k := 6) bX11_moves_0 rfl (by decide)
theorem dX11_moves_9 : decode cX11_moves 9 = .ok (.bipush (-2), 2) := dk16 (k := 9) bX11_moves_0 rfl (by decide)
theorem dX11_moves_11 : decode cX11_moves 11 = .ok (.ireturn, 1) := dk172 (k := 11) bX11_moves_0 rfl
theorem dX11_moves_12 : decode cX11_moves 12 = .ok (.aload_n 0, 1) := dk42 (k := 12) bX11_moves_0 rfl
theorem dX11_moves_13 : decode cX11_moves 13 = .ok (.getfield 59, 3) := dk180 (k := 13) bX11_moves_0 rfl rfl
theorem dX11_moves_16 : decode cX11_moves 16 = .ok (.iload_n 1, 1) := dk27 (k := 16) bX11_moves_0 rfl
theorem dX11_moves_17 : decode cX11_moves 17 = .ok (.iload_n 2, 1) := dk28 (k := 17) bX11_moves_0 rfl
theorem dX11_moves_18 : decode cX11_moves 18 = .ok (.invokevirtual 235, 3) := dk182 (k := 18) bX11_moves_0 rfl rfl
theorem dX11_moves_21 : decode cX11_moves 21 = .ok (.ireturn, 1) := dk172 (k := 21) bX11_moves_0 rfl
theorem bX11_round_0 : bL cX11_round 0 [42, 27, 28, 182, 0, 238, 153, 0, 15, 42, 180, 0, 66, 27, 28, 182, 0, 241, 167, 0, 5, 16, 254, 172] := bL_of (by decide +kernel)
theorem dX11_round_0 : decode cX11_round 0 = .ok (.aload_n 0, 1) := dk42 (k := 0) bX11_round_0 rfl
theorem dX11_round_1 : decode cX11_round 1 = .ok (.iload_n 1, 1) := dk27 (k := 1) bX11_round_0 rfl
theorem dX11_round_2 : decode cX11_round 2 = .ok (.iload_n 2, 1) := dk28 (k := 2) bX11_round_0 rfl
theorem dX11_round_3 : decode cX11_round 3 = .ok (.invokevirtual 238, 3) := dk182 (k := 3) bX11_round_0 rfl rfl
theorem dX11_round_6 : decode cX11_round 6 = .ok (.ifCond .eq 15, 3) := dk153 (k := 6) bX11_round_0 rfl (by decide)
theorem dX11_round_9 : decode cX11_round 9 = .ok (.aload_n 0, 1) := dk42 (k := 9) bX11_round_0 rfl
theorem dX11_round_10 : decode cX11_round 10 = .ok (.getfield 66, 3) := dk180 (k := 10) bX11_round_0 rfl rfl
theorem dX11_round_13 : decode cX11_round 13 = .ok (.iload_n 1, 1) := dk27 (k := 13) bX11_round_0 rfl
theorem dX11_round_14 : decode cX11_round 14 = .ok (.iload_n 2, 1) := dk28 (k := 14) bX11_round_0 rfl
theorem dX11_round_15 : decode cX11_round 15 = .ok (.invokevirtual 241, 3) := dk182 (k := 15) bX11_round_0 rfl rfl
theorem dX11_round_18 : decode cX11_round 18 = .ok (.goto 5, 3) := dk167 (k := 18) bX11_round_0 rfl (by decide)
theorem dX11_round_21 : decode cX11_round 21 = .ok (.bipush (-2), 2) := dk16 (k := 21) bX11_round_0 rfl (by decide)
theorem dX11_round_23 : decode cX11_round 23 = .ok (.ireturn, 1) := dk172 (k := 23) bX11_round_0 rfl
theorem bX11_goes_0 : bL cX11_goes 0 [42, 27, 28, 182, 0, 238, 153, 0, 12, 29, 155, 0, 8, 29, 4, 164, 0, 6, 16, 254, 172, 42, 180, 0, 66] := bL_of (by decide +kernel)
theorem dX11_goes_0 : decode cX11_goes 0 = .ok (.aload_n 0, 1) := dk42 (k := 0) bX11_goes_0 rfl
theorem dX11_goes_1 : decode cX11_goes 1 = .ok (.iload_n 1, 1) := dk27 (k := 1) bX11_goes_0 rfl
theorem dX11_goes_2 : decode cX11_goes 2 = .ok (.iload_n 2, 1) := dk28 (k := 2) bX11_goes_0 rfl
theorem dX11_goes_3 : decode cX11_goes 3 = .ok (.invokevirtual 238, 3) := dk182 (k := 3) bX11_goes_0 rfl rfl
theorem dX11_goes_6 : decode cX11_goes 6 = .ok (.ifCond .eq 12, 3) := dk153 (k := 6) bX11_goes_0 rfl (by decide)
theorem dX11_goes_9 : decode cX11_goes 9 = .ok (.iload_n 3, 1) := dk29 (k := 9) bX11_goes_0 rfl
theorem dX11_goes_10 : decode cX11_goes 10 = .ok (.ifCond .lt 8, 3) := dk155 (k := 10) bX11_goes_0 rfl (by decide)
theorem dX11_goes_13 : decode cX11_goes 13 = .ok (.iload_n 3, 1) := dk29 (k := 13) bX11_goes_0 rfl
theorem dX11_goes_14 : decode cX11_goes 14 = .ok (.iconst 1, 1) := dk4 (k := 14) bX11_goes_0 rfl
theorem dX11_goes_15 : decode cX11_goes 15 = .ok (.if_icmp .le 6, 3) := dk164 (k := 15) bX11_goes_0 rfl (by decide)
theorem dX11_goes_18 : decode cX11_goes 18 = .ok (.bipush (-2), 2) := dk16 (k := 18) bX11_goes_0 rfl (by decide)
theorem dX11_goes_20 : decode cX11_goes 20 = .ok (.ireturn, 1) := dk172 (k := 20) bX11_goes_0 rfl
theorem dX11_goes_21 : decode cX11_goes 21 = .ok (.aload_n 0, 1) := dk42 (k := 21) bX11_goes_0 rfl
theorem dX11_goes_22 : decode cX11_goes 22 = .ok (.getfield 66, 3) := dk180 (k := 22) bX11_goes_0 rfl rfl
theorem bX11_goes_25 : bL cX11_goes 25 [27, 28, 182, 0, 241, 2, 160, 0, 5, 2, 172, 29, 154, 0, 13, 42, 180, 0, 66, 180, 0, 244, 167, 0, 10] := bL_of (by decide +kernel)
theorem dX11_goes_25 : decode cX11_goes 25 = .ok (.iload_n 1, 1) := dk27 (k := 0) bX11_goes_25 rfl
theorem dX11_goes_26 : decode cX11_goes 26 = .ok (.iload_n 2, 1) := dk28 (k := 1) bX11_goes_25 rfl
theorem dX11_goes_27 : decode cX11_goes 27 = .ok (.invokevirtual 241, 3) := dk182 (k := 2) bX11_goes_25 rfl rfl
theorem dX11_goes_30 : decode cX11_goes 30 = .ok (.iconst (-1), 1) := dk2 (k := 5) bX11_goes_25 rfl
theorem dX11_goes_31 : decode cX11_goes 31 = .ok (.if_icmp .ne 5, 3) := dk160 (k := 6) bX11_goes_25 rfl (by decide)
theorem dX11_goes_34 : decode cX11_goes 34 = .ok (.iconst (-1), 1) := dk2 (k := 9) bX11_goes_25 rfl
theorem dX11_goes_35 : decode cX11_goes 35 = .ok (.ireturn, 1) := dk172 (k := 10) bX11_goes_25 rfl
theorem dX11_goes_36 : decode cX11_goes 36 = .ok (.iload_n 3, 1) := dk29 (k := 11) bX11_goes_25 rfl
theorem dX11_goes_37 : decode cX11_goes 37 = .ok (.ifCond .ne 13, 3) := dk154 (k := 12) bX11_goes_25 rfl (by decide)
theorem dX11_goes_40 : decode cX11_goes 40 = .ok (.aload_n 0, 1) := dk42 (k := 15) bX11_goes_25 rfl
theorem dX11_goes_41 : decode cX11_goes 41 = .ok (.getfield 66, 3) := dk180 (k := 16) bX11_goes_25 rfl rfl
theorem dX11_goes_44 : decode cX11_goes 44 = .ok (.getfield 244, 3) := dk180 (k := 19) bX11_goes_25 rfl rfl
theorem dX11_goes_47 : decode cX11_goes 47 = .ok (.goto 10, 3) := dk167 (k := 22) bX11_goes_25 rfl (by decide)
theorem bX11_goes_50 : bL cX11_goes 50 [42, 180, 0, 66, 180, 0, 247, 172] := bL_of (by decide +kernel)
theorem dX11_goes_50 : decode cX11_goes 50 = .ok (.aload_n 0, 1) := dk42 (k := 0) bX11_goes_50 rfl
theorem dX11_goes_51 : decode cX11_goes 51 = .ok (.getfield 66, 3) := dk180 (k := 1) bX11_goes_50 rfl rfl
theorem dX11_goes_54 : decode cX11_goes 54 = .ok (.getfield 247, 3) := dk180 (k := 4) bX11_goes_50 rfl rfl
theorem dX11_goes_57 : decode cX11_goes 57 = .ok (.ireturn, 1) := dk172 (k := 7) bX11_goes_50 rfl
theorem bX11_two_0 : bL cX11_two 0 [42, 27, 29, 182, 0, 238, 153, 0, 25, 42, 28, 29, 182, 0, 238, 153, 0, 16, 42, 180, 0, 66, 27, 28] := bL_of (by decide +kernel)
theorem dX11_two_0 : decode cX11_two 0 = .ok (.aload_n 0, 1) := dk42 (k := 0) bX11_two_0 rfl
theorem dX11_two_1 : decode cX11_two 1 = .ok (.iload_n 1, 1) := dk27 (k := 1) bX11_two_0 rfl
theorem dX11_two_2 : decode cX11_two 2 = .ok (.iload_n 3, 1) := dk29 (k := 2) bX11_two_0 rfl
theorem dX11_two_3 : decode cX11_two 3 = .ok (.invokevirtual 238, 3) := dk182 (k := 3) bX11_two_0 rfl rfl
theorem dX11_two_6 : decode cX11_two 6 = .ok (.ifCond .eq 25, 3) := dk153 (k := 6) bX11_two_0 rfl (by decide)
theorem dX11_two_9 : decode cX11_two 9 = .ok (.aload_n 0, 1) := dk42 (k := 9) bX11_two_0 rfl
theorem dX11_two_10 : decode cX11_two 10 = .ok (.iload_n 2, 1) := dk28 (k := 10) bX11_two_0 rfl
theorem dX11_two_11 : decode cX11_two 11 = .ok (.iload_n 3, 1) := dk29 (k := 11) bX11_two_0 rfl
theorem dX11_two_12 : decode cX11_two 12 = .ok (.invokevirtual 238, 3) := dk182 (k := 12) bX11_two_0 rfl rfl
theorem dX11_two_15 : decode cX11_two 15 = .ok (.ifCond .eq 16, 3) := dk153 (k := 15) bX11_two_0 rfl (by decide)
theorem dX11_two_18 : decode cX11_two 18 = .ok (.aload_n 0, 1) := dk42 (k := 18) bX11_two_0 rfl
theorem dX11_two_19 : decode cX11_two 19 = .ok (.getfield 66, 3) := dk180 (k := 19) bX11_two_0 rfl rfl
theorem dX11_two_22 : decode cX11_two 22 = .ok (.iload_n 1, 1) := dk27 (k := 22) bX11_two_0 rfl
theorem dX11_two_23 : decode cX11_two 23 = .ok (.iload_n 2, 1) := dk28 (k := 23) bX11_two_0 rfl
theorem bX11_two_24 : bL cX11_two 24 [29, 182, 0, 250, 167, 0, 5, 16, 254, 172] := bL_of (by decide +kernel)
theorem dX11_two_24 : decode cX11_two 24 = .ok (.iload_n 3, 1) := dk29 (k := 0) bX11_two_24 rfl
theorem dX11_two_25 : decode cX11_two 25 = .ok (.invokevirtual 250, 3) := dk182 (k := 1) bX11_two_24 rfl rfl
theorem dX11_two_28 : decode cX11_two 28 = .ok (.goto 5, 3) := dk167 (k := 4) bX11_two_24 rfl (by decide)
theorem dX11_two_31 : decode cX11_two 31 = .ok (.bipush (-2), 2) := dk16 (k := 7) bX11_two_24 rfl (by decide)
theorem dX11_two_33 : decode cX11_two 33 = .ok (.ireturn, 1) := dk172 (k := 9) bX11_two_24 rfl
theorem bX11_flows_0 : bL cX11_flows 0 [42, 180, 0, 28, 180, 0, 139, 27, 182, 0, 142, 153, 0, 17, 42, 180, 0, 28, 180, 0, 139, 27, 182, 0, 254] := bL_of (by decide +kernel)
theorem dX11_flows_0 : decode cX11_flows 0 = .ok (.aload_n 0, 1) := dk42 (k := 0) bX11_flows_0 rfl
theorem dX11_flows_1 : decode cX11_flows 1 = .ok (.getfield 28, 3) := dk180 (k := 1) bX11_flows_0 rfl rfl
theorem dX11_flows_4 : decode cX11_flows 4 = .ok (.getfield 139, 3) := dk180 (k := 4) bX11_flows_0 rfl rfl
theorem dX11_flows_7 : decode cX11_flows 7 = .ok (.iload_n 1, 1) := dk27 (k := 7) bX11_flows_0 rfl
theorem dX11_flows_8 : decode cX11_flows 8 = .ok (.invokevirtual 142, 3) := dk182 (k := 8) bX11_flows_0 rfl rfl
theorem dX11_flows_11 : decode cX11_flows 11 = .ok (.ifCond .eq 17, 3) := dk153 (k := 11) bX11_flows_0 rfl (by decide)
theorem dX11_flows_14 : decode cX11_flows 14 = .ok (.aload_n 0, 1) := dk42 (k := 14) bX11_flows_0 rfl
theorem dX11_flows_15 : decode cX11_flows 15 = .ok (.getfield 28, 3) := dk180 (k := 15) bX11_flows_0 rfl rfl
theorem dX11_flows_18 : decode cX11_flows 18 = .ok (.getfield 139, 3) := dk180 (k := 18) bX11_flows_0 rfl rfl
theorem dX11_flows_21 : decode cX11_flows 21 = .ok (.iload_n 1, 1) := dk27 (k := 21) bX11_flows_0 rfl
theorem dX11_flows_22 : decode cX11_flows 22 = .ok (.invokevirtual 254, 3) := dk182 (k := 22) bX11_flows_0 rfl rfl
theorem bX11_flows_25 : bL cX11_flows 25 [167, 0, 5, 16, 254, 172] := bL_of (by decide +kernel)
theorem dX11_flows_25 : decode cX11_flows 25 = .ok (.goto 5, 3) := dk167 (k := 0) bX11_flows_25 rfl (by decide)
theorem dX11_flows_28 : decode cX11_flows 28 = .ok (.bipush (-2), 2) := dk16 (k := 3) bX11_flows_25 rfl (by decide)
theorem dX11_flows_30 : decode cX11_flows 30 = .ok (.ireturn, 1) := dk172 (k := 5) bX11_flows_25 rfl
theorem bX11_basin_0 : bL cX11_basin 0 [42, 180, 0, 28, 180, 0, 139, 27, 182, 0, 142, 153, 0, 17, 42, 180, 0, 28, 180, 0, 139, 27, 182, 1, 1] := bL_of (by decide +kernel)
theorem dX11_basin_0 : decode cX11_basin 0 = .ok (.aload_n 0, 1) := dk42 (k := 0) bX11_basin_0 rfl
theorem dX11_basin_1 : decode cX11_basin 1 = .ok (.getfield 28, 3) := dk180 (k := 1) bX11_basin_0 rfl rfl
theorem dX11_basin_4 : decode cX11_basin 4 = .ok (.getfield 139, 3) := dk180 (k := 4) bX11_basin_0 rfl rfl
theorem dX11_basin_7 : decode cX11_basin 7 = .ok (.iload_n 1, 1) := dk27 (k := 7) bX11_basin_0 rfl
theorem dX11_basin_8 : decode cX11_basin 8 = .ok (.invokevirtual 142, 3) := dk182 (k := 8) bX11_basin_0 rfl rfl
theorem dX11_basin_11 : decode cX11_basin 11 = .ok (.ifCond .eq 17, 3) := dk153 (k := 11) bX11_basin_0 rfl (by decide)
theorem dX11_basin_14 : decode cX11_basin 14 = .ok (.aload_n 0, 1) := dk42 (k := 14) bX11_basin_0 rfl
theorem dX11_basin_15 : decode cX11_basin 15 = .ok (.getfield 28, 3) := dk180 (k := 15) bX11_basin_0 rfl rfl
theorem dX11_basin_18 : decode cX11_basin 18 = .ok (.getfield 139, 3) := dk180 (k := 18) bX11_basin_0 rfl rfl
theorem dX11_basin_21 : decode cX11_basin 21 = .ok (.iload_n 1, 1) := dk27 (k := 21) bX11_basin_0 rfl
theorem dX11_basin_22 : decode cX11_basin 22 = .ok (.invokevirtual 257, 3) := dk182 (k := 22) bX11_basin_0 rfl rfl
theorem bX11_basin_25 : bL cX11_basin 25 [167, 0, 5, 16, 254, 172] := bL_of (by decide +kernel)
theorem dX11_basin_25 : decode cX11_basin 25 = .ok (.goto 5, 3) := dk167 (k := 0) bX11_basin_25 rfl (by decide)
theorem dX11_basin_28 : decode cX11_basin 28 = .ok (.bipush (-2), 2) := dk16 (k := 3) bX11_basin_25 rfl (by decide)
theorem dX11_basin_30 : decode cX11_basin 30 = .ok (.ireturn, 1) := dk172 (k := 5) bX11_basin_25 rfl
theorem bX11_cliffs_0 : bL cX11_cliffs 0 [42, 180, 0, 28, 182, 0, 157, 153, 0, 16, 42, 180, 0, 28, 180, 0, 139, 182, 1, 4, 167, 0, 5, 16, 254] := bL_of (by decide +kernel)
theorem dX11_cliffs_0 : decode cX11_cliffs 0 = .ok (.aload_n 0, 1) := dk42 (k := 0) bX11_cliffs_0 rfl
theorem dX11_cliffs_1 : decode cX11_cliffs 1 = .ok (.getfield 28, 3) := dk180 (k := 1) bX11_cliffs_0 rfl rfl
theorem dX11_cliffs_4 : decode cX11_cliffs 4 = .ok (.invokevirtual 157, 3) := dk182 (k := 4) bX11_cliffs_0 rfl rfl
theorem dX11_cliffs_7 : decode cX11_cliffs 7 = .ok (.ifCond .eq 16, 3) := dk153 (k := 7) bX11_cliffs_0 rfl (by decide)
theorem dX11_cliffs_10 : decode cX11_cliffs 10 = .ok (.aload_n 0, 1) := dk42 (k := 10) bX11_cliffs_0 rfl
theorem dX11_cliffs_11 : decode cX11_cliffs 11 = .ok (.getfield 28, 3) := dk180 (k := 11) bX11_cliffs_0 rfl rfl
theorem dX11_cliffs_14 : decode cX11_cliffs 14 = .ok (.getfield 139, 3) := dk180 (k := 14) bX11_cliffs_0 rfl rfl
theorem dX11_cliffs_17 : decode cX11_cliffs 17 = .ok (.invokevirtual 260, 3) := dk182 (k := 17) bX11_cliffs_0 rfl rfl
theorem dX11_cliffs_20 : decode cX11_cliffs 20 = .ok (.goto 5, 3) := dk167 (k := 20) bX11_cliffs_0 rfl (by decide)
theorem dX11_cliffs_23 : decode cX11_cliffs 23 = .ok (.bipush (-2), 2) := dk16 (k := 23) bX11_cliffs_0 rfl (by decide)
theorem bX11_cliffs_25 : bL cX11_cliffs 25 [172] := bL_of (by decide +kernel)
theorem dX11_cliffs_25 : decode cX11_cliffs 25 = .ok (.ireturn, 1) := dk172 (k := 0) bX11_cliffs_25 rfl
theorem bX11_springs_0 : bL cX11_springs 0 [42, 180, 0, 28, 182, 0, 157, 153, 0, 16, 42, 180, 0, 28, 180, 0, 139, 182, 1, 7, 167, 0, 5, 16, 254] := bL_of (by decide +kernel)
theorem dX11_springs_0 : decode cX11_springs 0 = .ok (.aload_n 0, 1) := dk42 (k := 0) bX11_springs_0 rfl
theorem dX11_springs_1 : decode cX11_springs 1 = .ok (.getfield 28, 3) := dk180 (k := 1) bX11_springs_0 rfl rfl
theorem dX11_springs_4 : decode cX11_springs 4 = .ok (.invokevirtual 157, 3) := dk182 (k := 4) bX11_springs_0 rfl rfl
theorem dX11_springs_7 : decode cX11_springs 7 = .ok (.ifCond .eq 16, 3) := dk153 (k := 7) bX11_springs_0 rfl (by decide)
theorem dX11_springs_10 : decode cX11_springs 10 = .ok (.aload_n 0, 1) := dk42 (k := 10) bX11_springs_0 rfl
theorem dX11_springs_11 : decode cX11_springs 11 = .ok (.getfield 28, 3) := dk180 (k := 11) bX11_springs_0 rfl rfl
theorem dX11_springs_14 : decode cX11_springs 14 = .ok (.getfield 139, 3) := dk180 (k := 14) bX11_springs_0 rfl rfl
theorem dX11_springs_17 : decode cX11_springs 17 = .ok (.invokevirtual 263, 3) := dk182 (k := 17) bX11_springs_0 rfl rfl
theorem dX11_springs_20 : decode cX11_springs 20 = .ok (.goto 5, 3) := dk167 (k := 20) bX11_springs_0 rfl (by decide)
theorem dX11_springs_23 : decode cX11_springs 23 = .ok (.bipush (-2), 2) := dk16 (k := 23) bX11_springs_0 rfl (by decide)
theorem bX11_springs_25 : bL cX11_springs 25 [172] := bL_of (by decide +kernel)
theorem dX11_springs_25 : decode cX11_springs 25 = .ok (.ireturn, 1) := dk172 (k := 0) bX11_springs_25 rfl
theorem bX11_sees_0 : bL cX11_sees 0 [42, 180, 0, 28, 180, 0, 139, 27, 182, 0, 142, 153, 0, 17, 42, 180, 0, 28, 180, 0, 139, 27, 182, 1, 10] := bL_of (by decide +kernel)
theorem dX11_sees_0 : decode cX11_sees 0 = .ok (.aload_n 0, 1) := dk42 (k := 0) bX11_sees_0 rfl
theorem dX11_sees_1 : decode cX11_sees 1 = .ok (.getfield 28, 3) := dk180 (k := 1) bX11_sees_0 rfl rfl
theorem dX11_sees_4 : decode cX11_sees 4 = .ok (.getfield 139, 3) := dk180 (k := 4) bX11_sees_0 rfl rfl
theorem dX11_sees_7 : decode cX11_sees 7 = .ok (.iload_n 1, 1) := dk27 (k := 7) bX11_sees_0 rfl
theorem dX11_sees_8 : decode cX11_sees 8 = .ok (.invokevirtual 142, 3) := dk182 (k := 8) bX11_sees_0 rfl rfl
theorem dX11_sees_11 : decode cX11_sees 11 = .ok (.ifCond .eq 17, 3) := dk153 (k := 11) bX11_sees_0 rfl (by decide)
theorem dX11_sees_14 : decode cX11_sees 14 = .ok (.aload_n 0, 1) := dk42 (k := 14) bX11_sees_0 rfl
theorem dX11_sees_15 : decode cX11_sees 15 = .ok (.getfield 28, 3) := dk180 (k := 15) bX11_sees_0 rfl rfl
theorem dX11_sees_18 : decode cX11_sees 18 = .ok (.getfield 139, 3) := dk180 (k := 18) bX11_sees_0 rfl rfl
theorem dX11_sees_21 : decode cX11_sees 21 = .ok (.iload_n 1, 1) := dk27 (k := 21) bX11_sees_0 rfl
theorem dX11_sees_22 : decode cX11_sees 22 = .ok (.invokevirtual 266, 3) := dk182 (k := 22) bX11_sees_0 rfl rfl
theorem bX11_sees_25 : bL cX11_sees 25 [167, 0, 5, 16, 254, 172] := bL_of (by decide +kernel)
theorem dX11_sees_25 : decode cX11_sees 25 = .ok (.goto 5, 3) := dk167 (k := 0) bX11_sees_25 rfl (by decide)
theorem dX11_sees_28 : decode cX11_sees 28 = .ok (.bipush (-2), 2) := dk16 (k := 3) bX11_sees_25 rfl (by decide)
theorem dX11_sees_30 : decode cX11_sees 30 = .ok (.ireturn, 1) := dk172 (k := 5) bX11_sees_25 rfl
theorem bX11_lookout_0 : bL cX11_lookout 0 [42, 180, 0, 28, 182, 0, 157, 153, 0, 16, 42, 180, 0, 28, 180, 0, 139, 182, 1, 13, 167, 0, 5, 16, 254] := bL_of (by decide +kernel)
theorem dX11_lookout_0 : decode cX11_lookout 0 = .ok (.aload_n 0, 1) := dk42 (k := 0) bX11_lookout_0 rfl
theorem dX11_lookout_1 : decode cX11_lookout 1 = .ok (.getfield 28, 3) := dk180 (k := 1) bX11_lookout_0 rfl rfl
theorem dX11_lookout_4 : decode cX11_lookout 4 = .ok (.invokevirtual 157, 3) := dk182 (k := 4) bX11_lookout_0 rfl rfl
theorem dX11_lookout_7 : decode cX11_lookout 7 = .ok (.ifCond .eq 16, 3) := dk153 (k := 7) bX11_lookout_0 rfl (by decide)
theorem dX11_lookout_10 : decode cX11_lookout 10 = .ok (.aload_n 0, 1) := dk42 (k := 10) bX11_lookout_0 rfl
theorem dX11_lookout_11 : decode cX11_lookout 11 = .ok (.getfield 28, 3) := dk180 (k := 11) bX11_lookout_0 rfl rfl
theorem dX11_lookout_14 : decode cX11_lookout 14 = .ok (.getfield 139, 3) := dk180 (k := 14) bX11_lookout_0 rfl rfl
theorem dX11_lookout_17 : decode cX11_lookout 17 = .ok (.invokevirtual 269, 3) := dk182 (k := 17) bX11_lookout_0 rfl rfl
theorem dX11_lookout_20 : decode cX11_lookout 20 = .ok (.goto 5, 3) := dk167 (k := 20) bX11_lookout_0 rfl (by decide)
theorem dX11_lookout_23 : decode cX11_lookout 23 = .ok (.bipush (-2), 2) := dk16 (k := 23) bX11_lookout_0 rfl (by decide)
theorem bX11_lookout_25 : bL cX11_lookout 25 [172] := bL_of (by decide +kernel)
theorem dX11_lookout_25 : decode cX11_lookout 25 = .ok (.ireturn, 1) := dk172 (k := 0) bX11_lookout_25 rfl
theorem bX11_votes_0 : bL cX11_votes 0 [42, 180, 0, 28, 180, 0, 139, 27, 182, 0, 143, 153, 0, 17, 42, 180, 0, 28, 180, 0, 139, 28, 182, 0, 143] := bL_of (by decide +kernel)
theorem dX11_votes_0 : decode cX11_votes 0 = .ok (.aload_n 0, 1) := dk42 (k := 0) bX11_votes_0 rfl
theorem dX11_votes_1 : decode cX11_votes 1 = .ok (.getfield 28, 3) := dk180 (k := 1) bX11_votes_0 rfl rfl
theorem dX11_votes_4 : decode cX11_votes 4 = .ok (.getfield 139, 3) := dk180 (k := 4) bX11_votes_0 rfl rfl
theorem dX11_votes_7 : decode cX11_votes 7 = .ok (.iload_n 1, 1) := dk27 (k := 7) bX11_votes_0 rfl
theorem dX11_votes_8 : decode cX11_votes 8 = .ok (.invokevirtual 143, 3) := dk182 (k := 8) bX11_votes_0 rfl rfl
theorem dX11_votes_11 : decode cX11_votes 11 = .ok (.ifCond .eq 17, 3) := dk153 (k := 11) bX11_votes_0 rfl (by decide)
theorem dX11_votes_14 : decode cX11_votes 14 = .ok (.aload_n 0, 1) := dk42 (k := 14) bX11_votes_0 rfl
theorem dX11_votes_15 : decode cX11_votes 15 = .ok (.getfield 28, 3) := dk180 (k := 15) bX11_votes_0 rfl rfl
theorem dX11_votes_18 : decode cX11_votes 18 = .ok (.getfield 139, 3) := dk180 (k := 18) bX11_votes_0 rfl rfl
theorem dX11_votes_21 : decode cX11_votes 21 = .ok (.iload_n 2, 1) := dk28 (k := 21) bX11_votes_0 rfl
theorem dX11_votes_22 : decode cX11_votes 22 = .ok (.invokevirtual 143, 3) := dk182 (k := 22) bX11_votes_0 rfl rfl
theorem bX11_votes_25 : bL cX11_votes 25 [154, 0, 6, 16, 254, 172, 42, 180, 0, 75, 182, 1, 16, 42, 180, 0, 75, 27, 28, 182, 1, 19, 172] := bL_of (by decide +kernel)
theorem dX11_votes_25 : decode cX11_votes 25 = .ok (.ifCond .ne 6, 3) := dk154 (k := 0) bX11_votes_25 rfl (by decide)
theorem dX11_votes_28 : decode cX11_votes 28 = .ok (.bipush (-2), 2) := dk16 (k := 3) bX11_votes_25 rfl (by decide)
theorem dX11_votes_30 : decode cX11_votes 30 = .ok (.ireturn, 1) := dk172 (k := 5) bX11_votes_25 rfl
theorem dX11_votes_31 : decode cX11_votes 31 = .ok (.aload_n 0, 1) := dk42 (k := 6) bX11_votes_25 rfl
theorem dX11_votes_32 : decode cX11_votes 32 = .ok (.getfield 75, 3) := dk180 (k := 7) bX11_votes_25 rfl rfl
theorem dX11_votes_35 : decode cX11_votes 35 = .ok (.invokevirtual 272, 3) := dk182 (k := 10) bX11_votes_25 rfl rfl
theorem dX11_votes_38 : decode cX11_votes 38 = .ok (.aload_n 0, 1) := dk42 (k := 13) bX11_votes_25 rfl
theorem dX11_votes_39 : decode cX11_votes 39 = .ok (.getfield 75, 3) := dk180 (k := 14) bX11_votes_25 rfl rfl
theorem dX11_votes_42 : decode cX11_votes 42 = .ok (.iload_n 1, 1) := dk27 (k := 17) bX11_votes_25 rfl
theorem dX11_votes_43 : decode cX11_votes 43 = .ok (.iload_n 2, 1) := dk28 (k := 18) bX11_votes_25 rfl
theorem dX11_votes_44 : decode cX11_votes 44 = .ok (.invokevirtual 275, 3) := dk182 (k := 19) bX11_votes_25 rfl rfl
theorem dX11_votes_47 : decode cX11_votes 47 = .ok (.ireturn, 1) := dk172 (k := 22) bX11_votes_25 rfl
theorem bX11_elected_0 : bL cX11_elected 0 [42, 180, 0, 28, 182, 0, 157, 153, 0, 13, 42, 180, 0, 75, 182, 1, 22, 167, 0, 5, 16, 254, 172] := bL_of (by decide +kernel)
theorem dX11_elected_0 : decode cX11_elected 0 = .ok (.aload_n 0, 1) := dk42 (k := 0) bX11_elected_0 rfl
theorem dX11_elected_1 : decode cX11_elected 1 = .ok (.getfield 28, 3) := dk180 (k := 1) bX11_elected_0 rfl rfl
theorem dX11_elected_4 : decode cX11_elected 4 = .ok (.invokevirtual 157, 3) := dk182 (k := 4) bX11_elected_0 rfl rfl
theorem dX11_elected_7 : decode cX11_elected 7 = .ok (.ifCond .eq 13, 3) := dk153 (k := 7) bX11_elected_0 rfl (by decide)
theorem dX11_elected_10 : decode cX11_elected 10 = .ok (.aload_n 0, 1) := dk42 (k := 10) bX11_elected_0 rfl
theorem dX11_elected_11 : decode cX11_elected 11 = .ok (.getfield 75, 3) := dk180 (k := 11) bX11_elected_0 rfl rfl
theorem dX11_elected_14 : decode cX11_elected 14 = .ok (.invokevirtual 278, 3) := dk182 (k := 14) bX11_elected_0 rfl rfl
theorem dX11_elected_17 : decode cX11_elected 17 = .ok (.goto 5, 3) := dk167 (k := 17) bX11_elected_0 rfl (by decide)
theorem dX11_elected_20 : decode cX11_elected 20 = .ok (.bipush (-2), 2) := dk16 (k := 20) bX11_elected_0 rfl (by decide)
theorem dX11_elected_22 : decode cX11_elected 22 = .ok (.ireturn, 1) := dk172 (k := 22) bX11_elected_0 rfl
theorem bX11_best_0 : bL cX11_best 0 [42, 180, 0, 28, 182, 0, 157, 154, 0, 6, 16, 254, 172, 42, 180, 0, 75, 4, 182, 1, 25, 154, 0, 5] := bL_of (by decide +kernel)
theorem dX11_best_0 : decode cX11_best 0 = .ok (.aload_n 0, 1) := dk42 (k := 0) bX11_best_0 rfl
theorem dX11_best_1 : decode cX11_best 1 = .ok (.getfield 28, 3) := dk180 (k := 1) bX11_best_0 rfl rfl
theorem dX11_best_4 : decode cX11_best 4 = .ok (.invokevirtual 157, 3) := dk182 (k := 4) bX11_best_0 rfl rfl
theorem dX11_best_7 : decode cX11_best 7 = .ok (.ifCond .ne 6, 3) := dk154 (k := 7) bX11_best_0 rfl (by decide)
theorem dX11_best_10 : decode cX11_best 10 = .ok (.bipush (-2), 2) := dk16 (k := 10) bX11_best_0 rfl (by decide)
theorem dX11_best_12 : decode cX11_best 12 = .ok (.ireturn, 1) := dk172 (k := 12) bX11_best_0 rfl
theorem dX11_best_13 : decode cX11_best 13 = .ok (.aload_n 0, 1) := dk42 (k := 13) bX11_best_0 rfl
theorem dX11_best_14 : decode cX11_best 14 = .ok (.getfield 75, 3) := dk180 (k := 14) bX11_best_0 rfl rfl
theorem dX11_best_17 : decode cX11_best 17 = .ok (.iconst 1, 1) := dk4 (k := 17) bX11_best_0 rfl
theorem dX11_best_18 : decode cX11_best 18 = .ok (.invokevirtual 281, 3) := dk182 (k := 18) bX11_best_0 rfl rfl
theorem dX11_best_21 : decode cX11_best 21 = .ok (.ifCond .ne 5, 3) := dk154 (k := 21) bX11_best_0 rfl (by decide)
theorem bX11_best_24 : bL cX11_best 24 [2, 172, 42, 180, 0, 75, 4, 182, 1, 28, 87, 42, 180, 0, 75, 3, 182, 1, 31, 172] := bL_of (by decide +kernel)
theorem dX11_best_24 : decode cX11_best 24 = .ok (.iconst (-1), 1) := dk2 (k := 0) bX11_best_24 rfl
theorem dX11_best_25 : decode cX11_best 25 = .ok (.ireturn, 1) := dk172 (k := 1) bX11_best_24 rfl
theorem dX11_best_26 : decode cX11_best 26 = .ok (.aload_n 0, 1) := dk42 (k := 2) bX11_best_24 rfl
theorem dX11_best_27 : decode cX11_best 27 = .ok (.getfield 75, 3) := dk180 (k := 3) bX11_best_24 rfl rfl
theorem dX11_best_30 : decode cX11_best 30 = .ok (.iconst 1, 1) := dk4 (k := 6) bX11_best_24 rfl
theorem dX11_best_31 : decode cX11_best 31 = .ok (.invokevirtual 284, 3) := dk182 (k := 7) bX11_best_24 rfl rfl
theorem dX11_best_34 : decode cX11_best 34 = .ok (.pop, 1) := dk87 (k := 10) bX11_best_24 rfl
theorem dX11_best_35 : decode cX11_best 35 = .ok (.aload_n 0, 1) := dk42 (k := 11) bX11_best_24 rfl
theorem dX11_best_36 : decode cX11_best 36 = .ok (.getfield 75, 3) := dk180 (k := 12) bX11_best_24 rfl rfl
theorem dX11_best_39 : decode cX11_best 39 = .ok (.iconst 0, 1) := dk3 (k := 15) bX11_best_24 rfl
theorem dX11_best_40 : decode cX11_best 40 = .ok (.invokevirtual 287, 3) := dk182 (k := 16) bX11_best_24 rfl rfl
theorem dX11_best_43 : decode cX11_best 43 = .ok (.ireturn, 1) := dk172 (k := 19) bX11_best_24 rfl
theorem bX11_shape_0 : bL cX11_shape 0 [42, 180, 0, 75, 27, 182, 1, 25, 153, 0, 14, 42, 180, 0, 75, 27, 182, 1, 28, 167, 0, 5, 16, 254] := bL_of (by decide +kernel)
theorem dX11_shape_0 : decode cX11_shape 0 = .ok (.aload_n 0, 1) := dk42 (k := 0) bX11_shape_0 rfl
theorem dX11_shape_1 : decode cX11_shape 1 = .ok (.getfield 75, 3) := dk180 (k := 1) bX11_shape_0 rfl rfl
theorem dX11_shape_4 : decode cX11_shape 4 = .ok (.iload_n 1, 1) := dk27 (k := 4) bX11_shape_0 rfl
theorem dX11_shape_5 : decode cX11_shape 5 = .ok (.invokevirtual 281, 3) := dk182 (k := 5) bX11_shape_0 rfl rfl
theorem dX11_shape_8 : decode cX11_shape 8 = .ok (.ifCond .eq 14, 3) := dk153 (k := 8) bX11_shape_0 rfl (by decide)
theorem dX11_shape_11 : decode cX11_shape 11 = .ok (.aload_n 0, 1) := dk42 (k := 11) bX11_shape_0 rfl
theorem dX11_shape_12 : decode cX11_shape 12 = .ok (.getfield 75, 3) := dk180 (k := 12) bX11_shape_0 rfl rfl
theorem dX11_shape_15 : decode cX11_shape 15 = .ok (.iload_n 1, 1) := dk27 (k := 15) bX11_shape_0 rfl
theorem dX11_shape_16 : decode cX11_shape 16 = .ok (.invokevirtual 284, 3) := dk182 (k := 16) bX11_shape_0 rfl rfl
theorem dX11_shape_19 : decode cX11_shape 19 = .ok (.goto 5, 3) := dk167 (k := 19) bX11_shape_0 rfl (by decide)
theorem dX11_shape_22 : decode cX11_shape 22 = .ok (.bipush (-2), 2) := dk16 (k := 22) bX11_shape_0 rfl (by decide)
theorem bX11_shape_24 : bL cX11_shape 24 [172] := bL_of (by decide +kernel)
theorem dX11_shape_24 : decode cX11_shape 24 = .ok (.ireturn, 1) := dk172 (k := 0) bX11_shape_24 rfl
theorem bX11_shaped_0 : bL cX11_shaped 0 [42, 180, 0, 75, 27, 182, 1, 25, 154, 0, 6, 16, 254, 172, 42, 180, 0, 75, 27, 182, 1, 28, 87, 28] := bL_of (by decide +kernel)
theorem dX11_shaped_0 : decode cX11_shaped 0 = .ok (.aload_n 0, 1) := dk42 (k := 0) bX11_shaped_0 rfl
theorem dX11_shaped_1 : decode cX11_shaped 1 = .ok (.getfield 75, 3) := dk180 (k := 1) bX11_shaped_0 rfl rfl
theorem dX11_shaped_4 : decode cX11_shaped 4 = .ok (.iload_n 1, 1) := dk27 (k := 4) bX11_shaped_0 rfl
theorem dX11_shaped_5 : decode cX11_shaped 5 = .ok (.invokevirtual 281, 3) := dk182 (k := 5) bX11_shaped_0 rfl rfl
theorem dX11_shaped_8 : decode cX11_shaped 8 = .ok (.ifCond .ne 6, 3) := dk154 (k := 8) bX11_shaped_0 rfl (by decide)
theorem dX11_shaped_11 : decode cX11_shaped 11 = .ok (.bipush (-2), 2) := dk16 (k := 11) bX11_shaped_0 rfl (by decide)
theorem dX11_shaped_13 : decode cX11_shaped 13 = .ok (.ireturn, 1) := dk172 (k := 13) bX11_shaped_0 rfl
theorem dX11_shaped_14 : decode cX11_shaped 14 = .ok (.aload_n 0, 1) := dk42 (k := 14) bX11_shaped_0 rfl
theorem dX11_shaped_15 : decode cX11_shaped 15 = .ok (.getfield 75, 3) := dk180 (k := 15) bX11_shaped_0 rfl rfl
theorem dX11_shaped_18 : decode cX11_shaped 18 = .ok (.iload_n 1, 1) := dk27 (k := 18) bX11_shaped_0 rfl
theorem dX11_shaped_19 : decode cX11_shaped 19 = .ok (.invokevirtual 284, 3) := dk182 (k := 19) bX11_shaped_0 rfl rfl
theorem dX11_shaped_22 : decode cX11_shaped 22 = .ok (.pop, 1) := dk87 (k := 22) bX11_shaped_0 rfl
theorem dX11_shaped_23 : decode cX11_shaped 23 = .ok (.iload_n 2, 1) := dk28 (k := 23) bX11_shaped_0 rfl
theorem bX11_shaped_24 : bL cX11_shaped 24 [155, 0, 8, 28, 27, 161, 0, 7, 2, 167, 0, 11, 42, 180, 0, 75, 28, 182, 1, 31, 172] := bL_of (by decide +kernel)
theorem dX11_shaped_24 : decode cX11_shaped 24 = .ok (.ifCond .lt 8, 3) := dk155 (k := 0) bX11_shaped_24 rfl (by decide)
theorem dX11_shaped_27 : decode cX11_shaped 27 = .ok (.iload_n 2, 1) := dk28 (k := 3) bX11_shaped_24 rfl
theorem dX11_shaped_28 : decode cX11_shaped 28 = .ok (.iload_n 1, 1) := dk27 (k := 4) bX11_shaped_24 rfl
theorem dX11_shaped_29 : decode cX11_shaped 29 = .ok (.if_icmp .lt 7, 3) := dk161 (k := 5) bX11_shaped_24 rfl (by decide)
theorem dX11_shaped_32 : decode cX11_shaped 32 = .ok (.iconst (-1), 1) := dk2 (k := 8) bX11_shaped_24 rfl
theorem dX11_shaped_33 : decode cX11_shaped 33 = .ok (.goto 11, 3) := dk167 (k := 9) bX11_shaped_24 rfl (by decide)
theorem dX11_shaped_36 : decode cX11_shaped 36 = .ok (.aload_n 0, 1) := dk42 (k := 12) bX11_shaped_24 rfl
theorem dX11_shaped_37 : decode cX11_shaped 37 = .ok (.getfield 75, 3) := dk180 (k := 13) bX11_shaped_24 rfl rfl
theorem dX11_shaped_40 : decode cX11_shaped 40 = .ok (.iload_n 2, 1) := dk28 (k := 16) bX11_shaped_24 rfl
theorem dX11_shaped_41 : decode cX11_shaped 41 = .ok (.invokevirtual 287, 3) := dk182 (k := 17) bX11_shaped_24 rfl rfl
theorem dX11_shaped_44 : decode cX11_shaped 44 = .ok (.ireturn, 1) := dk172 (k := 20) bX11_shaped_24 rfl
theorem bX11_spoil_0 : bL cX11_spoil 0 [42, 180, 0, 28, 182, 0, 157, 153, 0, 13, 42, 180, 0, 75, 182, 1, 34, 167, 0, 5, 16, 254, 172] := bL_of (by decide +kernel)
theorem dX11_spoil_0 : decode cX11_spoil 0 = .ok (.aload_n 0, 1) := dk42 (k := 0) bX11_spoil_0 rfl
theorem dX11_spoil_1 : decode cX11_spoil 1 = .ok (.getfield 28, 3) := dk180 (k := 1) bX11_spoil_0 rfl rfl
theorem dX11_spoil_4 : decode cX11_spoil 4 = .ok (.invokevirtual 157, 3) := dk182 (k := 4) bX11_spoil_0 rfl rfl
theorem dX11_spoil_7 : decode cX11_spoil 7 = .ok (.ifCond .eq 13, 3) := dk153 (k := 7) bX11_spoil_0 rfl (by decide)
theorem dX11_spoil_10 : decode cX11_spoil 10 = .ok (.aload_n 0, 1) := dk42 (k := 10) bX11_spoil_0 rfl
theorem dX11_spoil_11 : decode cX11_spoil 11 = .ok (.getfield 75, 3) := dk180 (k := 11) bX11_spoil_0 rfl rfl
theorem dX11_spoil_14 : decode cX11_spoil 14 = .ok (.invokevirtual 290, 3) := dk182 (k := 14) bX11_spoil_0 rfl rfl
theorem dX11_spoil_17 : decode cX11_spoil 17 = .ok (.goto 5, 3) := dk167 (k := 17) bX11_spoil_0 rfl (by decide)
theorem dX11_spoil_20 : decode cX11_spoil 20 = .ok (.bipush (-2), 2) := dk16 (k := 20) bX11_spoil_0 rfl (by decide)
theorem dX11_spoil_22 : decode cX11_spoil 22 = .ok (.ireturn, 1) := dk172 (k := 22) bX11_spoil_0 rfl
theorem bX11_course_0 : bL cX11_course 0 [42, 27, 182, 1, 37, 153, 0, 14, 42, 180, 0, 82, 27, 182, 1, 40, 167, 0, 5, 16, 254, 172] := bL_of (by decide +kernel)
theorem dX11_course_0 : decode cX11_course 0 = .ok (.aload_n 0, 1) := dk42 (k := 0) bX11_course_0 rfl
theorem dX11_course_1 : decode cX11_course 1 = .ok (.iload_n 1, 1) := dk27 (k := 1) bX11_course_0 rfl
theorem dX11_course_2 : decode cX11_course 2 = .ok (.invokevirtual 293, 3) := dk182 (k := 2) bX11_course_0 rfl rfl
theorem dX11_course_5 : decode cX11_course 5 = .ok (.ifCond .eq 14, 3) := dk153 (k := 5) bX11_course_0 rfl (by decide)
theorem dX11_course_8 : decode cX11_course 8 = .ok (.aload_n 0, 1) := dk42 (k := 8) bX11_course_0 rfl
theorem dX11_course_9 : decode cX11_course 9 = .ok (.getfield 82, 3) := dk180 (k := 9) bX11_course_0 rfl rfl
theorem dX11_course_12 : decode cX11_course 12 = .ok (.iload_n 1, 1) := dk27 (k := 12) bX11_course_0 rfl
theorem dX11_course_13 : decode cX11_course 13 = .ok (.invokevirtual 296, 3) := dk182 (k := 13) bX11_course_0 rfl rfl
theorem dX11_course_16 : decode cX11_course 16 = .ok (.goto 5, 3) := dk167 (k := 16) bX11_course_0 rfl (by decide)
theorem dX11_course_19 : decode cX11_course 19 = .ok (.bipush (-2), 2) := dk16 (k := 19) bX11_course_0 rfl (by decide)
theorem dX11_course_21 : decode cX11_course 21 = .ok (.ireturn, 1) := dk172 (k := 21) bX11_course_0 rfl
theorem bX11_ends_0 : bL cX11_ends 0 [42, 27, 182, 1, 37, 154, 0, 6, 16, 254, 172, 42, 180, 0, 82, 27, 182, 1, 40, 87, 42, 180, 0, 50] := bL_of (by decide +kernel)
theorem dX11_ends_0 : decode cX11_ends 0 = .ok (.aload_n 0, 1) := dk42 (k := 0) bX11_ends_0 rfl
theorem dX11_ends_1 : decode cX11_ends 1 = .ok (.iload_n 1, 1) := dk27 (k := 1) bX11_ends_0 rfl
theorem dX11_ends_2 : decode cX11_ends 2 = .ok (.invokevirtual 293, 3) := dk182 (k := 2) bX11_ends_0 rfl rfl
theorem dX11_ends_5 : decode cX11_ends 5 = .ok (.ifCond .ne 6, 3) := dk154 (k := 5) bX11_ends_0 rfl (by decide)
theorem dX11_ends_8 : decode cX11_ends 8 = .ok (.bipush (-2), 2) := dk16 (k := 8) bX11_ends_0 rfl (by decide)
theorem dX11_ends_10 : decode cX11_ends 10 = .ok (.ireturn, 1) := dk172 (k := 10) bX11_ends_0 rfl
theorem dX11_ends_11 : decode cX11_ends 11 = .ok (.aload_n 0, 1) := dk42 (k := 11) bX11_ends_0 rfl
theorem dX11_ends_12 : decode cX11_ends 12 = .ok (.getfield 82, 3) := dk180 (k := 12) bX11_ends_0 rfl rfl
theorem dX11_ends_15 : decode cX11_ends 15 = .ok (.iload_n 1, 1) := dk27 (k := 15) bX11_ends_0 rfl
theorem dX11_ends_16 : decode cX11_ends 16 = .ok (.invokevirtual 296, 3) := dk182 (k := 16) bX11_ends_0 rfl rfl
theorem dX11_ends_19 : decode cX11_ends 19 = .ok (.pop, 1) := dk87 (k := 19) bX11_ends_0 rfl
theorem dX11_ends_20 : decode cX11_ends 20 = .ok (.aload_n 0, 1) := dk42 (k := 20) bX11_ends_0 rfl
theorem dX11_ends_21 : decode cX11_ends 21 = .ok (.getfield 50, 3) := dk180 (k := 21) bX11_ends_0 rfl rfl
theorem bX11_ends_24 : bL cX11_ends 24 [182, 0, 187, 172] := bL_of (by decide +kernel)
theorem dX11_ends_24 : decode cX11_ends 24 = .ok (.invokevirtual 187, 3) := dk182 (k := 0) bX11_ends_24 rfl rfl
theorem dX11_ends_27 : decode cX11_ends 27 = .ok (.ireturn, 1) := dk172 (k := 3) bX11_ends_24 rfl
theorem bX11_left_0 : bL cX11_left 0 [42, 27, 182, 1, 37, 153, 0, 17, 42, 180, 0, 28, 180, 0, 126, 28, 182, 0, 130, 154, 0, 7, 17, 252, 24] := bL_of (by decide +kernel)
theorem dX11_left_0 : decode cX11_left 0 = .ok (.aload_n 0, 1) := dk42 (k := 0) bX11_left_0 rfl
theorem dX11_left_1 : decode cX11_left 1 = .ok (.iload_n 1, 1) := dk27 (k := 1) bX11_left_0 rfl
theorem dX11_left_2 : decode cX11_left 2 = .ok (.invokevirtual 293, 3) := dk182 (k := 2) bX11_left_0 rfl rfl
theorem dX11_left_5 : decode cX11_left 5 = .ok (.ifCond .eq 17, 3) := dk153 (k := 5) bX11_left_0 rfl (by decide)
theorem dX11_left_8 : decode cX11_left 8 = .ok (.aload_n 0, 1) := dk42 (k := 8) bX11_left_0 rfl
theorem dX11_left_9 : decode cX11_left 9 = .ok (.getfield 28, 3) := dk180 (k := 9) bX11_left_0 rfl rfl
theorem dX11_left_12 : decode cX11_left 12 = .ok (.getfield 126, 3) := dk180 (k := 12) bX11_left_0 rfl rfl
theorem dX11_left_15 : decode cX11_left 15 = .ok (.iload_n 2, 1) := dk28 (k := 15) bX11_left_0 rfl
theorem dX11_left_16 : decode cX11_left 16 = .ok (.invokevirtual 130, 3) := dk182 (k := 16) bX11_left_0 rfl rfl
theorem dX11_left_19 : decode cX11_left 19 = .ok (.ifCond .ne 7, 3) := dk154 (k := 19) bX11_left_0 rfl (by decide)
theorem dX11_left_22 : decode cX11_left 22 = .ok (.sipush (-1000), 3) := dk17 (k := 22) bX11_left_0 rfl (by decide)
theorem bX11_left_25 : bL cX11_left 25 [172, 42, 180, 0, 82, 27, 182, 1, 40, 87, 42, 180, 0, 28, 180, 0, 126, 42, 180, 0, 50, 28, 182, 0, 170] := bL_of (by decide +kernel)
theorem dX11_left_25 : decode cX11_left 25 = .ok (.ireturn, 1) := dk172 (k := 0) bX11_left_25 rfl
theorem dX11_left_26 : decode cX11_left 26 = .ok (.aload_n 0, 1) := dk42 (k := 1) bX11_left_25 rfl
theorem dX11_left_27 : decode cX11_left 27 = .ok (.getfield 82, 3) := dk180 (k := 2) bX11_left_25 rfl rfl
theorem dX11_left_30 : decode cX11_left 30 = .ok (.iload_n 1, 1) := dk27 (k := 5) bX11_left_25 rfl
theorem dX11_left_31 : decode cX11_left 31 = .ok (.invokevirtual 296, 3) := dk182 (k := 6) bX11_left_25 rfl rfl
theorem dX11_left_34 : decode cX11_left 34 = .ok (.pop, 1) := dk87 (k := 9) bX11_left_25 rfl
theorem dX11_left_35 : decode cX11_left 35 = .ok (.aload_n 0, 1) := dk42 (k := 10) bX11_left_25 rfl
theorem dX11_left_36 : decode cX11_left 36 = .ok (.getfield 28, 3) := dk180 (k := 11) bX11_left_25 rfl rfl
theorem dX11_left_39 : decode cX11_left 39 = .ok (.getfield 126, 3) := dk180 (k := 14) bX11_left_25 rfl rfl
theorem dX11_left_42 : decode cX11_left 42 = .ok (.aload_n 0, 1) := dk42 (k := 17) bX11_left_25 rfl
theorem dX11_left_43 : decode cX11_left 43 = .ok (.getfield 50, 3) := dk180 (k := 18) bX11_left_25 rfl rfl
theorem dX11_left_46 : decode cX11_left 46 = .ok (.iload_n 2, 1) := dk28 (k := 21) bX11_left_25 rfl
theorem dX11_left_47 : decode cX11_left 47 = .ok (.invokevirtual 170, 3) := dk182 (k := 22) bX11_left_25 rfl rfl
theorem bX11_left_50 : bL cX11_left 50 [172] := bL_of (by decide +kernel)
theorem dX11_left_50 : decode cX11_left 50 = .ok (.ireturn, 1) := dk172 (k := 0) bX11_left_50 rfl
theorem bX11_law_0 : bL cX11_law 0 [42, 180, 0, 28, 182, 0, 157, 153, 0, 14, 27, 4, 161, 0, 9, 27, 16, 60, 164, 0, 6, 16, 254, 172] := bL_of (by decide +kernel)
theorem dX11_law_0 : decode cX11_law 0 = .ok (.aload_n 0, 1) := dk42 (k := 0) bX11_law_0 rfl
theorem dX11_law_1 : decode cX11_law 1 = .ok (.getfield 28, 3) := dk180 (k := 1) bX11_law_0 rfl rfl
theorem dX11_law_4 : decode cX11_law 4 = .ok (.invokevirtual 157, 3) := dk182 (k := 4) bX11_law_0 rfl rfl
theorem dX11_law_7 : decode cX11_law 7 = .ok (.ifCond .eq 14, 3) := dk153 (k := 7) bX11_law_0 rfl (by decide)
theorem dX11_law_10 : decode cX11_law 10 = .ok (.iload_n 1, 1) := dk27 (k := 10) bX11_law_0 rfl
theorem dX11_law_11 : decode cX11_law 11 = .ok (.iconst 1, 1) := dk4 (k := 11) bX11_law_0 rfl
theorem dX11_law_12 : decode cX11_law 12 = .ok (.if_icmp .lt 9, 3) := dk161 (k := 12) bX11_law_0 rfl (by decide)
theorem dX11_law_15 : decode cX11_law 15 = .ok (.iload_n 1, 1) := dk27 (k := 15) bX11_law_0 rfl
theorem dX11_law_16 : decode cX11_law 16 = .ok (.bipush 60, 2) := dk16 (k := 16) bX11_law_0 rfl (by decide)
theorem dX11_law_18 : decode cX11_law 18 = .ok (.if_icmp .le 6, 3) := dk164 (k := 18) bX11_law_0 rfl (by decide)
theorem dX11_law_21 : decode cX11_law 21 = .ok (.bipush (-2), 2) := dk16 (k := 21) bX11_law_0 rfl (by decide)
theorem dX11_law_23 : decode cX11_law 23 = .ok (.ireturn, 1) := dk172 (k := 23) bX11_law_0 rfl
theorem bX11_law_24 : bL cX11_law 24 [42, 180, 0, 82, 27, 182, 1, 43, 172] := bL_of (by decide +kernel)
theorem dX11_law_24 : decode cX11_law 24 = .ok (.aload_n 0, 1) := dk42 (k := 0) bX11_law_24 rfl
theorem dX11_law_25 : decode cX11_law 25 = .ok (.getfield 82, 3) := dk180 (k := 1) bX11_law_24 rfl rfl
theorem dX11_law_28 : decode cX11_law 28 = .ok (.iload_n 1, 1) := dk27 (k := 4) bX11_law_24 rfl
theorem dX11_law_29 : decode cX11_law 29 = .ok (.invokevirtual 299, 3) := dk182 (k := 5) bX11_law_24 rfl rfl
theorem dX11_law_32 : decode cX11_law 32 = .ok (.ireturn, 1) := dk172 (k := 8) bX11_law_24 rfl
theorem bX11_raisers_0 : bL cX11_raisers 0 [42, 180, 0, 28, 182, 0, 157, 153, 0, 24, 42, 180, 0, 28, 180, 0, 126, 42, 180, 0, 28, 180, 0, 139] := bL_of (by decide +kernel)
theorem dX11_raisers_0 : decode cX11_raisers 0 = .ok (.aload_n 0, 1) := dk42 (k := 0) bX11_raisers_0 rfl
theorem dX11_raisers_1 : decode cX11_raisers 1 = .ok (.getfield 28, 3) := dk180 (k := 1) bX11_raisers_0 rfl rfl
theorem dX11_raisers_4 : decode cX11_raisers 4 = .ok (.invokevirtual 157, 3) := dk182 (k := 4) bX11_raisers_0 rfl rfl
theorem dX11_raisers_7 : decode cX11_raisers 7 = .ok (.ifCond .eq 24, 3) := dk153 (k := 7) bX11_raisers_0 rfl (by decide)
theorem dX11_raisers_10 : decode cX11_raisers 10 = .ok (.aload_n 0, 1) := dk42 (k := 10) bX11_raisers_0 rfl
theorem dX11_raisers_11 : decode cX11_raisers 11 = .ok (.getfield 28, 3) := dk180 (k := 11) bX11_raisers_0 rfl rfl
theorem dX11_raisers_14 : decode cX11_raisers 14 = .ok (.getfield 126, 3) := dk180 (k := 14) bX11_raisers_0 rfl rfl
theorem dX11_raisers_17 : decode cX11_raisers 17 = .ok (.aload_n 0, 1) := dk42 (k := 17) bX11_raisers_0 rfl
theorem dX11_raisers_18 : decode cX11_raisers 18 = .ok (.getfield 28, 3) := dk180 (k := 18) bX11_raisers_0 rfl rfl
theorem dX11_raisers_21 : decode cX11_raisers 21 = .ok (.getfield 139, 3) := dk180 (k := 21) bX11_raisers_0 rfl rfl
theorem bX11_raisers_24 : bL cX11_raisers 24 [4, 182, 0, 203, 167, 0, 5, 16, 254, 172] := bL_of (by decide +kernel)
theorem dX11_raisers_24 : decode cX11_raisers 24 = .ok (.iconst 1, 1) := dk4 (k := 0) bX11_raisers_24 rfl
theorem dX11_raisers_25 : decode cX11_raisers 25 = .ok (.invokevirtual 203, 3) := dk182 (k := 1) bX11_raisers_24 rfl rfl
theorem dX11_raisers_28 : decode cX11_raisers 28 = .ok (.goto 5, 3) := dk167 (k := 4) bX11_raisers_24 rfl (by decide)
theorem dX11_raisers_31 : decode cX11_raisers 31 = .ok (.bipush (-2), 2) := dk16 (k := 7) bX11_raisers_24 rfl (by decide)
theorem dX11_raisers_33 : decode cX11_raisers 33 = .ok (.ireturn, 1) := dk172 (k := 9) bX11_raisers_24 rfl
theorem bX11_old_0 : bL cX11_old 0 [42, 180, 0, 91, 27, 182, 1, 46, 61, 28, 153, 0, 7, 28, 167, 0, 10, 42, 180, 0, 91, 180, 1, 49] := bL_of (by decide +kernel)
theorem dX11_old_0 : decode cX11_old 0 = .ok (.aload_n 0, 1) := dk42 (k := 0) bX11_old_0 rfl
theorem dX11_old_1 : decode cX11_old 1 = .ok (.getfield 91, 3) := dk180 (k := 1) bX11_old_0 rfl rfl
theorem dX11_old_4 : decode cX11_old 4 = .ok (.iload_n 1, 1) := dk27 (k := 4) bX11_old_0 rfl
theorem dX11_old_5 : decode cX11_old 5 = .ok (.invokevirtual 302, 3) := dk182 (k := 5) bX11_old_0 rfl rfl
theorem dX11_old_8 : decode cX11_old 8 = .ok (.istore_n 2, 1) := dk61 (k := 8) bX11_old_0 rfl
theorem dX11_old_9 : decode cX11_old 9 = .ok (.iload_n 2, 1) := dk28 (k := 9) bX11_old_0 rfl
theorem dX11_old_10 : decode cX11_old 10 = .ok (.ifCond .eq 7, 3) := dk153 (k := 10) bX11_old_0 rfl (by decide)
theorem dX11_old_13 : decode cX11_old 13 = .ok (.iload_n 2, 1) := dk28 (k := 13) bX11_old_0 rfl
theorem dX11_old_14 : decode cX11_old 14 = .ok (.goto 10, 3) := dk167 (k := 14) bX11_old_0 rfl (by decide)
theorem dX11_old_17 : decode cX11_old 17 = .ok (.aload_n 0, 1) := dk42 (k := 17) bX11_old_0 rfl
theorem dX11_old_18 : decode cX11_old 18 = .ok (.getfield 91, 3) := dk180 (k := 18) bX11_old_0 rfl rfl
theorem dX11_old_21 : decode cX11_old 21 = .ok (.getfield 305, 3) := dk180 (k := 21) bX11_old_0 rfl rfl
theorem bX11_old_24 : bL cX11_old 24 [172] := bL_of (by decide +kernel)
theorem dX11_old_24 : decode cX11_old 24 = .ok (.ireturn, 1) := dk172 (k := 0) bX11_old_24 rfl
theorem bX11_ask_0 : bL cX11_ask 0 [42, 180, 0, 28, 180, 0, 139, 28, 182, 0, 142, 154, 0, 6, 16, 254, 172, 42, 180, 0, 91, 27, 182, 1, 46] := bL_of (by decide +kernel)
theorem dX11_ask_0 : decode cX11_ask 0 = .ok (.aload_n 0, 1) := dk42 (k := 0) bX11_ask_0 rfl
theorem dX11_ask_1 : decode cX11_ask 1 = .ok (.getfield 28, 3) := dk180 (k := 1) bX11_ask_0 rfl rfl
theorem dX11_ask_4 : decode cX11_ask 4 = .ok (.getfield 139, 3) := dk180 (k := 4) bX11_ask_0 rfl rfl
theorem dX11_ask_7 : decode cX11_ask 7 = .ok (.iload_n 2, 1) := dk28 (k := 7) bX11_ask_0 rfl
theorem dX11_ask_8 : decode cX11_ask 8 = .ok (.invokevirtual 142, 3) := dk182 (k := 8) bX11_ask_0 rfl rfl
theorem dX11_ask_11 : decode cX11_ask 11 = .ok (.ifCond .ne 6, 3) := dk154 (k := 11) bX11_ask_0 rfl (by decide)
theorem dX11_ask_14 : decode cX11_ask 14 = .ok (.bipush (-2), 2) := dk16 (k := 14) bX11_ask_0 rfl (by decide)
theorem dX11_ask_16 : decode cX11_ask 16 = .ok (.ireturn, 1) := dk172 (k := 16) bX11_ask_0 rfl
theorem dX11_ask_17 : decode cX11_ask 17 = .ok (.aload_n 0, 1) := dk42 (k := 17) bX11_ask_0 rfl
theorem dX11_ask_18 : decode cX11_ask 18 = .ok (.getfield 91, 3) := dk180 (k := 18) bX11_ask_0 rfl rfl
theorem dX11_ask_21 : decode cX11_ask 21 = .ok (.iload_n 1, 1) := dk27 (k := 21) bX11_ask_0 rfl
theorem dX11_ask_22 : decode cX11_ask 22 = .ok (.invokevirtual 302, 3) := dk182 (k := 22) bX11_ask_0 rfl rfl
theorem bX11_ask_25 : bL cX11_ask 25 [62, 29, 153, 0, 7, 29, 167, 0, 11, 42, 180, 0, 91, 28, 182, 1, 52, 172] := bL_of (by decide +kernel)
theorem dX11_ask_25 : decode cX11_ask 25 = .ok (.istore_n 3, 1) := dk62 (k := 0) bX11_ask_25 rfl
theorem dX11_ask_26 : decode cX11_ask 26 = .ok (.iload_n 3, 1) := dk29 (k := 1) bX11_ask_25 rfl
theorem dX11_ask_27 : decode cX11_ask 27 = .ok (.ifCond .eq 7, 3) := dk153 (k := 2) bX11_ask_25 rfl (by decide)
theorem dX11_ask_30 : decode cX11_ask 30 = .ok (.iload_n 3, 1) := dk29 (k := 5) bX11_ask_25 rfl
theorem dX11_ask_31 : decode cX11_ask 31 = .ok (.goto 11, 3) := dk167 (k := 6) bX11_ask_25 rfl (by decide)
theorem dX11_ask_34 : decode cX11_ask 34 = .ok (.aload_n 0, 1) := dk42 (k := 9) bX11_ask_25 rfl
theorem dX11_ask_35 : decode cX11_ask 35 = .ok (.getfield 91, 3) := dk180 (k := 10) bX11_ask_25 rfl rfl
theorem dX11_ask_38 : decode cX11_ask 38 = .ok (.iload_n 2, 1) := dk28 (k := 13) bX11_ask_25 rfl
theorem dX11_ask_39 : decode cX11_ask 39 = .ok (.invokevirtual 308, 3) := dk182 (k := 14) bX11_ask_25 rfl rfl
theorem dX11_ask_42 : decode cX11_ask 42 = .ok (.ireturn, 1) := dk172 (k := 17) bX11_ask_25 rfl
theorem bX11_leaves_0 : bL cX11_leaves 0 [42, 180, 0, 28, 180, 0, 139, 28, 182, 0, 142, 154, 0, 6, 16, 254, 172, 42, 180, 0, 91, 27, 182, 1, 46] := bL_of (by decide +kernel)
theorem dX11_leaves_0 : decode cX11_leaves 0 = .ok (.aload_n 0, 1) := dk42 (k := 0) bX11_leaves_0 rfl
theorem dX11_leaves_1 : decode cX11_leaves 1 = .ok (.getfield 28, 3) := dk180 (k := 1) bX11_leaves_0 rfl rfl
theorem dX11_leaves_4 : decode cX11_leaves 4 = .ok (.getfield 139, 3) := dk180 (k := 4) bX11_leaves_0 rfl rfl
theorem dX11_leaves_7 : decode cX11_leaves 7 = .ok (.iload_n 2, 1) := dk28 (k := 7) bX11_leaves_0 rfl
theorem dX11_leaves_8 : decode cX11_leaves 8 = .ok (.invokevirtual 142, 3) := dk182 (k := 8) bX11_leaves_0 rfl rfl
theorem dX11_leaves_11 : decode cX11_leaves 11 = .ok (.ifCond .ne 6, 3) := dk154 (k := 11) bX11_leaves_0 rfl (by decide)
theorem dX11_leaves_14 : decode cX11_leaves 14 = .ok (.bipush (-2), 2) := dk16 (k := 14) bX11_leaves_0 rfl (by decide)
theorem dX11_leaves_16 : decode cX11_leaves 16 = .ok (.ireturn, 1) := dk172 (k := 16) bX11_leaves_0 rfl
theorem dX11_leaves_17 : decode cX11_leaves 17 = .ok (.aload_n 0, 1) := dk42 (k := 17) bX11_leaves_0 rfl
theorem dX11_leaves_18 : decode cX11_leaves 18 = .ok (.getfield 91, 3) := dk180 (k := 18) bX11_leaves_0 rfl rfl
theorem dX11_leaves_21 : decode cX11_leaves 21 = .ok (.iload_n 1, 1) := dk27 (k := 21) bX11_leaves_0 rfl
theorem dX11_leaves_22 : decode cX11_leaves 22 = .ok (.invokevirtual 302, 3) := dk182 (k := 22) bX11_leaves_0 rfl rfl
theorem bX11_leaves_25 : bL cX11_leaves 25 [62, 29, 153, 0, 5, 29, 172, 42, 180, 0, 91, 28, 182, 1, 52, 87, 42, 180, 0, 91, 180, 1, 55, 172] := bL_of (by decide +kernel)
theorem dX11_leaves_25 : decode cX11_leaves 25 = .ok (.istore_n 3, 1) := dk62 (k := 0) bX11_leaves_25 rfl
theorem dX11_leaves_26 : decode cX11_leaves 26 = .ok (.iload_n 3, 1) := dk29 (k := 1) bX11_leaves_25 rfl
theorem dX11_leaves_27 : decode cX11_leaves 27 = .ok (.ifCond .eq 5, 3) := dk153 (k := 2) bX11_leaves_25 rfl (by decide)
theorem dX11_leaves_30 : decode cX11_leaves 30 = .ok (.iload_n 3, 1) := dk29 (k := 5) bX11_leaves_25 rfl
theorem dX11_leaves_31 : decode cX11_leaves 31 = .ok (.ireturn, 1) := dk172 (k := 6) bX11_leaves_25 rfl
theorem dX11_leaves_32 : decode cX11_leaves 32 = .ok (.aload_n 0, 1) := dk42 (k := 7) bX11_leaves_25 rfl
theorem dX11_leaves_33 : decode cX11_leaves 33 = .ok (.getfield 91, 3) := dk180 (k := 8) bX11_leaves_25 rfl rfl
theorem dX11_leaves_36 : decode cX11_leaves 36 = .ok (.iload_n 2, 1) := dk28 (k := 11) bX11_leaves_25 rfl
theorem dX11_leaves_37 : decode cX11_leaves 37 = .ok (.invokevirtual 308, 3) := dk182 (k := 12) bX11_leaves_25 rfl rfl
theorem dX11_leaves_40 : decode cX11_leaves 40 = .ok (.pop, 1) := dk87 (k := 15) bX11_leaves_25 rfl
theorem dX11_leaves_41 : decode cX11_leaves 41 = .ok (.aload_n 0, 1) := dk42 (k := 16) bX11_leaves_25 rfl
theorem dX11_leaves_42 : decode cX11_leaves 42 = .ok (.getfield 91, 3) := dk180 (k := 17) bX11_leaves_25 rfl rfl
theorem dX11_leaves_45 : decode cX11_leaves 45 = .ok (.getfield 311, 3) := dk180 (k := 20) bX11_leaves_25 rfl rfl
theorem dX11_leaves_48 : decode cX11_leaves 48 = .ok (.ireturn, 1) := dk172 (k := 23) bX11_leaves_25 rfl
theorem bX11_doubts_0 : bL cX11_doubts 0 [42, 180, 0, 91, 27, 182, 1, 46, 61, 28, 153, 0, 7, 28, 167, 0, 10, 42, 180, 0, 91, 182, 1, 58] := bL_of (by decide +kernel)
theorem dX11_doubts_0 : decode cX11_doubts 0 = .ok (.aload_n 0, 1) := dk42 (k := 0) bX11_doubts_0 rfl
theorem dX11_doubts_1 : decode cX11_doubts 1 = .ok (.getfield 91, 3) := dk180 (k := 1) bX11_doubts_0 rfl rfl
theorem dX11_doubts_4 : decode cX11_doubts 4 = .ok (.iload_n 1, 1) := dk27 (k := 4) bX11_doubts_0 rfl
theorem dX11_doubts_5 : decode cX11_doubts 5 = .ok (.invokevirtual 302, 3) := dk182 (k := 5) bX11_doubts_0 rfl rfl
theorem dX11_doubts_8 : decode cX11_doubts 8 = .ok (.istore_n 2, 1) := dk61 (k := 8) bX11_doubts_0 rfl
theorem dX11_doubts_9 : decode cX11_doubts 9 = .ok (.iload_n 2, 1) := dk28 (k := 9) bX11_doubts_0 rfl
theorem dX11_doubts_10 : decode cX11_doubts 10 = .ok (.ifCond .eq 7, 3) := dk153 (k := 10) bX11_doubts_0 rfl (by decide)
theorem dX11_doubts_13 : decode cX11_doubts 13 = .ok (.iload_n 2, 1) := dk28 (k := 13) bX11_doubts_0 rfl
theorem dX11_doubts_14 : decode cX11_doubts 14 = .ok (.goto 10, 3) := dk167 (k := 14) bX11_doubts_0 rfl (by decide)
theorem dX11_doubts_17 : decode cX11_doubts 17 = .ok (.aload_n 0, 1) := dk42 (k := 17) bX11_doubts_0 rfl
theorem dX11_doubts_18 : decode cX11_doubts 18 = .ok (.getfield 91, 3) := dk180 (k := 18) bX11_doubts_0 rfl rfl
theorem dX11_doubts_21 : decode cX11_doubts 21 = .ok (.invokevirtual 314, 3) := dk182 (k := 21) bX11_doubts_0 rfl rfl
theorem bX11_doubts_24 : bL cX11_doubts 24 [172] := bL_of (by decide +kernel)
theorem dX11_doubts_24 : decode cX11_doubts 24 = .ok (.ireturn, 1) := dk172 (k := 0) bX11_doubts_24 rfl
theorem bX11_stands_0 : bL cX11_stands 0 [42, 27, 182, 1, 61, 61, 28, 153, 0, 7, 28, 167, 0, 19, 42, 180, 0, 28, 180, 0, 126, 42, 180, 0, 43] := bL_of (by decide +kernel)
theorem dX11_stands_0 : decode cX11_stands 0 = .ok (.aload_n 0, 1) := dk42 (k := 0) bX11_stands_0 rfl
theorem dX11_stands_1 : decode cX11_stands 1 = .ok (.iload_n 1, 1) := dk27 (k := 1) bX11_stands_0 rfl
theorem dX11_stands_2 : decode cX11_stands 2 = .ok (.invokevirtual 317, 3) := dk182 (k := 2) bX11_stands_0 rfl rfl
theorem dX11_stands_5 : decode cX11_stands 5 = .ok (.istore_n 2, 1) := dk61 (k := 5) bX11_stands_0 rfl
theorem dX11_stands_6 : decode cX11_stands 6 = .ok (.iload_n 2, 1) := dk28 (k := 6) bX11_stands_0 rfl
theorem dX11_stands_7 : decode cX11_stands 7 = .ok (.ifCond .eq 7, 3) := dk153 (k := 7) bX11_stands_0 rfl (by decide)
theorem dX11_stands_10 : decode cX11_stands 10 = .ok (.iload_n 2, 1) := dk28 (k := 10) bX11_stands_0 rfl
theorem dX11_stands_11 : decode cX11_stands 11 = .ok (.goto 19, 3) := dk167 (k := 11) bX11_stands_0 rfl (by decide)
theorem dX11_stands_14 : decode cX11_stands 14 = .ok (.aload_n 0, 1) := dk42 (k := 14) bX11_stands_0 rfl
theorem dX11_stands_15 : decode cX11_stands 15 = .ok (.getfield 28, 3) := dk180 (k := 15) bX11_stands_0 rfl rfl
theorem dX11_stands_18 : decode cX11_stands 18 = .ok (.getfield 126, 3) := dk180 (k := 18) bX11_stands_0 rfl rfl
theorem dX11_stands_21 : decode cX11_stands 21 = .ok (.aload_n 0, 1) := dk42 (k := 21) bX11_stands_0 rfl
theorem dX11_stands_22 : decode cX11_stands 22 = .ok (.getfield 43, 3) := dk180 (k := 22) bX11_stands_0 rfl rfl
theorem bX11_stands_25 : bL cX11_stands 25 [27, 3, 182, 1, 64, 172] := bL_of (by decide +kernel)
theorem dX11_stands_25 : decode cX11_stands 25 = .ok (.iload_n 1, 1) := dk27 (k := 0) bX11_stands_25 rfl
theorem dX11_stands_26 : decode cX11_stands 26 = .ok (.iconst 0, 1) := dk3 (k := 1) bX11_stands_25 rfl
theorem dX11_stands_27 : decode cX11_stands 27 = .ok (.invokevirtual 320, 3) := dk182 (k := 2) bX11_stands_25 rfl rfl
theorem dX11_stands_30 : decode cX11_stands 30 = .ok (.ireturn, 1) := dk172 (k := 5) bX11_stands_25 rfl
theorem bX11_struck_0 : bL cX11_struck 0 [28, 155, 0, 8, 28, 4, 164, 0, 6, 16, 254, 172, 42, 27, 182, 1, 61, 62, 29, 153, 0, 7, 29, 167, 0, 21] := bL_of (by decide +kernel)
theorem dX11_struck_0 : decode cX11_struck 0 = .ok (.iload_n 2, 1) := dk28 (k := 0) bX11_struck_0 rfl
theorem dX11_struck_1 : decode cX11_struck 1 = .ok (.ifCond .lt 8, 3) := dk155 (k := 1) bX11_struck_0 rfl (by decide)
theorem dX11_struck_4 : decode cX11_struck 4 = .ok (.iload_n 2, 1) := dk28 (k := 4) bX11_struck_0 rfl
theorem dX11_struck_5 : decode cX11_struck 5 = .ok (.iconst 1, 1) := dk4 (k := 5) bX11_struck_0 rfl
theorem dX11_struck_6 : decode cX11_struck 6 = .ok (.if_icmp .le 6, 3) := dk164 (k := 6) bX11_struck_0 rfl (by decide)
theorem dX11_struck_9 : decode cX11_struck 9 = .ok (.bipush (-2), 2) := dk16 (k := 9) bX11_struck_0 rfl (by decide)
theorem dX11_struck_11 : decode cX11_struck 11 = .ok (.ireturn, 1) := dk172 (k := 11) bX11_struck_0 rfl
theorem dX11_struck_12 : decode cX11_struck 12 = .ok (.aload_n 0, 1) := dk42 (k := 12) bX11_struck_0 rfl
theorem dX11_struck_13 : decode cX11_struck 13 = .ok (.iload_n 1, 1) := dk27 (k := 13) bX11_struck_0 rfl
theorem dX11_struck_14 : decode cX11_struck 14 = .ok (.invokevirtual 317, 3) := dk182 (k := 14) bX11_struck_0 rfl rfl
theorem dX11_struck_17 : decode cX11_struck 17 = .ok (.istore_n 3, 1) := dk62 (k := 17) bX11_struck_0 rfl
theorem dX11_struck_18 : decode cX11_struck 18 = .ok (.iload_n 3, 1) := dk29 (k := 18) bX11_struck_0 rfl
theorem dX11_struck_19 : decode cX11_struck 19 = .ok (.ifCond .eq 7, 3) := dk153 (k := 19) bX11_struck_0 rfl (by decide)
theorem dX11_struck_22 : decode cX11_struck 22 = .ok (.iload_n 3, 1) := dk29 (k := 22) bX11_struck_0 rfl
theorem dX11_struck_23 : decode cX11_struck 23 = .ok (.goto 21, 3) := dk167 (k := 23) bX11_struck_0 rfl (by decide)
theorem bX11_struck_26 : bL cX11_struck 26 [42, 180, 0, 28, 180, 0, 126, 42, 180, 0, 43, 27, 28, 4, 96, 182, 1, 64, 172] := bL_of (by decide +kernel)
theorem dX11_struck_26 : decode cX11_struck 26 = .ok (.aload_n 0, 1) := dk42 (k := 0) bX11_struck_26 rfl
theorem dX11_struck_27 : decode cX11_struck 27 = .ok (.getfield 28, 3) := dk180 (k := 1) bX11_struck_26 rfl rfl
theorem dX11_struck_30 : decode cX11_struck 30 = .ok (.getfield 126, 3) := dk180 (k := 4) bX11_struck_26 rfl rfl
theorem dX11_struck_33 : decode cX11_struck 33 = .ok (.aload_n 0, 1) := dk42 (k := 7) bX11_struck_26 rfl
theorem dX11_struck_34 : decode cX11_struck 34 = .ok (.getfield 43, 3) := dk180 (k := 8) bX11_struck_26 rfl rfl
theorem dX11_struck_37 : decode cX11_struck 37 = .ok (.iload_n 1, 1) := dk27 (k := 11) bX11_struck_26 rfl
theorem dX11_struck_38 : decode cX11_struck 38 = .ok (.iload_n 2, 1) := dk28 (k := 12) bX11_struck_26 rfl
theorem dX11_struck_39 : decode cX11_struck 39 = .ok (.iconst 1, 1) := dk4 (k := 13) bX11_struck_26 rfl
theorem dX11_struck_40 : decode cX11_struck 40 = .ok (.iadd, 1) := dk96 (k := 14) bX11_struck_26 rfl
theorem dX11_struck_41 : decode cX11_struck 41 = .ok (.invokevirtual 320, 3) := dk182 (k := 15) bX11_struck_26 rfl rfl
theorem dX11_struck_44 : decode cX11_struck 44 = .ok (.ireturn, 1) := dk172 (k := 18) bX11_struck_26 rfl
theorem bX11_drawn_0 : bL cX11_drawn 0 [42, 27, 28, 182, 1, 68, 153, 0, 12, 29, 155, 0, 8, 29, 5, 164, 0, 6, 16, 254, 172, 42, 180, 0, 82] := bL_of (by decide +kernel)
theorem dX11_drawn_0 : decode cX11_drawn 0 = .ok (.aload_n 0, 1) := dk42 (k := 0) bX11_drawn_0 rfl
theorem dX11_drawn_1 : decode cX11_drawn 1 = .ok (.iload_n 1, 1) := dk27 (k := 1) bX11_drawn_0 rfl
theorem dX11_drawn_2 : decode cX11_drawn 2 = .ok (.iload_n 2, 1) := dk28 (k := 2) bX11_drawn_0 rfl
theorem dX11_drawn_3 : decode cX11_drawn 3 = .ok (.invokevirtual 324, 3) := dk182 (k := 3) bX11_drawn_0 rfl rfl
theorem dX11_drawn_6 : decode cX11_drawn 6 = .ok (.ifCond .eq 12, 3) := dk153 (k := 6) bX11_drawn_0 rfl (by decide)
theorem dX11_drawn_9 : decode cX11_drawn 9 = .ok (.iload_n 3, 1) := dk29 (k := 9) bX11_drawn_0 rfl
theorem dX11_drawn_10 : decode cX11_drawn 10 = .ok (.ifCond .lt 8, 3) := dk155 (k := 10) bX11_drawn_0 rfl (by decide)
theorem dX11_drawn_13 : decode cX11_drawn 13 = .ok (.iload_n 3, 1) := dk29 (k := 13) bX11_drawn_0 rfl
theorem dX11_drawn_14 : decode cX11_drawn 14 = .ok (.iconst 2, 1) := dk5 (k := 14) bX11_drawn_0 rfl
theorem dX11_drawn_15 : decode cX11_drawn 15 = .ok (.if_icmp .le 6, 3) := dk164 (k := 15) bX11_drawn_0 rfl (by decide)
theorem dX11_drawn_18 : decode cX11_drawn 18 = .ok (.bipush (-2), 2) := dk16 (k := 18) bX11_drawn_0 rfl (by decide)
theorem dX11_drawn_20 : decode cX11_drawn 20 = .ok (.ireturn, 1) := dk172 (k := 20) bX11_drawn_0 rfl
theorem dX11_drawn_21 : decode cX11_drawn 21 = .ok (.aload_n 0, 1) := dk42 (k := 21) bX11_drawn_0 rfl
theorem dX11_drawn_22 : decode cX11_drawn 22 = .ok (.getfield 82, 3) := dk180 (k := 22) bX11_drawn_0 rfl rfl
theorem bX11_drawn_25 : bL cX11_drawn 25 [27, 28, 16, 40, 182, 1, 71, 54, 4, 29, 154, 0, 6, 21, 4, 172, 29, 4, 160, 0, 13, 42, 180, 0, 50] := bL_of (by decide +kernel)
theorem dX11_drawn_25 : decode cX11_drawn 25 = .ok (.iload_n 1, 1) := dk27 (k := 0) bX11_drawn_25 rfl
theorem dX11_drawn_26 : decode cX11_drawn 26 = .ok (.iload_n 2, 1) := dk28 (k := 1) bX11_drawn_25 rfl
theorem dX11_drawn_27 : decode cX11_drawn 27 = .ok (.bipush 40, 2) := dk16 (k := 2) bX11_drawn_25 rfl (by decide)
theorem dX11_drawn_29 : decode cX11_drawn 29 = .ok (.invokevirtual 327, 3) := dk182 (k := 4) bX11_drawn_25 rfl rfl
theorem dX11_drawn_32 : decode cX11_drawn 32 = .ok (.istore 4, 2) := dk54 (k := 7) bX11_drawn_25 rfl rfl
theorem dX11_drawn_34 : decode cX11_drawn 34 = .ok (.iload_n 3, 1) := dk29 (k := 9) bX11_drawn_25 rfl
theorem dX11_drawn_35 : decode cX11_drawn 35 = .ok (.ifCond .ne 6, 3) := dk154 (k := 10) bX11_drawn_25 rfl (by decide)
theorem dX11_drawn_38 : decode cX11_drawn 38 = .ok (.iload 4, 2) := dk21 (k := 13) bX11_drawn_25 rfl rfl
theorem dX11_drawn_40 : decode cX11_drawn 40 = .ok (.ireturn, 1) := dk172 (k := 15) bX11_drawn_25 rfl
theorem dX11_drawn_41 : decode cX11_drawn 41 = .ok (.iload_n 3, 1) := dk29 (k := 16) bX11_drawn_25 rfl
theorem dX11_drawn_42 : decode cX11_drawn 42 = .ok (.iconst 1, 1) := dk4 (k := 17) bX11_drawn_25 rfl
theorem dX11_drawn_43 : decode cX11_drawn 43 = .ok (.if_icmp .ne 13, 3) := dk160 (k := 18) bX11_drawn_25 rfl (by decide)
theorem dX11_drawn_46 : decode cX11_drawn 46 = .ok (.aload_n 0, 1) := dk42 (k := 21) bX11_drawn_25 rfl
theorem dX11_drawn_47 : decode cX11_drawn 47 = .ok (.getfield 50, 3) := dk180 (k := 22) bX11_drawn_25 rfl rfl
theorem bX11_drawn_50 : bL cX11_drawn 50 [182, 0, 187, 167, 0, 17, 42, 180, 0, 28, 180, 0, 126, 42, 180, 0, 50, 182, 0, 180, 172] := bL_of (by decide +kernel)
theorem dX11_drawn_50 : decode cX11_drawn 50 = .ok (.invokevirtual 187, 3) := dk182 (k := 0) bX11_drawn_50 rfl rfl
theorem dX11_drawn_53 : decode cX11_drawn 53 = .ok (.goto 17, 3) := dk167 (k := 3) bX11_drawn_50 rfl (by decide)
theorem dX11_drawn_56 : decode cX11_drawn 56 = .ok (.aload_n 0, 1) := dk42 (k := 6) bX11_drawn_50 rfl
theorem dX11_drawn_57 : decode cX11_drawn 57 = .ok (.getfield 28, 3) := dk180 (k := 7) bX11_drawn_50 rfl rfl
theorem dX11_drawn_60 : decode cX11_drawn 60 = .ok (.getfield 126, 3) := dk180 (k := 10) bX11_drawn_50 rfl rfl
theorem dX11_drawn_63 : decode cX11_drawn 63 = .ok (.aload_n 0, 1) := dk42 (k := 13) bX11_drawn_50 rfl
theorem dX11_drawn_64 : decode cX11_drawn 64 = .ok (.getfield 50, 3) := dk180 (k := 14) bX11_drawn_50 rfl rfl
theorem dX11_drawn_67 : decode cX11_drawn 67 = .ok (.invokevirtual 180, 3) := dk182 (k := 17) bX11_drawn_50 rfl rfl
theorem dX11_drawn_70 : decode cX11_drawn 70 = .ok (.ireturn, 1) := dk172 (k := 20) bX11_drawn_50 rfl
theorem bX11_luck_0 : bL cX11_luck 0 [42, 27, 29, 182, 1, 68, 153, 0, 14, 28, 4, 161, 0, 9, 28, 16, 20, 164, 0, 6, 16, 254, 172, 3] := bL_of (by decide +kernel)
theorem dX11_luck_0 : decode cX11_luck 0 = .ok (.aload_n 0, 1) := dk42 (k := 0) bX11_luck_0 rfl
theorem dX11_luck_1 : decode cX11_luck 1 = .ok (.iload_n 1, 1) := dk27 (k := 1) bX11_luck_0 rfl
theorem dX11_luck_2 : decode cX11_luck 2 = .ok (.iload_n 3, 1) := dk29 (k := 2) bX11_luck_0 rfl
theorem dX11_luck_3 : decode cX11_luck 3 = .ok (.invokevirtual 324, 3) := dk182 (k := 3) bX11_luck_0 rfl rfl
theorem dX11_luck_6 : decode cX11_luck 6 = .ok (.ifCond .eq 14, 3) := dk153 (k := 6) bX11_luck_0 rfl (by decide)
theorem dX11_luck_9 : decode cX11_luck 9 = .ok (.iload_n 2, 1) := dk28 (k := 9) bX11_luck_0 rfl
theorem dX11_luck_10 : decode cX11_luck 10 = .ok (.iconst 1, 1) := dk4 (k := 10) bX11_luck_0 rfl
theorem dX11_luck_11 : decode cX11_luck 11 = .ok (.if_icmp .lt 9, 3) := dk161 (k := 11) bX11_luck_0 rfl (by decide)
theorem dX11_luck_14 : decode cX11_luck 14 = .ok (.iload_n 2, 1) := dk28 (k := 14) bX11_luck_0 rfl
theorem dX11_luck_15 : decode cX11_luck 15 = .ok (.bipush 20, 2) := dk16 (k := 15) bX11_luck_0 rfl (by decide)
theorem dX11_luck_17 : decode cX11_luck 17 = .ok (.if_icmp .le 6, 3) := dk164 (k := 17) bX11_luck_0 rfl (by decide)
theorem dX11_luck_20 : decode cX11_luck 20 = .ok (.bipush (-2), 2) := dk16 (k := 20) bX11_luck_0 rfl (by decide)
theorem dX11_luck_22 : decode cX11_luck 22 = .ok (.ireturn, 1) := dk172 (k := 22) bX11_luck_0 rfl
theorem dX11_luck_23 : decode cX11_luck 23 = .ok (.iconst 0, 1) := dk3 (k := 23) bX11_luck_0 rfl
theorem bX11_luck_24 : bL cX11_luck 24 [54, 4, 3, 54, 5, 21, 5, 28, 162, 0, 28, 42, 180, 0, 82, 27, 21, 5, 96, 29, 4, 182, 1, 71] := bL_of (by decide +kernel)
theorem dX11_luck_24 : decode cX11_luck 24 = .ok (.istore 4, 2) := dk54 (k := 0) bX11_luck_24 rfl rfl
theorem dX11_luck_26 : decode cX11_luck 26 = .ok (.iconst 0, 1) := dk3 (k := 2) bX11_luck_24 rfl
theorem dX11_luck_27 : decode cX11_luck 27 = .ok (.istore 5, 2) := dk54 (k := 3) bX11_luck_24 rfl rfl
theorem dX11_luck_29 : decode cX11_luck 29 = .ok (.iload 5, 2) := dk21 (k := 5) bX11_luck_24 rfl rfl
theorem dX11_luck_31 : decode cX11_luck 31 = .ok (.iload_n 2, 1) := dk28 (k := 7) bX11_luck_24 rfl
theorem dX11_luck_32 : decode cX11_luck 32 = .ok (.if_icmp .ge 28, 3) := dk162 (k := 8) bX11_luck_24 rfl (by decide)
theorem dX11_luck_35 : decode cX11_luck 35 = .ok (.aload_n 0, 1) := dk42 (k := 11) bX11_luck_24 rfl
theorem dX11_luck_36 : decode cX11_luck 36 = .ok (.getfield 82, 3) := dk180 (k := 12) bX11_luck_24 rfl rfl
theorem dX11_luck_39 : decode cX11_luck 39 = .ok (.iload_n 1, 1) := dk27 (k := 15) bX11_luck_24 rfl
theorem dX11_luck_40 : decode cX11_luck 40 = .ok (.iload 5, 2) := dk21 (k := 16) bX11_luck_24 rfl rfl
theorem dX11_luck_42 : decode cX11_luck 42 = .ok (.iadd, 1) := dk96 (k := 18) bX11_luck_24 rfl
theorem dX11_luck_43 : decode cX11_luck 43 = .ok (.iload_n 3, 1) := dk29 (k := 19) bX11_luck_24 rfl
theorem dX11_luck_44 : decode cX11_luck 44 = .ok (.iconst 1, 1) := dk4 (k := 20) bX11_luck_24 rfl
theorem dX11_luck_45 : decode cX11_luck 45 = .ok (.invokevirtual 327, 3) := dk182 (k := 21) bX11_luck_24 rfl rfl
theorem bX11_luck_48 : bL cX11_luck 48 [158, 0, 6, 132, 4, 1, 132, 5, 1, 167, 255, 228, 21, 4, 172] := bL_of (by decide +kernel)
theorem dX11_luck_48 : decode cX11_luck 48 = .ok (.ifCond .le 6, 3) := dk158 (k := 0) bX11_luck_48 rfl (by decide)
theorem dX11_luck_51 : decode cX11_luck 51 = .ok (.iinc 4 1, 3) := dk132 (k := 3) bX11_luck_48 rfl rfl (by decide)
theorem dX11_luck_54 : decode cX11_luck 54 = .ok (.iinc 5 1, 3) := dk132 (k := 6) bX11_luck_48 rfl rfl (by decide)
theorem dX11_luck_57 : decode cX11_luck 57 = .ok (.goto (-28), 3) := dk167 (k := 9) bX11_luck_48 rfl (by decide)
theorem dX11_luck_60 : decode cX11_luck 60 = .ok (.iload 4, 2) := dk21 (k := 12) bX11_luck_48 rfl rfl
theorem dX11_luck_62 : decode cX11_luck 62 = .ok (.ireturn, 1) := dk172 (k := 14) bX11_luck_48 rfl
theorem bX11_tell_0 : bL cX11_tell 0 [42, 27, 182, 1, 37, 154, 0, 6, 16, 254, 172, 42, 180, 0, 28, 180, 0, 200, 158, 0, 6, 16, 251, 172] := bL_of (by decide +kernel)
theorem dX11_tell_0 : decode cX11_tell 0 = .ok (.aload_n 0, 1) := dk42 (k := 0) bX11_tell_0 rfl
theorem dX11_tell_1 : decode cX11_tell 1 = .ok (.iload_n 1, 1) := dk27 (k := 1) bX11_tell_0 rfl
theorem dX11_tell_2 : decode cX11_tell 2 = .ok (.invokevirtual 293, 3) := dk182 (k := 2) bX11_tell_0 rfl rfl
theorem dX11_tell_5 : decode cX11_tell 5 = .ok (.ifCond .ne 6, 3) := dk154 (k := 5) bX11_tell_0 rfl (by decide)
theorem dX11_tell_8 : decode cX11_tell 8 = .ok (.bipush (-2), 2) := dk16 (k := 8) bX11_tell_0 rfl (by decide)
theorem dX11_tell_10 : decode cX11_tell 10 = .ok (.ireturn, 1) := dk172 (k := 10) bX11_tell_0 rfl
theorem dX11_tell_11 : decode cX11_tell 11 = .ok (.aload_n 0, 1) := dk42 (k := 11) bX11_tell_0 rfl
theorem dX11_tell_12 : decode cX11_tell 12 = .ok (.getfield 28, 3) := dk180 (k := 12) bX11_tell_0 rfl rfl
theorem dX11_tell_15 : decode cX11_tell 15 = .ok (.getfield 200, 3) := dk180 (k := 15) bX11_tell_0 rfl rfl
theorem dX11_tell_18 : decode cX11_tell 18 = .ok (.ifCond .le 6, 3) := dk158 (k := 18) bX11_tell_0 rfl (by decide)
theorem dX11_tell_21 : decode cX11_tell 21 = .ok (.bipush (-5), 2) := dk16 (k := 21) bX11_tell_0 rfl (by decide)
theorem dX11_tell_23 : decode cX11_tell 23 = .ok (.ireturn, 1) := dk172 (k := 23) bX11_tell_0 rfl
theorem bX11_tell_24 : bL cX11_tell 24 [42, 180, 0, 28, 180, 1, 74, 61, 42, 180, 0, 28, 27, 181, 1, 74, 28, 172] := bL_of (by decide +kernel)
theorem dX11_tell_24 : decode cX11_tell 24 = .ok (.aload_n 0, 1) := dk42 (k := 0) bX11_tell_24 rfl
theorem dX11_tell_25 : decode cX11_tell 25 = .ok (.getfield 28, 3) := dk180 (k := 1) bX11_tell_24 rfl rfl
theorem dX11_tell_28 : decode cX11_tell 28 = .ok (.getfield 330, 3) := dk180 (k := 4) bX11_tell_24 rfl rfl
theorem dX11_tell_31 : decode cX11_tell 31 = .ok (.istore_n 2, 1) := dk61 (k := 7) bX11_tell_24 rfl
theorem dX11_tell_32 : decode cX11_tell 32 = .ok (.aload_n 0, 1) := dk42 (k := 8) bX11_tell_24 rfl
theorem dX11_tell_33 : decode cX11_tell 33 = .ok (.getfield 28, 3) := dk180 (k := 9) bX11_tell_24 rfl rfl
theorem dX11_tell_36 : decode cX11_tell 36 = .ok (.iload_n 1, 1) := dk27 (k := 12) bX11_tell_24 rfl
theorem dX11_tell_37 : decode cX11_tell 37 = .ok (.putfield 330, 3) := dk181 (k := 13) bX11_tell_24 rfl rfl
theorem dX11_tell_40 : decode cX11_tell 40 = .ok (.iload_n 2, 1) := dk28 (k := 16) bX11_tell_24 rfl
theorem dX11_tell_41 : decode cX11_tell 41 = .ok (.ireturn, 1) := dk172 (k := 17) bX11_tell_24 rfl
theorem bX11_likes_0 : bL cX11_likes 0 [42, 180, 0, 28, 180, 0, 126, 27, 182, 0, 130, 153, 0, 22, 28, 155, 0, 18, 28, 5, 163, 0, 13, 29] := bL_of (by decide +kernel)
theorem dX11_likes_0 : decode cX11_likes 0 = .ok (.aload_n 0, 1) := dk42 (k := 0) bX11_likes_0 rfl
theorem dX11_likes_1 : decode cX11_likes 1 = .ok (.getfield 28, 3) := dk180 (k := 1) bX11_likes_0 rfl rfl
theorem dX11_likes_4 : decode cX11_likes 4 = .ok (.getfield 126, 3) := dk180 (k := 4) bX11_likes_0 rfl rfl
theorem dX11_likes_7 : decode cX11_likes 7 = .ok (.iload_n 1, 1) := dk27 (k := 7) bX11_likes_0 rfl
theorem dX11_likes_8 : decode cX11_likes 8 = .ok (.invokevirtual 130, 3) := dk182 (k := 8) bX11_likes_0 rfl rfl
theorem dX11_likes_11 : decode cX11_likes 11 = .ok (.ifCond .eq 22, 3) := dk153 (k := 11) bX11_likes_0 rfl (by decide)
theorem dX11_likes_14 : decode cX11_likes 14 = .ok (.iload_n 2, 1) := dk28 (k := 14) bX11_likes_0 rfl
theorem dX11_likes_15 : decode cX11_likes 15 = .ok (.ifCond .lt 18, 3) := dk155 (k := 15) bX11_likes_0 rfl (by decide)
theorem dX11_likes_18 : decode cX11_likes 18 = .ok (.iload_n 2, 1) := dk28 (k := 18) bX11_likes_0 rfl
theorem dX11_likes_19 : decode cX11_likes 19 = .ok (.iconst 2, 1) := dk5 (k := 19) bX11_likes_0 rfl
theorem dX11_likes_20 : decode cX11_likes 20 = .ok (.if_icmp .gt 13, 3) := dk163 (k := 20) bX11_likes_0 rfl (by decide)
theorem dX11_likes_23 : decode cX11_likes 23 = .ok (.iload_n 3, 1) := dk29 (k := 23) bX11_likes_0 rfl
theorem bX11_likes_24 : bL cX11_likes 24 [155, 0, 9, 29, 16, 9, 164, 0, 6, 16, 254, 172, 42, 180, 0, 28, 180, 0, 200, 158, 0, 6, 16, 251] := bL_of (by decide +kernel)
theorem dX11_likes_24 : decode cX11_likes 24 = .ok (.ifCond .lt 9, 3) := dk155 (k := 0) bX11_likes_24 rfl (by decide)
theorem dX11_likes_27 : decode cX11_likes 27 = .ok (.iload_n 3, 1) := dk29 (k := 3) bX11_likes_24 rfl
theorem dX11_likes_28 : decode cX11_likes 28 = .ok (.bipush 9, 2) := dk16 (k := 4) bX11_likes_24 rfl (by decide)
theorem dX11_likes_30 : decode cX11_likes 30 = .ok (.if_icmp .le 6, 3) := dk164 (k := 6) bX11_likes_24 rfl (by decide)
theorem dX11_likes_33 : decode cX11_likes 33 = .ok (.bipush (-2), 2) := dk16 (k := 9) bX11_likes_24 rfl (by decide)
theorem dX11_likes_35 : decode cX11_likes 35 = .ok (.ireturn, 1) := dk172 (k := 11) bX11_likes_24 rfl
theorem dX11_likes_36 : decode cX11_likes 36 = .ok (.aload_n 0, 1) := dk42 (k := 12) bX11_likes_24 rfl
theorem dX11_likes_37 : decode cX11_likes 37 = .ok (.getfield 28, 3) := dk180 (k := 13) bX11_likes_24 rfl rfl
theorem dX11_likes_40 : decode cX11_likes 40 = .ok (.getfield 200, 3) := dk180 (k := 16) bX11_likes_24 rfl rfl
theorem dX11_likes_43 : decode cX11_likes 43 = .ok (.ifCond .le 6, 3) := dk158 (k := 19) bX11_likes_24 rfl (by decide)
theorem dX11_likes_46 : decode cX11_likes 46 = .ok (.bipush (-5), 2) := dk16 (k := 22) bX11_likes_24 rfl (by decide)
theorem bX11_likes_48 : bL cX11_likes 48 [172, 42, 180, 0, 28, 180, 0, 126, 27, 5, 28, 96, 182, 0, 135, 54, 4, 42, 180, 0, 28, 180, 0, 126] := bL_of (by decide +kernel)
theorem dX11_likes_48 : decode cX11_likes 48 = .ok (.ireturn, 1) := dk172 (k := 0) bX11_likes_48 rfl
theorem dX11_likes_49 : decode cX11_likes 49 = .ok (.aload_n 0, 1) := dk42 (k := 1) bX11_likes_48 rfl
theorem dX11_likes_50 : decode cX11_likes 50 = .ok (.getfield 28, 3) := dk180 (k := 2) bX11_likes_48 rfl rfl
theorem dX11_likes_53 : decode cX11_likes 53 = .ok (.getfield 126, 3) := dk180 (k := 5) bX11_likes_48 rfl rfl
theorem dX11_likes_56 : decode cX11_likes 56 = .ok (.iload_n 1, 1) := dk27 (k := 8) bX11_likes_48 rfl
theorem dX11_likes_57 : decode cX11_likes 57 = .ok (.iconst 2, 1) := dk5 (k := 9) bX11_likes_48 rfl
theorem dX11_likes_58 : decode cX11_likes 58 = .ok (.iload_n 2, 1) := dk28 (k := 10) bX11_likes_48 rfl
theorem dX11_likes_59 : decode cX11_likes 59 = .ok (.iadd, 1) := dk96 (k := 11) bX11_likes_48 rfl
theorem dX11_likes_60 : decode cX11_likes 60 = .ok (.invokevirtual 135, 3) := dk182 (k := 12) bX11_likes_48 rfl rfl
theorem dX11_likes_63 : decode cX11_likes 63 = .ok (.istore 4, 2) := dk54 (k := 15) bX11_likes_48 rfl rfl
theorem dX11_likes_65 : decode cX11_likes 65 = .ok (.aload_n 0, 1) := dk42 (k := 17) bX11_likes_48 rfl
theorem dX11_likes_66 : decode cX11_likes 66 = .ok (.getfield 28, 3) := dk180 (k := 18) bX11_likes_48 rfl rfl
theorem dX11_likes_69 : decode cX11_likes 69 = .ok (.getfield 126, 3) := dk180 (k := 21) bX11_likes_48 rfl rfl
theorem bX11_likes_72 : bL cX11_likes 72 [27, 5, 28, 96, 29, 182, 1, 77, 21, 4, 172] := bL_of (by decide +kernel)
theorem dX11_likes_72 : decode cX11_likes 72 = .ok (.iload_n 1, 1) := dk27 (k := 0) bX11_likes_72 rfl
theorem dX11_likes_73 : decode cX11_likes 73 = .ok (.iconst 2, 1) := dk5 (k := 1) bX11_likes_72 rfl
theorem dX11_likes_74 : decode cX11_likes 74 = .ok (.iload_n 2, 1) := dk28 (k := 2) bX11_likes_72 rfl
theorem dX11_likes_75 : decode cX11_likes 75 = .ok (.iadd, 1) := dk96 (k := 3) bX11_likes_72 rfl
theorem dX11_likes_76 : decode cX11_likes 76 = .ok (.iload_n 3, 1) := dk29 (k := 4) bX11_likes_72 rfl
theorem dX11_likes_77 : decode cX11_likes 77 = .ok (.invokevirtual 333, 3) := dk182 (k := 5) bX11_likes_72 rfl rfl
theorem dX11_likes_80 : decode cX11_likes 80 = .ok (.iload 4, 2) := dk21 (k := 8) bX11_likes_72 rfl rfl
theorem dX11_likes_82 : decode cX11_likes 82 = .ok (.ireturn, 1) := dk172 (k := 10) bX11_likes_72 rfl
theorem bX11_count_0 : bL cX11_count 0 [27] := bL_of (by decide +kernel)
theorem dX11_count_0 : decode cX11_count 0 = .ok (.iload_n 1, 1) := dk27 (k := 0) bX11_count_0 rfl
theorem dX11_count_1 : decode cX11_count 1 = .ok (.tableswitch 147 0 9 #[55, 66, 77, 88, 99, 107, 115, 123, 131, 139], 55) := by decide +kernel
theorem bX11_count_56 : bL cX11_count 56 [42, 180, 0, 28, 180, 0, 139, 180, 1, 81, 172, 42, 180, 0, 28, 180, 0, 126, 180, 1, 84, 172, 42, 180, 0, 28] := bL_of (by decide +kernel)
theorem dX11_count_56 : decode cX11_count 56 = .ok (.aload_n 0, 1) := dk42 (k := 0) bX11_count_56 rfl
theorem dX11_count_57 : decode cX11_count 57 = .ok (.getfield 28, 3) := dk180 (k := 1) bX11_count_56 rfl rfl
theorem dX11_count_60 : decode cX11_count 60 = .ok (.getfield 139, 3) := dk180 (k := 4) bX11_count_56 rfl rfl
theorem dX11_count_63 : decode cX11_count 63 = .ok (.getfield 337, 3) := dk180 (k := 7) bX11_count_56 rfl rfl
theorem dX11_count_66 : decode cX11_count 66 = .ok (.ireturn, 1) := dk172 (k := 10) bX11_count_56 rfl
theorem dX11_count_67 : decode cX11_count 67 = .ok (.aload_n 0, 1) := dk42 (k := 11) bX11_count_56 rfl
theorem dX11_count_68 : decode cX11_count 68 = .ok (.getfield 28, 3) := dk180 (k := 12) bX11_count_56 rfl rfl
theorem dX11_count_71 : decode cX11_count 71 = .ok (.getfield 126, 3) := dk180 (k := 15) bX11_count_56 rfl rfl
theorem dX11_count_74 : decode cX11_count 74 = .ok (.getfield 340, 3) := dk180 (k := 18) bX11_count_56 rfl rfl
theorem dX11_count_77 : decode cX11_count 77 = .ok (.ireturn, 1) := dk172 (k := 21) bX11_count_56 rfl
theorem dX11_count_78 : decode cX11_count 78 = .ok (.aload_n 0, 1) := dk42 (k := 22) bX11_count_56 rfl
theorem dX11_count_79 : decode cX11_count 79 = .ok (.getfield 28, 3) := dk180 (k := 23) bX11_count_56 rfl rfl
theorem bX11_count_82 : bL cX11_count 82 [180, 0, 139, 180, 1, 85, 172, 42, 180, 0, 28, 180, 0, 139, 180, 1, 88, 172, 42, 180, 0, 28, 180, 1, 74] := bL_of (by decide +kernel)
theorem dX11_count_82 : decode cX11_count 82 = .ok (.getfield 139, 3) := dk180 (k := 0) bX11_count_82 rfl rfl
theorem dX11_count_85 : decode cX11_count 85 = .ok (.getfield 341, 3) := dk180 (k := 3) bX11_count_82 rfl rfl
theorem dX11_count_88 : decode cX11_count 88 = .ok (.ireturn, 1) := dk172 (k := 6) bX11_count_82 rfl
theorem dX11_count_89 : decode cX11_count 89 = .ok (.aload_n 0, 1) := dk42 (k := 7) bX11_count_82 rfl
theorem dX11_count_90 : decode cX11_count 90 = .ok (.getfield 28, 3) := dk180 (k := 8) bX11_count_82 rfl rfl
theorem dX11_count_93 : decode cX11_count 93 = .ok (.getfield 139, 3) := dk180 (k := 11) bX11_count_82 rfl rfl
theorem dX11_count_96 : decode cX11_count 96 = .ok (.getfield 344, 3) := dk180 (k := 14) bX11_count_82 rfl rfl
theorem dX11_count_99 : decode cX11_count 99 = .ok (.ireturn, 1) := dk172 (k := 17) bX11_count_82 rfl
theorem dX11_count_100 : decode cX11_count 100 = .ok (.aload_n 0, 1) := dk42 (k := 18) bX11_count_82 rfl
theorem dX11_count_101 : decode cX11_count 101 = .ok (.getfield 28, 3) := dk180 (k := 19) bX11_count_82 rfl rfl
theorem dX11_count_104 : decode cX11_count 104 = .ok (.getfield 330, 3) := dk180 (k := 22) bX11_count_82 rfl rfl
theorem bX11_count_107 : bL cX11_count 107 [172, 42, 180, 0, 28, 180, 1, 91, 172, 42, 180, 0, 28, 180, 0, 117, 172, 42, 180, 0, 10, 180, 0, 103] := bL_of (by decide +kernel)
theorem dX11_count_107 : decode cX11_count 107 = .ok (.ireturn, 1) := dk172 (k := 0) bX11_count_107 rfl
theorem dX11_count_108 : decode cX11_count 108 = .ok (.aload_n 0, 1) := dk42 (k := 1) bX11_count_107 rfl
theorem dX11_count_109 : decode cX11_count 109 = .ok (.getfield 28, 3) := dk180 (k := 2) bX11_count_107 rfl rfl
theorem dX11_count_112 : decode cX11_count 112 = .ok (.getfield 347, 3) := dk180 (k := 5) bX11_count_107 rfl rfl
theorem dX11_count_115 : decode cX11_count 115 = .ok (.ireturn, 1) := dk172 (k := 8) bX11_count_107 rfl
theorem dX11_count_116 : decode cX11_count 116 = .ok (.aload_n 0, 1) := dk42 (k := 9) bX11_count_107 rfl
theorem dX11_count_117 : decode cX11_count 117 = .ok (.getfield 28, 3) := dk180 (k := 10) bX11_count_107 rfl rfl
theorem dX11_count_120 : decode cX11_count 120 = .ok (.getfield 117, 3) := dk180 (k := 13) bX11_count_107 rfl rfl
theorem dX11_count_123 : decode cX11_count 123 = .ok (.ireturn, 1) := dk172 (k := 16) bX11_count_107 rfl
theorem dX11_count_124 : decode cX11_count 124 = .ok (.aload_n 0, 1) := dk42 (k := 17) bX11_count_107 rfl
theorem dX11_count_125 : decode cX11_count 125 = .ok (.getfield 10, 3) := dk180 (k := 18) bX11_count_107 rfl rfl
theorem dX11_count_128 : decode cX11_count 128 = .ok (.getfield 103, 3) := dk180 (k := 21) bX11_count_107 rfl rfl
theorem bX11_count_131 : bL cX11_count 131 [172, 42, 180, 0, 28, 180, 0, 200, 172, 42, 180, 0, 43, 182, 1, 94, 172, 2, 172] := bL_of (by decide +kernel)
theorem dX11_count_131 : decode cX11_count 131 = .ok (.ireturn, 1) := dk172 (k := 0) bX11_count_131 rfl
theorem dX11_count_132 : decode cX11_count 132 = .ok (.aload_n 0, 1) := dk42 (k := 1) bX11_count_131 rfl
theorem dX11_count_133 : decode cX11_count 133 = .ok (.getfield 28, 3) := dk180 (k := 2) bX11_count_131 rfl rfl
theorem dX11_count_136 : decode cX11_count 136 = .ok (.getfield 200, 3) := dk180 (k := 5) bX11_count_131 rfl rfl
theorem dX11_count_139 : decode cX11_count 139 = .ok (.ireturn, 1) := dk172 (k := 8) bX11_count_131 rfl
theorem dX11_count_140 : decode cX11_count 140 = .ok (.aload_n 0, 1) := dk42 (k := 9) bX11_count_131 rfl
theorem dX11_count_141 : decode cX11_count 141 = .ok (.getfield 43, 3) := dk180 (k := 10) bX11_count_131 rfl rfl
theorem dX11_count_144 : decode cX11_count 144 = .ok (.invokevirtual 350, 3) := dk182 (k := 13) bX11_count_131 rfl rfl
theorem dX11_count_147 : decode cX11_count 147 = .ok (.ireturn, 1) := dk172 (k := 16) bX11_count_131 rfl
theorem dX11_count_148 : decode cX11_count 148 = .ok (.iconst (-1), 1) := dk2 (k := 17) bX11_count_131 rfl
theorem dX11_count_149 : decode cX11_count 149 = .ok (.ireturn, 1) := dk172 (k := 18) bX11_count_131 rfl
theorem bX11_image_0 : bL cX11_image 0 [27, 155, 0, 8, 27, 6, 161, 0, 6, 16, 254, 172, 42, 180, 0, 32, 27, 50, 42, 180, 0, 28, 182, 0, 114] := bL_of (by decide +kernel)
theorem dX11_image_0 : decode cX11_image 0 = .ok (.iload_n 1, 1) := dk27 (k := 0) bX11_image_0 rfl
theorem dX11_image_1 : decode cX11_image 1 = .ok (.ifCond .lt 8, 3) := dk155 (k := 1) bX11_image_0 rfl (by decide)
theorem dX11_image_4 : decode cX11_image 4 = .ok (.iload_n 1, 1) := dk27 (k := 4) bX11_image_0 rfl
theorem dX11_image_5 : decode cX11_image 5 = .ok (.iconst 3, 1) := dk6 (k := 5) bX11_image_0 rfl
theorem dX11_image_6 : decode cX11_image 6 = .ok (.if_icmp .lt 6, 3) := dk161 (k := 6) bX11_image_0 rfl (by decide)
theorem dX11_image_9 : decode cX11_image 9 = .ok (.bipush (-2), 2) := dk16 (k := 9) bX11_image_0 rfl (by decide)
theorem dX11_image_11 : decode cX11_image 11 = .ok (.ireturn, 1) := dk172 (k := 11) bX11_image_0 rfl
theorem dX11_image_12 : decode cX11_image 12 = .ok (.aload_n 0, 1) := dk42 (k := 12) bX11_image_0 rfl
theorem dX11_image_13 : decode cX11_image 13 = .ok (.getfield 32, 3) := dk180 (k := 13) bX11_image_0 rfl rfl
theorem dX11_image_16 : decode cX11_image 16 = .ok (.iload_n 1, 1) := dk27 (k := 16) bX11_image_0 rfl
theorem dX11_image_17 : decode cX11_image 17 = .ok (.aaload, 1) := dk50 (k := 17) bX11_image_0 rfl
theorem dX11_image_18 : decode cX11_image 18 = .ok (.aload_n 0, 1) := dk42 (k := 18) bX11_image_0 rfl
theorem dX11_image_19 : decode cX11_image 19 = .ok (.getfield 28, 3) := dk180 (k := 19) bX11_image_0 rfl rfl
theorem dX11_image_22 : decode cX11_image 22 = .ok (.invokevirtual 114, 3) := dk182 (k := 22) bX11_image_0 rfl rfl
theorem bX11_image_25 : bL cX11_image 25 [42, 180, 0, 36, 27, 4, 84, 3, 172] := bL_of (by decide +kernel)
theorem dX11_image_25 : decode cX11_image 25 = .ok (.aload_n 0, 1) := dk42 (k := 0) bX11_image_25 rfl
theorem dX11_image_26 : decode cX11_image 26 = .ok (.getfield 36, 3) := dk180 (k := 1) bX11_image_25 rfl rfl
theorem dX11_image_29 : decode cX11_image 29 = .ok (.iload_n 1, 1) := dk27 (k := 4) bX11_image_25 rfl
theorem dX11_image_30 : decode cX11_image 30 = .ok (.iconst 1, 1) := dk4 (k := 5) bX11_image_25 rfl
theorem dX11_image_31 : decode cX11_image 31 = .ok (.bastore, 1) := dk84 (k := 6) bX11_image_25 rfl
theorem dX11_image_32 : decode cX11_image 32 = .ok (.iconst 0, 1) := dk3 (k := 7) bX11_image_25 rfl
theorem dX11_image_33 : decode cX11_image 33 = .ok (.ireturn, 1) := dk172 (k := 8) bX11_image_25 rfl
theorem bX11_back_0 : bL cX11_back 0 [27, 155, 0, 8, 27, 6, 161, 0, 6, 16, 254, 172, 42, 180, 0, 36, 27, 51, 154, 0, 6, 16, 250, 172] := bL_of (by decide +kernel)
theorem dX11_back_0 : decode cX11_back 0 = .ok (.iload_n 1, 1) := dk27 (k := 0) bX11_back_0 rfl
theorem dX11_back_1 : decode cX11_back 1 = .ok (.ifCond .lt 8, 3) := dk155 (k := 1) bX11_back_0 rfl (by decide)
theorem dX11_back_4 : decode cX11_back 4 = .ok (.iload_n 1, 1) := dk27 (k := 4) bX11_back_0 rfl
theorem dX11_back_5 : decode cX11_back 5 = .ok (.iconst 3, 1) := dk6 (k := 5) bX11_back_0 rfl
theorem dX11_back_6 : decode cX11_back 6 = .ok (.if_icmp .lt 6, 3) := dk161 (k := 6) bX11_back_0 rfl (by decide)
theorem dX11_back_9 : decode cX11_back 9 = .ok (.bipush (-2), 2) := dk16 (k := 9) bX11_back_0 rfl (by decide)
theorem dX11_back_11 : decode cX11_back 11 = .ok (.ireturn, 1) := dk172 (k := 11) bX11_back_0 rfl
theorem dX11_back_12 : decode cX11_back 12 = .ok (.aload_n 0, 1) := dk42 (k := 12) bX11_back_0 rfl
theorem dX11_back_13 : decode cX11_back 13 = .ok (.getfield 36, 3) := dk180 (k := 13) bX11_back_0 rfl rfl
theorem dX11_back_16 : decode cX11_back 16 = .ok (.iload_n 1, 1) := dk27 (k := 16) bX11_back_0 rfl
theorem dX11_back_17 : decode cX11_back 17 = .ok (.baload, 1) := dk51 (k := 17) bX11_back_0 rfl
theorem dX11_back_18 : decode cX11_back 18 = .ok (.ifCond .ne 6, 3) := dk154 (k := 18) bX11_back_0 rfl (by decide)
theorem dX11_back_21 : decode cX11_back 21 = .ok (.bipush (-6), 2) := dk16 (k := 21) bX11_back_0 rfl (by decide)
theorem dX11_back_23 : decode cX11_back 23 = .ok (.ireturn, 1) := dk172 (k := 23) bX11_back_0 rfl
theorem bX11_back_24 : bL cX11_back 24 [42, 180, 0, 28, 42, 180, 0, 32, 27, 50, 182, 0, 114, 3, 172] := bL_of (by decide +kernel)
theorem dX11_back_24 : decode cX11_back 24 = .ok (.aload_n 0, 1) := dk42 (k := 0) bX11_back_24 rfl
theorem dX11_back_25 : decode cX11_back 25 = .ok (.getfield 28, 3) := dk180 (k := 1) bX11_back_24 rfl rfl
theorem dX11_back_28 : decode cX11_back 28 = .ok (.aload_n 0, 1) := dk42 (k := 4) bX11_back_24 rfl
theorem dX11_back_29 : decode cX11_back 29 = .ok (.getfield 32, 3) := dk180 (k := 5) bX11_back_24 rfl rfl
theorem dX11_back_32 : decode cX11_back 32 = .ok (.iload_n 1, 1) := dk27 (k := 8) bX11_back_24 rfl
theorem dX11_back_33 : decode cX11_back 33 = .ok (.aaload, 1) := dk50 (k := 9) bX11_back_24 rfl
theorem dX11_back_34 : decode cX11_back 34 = .ok (.invokevirtual 114, 3) := dk182 (k := 10) bX11_back_24 rfl rfl
theorem dX11_back_37 : decode cX11_back 37 = .ok (.iconst 0, 1) := dk3 (k := 13) bX11_back_24 rfl
theorem dX11_back_38 : decode cX11_back 38 = .ok (.ireturn, 1) := dk172 (k := 14) bX11_back_24 rfl
theorem bX11_row_0 : bL cX11_row 0 [42, 180, 0, 43, 27, 182, 1, 97, 153, 0, 18, 28, 155, 0, 14, 28, 7, 162, 0, 9, 29, 16, 60, 164, 0, 6] := bL_of (by decide +kernel)
theorem dX11_row_0 : decode cX11_row 0 = .ok (.aload_n 0, 1) := dk42 (k := 0) bX11_row_0 rfl
theorem dX11_row_1 : decode cX11_row 1 = .ok (.getfield 43, 3) := dk180 (k := 1) bX11_row_0 rfl rfl
theorem dX11_row_4 : decode cX11_row 4 = .ok (.iload_n 1, 1) := dk27 (k := 4) bX11_row_0 rfl
theorem dX11_row_5 : decode cX11_row 5 = .ok (.invokevirtual 353, 3) := dk182 (k := 5) bX11_row_0 rfl rfl
theorem dX11_row_8 : decode cX11_row 8 = .ok (.ifCond .eq 18, 3) := dk153 (k := 8) bX11_row_0 rfl (by decide)
theorem dX11_row_11 : decode cX11_row 11 = .ok (.iload_n 2, 1) := dk28 (k := 11) bX11_row_0 rfl
theorem dX11_row_12 : decode cX11_row 12 = .ok (.ifCond .lt 14, 3) := dk155 (k := 12) bX11_row_0 rfl (by decide)
theorem dX11_row_15 : decode cX11_row 15 = .ok (.iload_n 2, 1) := dk28 (k := 15) bX11_row_0 rfl
theorem dX11_row_16 : decode cX11_row 16 = .ok (.iconst 4, 1) := dk7 (k := 16) bX11_row_0 rfl
theorem dX11_row_17 : decode cX11_row 17 = .ok (.if_icmp .ge 9, 3) := dk162 (k := 17) bX11_row_0 rfl (by decide)
theorem dX11_row_20 : decode cX11_row 20 = .ok (.iload_n 3, 1) := dk29 (k := 20) bX11_row_0 rfl
theorem dX11_row_21 : decode cX11_row 21 = .ok (.bipush 60, 2) := dk16 (k := 21) bX11_row_0 rfl (by decide)
theorem dX11_row_23 : decode cX11_row 23 = .ok (.if_icmp .le 6, 3) := dk164 (k := 23) bX11_row_0 rfl (by decide)
theorem bX11_row_26 : bL cX11_row 26 [16, 254, 172, 29, 156, 0, 6, 16, 253, 172, 42, 180, 0, 43, 27, 28, 29, 182, 1, 98, 3, 172] := bL_of (by decide +kernel)
theorem dX11_row_26 : decode cX11_row 26 = .ok (.bipush (-2), 2) := dk16 (k := 0) bX11_row_26 rfl (by decide)
theorem dX11_row_28 : decode cX11_row 28 = .ok (.ireturn, 1) := dk172 (k := 2) bX11_row_26 rfl
theorem dX11_row_29 : decode cX11_row 29 = .ok (.iload_n 3, 1) := dk29 (k := 3) bX11_row_26 rfl
theorem dX11_row_30 : decode cX11_row 30 = .ok (.ifCond .ge 6, 3) := dk156 (k := 4) bX11_row_26 rfl (by decide)
theorem dX11_row_33 : decode cX11_row 33 = .ok (.bipush (-3), 2) := dk16 (k := 7) bX11_row_26 rfl (by decide)
theorem dX11_row_35 : decode cX11_row 35 = .ok (.ireturn, 1) := dk172 (k := 9) bX11_row_26 rfl
theorem dX11_row_36 : decode cX11_row 36 = .ok (.aload_n 0, 1) := dk42 (k := 10) bX11_row_26 rfl
theorem dX11_row_37 : decode cX11_row 37 = .ok (.getfield 43, 3) := dk180 (k := 11) bX11_row_26 rfl rfl
theorem dX11_row_40 : decode cX11_row 40 = .ok (.iload_n 1, 1) := dk27 (k := 14) bX11_row_26 rfl
theorem dX11_row_41 : decode cX11_row 41 = .ok (.iload_n 2, 1) := dk28 (k := 15) bX11_row_26 rfl
theorem dX11_row_42 : decode cX11_row 42 = .ok (.iload_n 3, 1) := dk29 (k := 16) bX11_row_26 rfl
theorem dX11_row_43 : decode cX11_row 43 = .ok (.invokevirtual 354, 3) := dk182 (k := 17) bX11_row_26 rfl rfl
theorem dX11_row_46 : decode cX11_row 46 = .ok (.iconst 0, 1) := dk3 (k := 20) bX11_row_26 rfl
theorem dX11_row_47 : decode cX11_row 47 = .ok (.ireturn, 1) := dk172 (k := 21) bX11_row_26 rfl
theorem bX11_write_0 : bL cX11_write 0 [42, 180, 0, 43, 27, 182, 1, 97, 154, 0, 6, 16, 254, 172, 42, 180, 0, 43, 27, 182, 1, 101, 154, 0, 6] := bL_of (by decide +kernel)
theorem dX11_write_0 : decode cX11_write 0 = .ok (.aload_n 0, 1) := dk42 (k := 0) bX11_write_0 rfl
theorem dX11_write_1 : decode cX11_write 1 = .ok (.getfield 43, 3) := dk180 (k := 1) bX11_write_0 rfl rfl
theorem dX11_write_4 : decode cX11_write 4 = .ok (.iload_n 1, 1) := dk27 (k := 4) bX11_write_0 rfl
theorem dX11_write_5 : decode cX11_write 5 = .ok (.invokevirtual 353, 3) := dk182 (k := 5) bX11_write_0 rfl rfl
theorem dX11_write_8 : decode cX11_write 8 = .ok (.ifCond .ne 6, 3) := dk154 (k := 8) bX11_write_0 rfl (by decide)
theorem dX11_write_11 : decode cX11_write 11 = .ok (.bipush (-2), 2) := dk16 (k := 11) bX11_write_0 rfl (by decide)
theorem dX11_write_13 : decode cX11_write 13 = .ok (.ireturn, 1) := dk172 (k := 13) bX11_write_0 rfl
theorem dX11_write_14 : decode cX11_write 14 = .ok (.aload_n 0, 1) := dk42 (k := 14) bX11_write_0 rfl
theorem dX11_write_15 : decode cX11_write 15 = .ok (.getfield 43, 3) := dk180 (k := 15) bX11_write_0 rfl rfl
theorem dX11_write_18 : decode cX11_write 18 = .ok (.iload_n 1, 1) := dk27 (k := 18) bX11_write_0 rfl
theorem dX11_write_19 : decode cX11_write 19 = .ok (.invokevirtual 357, 3) := dk182 (k := 19) bX11_write_0 rfl rfl
theorem dX11_write_22 : decode cX11_write 22 = .ok (.ifCond .ne 6, 3) := dk154 (k := 22) bX11_write_0 rfl (by decide)
theorem bX11_write_25 : bL cX11_write 25 [16, 250, 172, 28, 155, 0, 15, 28, 42, 180, 0, 43, 27, 182, 1, 104, 161, 0, 6, 16, 249, 172, 42, 180, 0, 43] := bL_of (by decide +kernel)
theorem dX11_write_25 : decode cX11_write 25 = .ok (.bipush (-6), 2) := dk16 (k := 0) bX11_write_25 rfl (by decide)
theorem dX11_write_27 : decode cX11_write 27 = .ok (.ireturn, 1) := dk172 (k := 2) bX11_write_25 rfl
theorem dX11_write_28 : decode cX11_write 28 = .ok (.iload_n 2, 1) := dk28 (k := 3) bX11_write_25 rfl
theorem dX11_write_29 : decode cX11_write 29 = .ok (.ifCond .lt 15, 3) := dk155 (k := 4) bX11_write_25 rfl (by decide)
theorem dX11_write_32 : decode cX11_write 32 = .ok (.iload_n 2, 1) := dk28 (k := 7) bX11_write_25 rfl
theorem dX11_write_33 : decode cX11_write 33 = .ok (.aload_n 0, 1) := dk42 (k := 8) bX11_write_25 rfl
theorem dX11_write_34 : decode cX11_write 34 = .ok (.getfield 43, 3) := dk180 (k := 9) bX11_write_25 rfl rfl
theorem dX11_write_37 : decode cX11_write 37 = .ok (.iload_n 1, 1) := dk27 (k := 12) bX11_write_25 rfl
theorem dX11_write_38 : decode cX11_write 38 = .ok (.invokevirtual 360, 3) := dk182 (k := 13) bX11_write_25 rfl rfl
theorem dX11_write_41 : decode cX11_write 41 = .ok (.if_icmp .lt 6, 3) := dk161 (k := 16) bX11_write_25 rfl (by decide)
theorem dX11_write_44 : decode cX11_write 44 = .ok (.bipush (-7), 2) := dk16 (k := 19) bX11_write_25 rfl (by decide)
theorem dX11_write_46 : decode cX11_write 46 = .ok (.ireturn, 1) := dk172 (k := 21) bX11_write_25 rfl
theorem dX11_write_47 : decode cX11_write 47 = .ok (.aload_n 0, 1) := dk42 (k := 22) bX11_write_25 rfl
theorem dX11_write_48 : decode cX11_write 48 = .ok (.getfield 43, 3) := dk180 (k := 23) bX11_write_25 rfl rfl
theorem bX11_write_51 : bL cX11_write 51 [27, 28, 33, 182, 1, 107, 3, 172] := bL_of (by decide +kernel)
theorem dX11_write_51 : decode cX11_write 51 = .ok (.iload_n 1, 1) := dk27 (k := 0) bX11_write_51 rfl
theorem dX11_write_52 : decode cX11_write 52 = .ok (.iload_n 2, 1) := dk28 (k := 1) bX11_write_51 rfl
theorem dX11_write_53 : decode cX11_write 53 = .ok (.lload_n 3, 1) := dk33 (k := 2) bX11_write_51 rfl
theorem dX11_write_54 : decode cX11_write 54 = .ok (.invokevirtual 363, 3) := dk182 (k := 3) bX11_write_51 rfl rfl
theorem dX11_write_57 : decode cX11_write 57 = .ok (.iconst 0, 1) := dk3 (k := 6) bX11_write_51 rfl
theorem dX11_write_58 : decode cX11_write 58 = .ok (.ireturn, 1) := dk172 (k := 7) bX11_write_51 rfl
theorem bX11_paste_0 : bL cX11_paste 0 [42, 180, 0, 43, 27, 182, 1, 97, 153, 0, 14, 42, 180, 0, 43, 29, 182, 1, 97, 154, 0, 6, 16, 254] := bL_of (by decide +kernel)
theorem dX11_paste_0 : decode cX11_paste 0 = .ok (.aload_n 0, 1) := dk42 (k := 0) bX11_paste_0 rfl
theorem dX11_paste_1 : decode cX11_paste 1 = .ok (.getfield 43, 3) := dk180 (k := 1) bX11_paste_0 rfl rfl
theorem dX11_paste_4 : decode cX11_paste 4 = .ok (.iload_n 1, 1) := dk27 (k := 4) bX11_paste_0 rfl
theorem dX11_paste_5 : decode cX11_paste 5 = .ok (.invokevirtual 353, 3) := dk182 (k := 5) bX11_paste_0 rfl rfl
theorem dX11_paste_8 : decode cX11_paste 8 = .ok (.ifCond .eq 14, 3) := dk153 (k := 8) bX11_paste_0 rfl (by decide)
theorem dX11_paste_11 : decode cX11_paste 11 = .ok (.aload_n 0, 1) := dk42 (k := 11) bX11_paste_0 rfl
theorem dX11_paste_12 : decode cX11_paste 12 = .ok (.getfield 43, 3) := dk180 (k := 12) bX11_paste_0 rfl rfl
theorem dX11_paste_15 : decode cX11_paste 15 = .ok (.iload_n 3, 1) := dk29 (k := 15) bX11_paste_0 rfl
theorem dX11_paste_16 : decode cX11_paste 16 = .ok (.invokevirtual 353, 3) := dk182 (k := 16) bX11_paste_0 rfl rfl
theorem dX11_paste_19 : decode cX11_paste 19 = .ok (.ifCond .ne 6, 3) := dk154 (k := 19) bX11_paste_0 rfl (by decide)
theorem dX11_paste_22 : decode cX11_paste 22 = .ok (.bipush (-2), 2) := dk16 (k := 22) bX11_paste_0 rfl (by decide)
theorem bX11_paste_24 : bL cX11_paste 24 [172, 42, 180, 0, 43, 27, 182, 1, 101, 153, 0, 14, 42, 180, 0, 43, 29, 182, 1, 101, 154, 0, 6, 16, 250] := bL_of (by decide +kernel)
theorem dX11_paste_24 : decode cX11_paste 24 = .ok (.ireturn, 1) := dk172 (k := 0) bX11_paste_24 rfl
theorem dX11_paste_25 : decode cX11_paste 25 = .ok (.aload_n 0, 1) := dk42 (k := 1) bX11_paste_24 rfl
theorem dX11_paste_26 : decode cX11_paste 26 = .ok (.getfield 43, 3) := dk180 (k := 2) bX11_paste_24 rfl rfl
theorem dX11_paste_29 : decode cX11_paste 29 = .ok (.iload_n 1, 1) := dk27 (k := 5) bX11_paste_24 rfl
theorem dX11_paste_30 : decode cX11_paste 30 = .ok (.invokevirtual 357, 3) := dk182 (k := 6) bX11_paste_24 rfl rfl
theorem dX11_paste_33 : decode cX11_paste 33 = .ok (.ifCond .eq 14, 3) := dk153 (k := 9) bX11_paste_24 rfl (by decide)
theorem dX11_paste_36 : decode cX11_paste 36 = .ok (.aload_n 0, 1) := dk42 (k := 12) bX11_paste_24 rfl
theorem dX11_paste_37 : decode cX11_paste 37 = .ok (.getfield 43, 3) := dk180 (k := 13) bX11_paste_24 rfl rfl
theorem dX11_paste_40 : decode cX11_paste 40 = .ok (.iload_n 3, 1) := dk29 (k := 16) bX11_paste_24 rfl
theorem dX11_paste_41 : decode cX11_paste 41 = .ok (.invokevirtual 357, 3) := dk182 (k := 17) bX11_paste_24 rfl rfl
theorem dX11_paste_44 : decode cX11_paste 44 = .ok (.ifCond .ne 6, 3) := dk154 (k := 20) bX11_paste_24 rfl (by decide)
theorem dX11_paste_47 : decode cX11_paste 47 = .ok (.bipush (-6), 2) := dk16 (k := 23) bX11_paste_24 rfl (by decide)
theorem bX11_paste_49 : bL cX11_paste 49 [172, 42, 180, 0, 43, 27, 182, 1, 111, 42, 180, 0, 43, 29, 182, 1, 111, 159, 0, 6, 16, 248, 172, 42] := bL_of (by decide +kernel)
theorem dX11_paste_49 : decode cX11_paste 49 = .ok (.ireturn, 1) := dk172 (k := 0) bX11_paste_49 rfl
theorem dX11_paste_50 : decode cX11_paste 50 = .ok (.aload_n 0, 1) := dk42 (k := 1) bX11_paste_49 rfl
theorem dX11_paste_51 : decode cX11_paste 51 = .ok (.getfield 43, 3) := dk180 (k := 2) bX11_paste_49 rfl rfl
theorem dX11_paste_54 : decode cX11_paste 54 = .ok (.iload_n 1, 1) := dk27 (k := 5) bX11_paste_49 rfl
theorem dX11_paste_55 : decode cX11_paste 55 = .ok (.invokevirtual 367, 3) := dk182 (k := 6) bX11_paste_49 rfl rfl
theorem dX11_paste_58 : decode cX11_paste 58 = .ok (.aload_n 0, 1) := dk42 (k := 9) bX11_paste_49 rfl
theorem dX11_paste_59 : decode cX11_paste 59 = .ok (.getfield 43, 3) := dk180 (k := 10) bX11_paste_49 rfl rfl
theorem dX11_paste_62 : decode cX11_paste 62 = .ok (.iload_n 3, 1) := dk29 (k := 13) bX11_paste_49 rfl
theorem dX11_paste_63 : decode cX11_paste 63 = .ok (.invokevirtual 367, 3) := dk182 (k := 14) bX11_paste_49 rfl rfl
theorem dX11_paste_66 : decode cX11_paste 66 = .ok (.if_icmp .eq 6, 3) := dk159 (k := 17) bX11_paste_49 rfl (by decide)
theorem dX11_paste_69 : decode cX11_paste 69 = .ok (.bipush (-8), 2) := dk16 (k := 20) bX11_paste_49 rfl (by decide)
theorem dX11_paste_71 : decode cX11_paste 71 = .ok (.ireturn, 1) := dk172 (k := 22) bX11_paste_49 rfl
theorem dX11_paste_72 : decode cX11_paste 72 = .ok (.aload_n 0, 1) := dk42 (k := 23) bX11_paste_49 rfl
theorem bX11_paste_73 : bL cX11_paste 73 [180, 0, 43, 27, 28, 21, 5, 182, 1, 114, 153, 0, 18, 42, 180, 0, 43, 29, 21, 4, 21, 5, 182, 1, 114] := bL_of (by decide +kernel)
theorem dX11_paste_73 : decode cX11_paste 73 = .ok (.getfield 43, 3) := dk180 (k := 0) bX11_paste_73 rfl rfl
theorem dX11_paste_76 : decode cX11_paste 76 = .ok (.iload_n 1, 1) := dk27 (k := 3) bX11_paste_73 rfl
theorem dX11_paste_77 : decode cX11_paste 77 = .ok (.iload_n 2, 1) := dk28 (k := 4) bX11_paste_73 rfl
theorem dX11_paste_78 : decode cX11_paste 78 = .ok (.iload 5, 2) := dk21 (k := 5) bX11_paste_73 rfl rfl
theorem dX11_paste_80 : decode cX11_paste 80 = .ok (.invokevirtual 370, 3) := dk182 (k := 7) bX11_paste_73 rfl rfl
theorem dX11_paste_83 : decode cX11_paste 83 = .ok (.ifCond .eq 18, 3) := dk153 (k := 10) bX11_paste_73 rfl (by decide)
theorem dX11_paste_86 : decode cX11_paste 86 = .ok (.aload_n 0, 1) := dk42 (k := 13) bX11_paste_73 rfl
theorem dX11_paste_87 : decode cX11_paste 87 = .ok (.getfield 43, 3) := dk180 (k := 14) bX11_paste_73 rfl rfl
theorem dX11_paste_90 : decode cX11_paste 90 = .ok (.iload_n 3, 1) := dk29 (k := 17) bX11_paste_73 rfl
theorem dX11_paste_91 : decode cX11_paste 91 = .ok (.iload 4, 2) := dk21 (k := 18) bX11_paste_73 rfl rfl
theorem dX11_paste_93 : decode cX11_paste 93 = .ok (.iload 5, 2) := dk21 (k := 20) bX11_paste_73 rfl rfl
theorem dX11_paste_95 : decode cX11_paste 95 = .ok (.invokevirtual 370, 3) := dk182 (k := 22) bX11_paste_73 rfl rfl
theorem bX11_paste_98 : bL cX11_paste 98 [154, 0, 6, 16, 249, 172, 42, 180, 0, 43, 27, 28, 29, 21, 4, 21, 5, 182, 1, 118, 3, 172] := bL_of (by decide +kernel)
theorem dX11_paste_98 : decode cX11_paste 98 = .ok (.ifCond .ne 6, 3) := dk154 (k := 0) bX11_paste_98 rfl (by decide)
theorem dX11_paste_101 : decode cX11_paste 101 = .ok (.bipush (-7), 2) := dk16 (k := 3) bX11_paste_98 rfl (by decide)
theorem dX11_paste_103 : decode cX11_paste 103 = .ok (.ireturn, 1) := dk172 (k := 5) bX11_paste_98 rfl
theorem dX11_paste_104 : decode cX11_paste 104 = .ok (.aload_n 0, 1) := dk42 (k := 6) bX11_paste_98 rfl
theorem dX11_paste_105 : decode cX11_paste 105 = .ok (.getfield 43, 3) := dk180 (k := 7) bX11_paste_98 rfl rfl
theorem dX11_paste_108 : decode cX11_paste 108 = .ok (.iload_n 1, 1) := dk27 (k := 10) bX11_paste_98 rfl
theorem dX11_paste_109 : decode cX11_paste 109 = .ok (.iload_n 2, 1) := dk28 (k := 11) bX11_paste_98 rfl
theorem dX11_paste_110 : decode cX11_paste 110 = .ok (.iload_n 3, 1) := dk29 (k := 12) bX11_paste_98 rfl
theorem dX11_paste_111 : decode cX11_paste 111 = .ok (.iload 4, 2) := dk21 (k := 13) bX11_paste_98 rfl rfl
theorem dX11_paste_113 : decode cX11_paste 113 = .ok (.iload 5, 2) := dk21 (k := 15) bX11_paste_98 rfl rfl
theorem dX11_paste_115 : decode cX11_paste 115 = .ok (.invokevirtual 374, 3) := dk182 (k := 17) bX11_paste_98 rfl rfl
theorem dX11_paste_118 : decode cX11_paste 118 = .ok (.iconst 0, 1) := dk3 (k := 20) bX11_paste_98 rfl
theorem dX11_paste_119 : decode cX11_paste 119 = .ok (.ireturn, 1) := dk172 (k := 21) bX11_paste_98 rfl
theorem bX11_isHour_0 : bL cX11_isHour 0 [26, 153, 0, 19, 26, 16, 247, 161, 0, 13, 26, 16, 9, 163, 0, 7, 4, 167, 0, 4, 3, 172] := bL_of (by decide +kernel)
theorem dX11_isHour_0 : decode cX11_isHour 0 = .ok (.iload_n 0, 1) := dk26 (k := 0) bX11_isHour_0 rfl
theorem dX11_isHour_1 : decode cX11_isHour 1 = .ok (.ifCond .eq 19, 3) := dk153 (k := 1) bX11_isHour_0 rfl (by decide)
theorem dX11_isHour_4 : decode cX11_isHour 4 = .ok (.iload_n 0, 1) := dk26 (k := 4) bX11_isHour_0 rfl
theorem dX11_isHour_5 : decode cX11_isHour 5 = .ok (.bipush (-9), 2) := dk16 (k := 5) bX11_isHour_0 rfl (by decide)
theorem dX11_isHour_7 : decode cX11_isHour 7 = .ok (.if_icmp .lt 13, 3) := dk161 (k := 7) bX11_isHour_0 rfl (by decide)
theorem dX11_isHour_10 : decode cX11_isHour 10 = .ok (.iload_n 0, 1) := dk26 (k := 10) bX11_isHour_0 rfl
theorem dX11_isHour_11 : decode cX11_isHour 11 = .ok (.bipush 9, 2) := dk16 (k := 11) bX11_isHour_0 rfl (by decide)
theorem dX11_isHour_13 : decode cX11_isHour 13 = .ok (.if_icmp .gt 7, 3) := dk163 (k := 13) bX11_isHour_0 rfl (by decide)
theorem dX11_isHour_16 : decode cX11_isHour 16 = .ok (.iconst 1, 1) := dk4 (k := 16) bX11_isHour_0 rfl
theorem dX11_isHour_17 : decode cX11_isHour 17 = .ok (.goto 4, 3) := dk167 (k := 17) bX11_isHour_0 rfl (by decide)
theorem dX11_isHour_20 : decode cX11_isHour 20 = .ok (.iconst 0, 1) := dk3 (k := 20) bX11_isHour_0 rfl
theorem dX11_isHour_21 : decode cX11_isHour 21 = .ok (.ireturn, 1) := dk172 (k := 21) bX11_isHour_0 rfl
theorem bX11_isPlay_0 : bL cX11_isPlay 0 [42, 180, 0, 28, 182, 0, 157, 153, 0, 25, 27, 155, 0, 21, 27, 7, 163, 0, 16, 28, 155, 0, 12, 28] := bL_of (by decide +kernel)
theorem dX11_isPlay_0 : decode cX11_isPlay 0 = .ok (.aload_n 0, 1) := dk42 (k := 0) bX11_isPlay_0 rfl
theorem dX11_isPlay_1 : decode cX11_isPlay 1 = .ok (.getfield 28, 3) := dk180 (k := 1) bX11_isPlay_0 rfl rfl
theorem dX11_isPlay_4 : decode cX11_isPlay 4 = .ok (.invokevirtual 157, 3) := dk182 (k := 4) bX11_isPlay_0 rfl rfl
theorem dX11_isPlay_7 : decode cX11_isPlay 7 = .ok (.ifCond .eq 25, 3) := dk153 (k := 7) bX11_isPlay_0 rfl (by decide)
theorem dX11_isPlay_10 : decode cX11_isPlay 10 = .ok (.iload_n 1, 1) := dk27 (k := 10) bX11_isPlay_0 rfl
theorem dX11_isPlay_11 : decode cX11_isPlay 11 = .ok (.ifCond .lt 21, 3) := dk155 (k := 11) bX11_isPlay_0 rfl (by decide)
theorem dX11_isPlay_14 : decode cX11_isPlay 14 = .ok (.iload_n 1, 1) := dk27 (k := 14) bX11_isPlay_0 rfl
theorem dX11_isPlay_15 : decode cX11_isPlay 15 = .ok (.iconst 4, 1) := dk7 (k := 15) bX11_isPlay_0 rfl
theorem dX11_isPlay_16 : decode cX11_isPlay 16 = .ok (.if_icmp .gt 16, 3) := dk163 (k := 16) bX11_isPlay_0 rfl (by decide)
theorem dX11_isPlay_19 : decode cX11_isPlay 19 = .ok (.iload_n 2, 1) := dk28 (k := 19) bX11_isPlay_0 rfl
theorem dX11_isPlay_20 : decode cX11_isPlay 20 = .ok (.ifCond .lt 12, 3) := dk155 (k := 20) bX11_isPlay_0 rfl (by decide)
theorem dX11_isPlay_23 : decode cX11_isPlay 23 = .ok (.iload_n 2, 1) := dk28 (k := 23) bX11_isPlay_0 rfl
theorem bX11_isPlay_24 : bL cX11_isPlay 24 [4, 163, 0, 7, 4, 167, 0, 4, 3, 172] := bL_of (by decide +kernel)
theorem dX11_isPlay_24 : decode cX11_isPlay 24 = .ok (.iconst 1, 1) := dk4 (k := 0) bX11_isPlay_24 rfl
theorem dX11_isPlay_25 : decode cX11_isPlay 25 = .ok (.if_icmp .gt 7, 3) := dk163 (k := 1) bX11_isPlay_24 rfl (by decide)
theorem dX11_isPlay_28 : decode cX11_isPlay 28 = .ok (.iconst 1, 1) := dk4 (k := 4) bX11_isPlay_24 rfl
theorem dX11_isPlay_29 : decode cX11_isPlay 29 = .ok (.goto 4, 3) := dk167 (k := 5) bX11_isPlay_24 rfl (by decide)
theorem dX11_isPlay_32 : decode cX11_isPlay 32 = .ok (.iconst 0, 1) := dk3 (k := 8) bX11_isPlay_24 rfl
theorem dX11_isPlay_33 : decode cX11_isPlay 33 = .ok (.ireturn, 1) := dk172 (k := 9) bX11_isPlay_24 rfl
theorem bX11_isWalk_0 : bL cX11_isWalk 0 [42, 180, 0, 28, 180, 0, 139, 27, 182, 0, 142, 153, 0, 19, 28, 4, 161, 0, 14, 28, 17, 3, 32, 163, 0, 7] := bL_of (by decide +kernel)
theorem dX11_isWalk_0 : decode cX11_isWalk 0 = .ok (.aload_n 0, 1) := dk42 (k := 0) bX11_isWalk_0 rfl
theorem dX11_isWalk_1 : decode cX11_isWalk 1 = .ok (.getfield 28, 3) := dk180 (k := 1) bX11_isWalk_0 rfl rfl
theorem dX11_isWalk_4 : decode cX11_isWalk 4 = .ok (.getfield 139, 3) := dk180 (k := 4) bX11_isWalk_0 rfl rfl
theorem dX11_isWalk_7 : decode cX11_isWalk 7 = .ok (.iload_n 1, 1) := dk27 (k := 7) bX11_isWalk_0 rfl
theorem dX11_isWalk_8 : decode cX11_isWalk 8 = .ok (.invokevirtual 142, 3) := dk182 (k := 8) bX11_isWalk_0 rfl rfl
theorem dX11_isWalk_11 : decode cX11_isWalk 11 = .ok (.ifCond .eq 19, 3) := dk153 (k := 11) bX11_isWalk_0 rfl (by decide)
theorem dX11_isWalk_14 : decode cX11_isWalk 14 = .ok (.iload_n 2, 1) := dk28 (k := 14) bX11_isWalk_0 rfl
theorem dX11_isWalk_15 : decode cX11_isWalk 15 = .ok (.iconst 1, 1) := dk4 (k := 15) bX11_isWalk_0 rfl
theorem dX11_isWalk_16 : decode cX11_isWalk 16 = .ok (.if_icmp .lt 14, 3) := dk161 (k := 16) bX11_isWalk_0 rfl (by decide)
theorem dX11_isWalk_19 : decode cX11_isWalk 19 = .ok (.iload_n 2, 1) := dk28 (k := 19) bX11_isWalk_0 rfl
theorem dX11_isWalk_20 : decode cX11_isWalk 20 = .ok (.sipush 800, 3) := dk17 (k := 20) bX11_isWalk_0 rfl (by decide)
theorem dX11_isWalk_23 : decode cX11_isWalk 23 = .ok (.if_icmp .gt 7, 3) := dk163 (k := 23) bX11_isWalk_0 rfl (by decide)
theorem bX11_isWalk_26 : bL cX11_isWalk 26 [4, 167, 0, 4, 3, 172] := bL_of (by decide +kernel)
theorem dX11_isWalk_26 : decode cX11_isWalk 26 = .ok (.iconst 1, 1) := dk4 (k := 0) bX11_isWalk_26 rfl
theorem dX11_isWalk_27 : decode cX11_isWalk 27 = .ok (.goto 4, 3) := dk167 (k := 1) bX11_isWalk_26 rfl (by decide)
theorem dX11_isWalk_30 : decode cX11_isWalk 30 = .ok (.iconst 0, 1) := dk3 (k := 4) bX11_isWalk_26 rfl
theorem dX11_isWalk_31 : decode cX11_isWalk 31 = .ok (.ireturn, 1) := dk172 (k := 5) bX11_isWalk_26 rfl
theorem bX11_isLaw_0 : bL cX11_isLaw 0 [42, 180, 0, 28, 182, 0, 157, 153, 0, 19, 27, 4, 161, 0, 14, 27, 17, 3, 231, 163, 0, 7, 4, 167, 0, 4] := bL_of (by decide +kernel)
theorem dX11_isLaw_0 : decode cX11_isLaw 0 = .ok (.aload_n 0, 1) := dk42 (k := 0) bX11_isLaw_0 rfl
theorem dX11_isLaw_1 : decode cX11_isLaw 1 = .ok (.getfield 28, 3) := dk180 (k := 1) bX11_isLaw_0 rfl rfl
theorem dX11_isLaw_4 : decode cX11_isLaw 4 = .ok (.invokevirtual 157, 3) := dk182 (k := 4) bX11_isLaw_0 rfl rfl
theorem dX11_isLaw_7 : decode cX11_isLaw 7 = .ok (.ifCond .eq 19, 3) := dk153 (k := 7) bX11_isLaw_0 rfl (by decide)
theorem dX11_isLaw_10 : decode cX11_isLaw 10 = .ok (.iload_n 1, 1) := dk27 (k := 10) bX11_isLaw_0 rfl
theorem dX11_isLaw_11 : decode cX11_isLaw 11 = .ok (.iconst 1, 1) := dk4 (k := 11) bX11_isLaw_0 rfl
theorem dX11_isLaw_12 : decode cX11_isLaw 12 = .ok (.if_icmp .lt 14, 3) := dk161 (k := 12) bX11_isLaw_0 rfl (by decide)
theorem dX11_isLaw_15 : decode cX11_isLaw 15 = .ok (.iload_n 1, 1) := dk27 (k := 15) bX11_isLaw_0 rfl
theorem dX11_isLaw_16 : decode cX11_isLaw 16 = .ok (.sipush 999, 3) := dk17 (k := 16) bX11_isLaw_0 rfl (by decide)
theorem dX11_isLaw_19 : decode cX11_isLaw 19 = .ok (.if_icmp .gt 7, 3) := dk163 (k := 19) bX11_isLaw_0 rfl (by decide)
theorem dX11_isLaw_22 : decode cX11_isLaw 22 = .ok (.iconst 1, 1) := dk4 (k := 22) bX11_isLaw_0 rfl
theorem dX11_isLaw_23 : decode cX11_isLaw 23 = .ok (.goto 4, 3) := dk167 (k := 23) bX11_isLaw_0 rfl (by decide)
theorem bX11_isLaw_26 : bL cX11_isLaw 26 [3, 172] := bL_of (by decide +kernel)
theorem dX11_isLaw_26 : decode cX11_isLaw 26 = .ok (.iconst 0, 1) := dk3 (k := 0) bX11_isLaw_26 rfl
theorem dX11_isLaw_27 : decode cX11_isLaw 27 = .ok (.ireturn, 1) := dk172 (k := 1) bX11_isLaw_26 rfl
theorem bX11_isDraw_0 : bL cX11_isDraw 0 [42, 180, 0, 28, 182, 0, 157, 153, 0, 28, 27, 155, 0, 24, 27, 19, 1, 122, 163, 0, 17, 28, 155, 0, 13] := bL_of (by decide +kernel)
theorem dX11_isDraw_0 : decode cX11_isDraw 0 = .ok (.aload_n 0, 1) := dk42 (k := 0) bX11_isDraw_0 rfl
theorem dX11_isDraw_1 : decode cX11_isDraw 1 = .ok (.getfield 28, 3) := dk180 (k := 1) bX11_isDraw_0 rfl rfl
theorem dX11_isDraw_4 : decode cX11_isDraw 4 = .ok (.invokevirtual 157, 3) := dk182 (k := 4) bX11_isDraw_0 rfl rfl
theorem dX11_isDraw_7 : decode cX11_isDraw 7 = .ok (.ifCond .eq 28, 3) := dk153 (k := 7) bX11_isDraw_0 rfl (by decide)
theorem dX11_isDraw_10 : decode cX11_isDraw 10 = .ok (.iload_n 1, 1) := dk27 (k := 10) bX11_isDraw_0 rfl
theorem dX11_isDraw_11 : decode cX11_isDraw 11 = .ok (.ifCond .lt 24, 3) := dk155 (k := 11) bX11_isDraw_0 rfl (by decide)
theorem dX11_isDraw_14 : decode cX11_isDraw 14 = .ok (.iload_n 1, 1) := dk27 (k := 14) bX11_isDraw_0 rfl
theorem dX11_isDraw_15 : decode cX11_isDraw 15 = .ok (.ldc_w 378, 3) := dk19 (k := 15) bX11_isDraw_0 rfl rfl
theorem dX11_isDraw_18 : decode cX11_isDraw 18 = .ok (.if_icmp .gt 17, 3) := dk163 (k := 18) bX11_isDraw_0 rfl (by decide)
theorem dX11_isDraw_21 : decode cX11_isDraw 21 = .ok (.iload_n 2, 1) := dk28 (k := 21) bX11_isDraw_0 rfl
theorem dX11_isDraw_22 : decode cX11_isDraw 22 = .ok (.ifCond .lt 13, 3) := dk155 (k := 22) bX11_isDraw_0 rfl (by decide)
theorem bX11_isDraw_25 : bL cX11_isDraw 25 [28, 16, 40, 163, 0, 7, 4, 167, 0, 4, 3, 172] := bL_of (by decide +kernel)
theorem dX11_isDraw_25 : decode cX11_isDraw 25 = .ok (.iload_n 2, 1) := dk28 (k := 0) bX11_isDraw_25 rfl
theorem dX11_isDraw_26 : decode cX11_isDraw 26 = .ok (.bipush 40, 2) := dk16 (k := 1) bX11_isDraw_25 rfl (by decide)
theorem dX11_isDraw_28 : decode cX11_isDraw 28 = .ok (.if_icmp .gt 7, 3) := dk163 (k := 3) bX11_isDraw_25 rfl (by decide)
theorem dX11_isDraw_31 : decode cX11_isDraw 31 = .ok (.iconst 1, 1) := dk4 (k := 6) bX11_isDraw_25 rfl
theorem dX11_isDraw_32 : decode cX11_isDraw 32 = .ok (.goto 4, 3) := dk167 (k := 7) bX11_isDraw_25 rfl (by decide)
theorem dX11_isDraw_35 : decode cX11_isDraw 35 = .ok (.iconst 0, 1) := dk3 (k := 10) bX11_isDraw_25 rfl
theorem dX11_isDraw_36 : decode cX11_isDraw 36 = .ok (.ireturn, 1) := dk172 (k := 11) bX11_isDraw_25 rfl
theorem bX11_rollRefusal_0 : bL cX11_rollRefusal 0 [42, 180, 0, 43, 27, 182, 1, 97, 153, 0, 13, 42, 180, 0, 28, 182, 0, 157, 154, 0, 6, 16, 254, 172] := bL_of (by decide +kernel)
theorem dX11_rollRefusal_0 : decode cX11_rollRefusal 0 = .ok (.aload_n 0, 1) := dk42 (k := 0) bX11_rollRefusal_0 rfl
theorem dX11_rollRefusal_1 : decode cX11_rollRefusal 1 = .ok (.getfield 43, 3) := dk180 (k := 1) bX11_rollRefusal_0 rfl rfl
theorem dX11_rollRefusal_4 : decode cX11_rollRefusal 4 = .ok (.iload_n 1, 1) := dk27 (k := 4) bX11_rollRefusal_0 rfl
theorem dX11_rollRefusal_5 : decode cX11_rollRefusal 5 = .ok (.invokevirtual 353, 3) := dk182 (k := 5) bX11_rollRefusal_0 rfl rfl
theorem dX11_rollRefusal_8 : decode cX11_rollRefusal 8 = .ok (.ifCond .eq 13, 3) := dk153 (k := 8) bX11_rollRefusal_0 rfl (by decide)
theorem dX11_rollRefusal_11 : decode cX11_rollRefusal 11 = .ok (.aload_n 0, 1) := dk42 (k := 11) bX11_rollRefusal_0 rfl
theorem dX11_rollRefusal_12 : decode cX11_rollRefusal 12 = .ok (.getfield 28, 3) := dk180 (k := 12) bX11_rollRefusal_0 rfl rfl
theorem dX11_rollRefusal_15 : decode cX11_rollRefusal 15 = .ok (.invokevirtual 157, 3) := dk182 (k := 15) bX11_rollRefusal_0 rfl rfl
theorem dX11_rollRefusal_18 : decode cX11_rollRefusal 18 = .ok (.ifCond .ne 6, 3) := dk154 (k := 18) bX11_rollRefusal_0 rfl (by decide)
theorem dX11_rollRefusal_21 : decode cX11_rollRefusal 21 = .ok (.bipush (-2), 2) := dk16 (k := 21) bX11_rollRefusal_0 rfl (by decide)
theorem dX11_rollRefusal_23 : decode cX11_rollRefusal 23 = .ok (.ireturn, 1) := dk172 (k := 23) bX11_rollRefusal_0 rfl
theorem bX11_rollRefusal_24 : bL cX11_rollRefusal 24 [42, 180, 0, 43, 27, 182, 1, 101, 154, 0, 6, 16, 250, 172, 42, 180, 0, 28, 180, 0, 126, 42, 180, 0, 43] := bL_of (by decide +kernel)
theorem dX11_rollRefusal_24 : decode cX11_rollRefusal 24 = .ok (.aload_n 0, 1) := dk42 (k := 0) bX11_rollRefusal_24 rfl
theorem dX11_rollRefusal_25 : decode cX11_rollRefusal 25 = .ok (.getfield 43, 3) := dk180 (k := 1) bX11_rollRefusal_24 rfl rfl
theorem dX11_rollRefusal_28 : decode cX11_rollRefusal 28 = .ok (.iload_n 1, 1) := dk27 (k := 4) bX11_rollRefusal_24 rfl
theorem dX11_rollRefusal_29 : decode cX11_rollRefusal 29 = .ok (.invokevirtual 357, 3) := dk182 (k := 5) bX11_rollRefusal_24 rfl rfl
theorem dX11_rollRefusal_32 : decode cX11_rollRefusal 32 = .ok (.ifCond .ne 6, 3) := dk154 (k := 8) bX11_rollRefusal_24 rfl (by decide)
theorem dX11_rollRefusal_35 : decode cX11_rollRefusal 35 = .ok (.bipush (-6), 2) := dk16 (k := 11) bX11_rollRefusal_24 rfl (by decide)
theorem dX11_rollRefusal_37 : decode cX11_rollRefusal 37 = .ok (.ireturn, 1) := dk172 (k := 13) bX11_rollRefusal_24 rfl
theorem dX11_rollRefusal_38 : decode cX11_rollRefusal 38 = .ok (.aload_n 0, 1) := dk42 (k := 14) bX11_rollRefusal_24 rfl
theorem dX11_rollRefusal_39 : decode cX11_rollRefusal 39 = .ok (.getfield 28, 3) := dk180 (k := 15) bX11_rollRefusal_24 rfl rfl
theorem dX11_rollRefusal_42 : decode cX11_rollRefusal 42 = .ok (.getfield 126, 3) := dk180 (k := 18) bX11_rollRefusal_24 rfl rfl
theorem dX11_rollRefusal_45 : decode cX11_rollRefusal 45 = .ok (.aload_n 0, 1) := dk42 (k := 21) bX11_rollRefusal_24 rfl
theorem dX11_rollRefusal_46 : decode cX11_rollRefusal 46 = .ok (.getfield 43, 3) := dk180 (k := 22) bX11_rollRefusal_24 rfl rfl
theorem bX11_rollRefusal_49 : bL cX11_rollRefusal 49 [27, 182, 1, 123, 153, 0, 7, 3, 167, 0, 5, 16, 254, 172] := bL_of (by decide +kernel)
theorem dX11_rollRefusal_49 : decode cX11_rollRefusal 49 = .ok (.iload_n 1, 1) := dk27 (k := 0) bX11_rollRefusal_49 rfl
theorem dX11_rollRefusal_50 : decode cX11_rollRefusal 50 = .ok (.invokevirtual 379, 3) := dk182 (k := 1) bX11_rollRefusal_49 rfl rfl
theorem dX11_rollRefusal_53 : decode cX11_rollRefusal 53 = .ok (.ifCond .eq 7, 3) := dk153 (k := 4) bX11_rollRefusal_49 rfl (by decide)
theorem dX11_rollRefusal_56 : decode cX11_rollRefusal 56 = .ok (.iconst 0, 1) := dk3 (k := 7) bX11_rollRefusal_49 rfl
theorem dX11_rollRefusal_57 : decode cX11_rollRefusal 57 = .ok (.goto 5, 3) := dk167 (k := 8) bX11_rollRefusal_49 rfl (by decide)
theorem dX11_rollRefusal_60 : decode cX11_rollRefusal 60 = .ok (.bipush (-2), 2) := dk16 (k := 11) bX11_rollRefusal_49 rfl (by decide)
theorem dX11_rollRefusal_62 : decode cX11_rollRefusal 62 = .ok (.ireturn, 1) := dk172 (k := 13) bX11_rollRefusal_49 rfl
theorem bX12_init_0 : bL cX12_init 0 [42, 183, 0, 3, 42, 17, 0, 135] := bL_of (by decide +kernel)
theorem dX12_init_0 : decode cX12_init 0 = .ok (.aload_n 0, 1) := dk42 (k := 0) bX12_init_0 rfl
theorem dX12_init_1 : decode cX12_init 1 = .ok (.invokespecial 3, 3) := dk183 (k := 1) bX12_init_0 rfl rfl
theorem dX12_init_4 : decode cX12_init 4 = .ok (.aload_n 0, 1) := dk42 (k := 4) bX12_init_0 rfl
theorem dX12_init_5 : decode cX12_init 5 = .ok (.sipush 135, 3) := dk17 (k := 5) bX12_init_0 rfl (by decide)
theorem dX12_init_8 : decode cX12_init 8 = .ok (.newarray .int, 2) := by decide +kernel
theorem bX12_init_10 : bL cX12_init 10 [181, 0, 9, 42, 17, 1, 149] := bL_of (by decide +kernel)
theorem dX12_init_10 : decode cX12_init 10 = .ok (.putfield 9, 3) := dk181 (k := 0) bX12_init_10 rfl rfl
theorem dX12_init_13 : decode cX12_init 13 = .ok (.aload_n 0, 1) := dk42 (k := 3) bX12_init_10 rfl
theorem dX12_init_14 : decode cX12_init 14 = .ok (.sipush 405, 3) := dk17 (k := 4) bX12_init_10 rfl (by decide)
theorem dX12_init_17 : decode cX12_init 17 = .ok (.newarray .int, 2) := by decide +kernel
theorem bX12_init_19 : bL cX12_init 19 [181, 0, 13, 42, 6] := bL_of (by decide +kernel)
theorem dX12_init_19 : decode cX12_init 19 = .ok (.putfield 13, 3) := dk181 (k := 0) bX12_init_19 rfl rfl
theorem dX12_init_22 : decode cX12_init 22 = .ok (.aload_n 0, 1) := dk42 (k := 3) bX12_init_19 rfl
theorem dX12_init_23 : decode cX12_init 23 = .ok (.iconst 3, 1) := dk6 (k := 4) bX12_init_19 rfl
theorem dX12_init_24 : decode cX12_init 24 = .ok (.newarray .boolean, 2) := by decide +kernel
theorem bX12_init_26 : bL cX12_init 26 [181, 0, 16, 42, 17, 3, 132] := bL_of (by decide +kernel)
theorem dX12_init_26 : decode cX12_init 26 = .ok (.putfield 16, 3) := dk181 (k := 0) bX12_init_26 rfl rfl
theorem dX12_init_29 : decode cX12_init 29 = .ok (.aload_n 0, 1) := dk42 (k := 3) bX12_init_26 rfl
theorem dX12_init_30 : decode cX12_init 30 = .ok (.sipush 900, 3) := dk17 (k := 4) bX12_init_26 rfl (by decide)
theorem dX12_init_33 : decode cX12_init 33 = .ok (.newarray .byte, 2) := by decide +kernel
theorem bX12_init_35 : bL cX12_init 35 [181, 0, 20, 42, 8] := bL_of (by decide +kernel)
theorem dX12_init_35 : decode cX12_init 35 = .ok (.putfield 20, 3) := dk181 (k := 0) bX12_init_35 rfl rfl
theorem dX12_init_38 : decode cX12_init 38 = .ok (.aload_n 0, 1) := dk42 (k := 3) bX12_init_35 rfl
theorem dX12_init_39 : decode cX12_init 39 = .ok (.iconst 5, 1) := dk8 (k := 4) bX12_init_35 rfl
theorem dX12_init_40 : decode cX12_init 40 = .ok (.newarray .int, 2) := by decide +kernel
theorem bX12_init_42 : bL cX12_init 42 [181, 0, 24, 42, 2, 181, 0, 27, 42, 17, 0, 135] := bL_of (by decide +kernel)
theorem dX12_init_42 : decode cX12_init 42 = .ok (.putfield 24, 3) := dk181 (k := 0) bX12_init_42 rfl rfl
theorem dX12_init_45 : decode cX12_init 45 = .ok (.aload_n 0, 1) := dk42 (k := 3) bX12_init_42 rfl
theorem dX12_init_46 : decode cX12_init 46 = .ok (.iconst (-1), 1) := dk2 (k := 4) bX12_init_42 rfl
theorem dX12_init_47 : decode cX12_init 47 = .ok (.putfield 27, 3) := dk181 (k := 5) bX12_init_42 rfl rfl
theorem dX12_init_50 : decode cX12_init 50 = .ok (.aload_n 0, 1) := dk42 (k := 8) bX12_init_42 rfl
theorem dX12_init_51 : decode cX12_init 51 = .ok (.sipush 135, 3) := dk17 (k := 9) bX12_init_42 rfl (by decide)
theorem dX12_init_54 : decode cX12_init 54 = .ok (.newarray .int, 2) := by decide +kernel
theorem bX12_init_56 : bL cX12_init 56 [181, 0, 31, 42, 16, 10] := bL_of (by decide +kernel)
theorem dX12_init_56 : decode cX12_init 56 = .ok (.putfield 31, 3) := dk181 (k := 0) bX12_init_56 rfl rfl
theorem dX12_init_59 : decode cX12_init 59 = .ok (.aload_n 0, 1) := dk42 (k := 3) bX12_init_56 rfl
theorem dX12_init_60 : decode cX12_init 60 = .ok (.bipush 10, 2) := dk16 (k := 4) bX12_init_56 rfl (by decide)
theorem dX12_init_62 : decode cX12_init 62 = .ok (.newarray .int, 2) := by decide +kernel
theorem bX12_init_64 : bL cX12_init 64 [181, 0, 34, 42, 18, 37] := bL_of (by decide +kernel)
theorem dX12_init_64 : decode cX12_init 64 = .ok (.putfield 34, 3) := dk181 (k := 0) bX12_init_64 rfl rfl
theorem dX12_init_67 : decode cX12_init 67 = .ok (.aload_n 0, 1) := dk42 (k := 3) bX12_init_64 rfl
theorem dX12_init_68 : decode cX12_init 68 = .ok (.ldc 37, 2) := dk18 (k := 4) bX12_init_64 rfl rfl
theorem dX12_init_70 : decode cX12_init 70 = .ok (.newarray .boolean, 2) := by decide +kernel
theorem bX12_init_72 : bL cX12_init 72 [181, 0, 38, 42, 6] := bL_of (by decide +kernel)
theorem dX12_init_72 : decode cX12_init 72 = .ok (.putfield 38, 3) := dk181 (k := 0) bX12_init_72 rfl rfl
theorem dX12_init_75 : decode cX12_init 75 = .ok (.aload_n 0, 1) := dk42 (k := 3) bX12_init_72 rfl
theorem dX12_init_76 : decode cX12_init 76 = .ok (.iconst 3, 1) := dk6 (k := 4) bX12_init_72 rfl
theorem dX12_init_77 : decode cX12_init 77 = .ok (.newarray .int, 2) := by decide +kernel
theorem bX12_init_79 : bL cX12_init 79 [181, 0, 41, 42, 6] := bL_of (by decide +kernel)
theorem dX12_init_79 : decode cX12_init 79 = .ok (.putfield 41, 3) := dk181 (k := 0) bX12_init_79 rfl rfl
theorem dX12_init_82 : decode cX12_init 82 = .ok (.aload_n 0, 1) := dk42 (k := 3) bX12_init_79 rfl
theorem dX12_init_83 : decode cX12_init 83 = .ok (.iconst 3, 1) := dk6 (k := 4) bX12_init_79 rfl
theorem dX12_init_84 : decode cX12_init 84 = .ok (.newarray .int, 2) := by decide +kernel
theorem bX12_init_86 : bL cX12_init 86 [181, 0, 44, 42, 7] := bL_of (by decide +kernel)
theorem dX12_init_86 : decode cX12_init 86 = .ok (.putfield 44, 3) := dk181 (k := 0) bX12_init_86 rfl rfl
theorem dX12_init_89 : decode cX12_init 89 = .ok (.aload_n 0, 1) := dk42 (k := 3) bX12_init_86 rfl
theorem dX12_init_90 : decode cX12_init 90 = .ok (.iconst 4, 1) := dk7 (k := 4) bX12_init_86 rfl
theorem dX12_init_91 : decode cX12_init 91 = .ok (.newarray .int, 2) := by decide +kernel
theorem bX12_init_93 : bL cX12_init 93 [89, 3, 2, 79, 89, 4, 2, 79, 89, 5, 2, 79, 89, 6, 2, 79, 181, 0, 47, 42, 7] := bL_of (by decide +kernel)
theorem dX12_init_93 : decode cX12_init 93 = .ok (.dup, 1) := dk89 (k := 0) bX12_init_93 rfl
theorem dX12_init_94 : decode cX12_init 94 = .ok (.iconst 0, 1) := dk3 (k := 1) bX12_init_93 rfl
theorem dX12_init_95 : decode cX12_init 95 = .ok (.iconst (-1), 1) := dk2 (k := 2) bX12_init_93 rfl
theorem dX12_init_96 : decode cX12_init 96 = .ok (.iastore, 1) := dk79 (k := 3) bX12_init_93 rfl
theorem dX12_init_97 : decode cX12_init 97 = .ok (.dup, 1) := dk89 (k := 4) bX12_init_93 rfl
theorem dX12_init_98 : decode cX12_init 98 = .ok (.iconst 1, 1) := dk4 (k := 5) bX12_init_93 rfl
theorem dX12_init_99 : decode cX12_init 99 = .ok (.iconst (-1), 1) := dk2 (k := 6) bX12_init_93 rfl
theorem dX12_init_100 : decode cX12_init 100 = .ok (.iastore, 1) := dk79 (k := 7) bX12_init_93 rfl
theorem dX12_init_101 : decode cX12_init 101 = .ok (.dup, 1) := dk89 (k := 8) bX12_init_93 rfl
theorem dX12_init_102 : decode cX12_init 102 = .ok (.iconst 2, 1) := dk5 (k := 9) bX12_init_93 rfl
theorem dX12_init_103 : decode cX12_init 103 = .ok (.iconst (-1), 1) := dk2 (k := 10) bX12_init_93 rfl
theorem dX12_init_104 : decode cX12_init 104 = .ok (.iastore, 1) := dk79 (k := 11) bX12_init_93 rfl
theorem dX12_init_105 : decode cX12_init 105 = .ok (.dup, 1) := dk89 (k := 12) bX12_init_93 rfl
theorem dX12_init_106 : decode cX12_init 106 = .ok (.iconst 3, 1) := dk6 (k := 13) bX12_init_93 rfl
theorem dX12_init_107 : decode cX12_init 107 = .ok (.iconst (-1), 1) := dk2 (k := 14) bX12_init_93 rfl
theorem dX12_init_108 : decode cX12_init 108 = .ok (.iastore, 1) := dk79 (k := 15) bX12_init_93 rfl
theorem dX12_init_109 : decode cX12_init 109 = .ok (.putfield 47, 3) := dk181 (k := 16) bX12_init_93 rfl rfl
theorem dX12_init_112 : decode cX12_init 112 = .ok (.aload_n 0, 1) := dk42 (k := 19) bX12_init_93 rfl
theorem dX12_init_113 : decode cX12_init 113 = .ok (.iconst 4, 1) := dk7 (k := 20) bX12_init_93 rfl
theorem dX12_init_114 : decode cX12_init 114 = .ok (.newarray .int, 2) := by decide +kernel
theorem bX12_init_116 : bL cX12_init 116 [181, 0, 50, 42, 17, 0, 240] := bL_of (by decide +kernel)
theorem dX12_init_116 : decode cX12_init 116 = .ok (.putfield 50, 3) := dk181 (k := 0) bX12_init_116 rfl rfl
theorem dX12_init_119 : decode cX12_init 119 = .ok (.aload_n 0, 1) := dk42 (k := 3) bX12_init_116 rfl
theorem dX12_init_120 : decode cX12_init 120 = .ok (.sipush 240, 3) := dk17 (k := 4) bX12_init_116 rfl (by decide)
theorem dX12_init_123 : decode cX12_init 123 = .ok (.newarray .long, 2) := by decide +kernel
theorem bX12_init_125 : bL cX12_init 125 [181, 0, 53, 42, 16, 60] := bL_of (by decide +kernel)
theorem dX12_init_125 : decode cX12_init 125 = .ok (.putfield 53, 3) := dk181 (k := 0) bX12_init_125 rfl rfl
theorem dX12_init_128 : decode cX12_init 128 = .ok (.aload_n 0, 1) := dk42 (k := 3) bX12_init_125 rfl
theorem dX12_init_129 : decode cX12_init 129 = .ok (.bipush 60, 2) := dk16 (k := 4) bX12_init_125 rfl (by decide)
theorem dX12_init_131 : decode cX12_init 131 = .ok (.newarray .long, 2) := by decide +kernel
theorem bX12_init_133 : bL cX12_init 133 [181, 0, 57, 177] := bL_of (by decide +kernel)
theorem dX12_init_133 : decode cX12_init 133 = .ok (.putfield 57, 3) := dk181 (k := 0) bX12_init_133 rfl rfl
theorem dX12_init_136 : decode cX12_init 136 = .ok (.return_, 1) := dk177 (k := 3) bX12_init_133 rfl
theorem bX12_in_0 : bL cX12_in 0 [30, 32, 148, 155, 0, 14, 30, 22, 4, 148, 157, 0, 7, 4, 167, 0, 4, 3, 172] := bL_of (by decide +kernel)
theorem dX12_in_0 : decode cX12_in 0 = .ok (.lload_n 0, 1) := dk30 (k := 0) bX12_in_0 rfl
theorem dX12_in_1 : decode cX12_in 1 = .ok (.lload_n 2, 1) := dk32 (k := 1) bX12_in_0 rfl
theorem dX12_in_2 : decode cX12_in 2 = .ok (.lcmp, 1) := dk148 (k := 2) bX12_in_0 rfl
theorem dX12_in_3 : decode cX12_in 3 = .ok (.ifCond .lt 14, 3) := dk155 (k := 3) bX12_in_0 rfl (by decide)
theorem dX12_in_6 : decode cX12_in 6 = .ok (.lload_n 0, 1) := dk30 (k := 6) bX12_in_0 rfl
theorem dX12_in_7 : decode cX12_in 7 = .ok (.lload 4, 2) := dk22 (k := 7) bX12_in_0 rfl rfl
theorem dX12_in_9 : decode cX12_in 9 = .ok (.lcmp, 1) := dk148 (k := 9) bX12_in_0 rfl
theorem dX12_in_10 : decode cX12_in 10 = .ok (.ifCond .gt 7, 3) := dk157 (k := 10) bX12_in_0 rfl (by decide)
theorem dX12_in_13 : decode cX12_in 13 = .ok (.iconst 1, 1) := dk4 (k := 13) bX12_in_0 rfl
theorem dX12_in_14 : decode cX12_in 14 = .ok (.goto 4, 3) := dk167 (k := 14) bX12_in_0 rfl (by decide)
theorem dX12_in_17 : decode cX12_in 17 = .ok (.iconst 0, 1) := dk3 (k := 17) bX12_in_0 rfl
theorem dX12_in_18 : decode cX12_in 18 = .ok (.ireturn, 1) := dk172 (k := 18) bX12_in_0 rfl
theorem bX12_bits_0 : bL cX12_bits 0 [3, 60, 3, 61, 28, 16, 21, 162, 0, 17, 27, 26, 28, 122, 4, 126, 96, 60, 132, 2, 1, 167, 255, 239] := bL_of (by decide +kernel)
theorem dX12_bits_0 : decode cX12_bits 0 = .ok (.iconst 0, 1) := dk3 (k := 0) bX12_bits_0 rfl
theorem dX12_bits_1 : decode cX12_bits 1 = .ok (.istore_n 1, 1) := dk60 (k := 1) bX12_bits_0 rfl
theorem dX12_bits_2 : decode cX12_bits 2 = .ok (.iconst 0, 1) := dk3 (k := 2) bX12_bits_0 rfl
theorem dX12_bits_3 : decode cX12_bits 3 = .ok (.istore_n 2, 1) := dk61 (k := 3) bX12_bits_0 rfl
theorem dX12_bits_4 : decode cX12_bits 4 = .ok (.iload_n 2, 1) := dk28 (k := 4) bX12_bits_0 rfl
theorem dX12_bits_5 : decode cX12_bits 5 = .ok (.bipush 21, 2) := dk16 (k := 5) bX12_bits_0 rfl (by decide)
theorem dX12_bits_7 : decode cX12_bits 7 = .ok (.if_icmp .ge 17, 3) := dk162 (k := 7) bX12_bits_0 rfl (by decide)
theorem dX12_bits_10 : decode cX12_bits 10 = .ok (.iload_n 1, 1) := dk27 (k := 10) bX12_bits_0 rfl
theorem dX12_bits_11 : decode cX12_bits 11 = .ok (.iload_n 0, 1) := dk26 (k := 11) bX12_bits_0 rfl
theorem dX12_bits_12 : decode cX12_bits 12 = .ok (.iload_n 2, 1) := dk28 (k := 12) bX12_bits_0 rfl
theorem dX12_bits_13 : decode cX12_bits 13 = .ok (.ishr, 1) := dk122 (k := 13) bX12_bits_0 rfl
theorem dX12_bits_14 : decode cX12_bits 14 = .ok (.iconst 1, 1) := dk4 (k := 14) bX12_bits_0 rfl
theorem dX12_bits_15 : decode cX12_bits 15 = .ok (.iand, 1) := dk126 (k := 15) bX12_bits_0 rfl
theorem dX12_bits_16 : decode cX12_bits 16 = .ok (.iadd, 1) := dk96 (k := 16) bX12_bits_0 rfl
theorem dX12_bits_17 : decode cX12_bits 17 = .ok (.istore_n 1, 1) := dk60 (k := 17) bX12_bits_0 rfl
theorem dX12_bits_18 : decode cX12_bits 18 = .ok (.iinc 2 1, 3) := dk132 (k := 18) bX12_bits_0 rfl rfl (by decide)
theorem dX12_bits_21 : decode cX12_bits 21 = .ok (.goto (-17), 3) := dk167 (k := 21) bX12_bits_0 rfl (by decide)
theorem bX12_bits_24 : bL cX12_bits 24 [27, 172] := bL_of (by decide +kernel)
theorem dX12_bits_24 : decode cX12_bits 24 = .ok (.iload_n 1, 1) := dk27 (k := 0) bX12_bits_24 rfl
theorem dX12_bits_25 : decode cX12_bits 25 = .ok (.ireturn, 1) := dk172 (k := 1) bX12_bits_24 rfl
theorem bX12_bit_0 : bL cX12_bit 0 [26, 27, 122, 4, 126, 172] := bL_of (by decide +kernel)
theorem dX12_bit_0 : decode cX12_bit 0 = .ok (.iload_n 0, 1) := dk26 (k := 0) bX12_bit_0 rfl
theorem dX12_bit_1 : decode cX12_bit 1 = .ok (.iload_n 1, 1) := dk27 (k := 1) bX12_bit_0 rfl
theorem dX12_bit_2 : decode cX12_bit 2 = .ok (.ishr, 1) := dk122 (k := 2) bX12_bit_0 rfl
theorem dX12_bit_3 : decode cX12_bit 3 = .ok (.iconst 1, 1) := dk4 (k := 3) bX12_bit_0 rfl
theorem dX12_bit_4 : decode cX12_bit 4 = .ok (.iand, 1) := dk126 (k := 4) bX12_bit_0 rfl
theorem dX12_bit_5 : decode cX12_bit 5 = .ok (.ireturn, 1) := dk172 (k := 5) bX12_bit_0 rfl
theorem bX12_image_0 : bL cX12_image 0 [27, 133, 9, 20, 0, 63, 184, 0, 65, 154, 0, 6, 16, 254, 172, 3, 61, 28, 17, 0, 135, 162, 0, 27] := bL_of (by decide +kernel)
theorem dX12_image_0 : decode cX12_image 0 = .ok (.iload_n 1, 1) := dk27 (k := 0) bX12_image_0 rfl
theorem dX12_image_1 : decode cX12_image 1 = .ok (.i2l, 1) := dk133 (k := 1) bX12_image_0 rfl
theorem dX12_image_2 : decode cX12_image 2 = .ok (.lconst 0, 1) := dk9 (k := 2) bX12_image_0 rfl
theorem dX12_image_3 : decode cX12_image 3 = .ok (.ldc2_w 63, 3) := dk20 (k := 3) bX12_image_0 rfl rfl
theorem dX12_image_6 : decode cX12_image 6 = .ok (.invokestatic 65, 3) := dk184 (k := 6) bX12_image_0 rfl rfl
theorem dX12_image_9 : decode cX12_image 9 = .ok (.ifCond .ne 6, 3) := dk154 (k := 9) bX12_image_0 rfl (by decide)
theorem dX12_image_12 : decode cX12_image 12 = .ok (.bipush (-2), 2) := dk16 (k := 12) bX12_image_0 rfl (by decide)
theorem dX12_image_14 : decode cX12_image 14 = .ok (.ireturn, 1) := dk172 (k := 14) bX12_image_0 rfl
theorem dX12_image_15 : decode cX12_image 15 = .ok (.iconst 0, 1) := dk3 (k := 15) bX12_image_0 rfl
theorem dX12_image_16 : decode cX12_image 16 = .ok (.istore_n 2, 1) := dk61 (k := 16) bX12_image_0 rfl
theorem dX12_image_17 : decode cX12_image 17 = .ok (.iload_n 2, 1) := dk28 (k := 17) bX12_image_0 rfl
theorem dX12_image_18 : decode cX12_image 18 = .ok (.sipush 135, 3) := dk17 (k := 18) bX12_image_0 rfl (by decide)
theorem dX12_image_21 : decode cX12_image 21 = .ok (.if_icmp .ge 27, 3) := dk162 (k := 21) bX12_image_0 rfl (by decide)
theorem bX12_image_24 : bL cX12_image 24 [42, 180, 0, 13, 17, 0, 135, 27, 104, 28, 96, 42, 180, 0, 9, 28, 46, 79, 132, 2, 1, 167, 255, 228] := bL_of (by decide +kernel)
theorem dX12_image_24 : decode cX12_image 24 = .ok (.aload_n 0, 1) := dk42 (k := 0) bX12_image_24 rfl
theorem dX12_image_25 : decode cX12_image 25 = .ok (.getfield 13, 3) := dk180 (k := 1) bX12_image_24 rfl rfl
theorem dX12_image_28 : decode cX12_image 28 = .ok (.sipush 135, 3) := dk17 (k := 4) bX12_image_24 rfl (by decide)
theorem dX12_image_31 : decode cX12_image 31 = .ok (.iload_n 1, 1) := dk27 (k := 7) bX12_image_24 rfl
theorem dX12_image_32 : decode cX12_image 32 = .ok (.imul, 1) := dk104 (k := 8) bX12_image_24 rfl
theorem dX12_image_33 : decode cX12_image 33 = .ok (.iload_n 2, 1) := dk28 (k := 9) bX12_image_24 rfl
theorem dX12_image_34 : decode cX12_image 34 = .ok (.iadd, 1) := dk96 (k := 10) bX12_image_24 rfl
theorem dX12_image_35 : decode cX12_image 35 = .ok (.aload_n 0, 1) := dk42 (k := 11) bX12_image_24 rfl
theorem dX12_image_36 : decode cX12_image 36 = .ok (.getfield 9, 3) := dk180 (k := 12) bX12_image_24 rfl rfl
theorem dX12_image_39 : decode cX12_image 39 = .ok (.iload_n 2, 1) := dk28 (k := 15) bX12_image_24 rfl
theorem dX12_image_40 : decode cX12_image 40 = .ok (.iaload, 1) := dk46 (k := 16) bX12_image_24 rfl
theorem dX12_image_41 : decode cX12_image 41 = .ok (.iastore, 1) := dk79 (k := 17) bX12_image_24 rfl
theorem dX12_image_42 : decode cX12_image 42 = .ok (.iinc 2 1, 3) := dk132 (k := 18) bX12_image_24 rfl rfl (by decide)
theorem dX12_image_45 : decode cX12_image 45 = .ok (.goto (-28), 3) := dk167 (k := 21) bX12_image_24 rfl (by decide)
theorem bX12_image_48 : bL cX12_image 48 [42, 180, 0, 16, 27, 4, 84, 3, 172] := bL_of (by decide +kernel)
theorem dX12_image_48 : decode cX12_image 48 = .ok (.aload_n 0, 1) := dk42 (k := 0) bX12_image_48 rfl
theorem dX12_image_49 : decode cX12_image 49 = .ok (.getfield 16, 3) := dk180 (k := 1) bX12_image_48 rfl rfl
theorem dX12_image_52 : decode cX12_image 52 = .ok (.iload_n 1, 1) := dk27 (k := 4) bX12_image_48 rfl
theorem dX12_image_53 : decode cX12_image 53 = .ok (.iconst 1, 1) := dk4 (k := 5) bX12_image_48 rfl
theorem dX12_image_54 : decode cX12_image 54 = .ok (.bastore, 1) := dk84 (k := 6) bX12_image_48 rfl
theorem dX12_image_55 : decode cX12_image 55 = .ok (.iconst 0, 1) := dk3 (k := 7) bX12_image_48 rfl
theorem dX12_image_56 : decode cX12_image 56 = .ok (.ireturn, 1) := dk172 (k := 8) bX12_image_48 rfl
theorem bX12_back_0 : bL cX12_back 0 [27, 133, 9, 20, 0, 63, 184, 0, 65, 154, 0, 6, 16, 254, 172, 42, 180, 0, 16, 27, 51, 154, 0, 6] := bL_of (by decide +kernel)
theorem dX12_back_0 : decode cX12_back 0 = .ok (.iload_n 1, 1) := dk27 (k := 0) bX12_back_0 rfl
theorem dX12_back_1 : decode cX12_back 1 = .ok (.i2l, 1) := dk133 (k := 1) bX12_back_0 rfl
theorem dX12_back_2 : decode cX12_back 2 = .ok (.lconst 0, 1) := dk9 (k := 2) bX12_back_0 rfl
theorem dX12_back_3 : decode cX12_back 3 = .ok (.ldc2_w 63, 3) := dk20 (k := 3) bX12_back_0 rfl rfl
theorem dX12_back_6 : decode cX12_back 6 = .ok (.invokestatic 65, 3) := dk184 (k := 6) bX12_back_0 rfl rfl
theorem dX12_back_9 : decode cX12_back 9 = .ok (.ifCond .ne 6, 3) := dk154 (k := 9) bX12_back_0 rfl (by decide)
theorem dX12_back_12 : decode cX12_back 12 = .ok (.bipush (-2), 2) := dk16 (k := 12) bX12_back_0 rfl (by decide)
theorem dX12_back_14 : decode cX12_back 14 = .ok (.ireturn, 1) := dk172 (k := 14) bX12_back_0 rfl
theorem dX12_back_15 : decode cX12_back 15 = .ok (.aload_n 0, 1) := dk42 (k := 15) bX12_back_0 rfl
theorem dX12_back_16 : decode cX12_back 16 = .ok (.getfield 16, 3) := dk180 (k := 16) bX12_back_0 rfl rfl
theorem dX12_back_19 : decode cX12_back 19 = .ok (.iload_n 1, 1) := dk27 (k := 19) bX12_back_0 rfl
theorem dX12_back_20 : decode cX12_back 20 = .ok (.baload, 1) := dk51 (k := 20) bX12_back_0 rfl
theorem dX12_back_21 : decode cX12_back 21 = .ok (.ifCond .ne 6, 3) := dk154 (k := 21) bX12_back_0 rfl (by decide)
theorem bX12_back_24 : bL cX12_back 24 [16, 250, 172, 3, 61, 28, 17, 0, 135, 162, 0, 27, 42, 180, 0, 9, 28, 42, 180, 0, 13, 17, 0, 135] := bL_of (by decide +kernel)
theorem dX12_back_24 : decode cX12_back 24 = .ok (.bipush (-6), 2) := dk16 (k := 0) bX12_back_24 rfl (by decide)
theorem dX12_back_26 : decode cX12_back 26 = .ok (.ireturn, 1) := dk172 (k := 2) bX12_back_24 rfl
theorem dX12_back_27 : decode cX12_back 27 = .ok (.iconst 0, 1) := dk3 (k := 3) bX12_back_24 rfl
theorem dX12_back_28 : decode cX12_back 28 = .ok (.istore_n 2, 1) := dk61 (k := 4) bX12_back_24 rfl
theorem dX12_back_29 : decode cX12_back 29 = .ok (.iload_n 2, 1) := dk28 (k := 5) bX12_back_24 rfl
theorem dX12_back_30 : decode cX12_back 30 = .ok (.sipush 135, 3) := dk17 (k := 6) bX12_back_24 rfl (by decide)
theorem dX12_back_33 : decode cX12_back 33 = .ok (.if_icmp .ge 27, 3) := dk162 (k := 9) bX12_back_24 rfl (by decide)
theorem dX12_back_36 : decode cX12_back 36 = .ok (.aload_n 0, 1) := dk42 (k := 12) bX12_back_24 rfl
theorem dX12_back_37 : decode cX12_back 37 = .ok (.getfield 9, 3) := dk180 (k := 13) bX12_back_24 rfl rfl
theorem dX12_back_40 : decode cX12_back 40 = .ok (.iload_n 2, 1) := dk28 (k := 16) bX12_back_24 rfl
theorem dX12_back_41 : decode cX12_back 41 = .ok (.aload_n 0, 1) := dk42 (k := 17) bX12_back_24 rfl
theorem dX12_back_42 : decode cX12_back 42 = .ok (.getfield 13, 3) := dk180 (k := 18) bX12_back_24 rfl rfl
theorem dX12_back_45 : decode cX12_back 45 = .ok (.sipush 135, 3) := dk17 (k := 21) bX12_back_24 rfl (by decide)
theorem bX12_back_48 : bL cX12_back 48 [27, 104, 28, 96, 46, 79, 132, 2, 1, 167, 255, 228, 3, 172] := bL_of (by decide +kernel)
theorem dX12_back_48 : decode cX12_back 48 = .ok (.iload_n 1, 1) := dk27 (k := 0) bX12_back_48 rfl
theorem dX12_back_49 : decode cX12_back 49 = .ok (.imul, 1) := dk104 (k := 1) bX12_back_48 rfl
theorem dX12_back_50 : decode cX12_back 50 = .ok (.iload_n 2, 1) := dk28 (k := 2) bX12_back_48 rfl
theorem dX12_back_51 : decode cX12_back 51 = .ok (.iadd, 1) := dk96 (k := 3) bX12_back_48 rfl
theorem dX12_back_52 : decode cX12_back 52 = .ok (.iaload, 1) := dk46 (k := 4) bX12_back_48 rfl
theorem dX12_back_53 : decode cX12_back 53 = .ok (.iastore, 1) := dk79 (k := 5) bX12_back_48 rfl
theorem dX12_back_54 : decode cX12_back 54 = .ok (.iinc 2 1, 3) := dk132 (k := 6) bX12_back_48 rfl rfl (by decide)
theorem dX12_back_57 : decode cX12_back 57 = .ok (.goto (-28), 3) := dk167 (k := 9) bX12_back_48 rfl (by decide)
theorem dX12_back_60 : decode cX12_back 60 = .ok (.iconst 0, 1) := dk3 (k := 12) bX12_back_48 rfl
theorem dX12_back_61 : decode cX12_back 61 = .ok (.ireturn, 1) := dk172 (k := 13) bX12_back_48 rfl
theorem bX12_isMount_0 : bL cX12_isMount 0 [42, 180, 0, 9, 16, 7, 46, 158, 0, 7, 4, 167, 0, 4, 3, 172] := bL_of (by decide +kernel)
theorem dX12_isMount_0 : decode cX12_isMount 0 = .ok (.aload_n 0, 1) := dk42 (k := 0) bX12_isMount_0 rfl
theorem dX12_isMount_1 : decode cX12_isMount 1 = .ok (.getfield 9, 3) := dk180 (k := 1) bX12_isMount_0 rfl rfl
theorem dX12_isMount_4 : decode cX12_isMount 4 = .ok (.bipush 7, 2) := dk16 (k := 4) bX12_isMount_0 rfl (by decide)
theorem dX12_isMount_6 : decode cX12_isMount 6 = .ok (.iaload, 1) := dk46 (k := 6) bX12_isMount_0 rfl
theorem dX12_isMount_7 : decode cX12_isMount 7 = .ok (.ifCond .le 7, 3) := dk158 (k := 7) bX12_isMount_0 rfl (by decide)
theorem dX12_isMount_10 : decode cX12_isMount 10 = .ok (.iconst 1, 1) := dk4 (k := 10) bX12_isMount_0 rfl
theorem dX12_isMount_11 : decode cX12_isMount 11 = .ok (.goto 4, 3) := dk167 (k := 11) bX12_isMount_0 rfl (by decide)
theorem dX12_isMount_14 : decode cX12_isMount 14 = .ok (.iconst 0, 1) := dk3 (k := 14) bX12_isMount_0 rfl
theorem dX12_isMount_15 : decode cX12_isMount 15 = .ok (.ireturn, 1) := dk172 (k := 15) bX12_isMount_0 rfl
theorem bX12_isCell_0 : bL cX12_isCell 0 [31, 9, 42, 180, 0, 9, 3, 46, 4, 100, 133, 184, 0, 65, 172] := bL_of (by decide +kernel)
theorem dX12_isCell_0 : decode cX12_isCell 0 = .ok (.lload_n 1, 1) := dk31 (k := 0) bX12_isCell_0 rfl
theorem dX12_isCell_1 : decode cX12_isCell 1 = .ok (.lconst 0, 1) := dk9 (k := 1) bX12_isCell_0 rfl
theorem dX12_isCell_2 : decode cX12_isCell 2 = .ok (.aload_n 0, 1) := dk42 (k := 2) bX12_isCell_0 rfl
theorem dX12_isCell_3 : decode cX12_isCell 3 = .ok (.getfield 9, 3) := dk180 (k := 3) bX12_isCell_0 rfl rfl
theorem dX12_isCell_6 : decode cX12_isCell 6 = .ok (.iconst 0, 1) := dk3 (k := 6) bX12_isCell_0 rfl
theorem dX12_isCell_7 : decode cX12_isCell 7 = .ok (.iaload, 1) := dk46 (k := 7) bX12_isCell_0 rfl
theorem dX12_isCell_8 : decode cX12_isCell 8 = .ok (.iconst 1, 1) := dk4 (k := 8) bX12_isCell_0 rfl
theorem dX12_isCell_9 : decode cX12_isCell 9 = .ok (.isub, 1) := dk100 (k := 9) bX12_isCell_0 rfl
theorem dX12_isCell_10 : decode cX12_isCell 10 = .ok (.i2l, 1) := dk133 (k := 10) bX12_isCell_0 rfl
theorem dX12_isCell_11 : decode cX12_isCell 11 = .ok (.invokestatic 65, 3) := dk184 (k := 11) bX12_isCell_0 rfl rfl
theorem dX12_isCell_14 : decode cX12_isCell 14 = .ok (.ireturn, 1) := dk172 (k := 14) bX12_isCell_0 rfl
theorem bX12_isFolk_0 : bL cX12_isFolk 0 [31, 9, 42, 180, 0, 9, 16, 6, 46, 4, 100, 133, 184, 0, 65, 172] := bL_of (by decide +kernel)
theorem dX12_isFolk_0 : decode cX12_isFolk 0 = .ok (.lload_n 1, 1) := dk31 (k := 0) bX12_isFolk_0 rfl
theorem dX12_isFolk_1 : decode cX12_isFolk 1 = .ok (.lconst 0, 1) := dk9 (k := 1) bX12_isFolk_0 rfl
theorem dX12_isFolk_2 : decode cX12_isFolk 2 = .ok (.aload_n 0, 1) := dk42 (k := 2) bX12_isFolk_0 rfl
theorem dX12_isFolk_3 : decode cX12_isFolk 3 = .ok (.getfield 9, 3) := dk180 (k := 3) bX12_isFolk_0 rfl rfl
theorem dX12_isFolk_6 : decode cX12_isFolk 6 = .ok (.bipush 6, 2) := dk16 (k := 6) bX12_isFolk_0 rfl (by decide)
theorem dX12_isFolk_8 : decode cX12_isFolk 8 = .ok (.iaload, 1) := dk46 (k := 8) bX12_isFolk_0 rfl
theorem dX12_isFolk_9 : decode cX12_isFolk 9 = .ok (.iconst 1, 1) := dk4 (k := 9) bX12_isFolk_0 rfl
theorem dX12_isFolk_10 : decode cX12_isFolk 10 = .ok (.isub, 1) := dk100 (k := 10) bX12_isFolk_0 rfl
theorem dX12_isFolk_11 : decode cX12_isFolk 11 = .ok (.i2l, 1) := dk133 (k := 11) bX12_isFolk_0 rfl
theorem dX12_isFolk_12 : decode cX12_isFolk 12 = .ok (.invokestatic 65, 3) := dk184 (k := 12) bX12_isFolk_0 rfl rfl
theorem dX12_isFolk_15 : decode cX12_isFolk 15 = .ok (.ireturn, 1) := dk172 (k := 15) bX12_isFolk_0 rfl
theorem bX12_isHour_0 : bL cX12_isHour 0 [30, 20, 0, 69, 20, 0, 71, 184, 0, 65, 153, 0, 13, 30, 9, 148, 153, 0, 7, 4, 167, 0, 4, 3] := bL_of (by decide +kernel)
theorem dX12_isHour_0 : decode cX12_isHour 0 = .ok (.lload_n 0, 1) := dk30 (k := 0) bX12_isHour_0 rfl
theorem dX12_isHour_1 : decode cX12_isHour 1 = .ok (.ldc2_w 69, 3) := dk20 (k := 1) bX12_isHour_0 rfl rfl
theorem dX12_isHour_4 : decode cX12_isHour 4 = .ok (.ldc2_w 71, 3) := dk20 (k := 4) bX12_isHour_0 rfl rfl
theorem dX12_isHour_7 : decode cX12_isHour 7 = .ok (.invokestatic 65, 3) := dk184 (k := 7) bX12_isHour_0 rfl rfl
theorem dX12_isHour_10 : decode cX12_isHour 10 = .ok (.ifCond .eq 13, 3) := dk153 (k := 10) bX12_isHour_0 rfl (by decide)
theorem dX12_isHour_13 : decode cX12_isHour 13 = .ok (.lload_n 0, 1) := dk30 (k := 13) bX12_isHour_0 rfl
theorem dX12_isHour_14 : decode cX12_isHour 14 = .ok (.lconst 0, 1) := dk9 (k := 14) bX12_isHour_0 rfl
theorem dX12_isHour_15 : decode cX12_isHour 15 = .ok (.lcmp, 1) := dk148 (k := 15) bX12_isHour_0 rfl
theorem dX12_isHour_16 : decode cX12_isHour 16 = .ok (.ifCond .eq 7, 3) := dk153 (k := 16) bX12_isHour_0 rfl (by decide)
theorem dX12_isHour_19 : decode cX12_isHour 19 = .ok (.iconst 1, 1) := dk4 (k := 19) bX12_isHour_0 rfl
theorem dX12_isHour_20 : decode cX12_isHour 20 = .ok (.goto 4, 3) := dk167 (k := 20) bX12_isHour_0 rfl (by decide)
theorem dX12_isHour_23 : decode cX12_isHour 23 = .ok (.iconst 0, 1) := dk3 (k := 23) bX12_isHour_0 rfl
theorem bX12_isHour_24 : bL cX12_isHour 24 [172] := bL_of (by decide +kernel)
theorem dX12_isHour_24 : decode cX12_isHour 24 = .ok (.ireturn, 1) := dk172 (k := 0) bX12_isHour_24 rfl
theorem bX12_all_0 : bL cX12_all 0 [4, 42, 180, 0, 9, 16, 6, 46, 120, 4, 100, 172] := bL_of (by decide +kernel)
theorem dX12_all_0 : decode cX12_all 0 = .ok (.iconst 1, 1) := dk4 (k := 0) bX12_all_0 rfl
theorem dX12_all_1 : decode cX12_all 1 = .ok (.aload_n 0, 1) := dk42 (k := 1) bX12_all_0 rfl
theorem dX12_all_2 : decode cX12_all 2 = .ok (.getfield 9, 3) := dk180 (k := 2) bX12_all_0 rfl rfl
theorem dX12_all_5 : decode cX12_all 5 = .ok (.bipush 6, 2) := dk16 (k := 5) bX12_all_0 rfl (by decide)
theorem dX12_all_7 : decode cX12_all 7 = .ok (.iaload, 1) := dk46 (k := 7) bX12_all_0 rfl
theorem dX12_all_8 : decode cX12_all 8 = .ok (.ishl, 1) := dk120 (k := 8) bX12_all_0 rfl
theorem dX12_all_9 : decode cX12_all 9 = .ok (.iconst 1, 1) := dk4 (k := 9) bX12_all_0 rfl
theorem dX12_all_10 : decode cX12_all 10 = .ok (.isub, 1) := dk100 (k := 10) bX12_all_0 rfl
theorem dX12_all_11 : decode cX12_all 11 = .ok (.ireturn, 1) := dk172 (k := 11) bX12_all_0 rfl
theorem bX12_isSet_0 : bL cX12_isSet 0 [42, 182, 0, 73, 153, 0, 21, 27, 133, 9, 42, 182, 0, 77, 133, 184, 0, 65, 153, 0, 7, 4, 167, 0, 4] := bL_of (by decide +kernel)
theorem dX12_isSet_0 : decode cX12_isSet 0 = .ok (.aload_n 0, 1) := dk42 (k := 0) bX12_isSet_0 rfl
theorem dX12_isSet_1 : decode cX12_isSet 1 = .ok (.invokevirtual 73, 3) := dk182 (k := 1) bX12_isSet_0 rfl rfl
theorem dX12_isSet_4 : decode cX12_isSet 4 = .ok (.ifCond .eq 21, 3) := dk153 (k := 4) bX12_isSet_0 rfl (by decide)
theorem dX12_isSet_7 : decode cX12_isSet 7 = .ok (.iload_n 1, 1) := dk27 (k := 7) bX12_isSet_0 rfl
theorem dX12_isSet_8 : decode cX12_isSet 8 = .ok (.i2l, 1) := dk133 (k := 8) bX12_isSet_0 rfl
theorem dX12_isSet_9 : decode cX12_isSet 9 = .ok (.lconst 0, 1) := dk9 (k := 9) bX12_isSet_0 rfl
theorem dX12_isSet_10 : decode cX12_isSet 10 = .ok (.aload_n 0, 1) := dk42 (k := 10) bX12_isSet_0 rfl
theorem dX12_isSet_11 : decode cX12_isSet 11 = .ok (.invokevirtual 77, 3) := dk182 (k := 11) bX12_isSet_0 rfl rfl
theorem dX12_isSet_14 : decode cX12_isSet 14 = .ok (.i2l, 1) := dk133 (k := 14) bX12_isSet_0 rfl
theorem dX12_isSet_15 : decode cX12_isSet 15 = .ok (.invokestatic 65, 3) := dk184 (k := 15) bX12_isSet_0 rfl rfl
theorem dX12_isSet_18 : decode cX12_isSet 18 = .ok (.ifCond .eq 7, 3) := dk153 (k := 18) bX12_isSet_0 rfl (by decide)
theorem dX12_isSet_21 : decode cX12_isSet 21 = .ok (.iconst 1, 1) := dk4 (k := 21) bX12_isSet_0 rfl
theorem dX12_isSet_22 : decode cX12_isSet 22 = .ok (.goto 4, 3) := dk167 (k := 22) bX12_isSet_0 rfl (by decide)
theorem bX12_isSet_25 : bL cX12_isSet 25 [3, 172] := bL_of (by decide +kernel)
theorem dX12_isSet_25 : decode cX12_isSet 25 = .ok (.iconst 0, 1) := dk3 (k := 0) bX12_isSet_25 rfl
theorem dX12_isSet_26 : decode cX12_isSet 26 = .ok (.ireturn, 1) := dk172 (k := 1) bX12_isSet_25 rfl
theorem bX12_of_0 : bL cX12_of 0 [42, 180, 0, 9, 16, 19, 16, 7, 27, 104, 96, 28, 96, 46, 172] := bL_of (by decide +kernel)
theorem dX12_of_0 : decode cX12_of 0 = .ok (.aload_n 0, 1) := dk42 (k := 0) bX12_of_0 rfl
theorem dX12_of_1 : decode cX12_of 1 = .ok (.getfield 9, 3) := dk180 (k := 1) bX12_of_0 rfl rfl
theorem dX12_of_4 : decode cX12_of 4 = .ok (.bipush 19, 2) := dk16 (k := 4) bX12_of_0 rfl (by decide)
theorem dX12_of_6 : decode cX12_of 6 = .ok (.bipush 7, 2) := dk16 (k := 6) bX12_of_0 rfl (by decide)
theorem dX12_of_8 : decode cX12_of 8 = .ok (.iload_n 1, 1) := dk27 (k := 8) bX12_of_0 rfl
theorem dX12_of_9 : decode cX12_of 9 = .ok (.imul, 1) := dk104 (k := 9) bX12_of_0 rfl
theorem dX12_of_10 : decode cX12_of 10 = .ok (.iadd, 1) := dk96 (k := 10) bX12_of_0 rfl
theorem dX12_of_11 : decode cX12_of 11 = .ok (.iload_n 2, 1) := dk28 (k := 11) bX12_of_0 rfl
theorem dX12_of_12 : decode cX12_of 12 = .ok (.iadd, 1) := dk96 (k := 12) bX12_of_0 rfl
theorem dX12_of_13 : decode cX12_of 13 = .ok (.iaload, 1) := dk46 (k := 13) bX12_of_0 rfl
theorem dX12_of_14 : decode cX12_of 14 = .ok (.ireturn, 1) := dk172 (k := 14) bX12_of_0 rfl
theorem bX12_feed_0 : bL cX12_feed 0 [42, 180, 0, 81, 16, 20, 96, 17, 3, 132, 164, 0, 5, 2, 172, 42, 180, 0, 24, 3, 27, 79, 42, 180, 0, 24] := bL_of (by decide +kernel)
theorem dX12_feed_0 : decode cX12_feed 0 = .ok (.aload_n 0, 1) := dk42 (k := 0) bX12_feed_0 rfl
theorem dX12_feed_1 : decode cX12_feed 1 = .ok (.getfield 81, 3) := dk180 (k := 1) bX12_feed_0 rfl rfl
theorem dX12_feed_4 : decode cX12_feed 4 = .ok (.bipush 20, 2) := dk16 (k := 4) bX12_feed_0 rfl (by decide)
theorem dX12_feed_6 : decode cX12_feed 6 = .ok (.iadd, 1) := dk96 (k := 6) bX12_feed_0 rfl
theorem dX12_feed_7 : decode cX12_feed 7 = .ok (.sipush 900, 3) := dk17 (k := 7) bX12_feed_0 rfl (by decide)
theorem dX12_feed_10 : decode cX12_feed 10 = .ok (.if_icmp .le 5, 3) := dk164 (k := 10) bX12_feed_0 rfl (by decide)
theorem dX12_feed_13 : decode cX12_feed 13 = .ok (.iconst (-1), 1) := dk2 (k := 13) bX12_feed_0 rfl
theorem dX12_feed_14 : decode cX12_feed 14 = .ok (.ireturn, 1) := dk172 (k := 14) bX12_feed_0 rfl
theorem dX12_feed_15 : decode cX12_feed 15 = .ok (.aload_n 0, 1) := dk42 (k := 15) bX12_feed_0 rfl
theorem dX12_feed_16 : decode cX12_feed 16 = .ok (.getfield 24, 3) := dk180 (k := 16) bX12_feed_0 rfl rfl
theorem dX12_feed_19 : decode cX12_feed 19 = .ok (.iconst 0, 1) := dk3 (k := 19) bX12_feed_0 rfl
theorem dX12_feed_20 : decode cX12_feed 20 = .ok (.iload_n 1, 1) := dk27 (k := 20) bX12_feed_0 rfl
theorem dX12_feed_21 : decode cX12_feed 21 = .ok (.iastore, 1) := dk79 (k := 21) bX12_feed_0 rfl
theorem dX12_feed_22 : decode cX12_feed 22 = .ok (.aload_n 0, 1) := dk42 (k := 22) bX12_feed_0 rfl
theorem dX12_feed_23 : decode cX12_feed 23 = .ok (.getfield 24, 3) := dk180 (k := 23) bX12_feed_0 rfl rfl
theorem bX12_feed_26 : bL cX12_feed 26 [4, 28, 79, 42, 180, 0, 24, 5, 29, 79, 42, 180, 0, 24, 6, 21, 4, 79, 42, 180, 0, 24, 7, 21, 5] := bL_of (by decide +kernel)
theorem dX12_feed_26 : decode cX12_feed 26 = .ok (.iconst 1, 1) := dk4 (k := 0) bX12_feed_26 rfl
theorem dX12_feed_27 : decode cX12_feed 27 = .ok (.iload_n 2, 1) := dk28 (k := 1) bX12_feed_26 rfl
theorem dX12_feed_28 : decode cX12_feed 28 = .ok (.iastore, 1) := dk79 (k := 2) bX12_feed_26 rfl
theorem dX12_feed_29 : decode cX12_feed 29 = .ok (.aload_n 0, 1) := dk42 (k := 3) bX12_feed_26 rfl
theorem dX12_feed_30 : decode cX12_feed 30 = .ok (.getfield 24, 3) := dk180 (k := 4) bX12_feed_26 rfl rfl
theorem dX12_feed_33 : decode cX12_feed 33 = .ok (.iconst 2, 1) := dk5 (k := 7) bX12_feed_26 rfl
theorem dX12_feed_34 : decode cX12_feed 34 = .ok (.iload_n 3, 1) := dk29 (k := 8) bX12_feed_26 rfl
theorem dX12_feed_35 : decode cX12_feed 35 = .ok (.iastore, 1) := dk79 (k := 9) bX12_feed_26 rfl
theorem dX12_feed_36 : decode cX12_feed 36 = .ok (.aload_n 0, 1) := dk42 (k := 10) bX12_feed_26 rfl
theorem dX12_feed_37 : decode cX12_feed 37 = .ok (.getfield 24, 3) := dk180 (k := 11) bX12_feed_26 rfl rfl
theorem dX12_feed_40 : decode cX12_feed 40 = .ok (.iconst 3, 1) := dk6 (k := 14) bX12_feed_26 rfl
theorem dX12_feed_41 : decode cX12_feed 41 = .ok (.iload 4, 2) := dk21 (k := 15) bX12_feed_26 rfl rfl
theorem dX12_feed_43 : decode cX12_feed 43 = .ok (.iastore, 1) := dk79 (k := 17) bX12_feed_26 rfl
theorem dX12_feed_44 : decode cX12_feed 44 = .ok (.aload_n 0, 1) := dk42 (k := 18) bX12_feed_26 rfl
theorem dX12_feed_45 : decode cX12_feed 45 = .ok (.getfield 24, 3) := dk180 (k := 19) bX12_feed_26 rfl rfl
theorem dX12_feed_48 : decode cX12_feed 48 = .ok (.iconst 4, 1) := dk7 (k := 22) bX12_feed_26 rfl
theorem dX12_feed_49 : decode cX12_feed 49 = .ok (.iload 5, 2) := dk21 (k := 23) bX12_feed_26 rfl rfl
theorem bX12_feed_51 : bL cX12_feed 51 [79, 3, 54, 6, 21, 6, 16, 20, 162, 0, 42, 42, 180, 0, 20, 42, 180, 0, 81, 21, 6, 96, 42, 180, 0, 24] := bL_of (by decide +kernel)
theorem dX12_feed_51 : decode cX12_feed 51 = .ok (.iastore, 1) := dk79 (k := 0) bX12_feed_51 rfl
theorem dX12_feed_52 : decode cX12_feed 52 = .ok (.iconst 0, 1) := dk3 (k := 1) bX12_feed_51 rfl
theorem dX12_feed_53 : decode cX12_feed 53 = .ok (.istore 6, 2) := dk54 (k := 2) bX12_feed_51 rfl rfl
theorem dX12_feed_55 : decode cX12_feed 55 = .ok (.iload 6, 2) := dk21 (k := 4) bX12_feed_51 rfl rfl
theorem dX12_feed_57 : decode cX12_feed 57 = .ok (.bipush 20, 2) := dk16 (k := 6) bX12_feed_51 rfl (by decide)
theorem dX12_feed_59 : decode cX12_feed 59 = .ok (.if_icmp .ge 42, 3) := dk162 (k := 8) bX12_feed_51 rfl (by decide)
theorem dX12_feed_62 : decode cX12_feed 62 = .ok (.aload_n 0, 1) := dk42 (k := 11) bX12_feed_51 rfl
theorem dX12_feed_63 : decode cX12_feed 63 = .ok (.getfield 20, 3) := dk180 (k := 12) bX12_feed_51 rfl rfl
theorem dX12_feed_66 : decode cX12_feed 66 = .ok (.aload_n 0, 1) := dk42 (k := 15) bX12_feed_51 rfl
theorem dX12_feed_67 : decode cX12_feed 67 = .ok (.getfield 81, 3) := dk180 (k := 16) bX12_feed_51 rfl rfl
theorem dX12_feed_70 : decode cX12_feed 70 = .ok (.iload 6, 2) := dk21 (k := 19) bX12_feed_51 rfl rfl
theorem dX12_feed_72 : decode cX12_feed 72 = .ok (.iadd, 1) := dk96 (k := 21) bX12_feed_51 rfl
theorem dX12_feed_73 : decode cX12_feed 73 = .ok (.aload_n 0, 1) := dk42 (k := 22) bX12_feed_51 rfl
theorem dX12_feed_74 : decode cX12_feed 74 = .ok (.getfield 24, 3) := dk180 (k := 23) bX12_feed_51 rfl rfl
theorem bX12_feed_77 : bL cX12_feed 77 [21, 6, 7, 108, 46, 16, 24, 16, 8, 21, 6, 7, 112, 104, 100, 122, 145, 84, 132, 6, 1, 167, 255, 213] := bL_of (by decide +kernel)
theorem dX12_feed_77 : decode cX12_feed 77 = .ok (.iload 6, 2) := dk21 (k := 0) bX12_feed_77 rfl rfl
theorem dX12_feed_79 : decode cX12_feed 79 = .ok (.iconst 4, 1) := dk7 (k := 2) bX12_feed_77 rfl
theorem dX12_feed_80 : decode cX12_feed 80 = .ok (.idiv, 1) := dk108 (k := 3) bX12_feed_77 rfl
theorem dX12_feed_81 : decode cX12_feed 81 = .ok (.iaload, 1) := dk46 (k := 4) bX12_feed_77 rfl
theorem dX12_feed_82 : decode cX12_feed 82 = .ok (.bipush 24, 2) := dk16 (k := 5) bX12_feed_77 rfl (by decide)
theorem dX12_feed_84 : decode cX12_feed 84 = .ok (.bipush 8, 2) := dk16 (k := 7) bX12_feed_77 rfl (by decide)
theorem dX12_feed_86 : decode cX12_feed 86 = .ok (.iload 6, 2) := dk21 (k := 9) bX12_feed_77 rfl rfl
theorem dX12_feed_88 : decode cX12_feed 88 = .ok (.iconst 4, 1) := dk7 (k := 11) bX12_feed_77 rfl
theorem dX12_feed_89 : decode cX12_feed 89 = .ok (.irem, 1) := dk112 (k := 12) bX12_feed_77 rfl
theorem dX12_feed_90 : decode cX12_feed 90 = .ok (.imul, 1) := dk104 (k := 13) bX12_feed_77 rfl
theorem dX12_feed_91 : decode cX12_feed 91 = .ok (.isub, 1) := dk100 (k := 14) bX12_feed_77 rfl
theorem dX12_feed_92 : decode cX12_feed 92 = .ok (.ishr, 1) := dk122 (k := 15) bX12_feed_77 rfl
theorem dX12_feed_93 : decode cX12_feed 93 = .ok (.i2b, 1) := dk145 (k := 16) bX12_feed_77 rfl
theorem dX12_feed_94 : decode cX12_feed 94 = .ok (.bastore, 1) := dk84 (k := 17) bX12_feed_77 rfl
theorem dX12_feed_95 : decode cX12_feed 95 = .ok (.iinc 6 1, 3) := dk132 (k := 18) bX12_feed_77 rfl rfl (by decide)
theorem dX12_feed_98 : decode cX12_feed 98 = .ok (.goto (-43), 3) := dk167 (k := 21) bX12_feed_77 rfl (by decide)
theorem bX12_feed_101 : bL cX12_feed 101 [42, 89] := bL_of (by decide +kernel)
theorem dX12_feed_101 : decode cX12_feed 101 = .ok (.aload_n 0, 1) := dk42 (k := 0) bX12_feed_101 rfl
theorem dX12_feed_102 : decode cX12_feed 102 = .ok (.dup, 1) := dk89 (k := 1) bX12_feed_101 rfl
