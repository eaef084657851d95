theorem bX0_init_0 : bL cX0_init 0 [42, 183, 0, 3, 42, 43, 181, 0, 9, 42, 44, 181, 0, 15, 177] := bL_of (by decide +kernel)
def dX0_init_0 := dk42 (k := 0) bX0_init_0 rfl
def dX0_init_1 := dk183 (k := 1) (x := 3) bX0_init_0 rfl rfl
def dX0_init_4 := dk42 (k := 4) bX0_init_0 rfl
def dX0_init_5 := dk43 (k := 5) bX0_init_0 rfl
def dX0_init_6 := dk181 (k := 6) (x := 9) bX0_init_0 rfl rfl
def dX0_init_9 := dk42 (k := 9) bX0_init_0 rfl
def dX0_init_10 := dk44 (k := 10) bX0_init_0 rfl
def dX0_init_11 := dk181 (k := 11) (x := 15) bX0_init_0 rfl rfl
def dX0_init_14 := dk177 (k := 14) bX0_init_0 rfl
theorem bX0_gainAfter_0 : bL cX0_gainAfter 0 [42, 180, 0, 15, 42, 180, 0, 9, 180, 0, 19, 182, 0, 24, 3, 62, 29, 28, 162, 0, 17, 42, 180, 0, 15] := bL_of (by decide +kernel)
def dX0_gainAfter_0 := dk42 (k := 0) bX0_gainAfter_0 rfl
def dX0_gainAfter_1 := dk180 (k := 1) (x := 15) bX0_gainAfter_0 rfl rfl
def dX0_gainAfter_4 := dk42 (k := 4) bX0_gainAfter_0 rfl
def dX0_gainAfter_5 := dk180 (k := 5) (x := 9) bX0_gainAfter_0 rfl rfl
def dX0_gainAfter_8 := dk180 (k := 8) (x := 19) bX0_gainAfter_0 rfl rfl
def dX0_gainAfter_11 := dk182 (k := 11) (x := 24) bX0_gainAfter_0 rfl rfl
def dX0_gainAfter_14 := dk3 (k := 14) bX0_gainAfter_0 rfl
def dX0_gainAfter_15 := dk62 (k := 15) bX0_gainAfter_0 rfl
def dX0_gainAfter_16 := dk29 (k := 16) bX0_gainAfter_0 rfl
def dX0_gainAfter_17 := dk28 (k := 17) bX0_gainAfter_0 rfl
def dX0_gainAfter_18 := dk162 (k := 18) (x := 17) bX0_gainAfter_0 rfl (by decide)
def dX0_gainAfter_21 := dk42 (k := 21) bX0_gainAfter_0 rfl
def dX0_gainAfter_22 := dk180 (k := 22) (x := 15) bX0_gainAfter_0 rfl rfl
theorem bX0_gainAfter_25 : bL cX0_gainAfter 25 [182, 0, 30, 87, 132, 3, 1, 167, 255, 240, 42, 180, 0, 9, 180, 0, 34, 42, 180, 0, 15, 27, 182, 0, 38] := bL_of (by decide +kernel)
def dX0_gainAfter_25 := dk182 (k := 0) (x := 30) bX0_gainAfter_25 rfl rfl
def dX0_gainAfter_28 := dk87 (k := 3) bX0_gainAfter_25 rfl
theorem dX0_gainAfter_29 : decode cX0_gainAfter 29 = .ok (.iinc 3 1, 3) := dk132 (k := 4) bX0_gainAfter_25 rfl rfl (by decide)
def dX0_gainAfter_32 := dk167 (k := 7) (x := (-16)) bX0_gainAfter_25 rfl (by decide)
def dX0_gainAfter_35 := dk42 (k := 10) bX0_gainAfter_25 rfl
def dX0_gainAfter_36 := dk180 (k := 11) (x := 9) bX0_gainAfter_25 rfl rfl
def dX0_gainAfter_39 := dk180 (k := 14) (x := 34) bX0_gainAfter_25 rfl rfl
def dX0_gainAfter_42 := dk42 (k := 17) bX0_gainAfter_25 rfl
def dX0_gainAfter_43 := dk180 (k := 18) (x := 15) bX0_gainAfter_25 rfl rfl
def dX0_gainAfter_46 := dk27 (k := 21) bX0_gainAfter_25 rfl
def dX0_gainAfter_47 := dk182 (k := 22) (x := 38) bX0_gainAfter_25 rfl rfl
theorem bX0_gainAfter_50 : bL cX0_gainAfter 50 [172] := bL_of (by decide +kernel)
def dX0_gainAfter_50 := dk172 (k := 0) bX0_gainAfter_50 rfl
theorem bX0_wishedFeet_0 : bL cX0_wishedFeet 0 [42, 180, 0, 15, 42, 180, 0, 9, 180, 0, 19, 182, 0, 24, 3, 61, 42, 180, 0, 9, 180, 0, 34, 42] := bL_of (by decide +kernel)
def dX0_wishedFeet_0 := dk42 (k := 0) bX0_wishedFeet_0 rfl
def dX0_wishedFeet_1 := dk180 (k := 1) (x := 15) bX0_wishedFeet_0 rfl rfl
def dX0_wishedFeet_4 := dk42 (k := 4) bX0_wishedFeet_0 rfl
def dX0_wishedFeet_5 := dk180 (k := 5) (x := 9) bX0_wishedFeet_0 rfl rfl
def dX0_wishedFeet_8 := dk180 (k := 8) (x := 19) bX0_wishedFeet_0 rfl rfl
def dX0_wishedFeet_11 := dk182 (k := 11) (x := 24) bX0_wishedFeet_0 rfl rfl
def dX0_wishedFeet_14 := dk3 (k := 14) bX0_wishedFeet_0 rfl
def dX0_wishedFeet_15 := dk61 (k := 15) bX0_wishedFeet_0 rfl
def dX0_wishedFeet_16 := dk42 (k := 16) bX0_wishedFeet_0 rfl
def dX0_wishedFeet_17 := dk180 (k := 17) (x := 9) bX0_wishedFeet_0 rfl rfl
def dX0_wishedFeet_20 := dk180 (k := 20) (x := 34) bX0_wishedFeet_0 rfl rfl
def dX0_wishedFeet_23 := dk42 (k := 23) bX0_wishedFeet_0 rfl
theorem bX0_wishedFeet_24 : bL cX0_wishedFeet 24 [180, 0, 15, 27, 182, 0, 38, 62, 4, 54, 4, 21, 4, 16, 20, 163, 0, 46, 42, 180, 0, 15, 182, 0, 30] := bL_of (by decide +kernel)
def dX0_wishedFeet_24 := dk180 (k := 0) (x := 15) bX0_wishedFeet_24 rfl rfl
def dX0_wishedFeet_27 := dk27 (k := 3) bX0_wishedFeet_24 rfl
def dX0_wishedFeet_28 := dk182 (k := 4) (x := 38) bX0_wishedFeet_24 rfl rfl
def dX0_wishedFeet_31 := dk62 (k := 7) bX0_wishedFeet_24 rfl
def dX0_wishedFeet_32 := dk4 (k := 8) bX0_wishedFeet_24 rfl
def dX0_wishedFeet_33 := dk54 (k := 9) (x := 4) bX0_wishedFeet_24 rfl rfl
def dX0_wishedFeet_35 := dk21 (k := 11) (x := 4) bX0_wishedFeet_24 rfl rfl
def dX0_wishedFeet_37 := dk16 (k := 13) (x := 20) bX0_wishedFeet_24 rfl (by decide)
def dX0_wishedFeet_39 := dk163 (k := 15) (x := 46) bX0_wishedFeet_24 rfl (by decide)
def dX0_wishedFeet_42 := dk42 (k := 18) bX0_wishedFeet_24 rfl
def dX0_wishedFeet_43 := dk180 (k := 19) (x := 15) bX0_wishedFeet_24 rfl rfl
def dX0_wishedFeet_46 := dk182 (k := 22) (x := 30) bX0_wishedFeet_24 rfl rfl
theorem bX0_wishedFeet_49 : bL cX0_wishedFeet 49 [87, 42, 180, 0, 9, 180, 0, 34, 42, 180, 0, 15, 27, 182, 0, 38, 54, 5, 21, 5, 29, 164, 0, 9] := bL_of (by decide +kernel)
def dX0_wishedFeet_49 := dk87 (k := 0) bX0_wishedFeet_49 rfl
def dX0_wishedFeet_50 := dk42 (k := 1) bX0_wishedFeet_49 rfl
def dX0_wishedFeet_51 := dk180 (k := 2) (x := 9) bX0_wishedFeet_49 rfl rfl
def dX0_wishedFeet_54 := dk180 (k := 5) (x := 34) bX0_wishedFeet_49 rfl rfl
def dX0_wishedFeet_57 := dk42 (k := 8) bX0_wishedFeet_49 rfl
def dX0_wishedFeet_58 := dk180 (k := 9) (x := 15) bX0_wishedFeet_49 rfl rfl
def dX0_wishedFeet_61 := dk27 (k := 12) bX0_wishedFeet_49 rfl
def dX0_wishedFeet_62 := dk182 (k := 13) (x := 38) bX0_wishedFeet_49 rfl rfl
def dX0_wishedFeet_65 := dk54 (k := 16) (x := 5) bX0_wishedFeet_49 rfl rfl
def dX0_wishedFeet_67 := dk21 (k := 18) (x := 5) bX0_wishedFeet_49 rfl rfl
def dX0_wishedFeet_69 := dk29 (k := 20) bX0_wishedFeet_49 rfl
def dX0_wishedFeet_70 := dk164 (k := 21) (x := 9) bX0_wishedFeet_49 rfl (by decide)
theorem bX0_wishedFeet_73 : bL cX0_wishedFeet 73 [21, 5, 62, 21, 4, 61, 132, 4, 1, 167, 255, 209, 28, 172] := bL_of (by decide +kernel)
def dX0_wishedFeet_73 := dk21 (k := 0) (x := 5) bX0_wishedFeet_73 rfl rfl
def dX0_wishedFeet_75 := dk62 (k := 2) bX0_wishedFeet_73 rfl
def dX0_wishedFeet_76 := dk21 (k := 3) (x := 4) bX0_wishedFeet_73 rfl rfl
def dX0_wishedFeet_78 := dk61 (k := 5) bX0_wishedFeet_73 rfl
theorem dX0_wishedFeet_79 : decode cX0_wishedFeet 79 = .ok (.iinc 4 1, 3) := dk132 (k := 6) bX0_wishedFeet_73 rfl rfl (by decide)
def dX0_wishedFeet_82 := dk167 (k := 9) (x := (-47)) bX0_wishedFeet_73 rfl (by decide)
def dX0_wishedFeet_85 := dk28 (k := 12) bX0_wishedFeet_73 rfl
def dX0_wishedFeet_86 := dk172 (k := 13) bX0_wishedFeet_73 rfl
theorem bX0_namesOnTrial_0 : bL cX0_namesOnTrial 0 [42, 180, 0, 9, 180, 0, 34, 42, 180, 0, 9, 180, 0, 34, 42, 180, 0, 9, 180, 0, 34, 42, 180, 0, 15] := bL_of (by decide +kernel)
def dX0_namesOnTrial_0 := dk42 (k := 0) bX0_namesOnTrial_0 rfl
def dX0_namesOnTrial_1 := dk180 (k := 1) (x := 9) bX0_namesOnTrial_0 rfl rfl
def dX0_namesOnTrial_4 := dk180 (k := 4) (x := 34) bX0_namesOnTrial_0 rfl rfl
def dX0_namesOnTrial_7 := dk42 (k := 7) bX0_namesOnTrial_0 rfl
def dX0_namesOnTrial_8 := dk180 (k := 8) (x := 9) bX0_namesOnTrial_0 rfl rfl
def dX0_namesOnTrial_11 := dk180 (k := 11) (x := 34) bX0_namesOnTrial_0 rfl rfl
def dX0_namesOnTrial_14 := dk42 (k := 14) bX0_namesOnTrial_0 rfl
def dX0_namesOnTrial_15 := dk180 (k := 15) (x := 9) bX0_namesOnTrial_0 rfl rfl
def dX0_namesOnTrial_18 := dk180 (k := 18) (x := 34) bX0_namesOnTrial_0 rfl rfl
def dX0_namesOnTrial_21 := dk42 (k := 21) bX0_namesOnTrial_0 rfl
def dX0_namesOnTrial_22 := dk180 (k := 22) (x := 15) bX0_namesOnTrial_0 rfl rfl
theorem bX0_namesOnTrial_25 : bL cX0_namesOnTrial 25 [2, 182, 0, 44, 3, 182, 0, 47, 182, 0, 51, 172] := bL_of (by decide +kernel)
def dX0_namesOnTrial_25 := dk2 (k := 0) bX0_namesOnTrial_25 rfl
def dX0_namesOnTrial_26 := dk182 (k := 1) (x := 44) bX0_namesOnTrial_25 rfl rfl
def dX0_namesOnTrial_29 := dk3 (k := 4) bX0_namesOnTrial_25 rfl
def dX0_namesOnTrial_30 := dk182 (k := 5) (x := 47) bX0_namesOnTrial_25 rfl rfl
def dX0_namesOnTrial_33 := dk182 (k := 8) (x := 51) bX0_namesOnTrial_25 rfl rfl
def dX0_namesOnTrial_36 := dk172 (k := 11) bX0_namesOnTrial_25 rfl
theorem bX0_followLaw_0 : bL cX0_followLaw 0 [42, 180, 0, 15, 42, 180, 0, 9, 180, 0, 19, 182, 0, 24, 3, 61, 28, 16, 60, 162, 0, 29, 42, 182, 0, 55] := bL_of (by decide +kernel)
def dX0_followLaw_0 := dk42 (k := 0) bX0_followLaw_0 rfl
def dX0_followLaw_1 := dk180 (k := 1) (x := 15) bX0_followLaw_0 rfl rfl
def dX0_followLaw_4 := dk42 (k := 4) bX0_followLaw_0 rfl
def dX0_followLaw_5 := dk180 (k := 5) (x := 9) bX0_followLaw_0 rfl rfl
def dX0_followLaw_8 := dk180 (k := 8) (x := 19) bX0_followLaw_0 rfl rfl
def dX0_followLaw_11 := dk182 (k := 11) (x := 24) bX0_followLaw_0 rfl rfl
def dX0_followLaw_14 := dk3 (k := 14) bX0_followLaw_0 rfl
def dX0_followLaw_15 := dk61 (k := 15) bX0_followLaw_0 rfl
def dX0_followLaw_16 := dk28 (k := 16) bX0_followLaw_0 rfl
def dX0_followLaw_17 := dk16 (k := 17) (x := 60) bX0_followLaw_0 rfl (by decide)
def dX0_followLaw_19 := dk162 (k := 19) (x := 29) bX0_followLaw_0 rfl (by decide)
def dX0_followLaw_22 := dk42 (k := 22) bX0_followLaw_0 rfl
def dX0_followLaw_23 := dk182 (k := 23) (x := 55) bX0_followLaw_0 rfl rfl
theorem bX0_followLaw_26 : bL cX0_followLaw 26 [27, 161, 0, 13, 42, 180, 0, 15, 182, 0, 30, 154, 0, 5, 28, 172, 132, 2, 1, 167, 255, 227, 16, 60] := bL_of (by decide +kernel)
def dX0_followLaw_26 := dk27 (k := 0) bX0_followLaw_26 rfl
def dX0_followLaw_27 := dk161 (k := 1) (x := 13) bX0_followLaw_26 rfl (by decide)
def dX0_followLaw_30 := dk42 (k := 4) bX0_followLaw_26 rfl
def dX0_followLaw_31 := dk180 (k := 5) (x := 15) bX0_followLaw_26 rfl rfl
def dX0_followLaw_34 := dk182 (k := 8) (x := 30) bX0_followLaw_26 rfl rfl
def dX0_followLaw_37 := dk154 (k := 11) (x := 5) bX0_followLaw_26 rfl (by decide)
def dX0_followLaw_40 := dk28 (k := 14) bX0_followLaw_26 rfl
def dX0_followLaw_41 := dk172 (k := 15) bX0_followLaw_26 rfl
theorem dX0_followLaw_42 : decode cX0_followLaw 42 = .ok (.iinc 2 1, 3) := dk132 (k := 16) bX0_followLaw_26 rfl rfl (by decide)
def dX0_followLaw_45 := dk167 (k := 19) (x := (-29)) bX0_followLaw_26 rfl (by decide)
def dX0_followLaw_48 := dk16 (k := 22) (x := 60) bX0_followLaw_26 rfl (by decide)
theorem bX0_followLaw_50 : bL cX0_followLaw 50 [172] := bL_of (by decide +kernel)
def dX0_followLaw_50 := dk172 (k := 0) bX0_followLaw_50 rfl
theorem bX0_greatestLaw_0 : bL cX0_greatestLaw 0 [42, 180, 0, 15, 42, 180, 0, 9, 180, 0, 19, 182, 0, 24, 17, 3, 231, 61, 3, 62, 29, 27, 162, 0, 40] := bL_of (by decide +kernel)
def dX0_greatestLaw_0 := dk42 (k := 0) bX0_greatestLaw_0 rfl
def dX0_greatestLaw_1 := dk180 (k := 1) (x := 15) bX0_greatestLaw_0 rfl rfl
def dX0_greatestLaw_4 := dk42 (k := 4) bX0_greatestLaw_0 rfl
def dX0_greatestLaw_5 := dk180 (k := 5) (x := 9) bX0_greatestLaw_0 rfl rfl
def dX0_greatestLaw_8 := dk180 (k := 8) (x := 19) bX0_greatestLaw_0 rfl rfl
def dX0_greatestLaw_11 := dk182 (k := 11) (x := 24) bX0_greatestLaw_0 rfl rfl
def dX0_greatestLaw_14 := dk17 (k := 14) (x := 999) bX0_greatestLaw_0 rfl (by decide)
def dX0_greatestLaw_17 := dk61 (k := 17) bX0_greatestLaw_0 rfl
def dX0_greatestLaw_18 := dk3 (k := 18) bX0_greatestLaw_0 rfl
def dX0_greatestLaw_19 := dk62 (k := 19) bX0_greatestLaw_0 rfl
def dX0_greatestLaw_20 := dk29 (k := 20) bX0_greatestLaw_0 rfl
def dX0_greatestLaw_21 := dk27 (k := 21) bX0_greatestLaw_0 rfl
def dX0_greatestLaw_22 := dk162 (k := 22) (x := 40) bX0_greatestLaw_0 rfl (by decide)
theorem bX0_greatestLaw_25 : bL cX0_greatestLaw 25 [42, 182, 0, 55, 54, 4, 21, 4, 4, 161, 0, 13, 42, 180, 0, 15, 182, 0, 30, 154, 0, 5, 2, 172] := bL_of (by decide +kernel)
def dX0_greatestLaw_25 := dk42 (k := 0) bX0_greatestLaw_25 rfl
def dX0_greatestLaw_26 := dk182 (k := 1) (x := 55) bX0_greatestLaw_25 rfl rfl
def dX0_greatestLaw_29 := dk54 (k := 4) (x := 4) bX0_greatestLaw_25 rfl rfl
def dX0_greatestLaw_31 := dk21 (k := 6) (x := 4) bX0_greatestLaw_25 rfl rfl
def dX0_greatestLaw_33 := dk4 (k := 8) bX0_greatestLaw_25 rfl
def dX0_greatestLaw_34 := dk161 (k := 9) (x := 13) bX0_greatestLaw_25 rfl (by decide)
def dX0_greatestLaw_37 := dk42 (k := 12) bX0_greatestLaw_25 rfl
def dX0_greatestLaw_38 := dk180 (k := 13) (x := 15) bX0_greatestLaw_25 rfl rfl
def dX0_greatestLaw_41 := dk182 (k := 16) (x := 30) bX0_greatestLaw_25 rfl rfl
def dX0_greatestLaw_44 := dk154 (k := 19) (x := 5) bX0_greatestLaw_25 rfl (by decide)
def dX0_greatestLaw_47 := dk2 (k := 22) bX0_greatestLaw_25 rfl
def dX0_greatestLaw_48 := dk172 (k := 23) bX0_greatestLaw_25 rfl
theorem bX0_greatestLaw_49 : bL cX0_greatestLaw 49 [28, 21, 4, 184, 0, 59, 61, 132, 3, 1, 167, 255, 217, 28, 172] := bL_of (by decide +kernel)
def dX0_greatestLaw_49 := dk28 (k := 0) bX0_greatestLaw_49 rfl
def dX0_greatestLaw_50 := dk21 (k := 1) (x := 4) bX0_greatestLaw_49 rfl rfl
def dX0_greatestLaw_52 := dk184 (k := 3) (x := 59) bX0_greatestLaw_49 rfl rfl
def dX0_greatestLaw_55 := dk61 (k := 6) bX0_greatestLaw_49 rfl
theorem dX0_greatestLaw_56 : decode cX0_greatestLaw 56 = .ok (.iinc 3 1, 3) := dk132 (k := 7) bX0_greatestLaw_49 rfl rfl (by decide)
def dX0_greatestLaw_59 := dk167 (k := 10) (x := (-39)) bX0_greatestLaw_49 rfl (by decide)
def dX0_greatestLaw_62 := dk28 (k := 13) bX0_greatestLaw_49 rfl
def dX0_greatestLaw_63 := dk172 (k := 14) bX0_greatestLaw_49 rfl
theorem bX0_drawMonths_0 : bL cX0_drawMonths 0 [42, 180, 0, 15, 42, 180, 0, 9, 180, 0, 19, 182, 0, 24, 42, 180, 0, 9, 180, 0, 34, 180, 0, 64] := bL_of (by decide +kernel)
def dX0_drawMonths_0 := dk42 (k := 0) bX0_drawMonths_0 rfl
def dX0_drawMonths_1 := dk180 (k := 1) (x := 15) bX0_drawMonths_0 rfl rfl
def dX0_drawMonths_4 := dk42 (k := 4) bX0_drawMonths_0 rfl
def dX0_drawMonths_5 := dk180 (k := 5) (x := 9) bX0_drawMonths_0 rfl rfl
def dX0_drawMonths_8 := dk180 (k := 8) (x := 19) bX0_drawMonths_0 rfl rfl
def dX0_drawMonths_11 := dk182 (k := 11) (x := 24) bX0_drawMonths_0 rfl rfl
def dX0_drawMonths_14 := dk42 (k := 14) bX0_drawMonths_0 rfl
def dX0_drawMonths_15 := dk180 (k := 15) (x := 9) bX0_drawMonths_0 rfl rfl
def dX0_drawMonths_18 := dk180 (k := 18) (x := 34) bX0_drawMonths_0 rfl rfl
def dX0_drawMonths_21 := dk180 (k := 21) (x := 64) bX0_drawMonths_0 rfl rfl
theorem bX0_drawMonths_24 : bL cX0_drawMonths 24 [54, 4, 21, 4, 4, 162, 0, 5, 3, 172, 27, 133, 55, 5, 3, 54, 7, 42, 180, 0, 9, 180, 0, 34] := bL_of (by decide +kernel)
def dX0_drawMonths_24 := dk54 (k := 0) (x := 4) bX0_drawMonths_24 rfl rfl
def dX0_drawMonths_26 := dk21 (k := 2) (x := 4) bX0_drawMonths_24 rfl rfl
def dX0_drawMonths_28 := dk4 (k := 4) bX0_drawMonths_24 rfl
def dX0_drawMonths_29 := dk162 (k := 5) (x := 5) bX0_drawMonths_24 rfl (by decide)
def dX0_drawMonths_32 := dk3 (k := 8) bX0_drawMonths_24 rfl
def dX0_drawMonths_33 := dk172 (k := 9) bX0_drawMonths_24 rfl
def dX0_drawMonths_34 := dk27 (k := 10) bX0_drawMonths_24 rfl
def dX0_drawMonths_35 := dk133 (k := 11) bX0_drawMonths_24 rfl
def dX0_drawMonths_36 := dk55 (k := 12) (x := 5) bX0_drawMonths_24 rfl rfl
def dX0_drawMonths_38 := dk3 (k := 14) bX0_drawMonths_24 rfl
def dX0_drawMonths_39 := dk54 (k := 15) (x := 7) bX0_drawMonths_24 rfl rfl
def dX0_drawMonths_41 := dk42 (k := 17) bX0_drawMonths_24 rfl
def dX0_drawMonths_42 := dk180 (k := 18) (x := 9) bX0_drawMonths_24 rfl rfl
def dX0_drawMonths_45 := dk180 (k := 21) (x := 34) bX0_drawMonths_24 rfl rfl
theorem bX0_drawMonths_48 : bL cX0_drawMonths 48 [42, 180, 0, 15, 2, 182, 0, 44, 54, 8, 3, 54, 9, 21, 9, 28, 162, 0, 114, 21, 7, 29, 162, 0, 108] := bL_of (by decide +kernel)
def dX0_drawMonths_48 := dk42 (k := 0) bX0_drawMonths_48 rfl
def dX0_drawMonths_49 := dk180 (k := 1) (x := 15) bX0_drawMonths_48 rfl rfl
def dX0_drawMonths_52 := dk2 (k := 4) bX0_drawMonths_48 rfl
def dX0_drawMonths_53 := dk182 (k := 5) (x := 44) bX0_drawMonths_48 rfl rfl
def dX0_drawMonths_56 := dk54 (k := 8) (x := 8) bX0_drawMonths_48 rfl rfl
def dX0_drawMonths_58 := dk3 (k := 10) bX0_drawMonths_48 rfl
def dX0_drawMonths_59 := dk54 (k := 11) (x := 9) bX0_drawMonths_48 rfl rfl
def dX0_drawMonths_61 := dk21 (k := 13) (x := 9) bX0_drawMonths_48 rfl rfl
def dX0_drawMonths_63 := dk28 (k := 15) bX0_drawMonths_48 rfl
def dX0_drawMonths_64 := dk162 (k := 16) (x := 114) bX0_drawMonths_48 rfl (by decide)
def dX0_drawMonths_67 := dk21 (k := 19) (x := 7) bX0_drawMonths_48 rfl rfl
def dX0_drawMonths_69 := dk29 (k := 21) bX0_drawMonths_48 rfl
def dX0_drawMonths_70 := dk162 (k := 22) (x := 108) bX0_drawMonths_48 rfl (by decide)
theorem bX0_drawMonths_73 : bL cX0_drawMonths 73 [20, 0, 68, 22, 5, 105, 20, 0, 70, 97, 20, 0, 72, 127, 55, 5, 4, 22, 5, 20, 0, 74, 109, 21, 4] := bL_of (by decide +kernel)
def dX0_drawMonths_73 := dk20 (k := 0) (x := 68) bX0_drawMonths_73 rfl rfl
def dX0_drawMonths_76 := dk22 (k := 3) (x := 5) bX0_drawMonths_73 rfl rfl
def dX0_drawMonths_78 := dk105 (k := 5) bX0_drawMonths_73 rfl
def dX0_drawMonths_79 := dk20 (k := 6) (x := 70) bX0_drawMonths_73 rfl rfl
def dX0_drawMonths_82 := dk97 (k := 9) bX0_drawMonths_73 rfl
def dX0_drawMonths_83 := dk20 (k := 10) (x := 72) bX0_drawMonths_73 rfl rfl
def dX0_drawMonths_86 := dk127 (k := 13) bX0_drawMonths_73 rfl
def dX0_drawMonths_87 := dk55 (k := 14) (x := 5) bX0_drawMonths_73 rfl rfl
def dX0_drawMonths_89 := dk4 (k := 16) bX0_drawMonths_73 rfl
def dX0_drawMonths_90 := dk22 (k := 17) (x := 5) bX0_drawMonths_73 rfl rfl
def dX0_drawMonths_92 := dk20 (k := 19) (x := 74) bX0_drawMonths_73 rfl rfl
def dX0_drawMonths_95 := dk109 (k := 22) bX0_drawMonths_73 rfl
def dX0_drawMonths_96 := dk21 (k := 23) (x := 4) bX0_drawMonths_73 rfl rfl
theorem bX0_drawMonths_98 : bL cX0_drawMonths 98 [133, 113, 136, 120, 54, 10, 42, 180, 0, 9, 21, 8, 21, 10, 128, 3, 182, 0, 76, 153, 0, 55, 42, 180, 0, 15] := bL_of (by decide +kernel)
def dX0_drawMonths_98 := dk133 (k := 0) bX0_drawMonths_98 rfl
def dX0_drawMonths_99 := dk113 (k := 1) bX0_drawMonths_98 rfl
def dX0_drawMonths_100 := dk136 (k := 2) bX0_drawMonths_98 rfl
def dX0_drawMonths_101 := dk120 (k := 3) bX0_drawMonths_98 rfl
def dX0_drawMonths_102 := dk54 (k := 4) (x := 10) bX0_drawMonths_98 rfl rfl
def dX0_drawMonths_104 := dk42 (k := 6) bX0_drawMonths_98 rfl
def dX0_drawMonths_105 := dk180 (k := 7) (x := 9) bX0_drawMonths_98 rfl rfl
def dX0_drawMonths_108 := dk21 (k := 10) (x := 8) bX0_drawMonths_98 rfl rfl
def dX0_drawMonths_110 := dk21 (k := 12) (x := 10) bX0_drawMonths_98 rfl rfl
def dX0_drawMonths_112 := dk128 (k := 14) bX0_drawMonths_98 rfl
def dX0_drawMonths_113 := dk3 (k := 15) bX0_drawMonths_98 rfl
def dX0_drawMonths_114 := dk182 (k := 16) (x := 76) bX0_drawMonths_98 rfl rfl
def dX0_drawMonths_117 := dk153 (k := 19) (x := 55) bX0_drawMonths_98 rfl (by decide)
def dX0_drawMonths_120 := dk42 (k := 22) bX0_drawMonths_98 rfl
def dX0_drawMonths_121 := dk180 (k := 23) (x := 15) bX0_drawMonths_98 rfl rfl
theorem bX0_drawMonths_124 : bL cX0_drawMonths 124 [182, 0, 30, 153, 0, 45, 132, 7, 1, 42, 180, 0, 15, 42, 180, 0, 15, 42, 180, 0, 9, 180, 0, 80] := bL_of (by decide +kernel)
def dX0_drawMonths_124 := dk182 (k := 0) (x := 30) bX0_drawMonths_124 rfl rfl
def dX0_drawMonths_127 := dk153 (k := 3) (x := 45) bX0_drawMonths_124 rfl (by decide)
theorem dX0_drawMonths_130 : decode cX0_drawMonths 130 = .ok (.iinc 7 1, 3) := dk132 (k := 6) bX0_drawMonths_124 rfl rfl (by decide)
def dX0_drawMonths_133 := dk42 (k := 9) bX0_drawMonths_124 rfl
def dX0_drawMonths_134 := dk180 (k := 10) (x := 15) bX0_drawMonths_124 rfl rfl
def dX0_drawMonths_137 := dk42 (k := 13) bX0_drawMonths_124 rfl
def dX0_drawMonths_138 := dk180 (k := 14) (x := 15) bX0_drawMonths_124 rfl rfl
def dX0_drawMonths_141 := dk42 (k := 17) bX0_drawMonths_124 rfl
def dX0_drawMonths_142 := dk180 (k := 18) (x := 9) bX0_drawMonths_124 rfl rfl
def dX0_drawMonths_145 := dk180 (k := 21) (x := 80) bX0_drawMonths_124 rfl rfl
theorem bX0_drawMonths_148 : bL cX0_drawMonths 148 [182, 0, 83, 4, 182, 0, 86, 42, 180, 0, 9, 180, 0, 34, 42, 180, 0, 15, 2, 182, 0, 44, 54, 8] := bL_of (by decide +kernel)
def dX0_drawMonths_148 := dk182 (k := 0) (x := 83) bX0_drawMonths_148 rfl rfl
def dX0_drawMonths_151 := dk4 (k := 3) bX0_drawMonths_148 rfl
def dX0_drawMonths_152 := dk182 (k := 4) (x := 86) bX0_drawMonths_148 rfl rfl
def dX0_drawMonths_155 := dk42 (k := 7) bX0_drawMonths_148 rfl
def dX0_drawMonths_156 := dk180 (k := 8) (x := 9) bX0_drawMonths_148 rfl rfl
def dX0_drawMonths_159 := dk180 (k := 11) (x := 34) bX0_drawMonths_148 rfl rfl
def dX0_drawMonths_162 := dk42 (k := 14) bX0_drawMonths_148 rfl
def dX0_drawMonths_163 := dk180 (k := 15) (x := 15) bX0_drawMonths_148 rfl rfl
def dX0_drawMonths_166 := dk2 (k := 18) bX0_drawMonths_148 rfl
def dX0_drawMonths_167 := dk182 (k := 19) (x := 44) bX0_drawMonths_148 rfl rfl
def dX0_drawMonths_170 := dk54 (k := 22) (x := 8) bX0_drawMonths_148 rfl rfl
theorem bX0_drawMonths_172 : bL cX0_drawMonths 172 [132, 9, 1, 167, 255, 142, 21, 7, 172] := bL_of (by decide +kernel)
theorem dX0_drawMonths_172 : decode cX0_drawMonths 172 = .ok (.iinc 9 1, 3) := dk132 (k := 0) bX0_drawMonths_172 rfl rfl (by decide)
def dX0_drawMonths_175 := dk167 (k := 3) (x := (-114)) bX0_drawMonths_172 rfl (by decide)
def dX0_drawMonths_178 := dk21 (k := 6) (x := 7) bX0_drawMonths_172 rfl rfl
def dX0_drawMonths_180 := dk172 (k := 8) bX0_drawMonths_172 rfl
theorem bX1_init_0 : bL cX1_init 0 [42, 183, 0, 3, 42, 16, 10] := bL_of (by decide +kernel)
def dX1_init_0 := dk42 (k := 0) bX1_init_0 rfl
def dX1_init_1 := dk183 (k := 1) (x := 3) bX1_init_0 rfl rfl
def dX1_init_4 := dk42 (k := 4) bX1_init_0 rfl
def dX1_init_5 := dk16 (k := 5) (x := 10) bX1_init_0 rfl (by decide)
theorem dX1_init_7 : decode cX1_init 7 = .ok (.newarray .int, 2) := by decide +kernel
theorem bX1_init_9 : bL cX1_init 9 [181, 0, 9, 177] := bL_of (by decide +kernel)
def dX1_init_9 := dk181 (k := 0) (x := 9) bX1_init_9 rfl rfl
def dX1_init_12 := dk177 (k := 3) bX1_init_9 rfl
theorem bX1_clear_0 : bL cX1_clear 0 [42, 3, 181, 0, 15, 42, 3, 181, 0, 19, 42, 3, 181, 0, 22, 42, 3, 181, 0, 25, 177] := bL_of (by decide +kernel)
def dX1_clear_0 := dk42 (k := 0) bX1_clear_0 rfl
def dX1_clear_1 := dk3 (k := 1) bX1_clear_0 rfl
def dX1_clear_2 := dk181 (k := 2) (x := 15) bX1_clear_0 rfl rfl
def dX1_clear_5 := dk42 (k := 5) bX1_clear_0 rfl
def dX1_clear_6 := dk3 (k := 6) bX1_clear_0 rfl
def dX1_clear_7 := dk181 (k := 7) (x := 19) bX1_clear_0 rfl rfl
def dX1_clear_10 := dk42 (k := 10) bX1_clear_0 rfl
def dX1_clear_11 := dk3 (k := 11) bX1_clear_0 rfl
def dX1_clear_12 := dk181 (k := 12) (x := 22) bX1_clear_0 rfl rfl
def dX1_clear_15 := dk42 (k := 15) bX1_clear_0 rfl
def dX1_clear_16 := dk3 (k := 16) bX1_clear_0 rfl
def dX1_clear_17 := dk181 (k := 17) (x := 25) bX1_clear_0 rfl rfl
def dX1_clear_20 := dk177 (k := 20) bX1_clear_0 rfl
theorem bX1_copyFrom_0 : bL cX1_copyFrom 0 [3, 61, 28, 16, 10, 162, 0, 21, 42, 180, 0, 9, 28, 43, 180, 0, 9, 28, 46, 79, 132, 2, 1, 167, 255, 235] := bL_of (by decide +kernel)
def dX1_copyFrom_0 := dk3 (k := 0) bX1_copyFrom_0 rfl
def dX1_copyFrom_1 := dk61 (k := 1) bX1_copyFrom_0 rfl
def dX1_copyFrom_2 := dk28 (k := 2) bX1_copyFrom_0 rfl
def dX1_copyFrom_3 := dk16 (k := 3) (x := 10) bX1_copyFrom_0 rfl (by decide)
def dX1_copyFrom_5 := dk162 (k := 5) (x := 21) bX1_copyFrom_0 rfl (by decide)
def dX1_copyFrom_8 := dk42 (k := 8) bX1_copyFrom_0 rfl
def dX1_copyFrom_9 := dk180 (k := 9) (x := 9) bX1_copyFrom_0 rfl rfl
def dX1_copyFrom_12 := dk28 (k := 12) bX1_copyFrom_0 rfl
def dX1_copyFrom_13 := dk43 (k := 13) bX1_copyFrom_0 rfl
def dX1_copyFrom_14 := dk180 (k := 14) (x := 9) bX1_copyFrom_0 rfl rfl
def dX1_copyFrom_17 := dk28 (k := 17) bX1_copyFrom_0 rfl
def dX1_copyFrom_18 := dk46 (k := 18) bX1_copyFrom_0 rfl
def dX1_copyFrom_19 := dk79 (k := 19) bX1_copyFrom_0 rfl
theorem dX1_copyFrom_20 : decode cX1_copyFrom 20 = .ok (.iinc 2 1, 3) := dk132 (k := 20) bX1_copyFrom_0 rfl rfl (by decide)
def dX1_copyFrom_23 := dk167 (k := 23) (x := (-21)) bX1_copyFrom_0 rfl (by decide)
theorem bX1_copyFrom_26 : bL cX1_copyFrom 26 [42, 43, 180, 0, 15, 181, 0, 15, 42, 43, 180, 0, 19, 181, 0, 19, 42, 43, 180, 0, 22, 181, 0, 22] := bL_of (by decide +kernel)
def dX1_copyFrom_26 := dk42 (k := 0) bX1_copyFrom_26 rfl
def dX1_copyFrom_27 := dk43 (k := 1) bX1_copyFrom_26 rfl
def dX1_copyFrom_28 := dk180 (k := 2) (x := 15) bX1_copyFrom_26 rfl rfl
def dX1_copyFrom_31 := dk181 (k := 5) (x := 15) bX1_copyFrom_26 rfl rfl
def dX1_copyFrom_34 := dk42 (k := 8) bX1_copyFrom_26 rfl
def dX1_copyFrom_35 := dk43 (k := 9) bX1_copyFrom_26 rfl
def dX1_copyFrom_36 := dk180 (k := 10) (x := 19) bX1_copyFrom_26 rfl rfl
def dX1_copyFrom_39 := dk181 (k := 13) (x := 19) bX1_copyFrom_26 rfl rfl
def dX1_copyFrom_42 := dk42 (k := 16) bX1_copyFrom_26 rfl
def dX1_copyFrom_43 := dk43 (k := 17) bX1_copyFrom_26 rfl
def dX1_copyFrom_44 := dk180 (k := 18) (x := 22) bX1_copyFrom_26 rfl rfl
def dX1_copyFrom_47 := dk181 (k := 21) (x := 22) bX1_copyFrom_26 rfl rfl
theorem bX1_copyFrom_50 : bL cX1_copyFrom 50 [42, 43, 180, 0, 25, 181, 0, 25, 177] := bL_of (by decide +kernel)
def dX1_copyFrom_50 := dk42 (k := 0) bX1_copyFrom_50 rfl
def dX1_copyFrom_51 := dk43 (k := 1) bX1_copyFrom_50 rfl
def dX1_copyFrom_52 := dk180 (k := 2) (x := 25) bX1_copyFrom_50 rfl rfl
def dX1_copyFrom_55 := dk181 (k := 5) (x := 25) bX1_copyFrom_50 rfl rfl
def dX1_copyFrom_58 := dk177 (k := 8) bX1_copyFrom_50 rfl
theorem bX1_addCell_0 : bL cX1_addCell 0 [42, 180, 0, 15, 155, 0, 35, 42, 180, 0, 15, 42, 180, 0, 9, 190, 162, 0, 23, 42, 180, 0, 9, 42] := bL_of (by decide +kernel)
def dX1_addCell_0 := dk42 (k := 0) bX1_addCell_0 rfl
def dX1_addCell_1 := dk180 (k := 1) (x := 15) bX1_addCell_0 rfl rfl
def dX1_addCell_4 := dk155 (k := 4) (x := 35) bX1_addCell_0 rfl (by decide)
def dX1_addCell_7 := dk42 (k := 7) bX1_addCell_0 rfl
def dX1_addCell_8 := dk180 (k := 8) (x := 15) bX1_addCell_0 rfl rfl
def dX1_addCell_11 := dk42 (k := 11) bX1_addCell_0 rfl
def dX1_addCell_12 := dk180 (k := 12) (x := 9) bX1_addCell_0 rfl rfl
def dX1_addCell_15 := dk190 (k := 15) bX1_addCell_0 rfl
def dX1_addCell_16 := dk162 (k := 16) (x := 23) bX1_addCell_0 rfl (by decide)
def dX1_addCell_19 := dk42 (k := 19) bX1_addCell_0 rfl
def dX1_addCell_20 := dk180 (k := 20) (x := 9) bX1_addCell_0 rfl rfl
def dX1_addCell_23 := dk42 (k := 23) bX1_addCell_0 rfl
theorem bX1_addCell_24 : bL cX1_addCell 24 [180, 0, 15, 27, 79, 42, 89, 180, 0, 15, 4, 96, 181, 0, 15, 177] := bL_of (by decide +kernel)
def dX1_addCell_24 := dk180 (k := 0) (x := 15) bX1_addCell_24 rfl rfl
def dX1_addCell_27 := dk27 (k := 3) bX1_addCell_24 rfl
def dX1_addCell_28 := dk79 (k := 4) bX1_addCell_24 rfl
def dX1_addCell_29 := dk42 (k := 5) bX1_addCell_24 rfl
def dX1_addCell_30 := dk89 (k := 6) bX1_addCell_24 rfl
def dX1_addCell_31 := dk180 (k := 7) (x := 15) bX1_addCell_24 rfl rfl
def dX1_addCell_34 := dk4 (k := 10) bX1_addCell_24 rfl
def dX1_addCell_35 := dk96 (k := 11) bX1_addCell_24 rfl
def dX1_addCell_36 := dk181 (k := 12) (x := 15) bX1_addCell_24 rfl rfl
def dX1_addCell_39 := dk177 (k := 15) bX1_addCell_24 rfl
theorem bX1_has_0 : bL cX1_has 0 [27, 155, 0, 24, 27, 42, 180, 0, 15, 162, 0, 16, 27, 42, 180, 0, 9, 190, 162, 0, 7, 4, 167, 0, 4] := bL_of (by decide +kernel)
def dX1_has_0 := dk27 (k := 0) bX1_has_0 rfl
def dX1_has_1 := dk155 (k := 1) (x := 24) bX1_has_0 rfl (by decide)
def dX1_has_4 := dk27 (k := 4) bX1_has_0 rfl
def dX1_has_5 := dk42 (k := 5) bX1_has_0 rfl
def dX1_has_6 := dk180 (k := 6) (x := 15) bX1_has_0 rfl rfl
def dX1_has_9 := dk162 (k := 9) (x := 16) bX1_has_0 rfl (by decide)
def dX1_has_12 := dk27 (k := 12) bX1_has_0 rfl
def dX1_has_13 := dk42 (k := 13) bX1_has_0 rfl
def dX1_has_14 := dk180 (k := 14) (x := 9) bX1_has_0 rfl rfl
def dX1_has_17 := dk190 (k := 17) bX1_has_0 rfl
def dX1_has_18 := dk162 (k := 18) (x := 7) bX1_has_0 rfl (by decide)
def dX1_has_21 := dk4 (k := 21) bX1_has_0 rfl
def dX1_has_22 := dk167 (k := 22) (x := 4) bX1_has_0 rfl (by decide)
theorem bX1_has_25 : bL cX1_has 25 [3, 172] := bL_of (by decide +kernel)
def dX1_has_25 := dk3 (k := 0) bX1_has_25 rfl
def dX1_has_26 := dk172 (k := 1) bX1_has_25 rfl
theorem bX1_heightOf_0 : bL cX1_heightOf 0 [27, 155, 0, 29, 27, 42, 180, 0, 15, 162, 0, 21, 27, 42, 180, 0, 9, 190, 162, 0, 12, 42, 180, 0, 9] := bL_of (by decide +kernel)
def dX1_heightOf_0 := dk27 (k := 0) bX1_heightOf_0 rfl
def dX1_heightOf_1 := dk155 (k := 1) (x := 29) bX1_heightOf_0 rfl (by decide)
def dX1_heightOf_4 := dk27 (k := 4) bX1_heightOf_0 rfl
def dX1_heightOf_5 := dk42 (k := 5) bX1_heightOf_0 rfl
def dX1_heightOf_6 := dk180 (k := 6) (x := 15) bX1_heightOf_0 rfl rfl
def dX1_heightOf_9 := dk162 (k := 9) (x := 21) bX1_heightOf_0 rfl (by decide)
def dX1_heightOf_12 := dk27 (k := 12) bX1_heightOf_0 rfl
def dX1_heightOf_13 := dk42 (k := 13) bX1_heightOf_0 rfl
def dX1_heightOf_14 := dk180 (k := 14) (x := 9) bX1_heightOf_0 rfl rfl
def dX1_heightOf_17 := dk190 (k := 17) bX1_heightOf_0 rfl
def dX1_heightOf_18 := dk162 (k := 18) (x := 12) bX1_heightOf_0 rfl (by decide)
def dX1_heightOf_21 := dk42 (k := 21) bX1_heightOf_0 rfl
def dX1_heightOf_22 := dk180 (k := 22) (x := 9) bX1_heightOf_0 rfl rfl
theorem bX1_heightOf_25 : bL cX1_heightOf 25 [27, 46, 167, 0, 4, 3, 172] := bL_of (by decide +kernel)
def dX1_heightOf_25 := dk27 (k := 0) bX1_heightOf_25 rfl
def dX1_heightOf_26 := dk46 (k := 1) bX1_heightOf_25 rfl
def dX1_heightOf_27 := dk167 (k := 2) (x := 4) bX1_heightOf_25 rfl (by decide)
def dX1_heightOf_30 := dk3 (k := 5) bX1_heightOf_25 rfl
def dX1_heightOf_31 := dk172 (k := 6) bX1_heightOf_25 rfl
theorem bX1_change_0 : bL cX1_change 0 [42, 27, 182, 0, 29, 153, 0, 13, 42, 180, 0, 9, 27, 92, 46, 28, 96, 79, 177] := bL_of (by decide +kernel)
def dX1_change_0 := dk42 (k := 0) bX1_change_0 rfl
def dX1_change_1 := dk27 (k := 1) bX1_change_0 rfl
def dX1_change_2 := dk182 (k := 2) (x := 29) bX1_change_0 rfl rfl
def dX1_change_5 := dk153 (k := 5) (x := 13) bX1_change_0 rfl (by decide)
def dX1_change_8 := dk42 (k := 8) bX1_change_0 rfl
def dX1_change_9 := dk180 (k := 9) (x := 9) bX1_change_0 rfl rfl
def dX1_change_12 := dk27 (k := 12) bX1_change_0 rfl
def dX1_change_13 := dk92 (k := 13) bX1_change_0 rfl
def dX1_change_14 := dk46 (k := 14) bX1_change_0 rfl
def dX1_change_15 := dk28 (k := 15) bX1_change_0 rfl
def dX1_change_16 := dk96 (k := 16) bX1_change_0 rfl
def dX1_change_17 := dk79 (k := 17) bX1_change_0 rfl
def dX1_change_18 := dk177 (k := 18) bX1_change_0 rfl
theorem bX1_topCell_0 : bL cX1_topCell 0 [2, 60, 3, 61, 28, 42, 180, 0, 15, 162, 0, 43, 42, 28, 182, 0, 33, 42, 27, 182, 0, 33, 100, 62] := bL_of (by decide +kernel)
def dX1_topCell_0 := dk2 (k := 0) bX1_topCell_0 rfl
def dX1_topCell_1 := dk60 (k := 1) bX1_topCell_0 rfl
def dX1_topCell_2 := dk3 (k := 2) bX1_topCell_0 rfl
def dX1_topCell_3 := dk61 (k := 3) bX1_topCell_0 rfl
def dX1_topCell_4 := dk28 (k := 4) bX1_topCell_0 rfl
def dX1_topCell_5 := dk42 (k := 5) bX1_topCell_0 rfl
def dX1_topCell_6 := dk180 (k := 6) (x := 15) bX1_topCell_0 rfl rfl
def dX1_topCell_9 := dk162 (k := 9) (x := 43) bX1_topCell_0 rfl (by decide)
def dX1_topCell_12 := dk42 (k := 12) bX1_topCell_0 rfl
def dX1_topCell_13 := dk28 (k := 13) bX1_topCell_0 rfl
def dX1_topCell_14 := dk182 (k := 14) (x := 33) bX1_topCell_0 rfl rfl
def dX1_topCell_17 := dk42 (k := 17) bX1_topCell_0 rfl
def dX1_topCell_18 := dk27 (k := 18) bX1_topCell_0 rfl
def dX1_topCell_19 := dk182 (k := 19) (x := 33) bX1_topCell_0 rfl rfl
def dX1_topCell_22 := dk100 (k := 22) bX1_topCell_0 rfl
def dX1_topCell_23 := dk62 (k := 23) bX1_topCell_0 rfl
theorem bX1_topCell_24 : bL cX1_topCell 24 [27, 2, 159, 0, 18, 29, 157, 0, 14, 29, 154, 0, 12, 42, 180, 0, 25, 153, 0, 5, 28, 60, 132, 2, 1] := bL_of (by decide +kernel)
def dX1_topCell_24 := dk27 (k := 0) bX1_topCell_24 rfl
def dX1_topCell_25 := dk2 (k := 1) bX1_topCell_24 rfl
def dX1_topCell_26 := dk159 (k := 2) (x := 18) bX1_topCell_24 rfl (by decide)
def dX1_topCell_29 := dk29 (k := 5) bX1_topCell_24 rfl
def dX1_topCell_30 := dk157 (k := 6) (x := 14) bX1_topCell_24 rfl (by decide)
def dX1_topCell_33 := dk29 (k := 9) bX1_topCell_24 rfl
def dX1_topCell_34 := dk154 (k := 10) (x := 12) bX1_topCell_24 rfl (by decide)
def dX1_topCell_37 := dk42 (k := 13) bX1_topCell_24 rfl
def dX1_topCell_38 := dk180 (k := 14) (x := 25) bX1_topCell_24 rfl rfl
def dX1_topCell_41 := dk153 (k := 17) (x := 5) bX1_topCell_24 rfl (by decide)
def dX1_topCell_44 := dk28 (k := 20) bX1_topCell_24 rfl
def dX1_topCell_45 := dk60 (k := 21) bX1_topCell_24 rfl
theorem dX1_topCell_46 : decode cX1_topCell 46 = .ok (.iinc 2 1, 3) := dk132 (k := 22) bX1_topCell_24 rfl rfl (by decide)
theorem bX1_topCell_49 : bL cX1_topCell 49 [167, 255, 211, 27, 172] := bL_of (by decide +kernel)
def dX1_topCell_49 := dk167 (k := 0) (x := (-45)) bX1_topCell_49 rfl (by decide)
def dX1_topCell_52 := dk27 (k := 3) bX1_topCell_49 rfl
def dX1_topCell_53 := dk172 (k := 4) bX1_topCell_49 rfl
theorem bX1_topHeight_0 : bL cX1_topHeight 0 [3, 60, 3, 61, 28, 42, 180, 0, 15, 162, 0, 22, 42, 28, 182, 0, 33, 62, 29, 27, 164, 0, 5, 29] := bL_of (by decide +kernel)
def dX1_topHeight_0 := dk3 (k := 0) bX1_topHeight_0 rfl
def dX1_topHeight_1 := dk60 (k := 1) bX1_topHeight_0 rfl
def dX1_topHeight_2 := dk3 (k := 2) bX1_topHeight_0 rfl
def dX1_topHeight_3 := dk61 (k := 3) bX1_topHeight_0 rfl
def dX1_topHeight_4 := dk28 (k := 4) bX1_topHeight_0 rfl
def dX1_topHeight_5 := dk42 (k := 5) bX1_topHeight_0 rfl
def dX1_topHeight_6 := dk180 (k := 6) (x := 15) bX1_topHeight_0 rfl rfl
def dX1_topHeight_9 := dk162 (k := 9) (x := 22) bX1_topHeight_0 rfl (by decide)
def dX1_topHeight_12 := dk42 (k := 12) bX1_topHeight_0 rfl
def dX1_topHeight_13 := dk28 (k := 13) bX1_topHeight_0 rfl
def dX1_topHeight_14 := dk182 (k := 14) (x := 33) bX1_topHeight_0 rfl rfl
def dX1_topHeight_17 := dk62 (k := 17) bX1_topHeight_0 rfl
def dX1_topHeight_18 := dk29 (k := 18) bX1_topHeight_0 rfl
def dX1_topHeight_19 := dk27 (k := 19) bX1_topHeight_0 rfl
def dX1_topHeight_20 := dk164 (k := 20) (x := 5) bX1_topHeight_0 rfl (by decide)
def dX1_topHeight_23 := dk29 (k := 23) bX1_topHeight_0 rfl
theorem bX1_topHeight_24 : bL cX1_topHeight 24 [60, 132, 2, 1, 167, 255, 232, 27, 172] := bL_of (by decide +kernel)
def dX1_topHeight_24 := dk60 (k := 0) bX1_topHeight_24 rfl
theorem dX1_topHeight_25 : decode cX1_topHeight 25 = .ok (.iinc 2 1, 3) := dk132 (k := 1) bX1_topHeight_24 rfl rfl (by decide)
def dX1_topHeight_28 := dk167 (k := 4) (x := (-24)) bX1_topHeight_24 rfl (by decide)
def dX1_topHeight_31 := dk27 (k := 7) bX1_topHeight_24 rfl
def dX1_topHeight_32 := dk172 (k := 8) bX1_topHeight_24 rfl
theorem bX1_feetInAll_0 : bL cX1_feetInAll 0 [3, 60, 3, 61, 28, 42, 180, 0, 15, 162, 0, 17, 27, 42, 28, 182, 0, 33, 96, 60, 132, 2, 1, 167, 255, 237] := bL_of (by decide +kernel)
def dX1_feetInAll_0 := dk3 (k := 0) bX1_feetInAll_0 rfl
def dX1_feetInAll_1 := dk60 (k := 1) bX1_feetInAll_0 rfl
def dX1_feetInAll_2 := dk3 (k := 2) bX1_feetInAll_0 rfl
def dX1_feetInAll_3 := dk61 (k := 3) bX1_feetInAll_0 rfl
def dX1_feetInAll_4 := dk28 (k := 4) bX1_feetInAll_0 rfl
def dX1_feetInAll_5 := dk42 (k := 5) bX1_feetInAll_0 rfl
def dX1_feetInAll_6 := dk180 (k := 6) (x := 15) bX1_feetInAll_0 rfl rfl
def dX1_feetInAll_9 := dk162 (k := 9) (x := 17) bX1_feetInAll_0 rfl (by decide)
def dX1_feetInAll_12 := dk27 (k := 12) bX1_feetInAll_0 rfl
def dX1_feetInAll_13 := dk42 (k := 13) bX1_feetInAll_0 rfl
def dX1_feetInAll_14 := dk28 (k := 14) bX1_feetInAll_0 rfl
def dX1_feetInAll_15 := dk182 (k := 15) (x := 33) bX1_feetInAll_0 rfl rfl
def dX1_feetInAll_18 := dk96 (k := 18) bX1_feetInAll_0 rfl
def dX1_feetInAll_19 := dk60 (k := 19) bX1_feetInAll_0 rfl
theorem dX1_feetInAll_20 : decode cX1_feetInAll 20 = .ok (.iinc 2 1, 3) := dk132 (k := 20) bX1_feetInAll_0 rfl rfl (by decide)
def dX1_feetInAll_23 := dk167 (k := 23) (x := (-19)) bX1_feetInAll_0 rfl (by decide)
theorem bX1_feetInAll_26 : bL cX1_feetInAll 26 [27, 172] := bL_of (by decide +kernel)
def dX1_feetInAll_26 := dk27 (k := 0) bX1_feetInAll_26 rfl
def dX1_feetInAll_27 := dk172 (k := 1) bX1_feetInAll_26 rfl
theorem bX1_shadedHours_0 : bL cX1_shadedHours 0 [27, 155, 0, 20, 27, 42, 180, 0, 15, 162, 0, 12, 27, 42, 180, 0, 9, 190, 161, 0, 5, 3, 172, 3] := bL_of (by decide +kernel)
def dX1_shadedHours_0 := dk27 (k := 0) bX1_shadedHours_0 rfl
def dX1_shadedHours_1 := dk155 (k := 1) (x := 20) bX1_shadedHours_0 rfl (by decide)
def dX1_shadedHours_4 := dk27 (k := 4) bX1_shadedHours_0 rfl
def dX1_shadedHours_5 := dk42 (k := 5) bX1_shadedHours_0 rfl
def dX1_shadedHours_6 := dk180 (k := 6) (x := 15) bX1_shadedHours_0 rfl rfl
def dX1_shadedHours_9 := dk162 (k := 9) (x := 12) bX1_shadedHours_0 rfl (by decide)
def dX1_shadedHours_12 := dk27 (k := 12) bX1_shadedHours_0 rfl
def dX1_shadedHours_13 := dk42 (k := 13) bX1_shadedHours_0 rfl
def dX1_shadedHours_14 := dk180 (k := 14) (x := 9) bX1_shadedHours_0 rfl rfl
def dX1_shadedHours_17 := dk190 (k := 17) bX1_shadedHours_0 rfl
def dX1_shadedHours_18 := dk161 (k := 18) (x := 5) bX1_shadedHours_0 rfl (by decide)
def dX1_shadedHours_21 := dk3 (k := 21) bX1_shadedHours_0 rfl
def dX1_shadedHours_22 := dk172 (k := 22) bX1_shadedHours_0 rfl
def dX1_shadedHours_23 := dk3 (k := 23) bX1_shadedHours_0 rfl
theorem bX1_shadedHours_24 : bL cX1_shadedHours 24 [62, 4, 54, 4, 21, 4, 16, 10, 162, 0, 84, 27, 28, 21, 4, 104, 96, 54, 5, 21, 5, 155, 0, 71] := bL_of (by decide +kernel)
def dX1_shadedHours_24 := dk62 (k := 0) bX1_shadedHours_24 rfl
def dX1_shadedHours_25 := dk4 (k := 1) bX1_shadedHours_24 rfl
def dX1_shadedHours_26 := dk54 (k := 2) (x := 4) bX1_shadedHours_24 rfl rfl
def dX1_shadedHours_28 := dk21 (k := 4) (x := 4) bX1_shadedHours_24 rfl rfl
def dX1_shadedHours_30 := dk16 (k := 6) (x := 10) bX1_shadedHours_24 rfl (by decide)
def dX1_shadedHours_32 := dk162 (k := 8) (x := 84) bX1_shadedHours_24 rfl (by decide)
def dX1_shadedHours_35 := dk27 (k := 11) bX1_shadedHours_24 rfl
def dX1_shadedHours_36 := dk28 (k := 12) bX1_shadedHours_24 rfl
def dX1_shadedHours_37 := dk21 (k := 13) (x := 4) bX1_shadedHours_24 rfl rfl
def dX1_shadedHours_39 := dk104 (k := 15) bX1_shadedHours_24 rfl
def dX1_shadedHours_40 := dk96 (k := 16) bX1_shadedHours_24 rfl
def dX1_shadedHours_41 := dk54 (k := 17) (x := 5) bX1_shadedHours_24 rfl rfl
def dX1_shadedHours_43 := dk21 (k := 19) (x := 5) bX1_shadedHours_24 rfl rfl
def dX1_shadedHours_45 := dk155 (k := 21) (x := 71) bX1_shadedHours_24 rfl (by decide)
theorem bX1_shadedHours_48 : bL cX1_shadedHours 48 [21, 5, 42, 180, 0, 15, 162, 0, 62, 21, 5, 42, 180, 0, 9, 190, 161, 0, 6, 167, 0, 49, 42, 180, 0, 9] := bL_of (by decide +kernel)
def dX1_shadedHours_48 := dk21 (k := 0) (x := 5) bX1_shadedHours_48 rfl rfl
def dX1_shadedHours_50 := dk42 (k := 2) bX1_shadedHours_48 rfl
def dX1_shadedHours_51 := dk180 (k := 3) (x := 15) bX1_shadedHours_48 rfl rfl
def dX1_shadedHours_54 := dk162 (k := 6) (x := 62) bX1_shadedHours_48 rfl (by decide)
def dX1_shadedHours_57 := dk21 (k := 9) (x := 5) bX1_shadedHours_48 rfl rfl
def dX1_shadedHours_59 := dk42 (k := 11) bX1_shadedHours_48 rfl
def dX1_shadedHours_60 := dk180 (k := 12) (x := 9) bX1_shadedHours_48 rfl rfl
def dX1_shadedHours_63 := dk190 (k := 15) bX1_shadedHours_48 rfl
def dX1_shadedHours_64 := dk161 (k := 16) (x := 6) bX1_shadedHours_48 rfl (by decide)
def dX1_shadedHours_67 := dk167 (k := 19) (x := 49) bX1_shadedHours_48 rfl (by decide)
def dX1_shadedHours_70 := dk42 (k := 22) bX1_shadedHours_48 rfl
def dX1_shadedHours_71 := dk180 (k := 23) (x := 9) bX1_shadedHours_48 rfl rfl
theorem bX1_shadedHours_74 : bL cX1_shadedHours 74 [21, 5, 46, 42, 180, 0, 9, 27, 46, 100, 54, 6, 21, 6, 158, 0, 22, 21, 6, 4, 100, 21, 4, 108] := bL_of (by decide +kernel)
def dX1_shadedHours_74 := dk21 (k := 0) (x := 5) bX1_shadedHours_74 rfl rfl
def dX1_shadedHours_76 := dk46 (k := 2) bX1_shadedHours_74 rfl
def dX1_shadedHours_77 := dk42 (k := 3) bX1_shadedHours_74 rfl
def dX1_shadedHours_78 := dk180 (k := 4) (x := 9) bX1_shadedHours_74 rfl rfl
def dX1_shadedHours_81 := dk27 (k := 7) bX1_shadedHours_74 rfl
def dX1_shadedHours_82 := dk46 (k := 8) bX1_shadedHours_74 rfl
def dX1_shadedHours_83 := dk100 (k := 9) bX1_shadedHours_74 rfl
def dX1_shadedHours_84 := dk54 (k := 10) (x := 6) bX1_shadedHours_74 rfl rfl
def dX1_shadedHours_86 := dk21 (k := 12) (x := 6) bX1_shadedHours_74 rfl rfl
def dX1_shadedHours_88 := dk158 (k := 14) (x := 22) bX1_shadedHours_74 rfl (by decide)
def dX1_shadedHours_91 := dk21 (k := 17) (x := 6) bX1_shadedHours_74 rfl rfl
def dX1_shadedHours_93 := dk4 (k := 19) bX1_shadedHours_74 rfl
def dX1_shadedHours_94 := dk100 (k := 20) bX1_shadedHours_74 rfl
def dX1_shadedHours_95 := dk21 (k := 21) (x := 4) bX1_shadedHours_74 rfl rfl
def dX1_shadedHours_97 := dk108 (k := 23) bX1_shadedHours_74 rfl
theorem bX1_shadedHours_98 : bL cX1_shadedHours 98 [29, 164, 0, 11, 21, 6, 4, 100, 21, 4, 108, 62, 132, 4, 1, 167, 255, 171, 29, 16, 9, 162, 0, 7] := bL_of (by decide +kernel)
def dX1_shadedHours_98 := dk29 (k := 0) bX1_shadedHours_98 rfl
def dX1_shadedHours_99 := dk164 (k := 1) (x := 11) bX1_shadedHours_98 rfl (by decide)
def dX1_shadedHours_102 := dk21 (k := 4) (x := 6) bX1_shadedHours_98 rfl rfl
def dX1_shadedHours_104 := dk4 (k := 6) bX1_shadedHours_98 rfl
def dX1_shadedHours_105 := dk100 (k := 7) bX1_shadedHours_98 rfl
def dX1_shadedHours_106 := dk21 (k := 8) (x := 4) bX1_shadedHours_98 rfl rfl
def dX1_shadedHours_108 := dk108 (k := 10) bX1_shadedHours_98 rfl
def dX1_shadedHours_109 := dk62 (k := 11) bX1_shadedHours_98 rfl
theorem dX1_shadedHours_110 : decode cX1_shadedHours 110 = .ok (.iinc 4 1, 3) := dk132 (k := 12) bX1_shadedHours_98 rfl rfl (by decide)
def dX1_shadedHours_113 := dk167 (k := 15) (x := (-85)) bX1_shadedHours_98 rfl (by decide)
def dX1_shadedHours_116 := dk29 (k := 18) bX1_shadedHours_98 rfl
def dX1_shadedHours_117 := dk16 (k := 19) (x := 9) bX1_shadedHours_98 rfl (by decide)
def dX1_shadedHours_119 := dk162 (k := 21) (x := 7) bX1_shadedHours_98 rfl (by decide)
theorem bX1_shadedHours_122 : bL cX1_shadedHours 122 [29, 167, 0, 5, 16, 9, 172] := bL_of (by decide +kernel)
def dX1_shadedHours_122 := dk29 (k := 0) bX1_shadedHours_122 rfl
def dX1_shadedHours_123 := dk167 (k := 1) (x := 5) bX1_shadedHours_122 rfl (by decide)
def dX1_shadedHours_126 := dk16 (k := 4) (x := 9) bX1_shadedHours_122 rfl (by decide)
def dX1_shadedHours_128 := dk172 (k := 6) bX1_shadedHours_122 rfl
theorem bX1_isShaded_0 : bL cX1_isShaded 0 [28, 158, 0, 21, 28, 42, 27, 2, 182, 0, 37, 163, 0, 7, 4, 167, 0, 23, 3, 167, 0, 19, 28, 116] := bL_of (by decide +kernel)
def dX1_isShaded_0 := dk28 (k := 0) bX1_isShaded_0 rfl
def dX1_isShaded_1 := dk158 (k := 1) (x := 21) bX1_isShaded_0 rfl (by decide)
def dX1_isShaded_4 := dk28 (k := 4) bX1_isShaded_0 rfl
def dX1_isShaded_5 := dk42 (k := 5) bX1_isShaded_0 rfl
def dX1_isShaded_6 := dk27 (k := 6) bX1_isShaded_0 rfl
def dX1_isShaded_7 := dk2 (k := 7) bX1_isShaded_0 rfl
def dX1_isShaded_8 := dk182 (k := 8) (x := 37) bX1_isShaded_0 rfl rfl
def dX1_isShaded_11 := dk163 (k := 11) (x := 7) bX1_isShaded_0 rfl (by decide)
def dX1_isShaded_14 := dk4 (k := 14) bX1_isShaded_0 rfl
def dX1_isShaded_15 := dk167 (k := 15) (x := 23) bX1_isShaded_0 rfl (by decide)
def dX1_isShaded_18 := dk3 (k := 18) bX1_isShaded_0 rfl
def dX1_isShaded_19 := dk167 (k := 19) (x := 19) bX1_isShaded_0 rfl (by decide)
def dX1_isShaded_22 := dk28 (k := 22) bX1_isShaded_0 rfl
def dX1_isShaded_23 := dk116 (k := 23) bX1_isShaded_0 rfl
theorem bX1_isShaded_24 : bL cX1_isShaded 24 [42, 27, 4, 182, 0, 37, 163, 0, 7, 4, 167, 0, 4, 3, 172] := bL_of (by decide +kernel)
def dX1_isShaded_24 := dk42 (k := 0) bX1_isShaded_24 rfl
def dX1_isShaded_25 := dk27 (k := 1) bX1_isShaded_24 rfl
def dX1_isShaded_26 := dk4 (k := 2) bX1_isShaded_24 rfl
def dX1_isShaded_27 := dk182 (k := 3) (x := 37) bX1_isShaded_24 rfl rfl
def dX1_isShaded_30 := dk163 (k := 6) (x := 7) bX1_isShaded_24 rfl (by decide)
def dX1_isShaded_33 := dk4 (k := 9) bX1_isShaded_24 rfl
def dX1_isShaded_34 := dk167 (k := 10) (x := 4) bX1_isShaded_24 rfl (by decide)
def dX1_isShaded_37 := dk3 (k := 13) bX1_isShaded_24 rfl
def dX1_isShaded_38 := dk172 (k := 14) bX1_isShaded_24 rfl
theorem bX1_lightOf_0 : bL cX1_lightOf 0 [16, 18, 42, 27, 2, 182, 0, 37, 100, 42, 27, 4, 182, 0, 37, 100, 172] := bL_of (by decide +kernel)
def dX1_lightOf_0 := dk16 (k := 0) (x := 18) bX1_lightOf_0 rfl (by decide)
def dX1_lightOf_2 := dk42 (k := 2) bX1_lightOf_0 rfl
def dX1_lightOf_3 := dk27 (k := 3) bX1_lightOf_0 rfl
def dX1_lightOf_4 := dk2 (k := 4) bX1_lightOf_0 rfl
def dX1_lightOf_5 := dk182 (k := 5) (x := 37) bX1_lightOf_0 rfl rfl
def dX1_lightOf_8 := dk100 (k := 8) bX1_lightOf_0 rfl
def dX1_lightOf_9 := dk42 (k := 9) bX1_lightOf_0 rfl
def dX1_lightOf_10 := dk27 (k := 10) bX1_lightOf_0 rfl
def dX1_lightOf_11 := dk4 (k := 11) bX1_lightOf_0 rfl
def dX1_lightOf_12 := dk182 (k := 12) (x := 37) bX1_lightOf_0 rfl rfl
def dX1_lightOf_15 := dk100 (k := 15) bX1_lightOf_0 rfl
def dX1_lightOf_16 := dk172 (k := 16) bX1_lightOf_0 rfl
theorem bX1_shadedCells_0 : bL cX1_shadedCells 0 [3, 61, 3, 62, 29, 42, 180, 0, 15, 162, 0, 24, 42, 29, 27, 182, 0, 41, 153, 0, 9, 28, 4, 29] := bL_of (by decide +kernel)
def dX1_shadedCells_0 := dk3 (k := 0) bX1_shadedCells_0 rfl
def dX1_shadedCells_1 := dk61 (k := 1) bX1_shadedCells_0 rfl
def dX1_shadedCells_2 := dk3 (k := 2) bX1_shadedCells_0 rfl
def dX1_shadedCells_3 := dk62 (k := 3) bX1_shadedCells_0 rfl
def dX1_shadedCells_4 := dk29 (k := 4) bX1_shadedCells_0 rfl
def dX1_shadedCells_5 := dk42 (k := 5) bX1_shadedCells_0 rfl
def dX1_shadedCells_6 := dk180 (k := 6) (x := 15) bX1_shadedCells_0 rfl rfl
def dX1_shadedCells_9 := dk162 (k := 9) (x := 24) bX1_shadedCells_0 rfl (by decide)
def dX1_shadedCells_12 := dk42 (k := 12) bX1_shadedCells_0 rfl
def dX1_shadedCells_13 := dk29 (k := 13) bX1_shadedCells_0 rfl
def dX1_shadedCells_14 := dk27 (k := 14) bX1_shadedCells_0 rfl
def dX1_shadedCells_15 := dk182 (k := 15) (x := 41) bX1_shadedCells_0 rfl rfl
def dX1_shadedCells_18 := dk153 (k := 18) (x := 9) bX1_shadedCells_0 rfl (by decide)
def dX1_shadedCells_21 := dk28 (k := 21) bX1_shadedCells_0 rfl
def dX1_shadedCells_22 := dk4 (k := 22) bX1_shadedCells_0 rfl
def dX1_shadedCells_23 := dk29 (k := 23) bX1_shadedCells_0 rfl
theorem bX1_shadedCells_24 : bL cX1_shadedCells 24 [120, 128, 61, 132, 3, 1, 167, 255, 230, 28, 172] := bL_of (by decide +kernel)
def dX1_shadedCells_24 := dk120 (k := 0) bX1_shadedCells_24 rfl
def dX1_shadedCells_25 := dk128 (k := 1) bX1_shadedCells_24 rfl
def dX1_shadedCells_26 := dk61 (k := 2) bX1_shadedCells_24 rfl
theorem dX1_shadedCells_27 : decode cX1_shadedCells 27 = .ok (.iinc 3 1, 3) := dk132 (k := 3) bX1_shadedCells_24 rfl rfl (by decide)
def dX1_shadedCells_30 := dk167 (k := 6) (x := (-26)) bX1_shadedCells_24 rfl (by decide)
def dX1_shadedCells_33 := dk28 (k := 9) bX1_shadedCells_24 rfl
def dX1_shadedCells_34 := dk172 (k := 10) bX1_shadedCells_24 rfl
theorem bX1_snowyCells_0 : bL cX1_snowyCells 0 [3, 60, 3, 61, 28, 42, 180, 0, 15, 162, 0, 27, 42, 28, 182, 0, 33, 42, 180, 0, 19, 161, 0, 9] := bL_of (by decide +kernel)
def dX1_snowyCells_0 := dk3 (k := 0) bX1_snowyCells_0 rfl
def dX1_snowyCells_1 := dk60 (k := 1) bX1_snowyCells_0 rfl
def dX1_snowyCells_2 := dk3 (k := 2) bX1_snowyCells_0 rfl
def dX1_snowyCells_3 := dk61 (k := 3) bX1_snowyCells_0 rfl
def dX1_snowyCells_4 := dk28 (k := 4) bX1_snowyCells_0 rfl
def dX1_snowyCells_5 := dk42 (k := 5) bX1_snowyCells_0 rfl
def dX1_snowyCells_6 := dk180 (k := 6) (x := 15) bX1_snowyCells_0 rfl rfl
def dX1_snowyCells_9 := dk162 (k := 9) (x := 27) bX1_snowyCells_0 rfl (by decide)
def dX1_snowyCells_12 := dk42 (k := 12) bX1_snowyCells_0 rfl
def dX1_snowyCells_13 := dk28 (k := 13) bX1_snowyCells_0 rfl
def dX1_snowyCells_14 := dk182 (k := 14) (x := 33) bX1_snowyCells_0 rfl rfl
def dX1_snowyCells_17 := dk42 (k := 17) bX1_snowyCells_0 rfl
def dX1_snowyCells_18 := dk180 (k := 18) (x := 19) bX1_snowyCells_0 rfl rfl
def dX1_snowyCells_21 := dk161 (k := 21) (x := 9) bX1_snowyCells_0 rfl (by decide)
theorem bX1_snowyCells_24 : bL cX1_snowyCells 24 [27, 4, 28, 120, 128, 60, 132, 2, 1, 167, 255, 227, 27, 172] := bL_of (by decide +kernel)
def dX1_snowyCells_24 := dk27 (k := 0) bX1_snowyCells_24 rfl
def dX1_snowyCells_25 := dk4 (k := 1) bX1_snowyCells_24 rfl
def dX1_snowyCells_26 := dk28 (k := 2) bX1_snowyCells_24 rfl
def dX1_snowyCells_27 := dk120 (k := 3) bX1_snowyCells_24 rfl
def dX1_snowyCells_28 := dk128 (k := 4) bX1_snowyCells_24 rfl
def dX1_snowyCells_29 := dk60 (k := 5) bX1_snowyCells_24 rfl
theorem dX1_snowyCells_30 : decode cX1_snowyCells 30 = .ok (.iinc 2 1, 3) := dk132 (k := 6) bX1_snowyCells_24 rfl rfl (by decide)
def dX1_snowyCells_33 := dk167 (k := 9) (x := (-29)) bX1_snowyCells_24 rfl (by decide)
def dX1_snowyCells_36 := dk27 (k := 12) bX1_snowyCells_24 rfl
def dX1_snowyCells_37 := dk172 (k := 13) bX1_snowyCells_24 rfl
theorem bX1_lower_0 : bL cX1_lower 0 [42, 182, 0, 45, 60, 42, 27, 182, 0, 33, 154, 0, 5, 3, 172, 42, 27, 2, 182, 0, 49, 4, 172] := bL_of (by decide +kernel)
def dX1_lower_0 := dk42 (k := 0) bX1_lower_0 rfl
def dX1_lower_1 := dk182 (k := 1) (x := 45) bX1_lower_0 rfl rfl
def dX1_lower_4 := dk60 (k := 4) bX1_lower_0 rfl
def dX1_lower_5 := dk42 (k := 5) bX1_lower_0 rfl
def dX1_lower_6 := dk27 (k := 6) bX1_lower_0 rfl
def dX1_lower_7 := dk182 (k := 7) (x := 33) bX1_lower_0 rfl rfl
def dX1_lower_10 := dk154 (k := 10) (x := 5) bX1_lower_0 rfl (by decide)
def dX1_lower_13 := dk3 (k := 13) bX1_lower_0 rfl
def dX1_lower_14 := dk172 (k := 14) bX1_lower_0 rfl
def dX1_lower_15 := dk42 (k := 15) bX1_lower_0 rfl
def dX1_lower_16 := dk27 (k := 16) bX1_lower_0 rfl
def dX1_lower_17 := dk2 (k := 17) bX1_lower_0 rfl
def dX1_lower_18 := dk182 (k := 18) (x := 49) bX1_lower_0 rfl rfl
def dX1_lower_21 := dk4 (k := 21) bX1_lower_0 rfl
def dX1_lower_22 := dk172 (k := 22) bX1_lower_0 rfl
theorem bX1_wayDown_0 : bL cX1_wayDown 0 [42, 27, 182, 0, 33, 28, 100, 62, 42, 27, 4, 100, 182, 0, 29, 153, 0, 18, 42, 27, 4, 100, 182, 0, 33] := bL_of (by decide +kernel)
def dX1_wayDown_0 := dk42 (k := 0) bX1_wayDown_0 rfl
def dX1_wayDown_1 := dk27 (k := 1) bX1_wayDown_0 rfl
def dX1_wayDown_2 := dk182 (k := 2) (x := 33) bX1_wayDown_0 rfl rfl
def dX1_wayDown_5 := dk28 (k := 5) bX1_wayDown_0 rfl
def dX1_wayDown_6 := dk100 (k := 6) bX1_wayDown_0 rfl
def dX1_wayDown_7 := dk62 (k := 7) bX1_wayDown_0 rfl
def dX1_wayDown_8 := dk42 (k := 8) bX1_wayDown_0 rfl
def dX1_wayDown_9 := dk27 (k := 9) bX1_wayDown_0 rfl
def dX1_wayDown_10 := dk4 (k := 10) bX1_wayDown_0 rfl
def dX1_wayDown_11 := dk100 (k := 11) bX1_wayDown_0 rfl
def dX1_wayDown_12 := dk182 (k := 12) (x := 29) bX1_wayDown_0 rfl rfl
def dX1_wayDown_15 := dk153 (k := 15) (x := 18) bX1_wayDown_0 rfl (by decide)
def dX1_wayDown_18 := dk42 (k := 18) bX1_wayDown_0 rfl
def dX1_wayDown_19 := dk27 (k := 19) bX1_wayDown_0 rfl
def dX1_wayDown_20 := dk4 (k := 20) bX1_wayDown_0 rfl
def dX1_wayDown_21 := dk100 (k := 21) bX1_wayDown_0 rfl
def dX1_wayDown_22 := dk182 (k := 22) (x := 33) bX1_wayDown_0 rfl rfl
theorem bX1_wayDown_25 : bL cX1_wayDown 25 [29, 162, 0, 7, 4, 167, 0, 4, 3, 54, 4, 42, 27, 4, 96, 182, 0, 29, 153, 0, 18, 42, 27, 4] := bL_of (by decide +kernel)
def dX1_wayDown_25 := dk29 (k := 0) bX1_wayDown_25 rfl
def dX1_wayDown_26 := dk162 (k := 1) (x := 7) bX1_wayDown_25 rfl (by decide)
def dX1_wayDown_29 := dk4 (k := 4) bX1_wayDown_25 rfl
def dX1_wayDown_30 := dk167 (k := 5) (x := 4) bX1_wayDown_25 rfl (by decide)
def dX1_wayDown_33 := dk3 (k := 8) bX1_wayDown_25 rfl
def dX1_wayDown_34 := dk54 (k := 9) (x := 4) bX1_wayDown_25 rfl rfl
def dX1_wayDown_36 := dk42 (k := 11) bX1_wayDown_25 rfl
def dX1_wayDown_37 := dk27 (k := 12) bX1_wayDown_25 rfl
def dX1_wayDown_38 := dk4 (k := 13) bX1_wayDown_25 rfl
def dX1_wayDown_39 := dk96 (k := 14) bX1_wayDown_25 rfl
def dX1_wayDown_40 := dk182 (k := 15) (x := 29) bX1_wayDown_25 rfl rfl
def dX1_wayDown_43 := dk153 (k := 18) (x := 18) bX1_wayDown_25 rfl (by decide)
def dX1_wayDown_46 := dk42 (k := 21) bX1_wayDown_25 rfl
def dX1_wayDown_47 := dk27 (k := 22) bX1_wayDown_25 rfl
def dX1_wayDown_48 := dk4 (k := 23) bX1_wayDown_25 rfl
theorem bX1_wayDown_49 : bL cX1_wayDown 49 [96, 182, 0, 33, 29, 162, 0, 7, 4, 167, 0, 4, 3, 54, 5, 21, 4, 153, 0, 29, 21, 5, 153, 0, 20] := bL_of (by decide +kernel)
def dX1_wayDown_49 := dk96 (k := 0) bX1_wayDown_49 rfl
def dX1_wayDown_50 := dk182 (k := 1) (x := 33) bX1_wayDown_49 rfl rfl
def dX1_wayDown_53 := dk29 (k := 4) bX1_wayDown_49 rfl
def dX1_wayDown_54 := dk162 (k := 5) (x := 7) bX1_wayDown_49 rfl (by decide)
def dX1_wayDown_57 := dk4 (k := 8) bX1_wayDown_49 rfl
def dX1_wayDown_58 := dk167 (k := 9) (x := 4) bX1_wayDown_49 rfl (by decide)
def dX1_wayDown_61 := dk3 (k := 12) bX1_wayDown_49 rfl
def dX1_wayDown_62 := dk54 (k := 13) (x := 5) bX1_wayDown_49 rfl rfl
def dX1_wayDown_64 := dk21 (k := 15) (x := 4) bX1_wayDown_49 rfl rfl
def dX1_wayDown_66 := dk153 (k := 17) (x := 29) bX1_wayDown_49 rfl (by decide)
def dX1_wayDown_69 := dk21 (k := 20) (x := 5) bX1_wayDown_49 rfl rfl
def dX1_wayDown_71 := dk153 (k := 22) (x := 20) bX1_wayDown_49 rfl (by decide)
theorem bX1_wayDown_74 : bL cX1_wayDown 74 [42, 27, 4, 100, 182, 0, 33, 42, 27, 4, 96, 182, 0, 33, 163, 0, 7, 27, 4, 100, 172, 21, 5, 153, 0, 9] := bL_of (by decide +kernel)
def dX1_wayDown_74 := dk42 (k := 0) bX1_wayDown_74 rfl
def dX1_wayDown_75 := dk27 (k := 1) bX1_wayDown_74 rfl
def dX1_wayDown_76 := dk4 (k := 2) bX1_wayDown_74 rfl
def dX1_wayDown_77 := dk100 (k := 3) bX1_wayDown_74 rfl
def dX1_wayDown_78 := dk182 (k := 4) (x := 33) bX1_wayDown_74 rfl rfl
def dX1_wayDown_81 := dk42 (k := 7) bX1_wayDown_74 rfl
def dX1_wayDown_82 := dk27 (k := 8) bX1_wayDown_74 rfl
def dX1_wayDown_83 := dk4 (k := 9) bX1_wayDown_74 rfl
def dX1_wayDown_84 := dk96 (k := 10) bX1_wayDown_74 rfl
def dX1_wayDown_85 := dk182 (k := 11) (x := 33) bX1_wayDown_74 rfl rfl
def dX1_wayDown_88 := dk163 (k := 14) (x := 7) bX1_wayDown_74 rfl (by decide)
def dX1_wayDown_91 := dk27 (k := 17) bX1_wayDown_74 rfl
def dX1_wayDown_92 := dk4 (k := 18) bX1_wayDown_74 rfl
def dX1_wayDown_93 := dk100 (k := 19) bX1_wayDown_74 rfl
def dX1_wayDown_94 := dk172 (k := 20) bX1_wayDown_74 rfl
def dX1_wayDown_95 := dk21 (k := 21) (x := 5) bX1_wayDown_74 rfl rfl
def dX1_wayDown_97 := dk153 (k := 23) (x := 9) bX1_wayDown_74 rfl (by decide)
theorem bX1_wayDown_100 : bL cX1_wayDown 100 [27, 4, 96, 167, 0, 4, 2, 172] := bL_of (by decide +kernel)
def dX1_wayDown_100 := dk27 (k := 0) bX1_wayDown_100 rfl
def dX1_wayDown_101 := dk4 (k := 1) bX1_wayDown_100 rfl
def dX1_wayDown_102 := dk96 (k := 2) bX1_wayDown_100 rfl
def dX1_wayDown_103 := dk167 (k := 3) (x := 4) bX1_wayDown_100 rfl (by decide)
def dX1_wayDown_106 := dk2 (k := 6) bX1_wayDown_100 rfl
def dX1_wayDown_107 := dk172 (k := 7) bX1_wayDown_100 rfl
theorem bX1_descend_0 : bL cX1_descend 0 [27, 62, 3, 54, 4, 21, 4, 16, 10, 162, 0, 28, 42, 29, 28, 182, 0, 53, 54, 5, 21, 5, 2, 160, 0, 5] := bL_of (by decide +kernel)
def dX1_descend_0 := dk27 (k := 0) bX1_descend_0 rfl
def dX1_descend_1 := dk62 (k := 1) bX1_descend_0 rfl
def dX1_descend_2 := dk3 (k := 2) bX1_descend_0 rfl
def dX1_descend_3 := dk54 (k := 3) (x := 4) bX1_descend_0 rfl rfl
def dX1_descend_5 := dk21 (k := 5) (x := 4) bX1_descend_0 rfl rfl
def dX1_descend_7 := dk16 (k := 7) (x := 10) bX1_descend_0 rfl (by decide)
def dX1_descend_9 := dk162 (k := 9) (x := 28) bX1_descend_0 rfl (by decide)
def dX1_descend_12 := dk42 (k := 12) bX1_descend_0 rfl
def dX1_descend_13 := dk29 (k := 13) bX1_descend_0 rfl
def dX1_descend_14 := dk28 (k := 14) bX1_descend_0 rfl
def dX1_descend_15 := dk182 (k := 15) (x := 53) bX1_descend_0 rfl rfl
def dX1_descend_18 := dk54 (k := 18) (x := 5) bX1_descend_0 rfl rfl
def dX1_descend_20 := dk21 (k := 20) (x := 5) bX1_descend_0 rfl rfl
def dX1_descend_22 := dk2 (k := 22) bX1_descend_0 rfl
def dX1_descend_23 := dk160 (k := 23) (x := 5) bX1_descend_0 rfl (by decide)
theorem bX1_descend_26 : bL cX1_descend 26 [29, 172, 21, 5, 62, 132, 4, 1, 167, 255, 227, 29, 172] := bL_of (by decide +kernel)
def dX1_descend_26 := dk29 (k := 0) bX1_descend_26 rfl
def dX1_descend_27 := dk172 (k := 1) bX1_descend_26 rfl
def dX1_descend_28 := dk21 (k := 2) (x := 5) bX1_descend_26 rfl rfl
def dX1_descend_30 := dk62 (k := 4) bX1_descend_26 rfl
theorem dX1_descend_31 : decode cX1_descend 31 = .ok (.iinc 4 1, 3) := dk132 (k := 5) bX1_descend_26 rfl rfl (by decide)
def dX1_descend_34 := dk167 (k := 8) (x := (-29)) bX1_descend_26 rfl (by decide)
def dX1_descend_37 := dk29 (k := 11) bX1_descend_26 rfl
def dX1_descend_38 := dk172 (k := 12) bX1_descend_26 rfl
theorem bX1_waterEnd_0 : bL cX1_waterEnd 0 [42, 27, 3, 182, 0, 56, 172] := bL_of (by decide +kernel)
def dX1_waterEnd_0 := dk42 (k := 0) bX1_waterEnd_0 rfl
def dX1_waterEnd_1 := dk27 (k := 1) bX1_waterEnd_0 rfl
def dX1_waterEnd_2 := dk3 (k := 2) bX1_waterEnd_0 rfl
def dX1_waterEnd_3 := dk182 (k := 3) (x := 56) bX1_waterEnd_0 rfl rfl
def dX1_waterEnd_6 := dk172 (k := 6) bX1_waterEnd_0 rfl
theorem bX1_stayOf_0 : bL cX1_stayOf 0 [42, 27, 42, 180, 0, 22, 4, 100, 182, 0, 56, 61, 42, 28, 182, 0, 33, 16, 99, 161, 0, 7, 2, 167, 0, 4] := bL_of (by decide +kernel)
def dX1_stayOf_0 := dk42 (k := 0) bX1_stayOf_0 rfl
def dX1_stayOf_1 := dk27 (k := 1) bX1_stayOf_0 rfl
def dX1_stayOf_2 := dk42 (k := 2) bX1_stayOf_0 rfl
def dX1_stayOf_3 := dk180 (k := 3) (x := 22) bX1_stayOf_0 rfl rfl
def dX1_stayOf_6 := dk4 (k := 6) bX1_stayOf_0 rfl
def dX1_stayOf_7 := dk100 (k := 7) bX1_stayOf_0 rfl
def dX1_stayOf_8 := dk182 (k := 8) (x := 56) bX1_stayOf_0 rfl rfl
def dX1_stayOf_11 := dk61 (k := 11) bX1_stayOf_0 rfl
def dX1_stayOf_12 := dk42 (k := 12) bX1_stayOf_0 rfl
def dX1_stayOf_13 := dk28 (k := 13) bX1_stayOf_0 rfl
def dX1_stayOf_14 := dk182 (k := 14) (x := 33) bX1_stayOf_0 rfl rfl
def dX1_stayOf_17 := dk16 (k := 17) (x := 99) bX1_stayOf_0 rfl (by decide)
def dX1_stayOf_19 := dk161 (k := 19) (x := 7) bX1_stayOf_0 rfl (by decide)
def dX1_stayOf_22 := dk2 (k := 22) bX1_stayOf_0 rfl
def dX1_stayOf_23 := dk167 (k := 23) (x := 4) bX1_stayOf_0 rfl (by decide)
theorem bX1_stayOf_26 : bL cX1_stayOf 26 [28, 172] := bL_of (by decide +kernel)
def dX1_stayOf_26 := dk28 (k := 0) bX1_stayOf_26 rfl
def dX1_stayOf_27 := dk172 (k := 1) bX1_stayOf_26 rfl
theorem bX1_drainedTo_0 : bL cX1_drainedTo 0 [3, 61, 3, 62, 29, 42, 180, 0, 15, 162, 0, 24, 42, 29, 182, 0, 59, 27, 160, 0, 9, 28, 4, 29] := bL_of (by decide +kernel)
def dX1_drainedTo_0 := dk3 (k := 0) bX1_drainedTo_0 rfl
def dX1_drainedTo_1 := dk61 (k := 1) bX1_drainedTo_0 rfl
def dX1_drainedTo_2 := dk3 (k := 2) bX1_drainedTo_0 rfl
def dX1_drainedTo_3 := dk62 (k := 3) bX1_drainedTo_0 rfl
def dX1_drainedTo_4 := dk29 (k := 4) bX1_drainedTo_0 rfl
def dX1_drainedTo_5 := dk42 (k := 5) bX1_drainedTo_0 rfl
def dX1_drainedTo_6 := dk180 (k := 6) (x := 15) bX1_drainedTo_0 rfl rfl
def dX1_drainedTo_9 := dk162 (k := 9) (x := 24) bX1_drainedTo_0 rfl (by decide)
def dX1_drainedTo_12 := dk42 (k := 12) bX1_drainedTo_0 rfl
def dX1_drainedTo_13 := dk29 (k := 13) bX1_drainedTo_0 rfl
def dX1_drainedTo_14 := dk182 (k := 14) (x := 59) bX1_drainedTo_0 rfl rfl
def dX1_drainedTo_17 := dk27 (k := 17) bX1_drainedTo_0 rfl
def dX1_drainedTo_18 := dk160 (k := 18) (x := 9) bX1_drainedTo_0 rfl (by decide)
def dX1_drainedTo_21 := dk28 (k := 21) bX1_drainedTo_0 rfl
def dX1_drainedTo_22 := dk4 (k := 22) bX1_drainedTo_0 rfl
def dX1_drainedTo_23 := dk29 (k := 23) bX1_drainedTo_0 rfl
theorem bX1_drainedTo_24 : bL cX1_drainedTo 24 [120, 128, 61, 132, 3, 1, 167, 255, 230, 28, 172] := bL_of (by decide +kernel)
def dX1_drainedTo_24 := dk120 (k := 0) bX1_drainedTo_24 rfl
def dX1_drainedTo_25 := dk128 (k := 1) bX1_drainedTo_24 rfl
def dX1_drainedTo_26 := dk61 (k := 2) bX1_drainedTo_24 rfl
theorem dX1_drainedTo_27 : decode cX1_drainedTo 27 = .ok (.iinc 3 1, 3) := dk132 (k := 3) bX1_drainedTo_24 rfl rfl (by decide)
def dX1_drainedTo_30 := dk167 (k := 6) (x := (-26)) bX1_drainedTo_24 rfl (by decide)
def dX1_drainedTo_33 := dk28 (k := 9) bX1_drainedTo_24 rfl
def dX1_drainedTo_34 := dk172 (k := 10) bX1_drainedTo_24 rfl
theorem bX1_waterEnds_0 : bL cX1_waterEnds 0 [3, 60, 3, 61, 28, 42, 180, 0, 15, 162, 0, 19, 27, 4, 42, 28, 182, 0, 59, 120, 128, 60, 132, 2, 1] := bL_of (by decide +kernel)
def dX1_waterEnds_0 := dk3 (k := 0) bX1_waterEnds_0 rfl
def dX1_waterEnds_1 := dk60 (k := 1) bX1_waterEnds_0 rfl
def dX1_waterEnds_2 := dk3 (k := 2) bX1_waterEnds_0 rfl
def dX1_waterEnds_3 := dk61 (k := 3) bX1_waterEnds_0 rfl
def dX1_waterEnds_4 := dk28 (k := 4) bX1_waterEnds_0 rfl
def dX1_waterEnds_5 := dk42 (k := 5) bX1_waterEnds_0 rfl
def dX1_waterEnds_6 := dk180 (k := 6) (x := 15) bX1_waterEnds_0 rfl rfl
def dX1_waterEnds_9 := dk162 (k := 9) (x := 19) bX1_waterEnds_0 rfl (by decide)
def dX1_waterEnds_12 := dk27 (k := 12) bX1_waterEnds_0 rfl
def dX1_waterEnds_13 := dk4 (k := 13) bX1_waterEnds_0 rfl
def dX1_waterEnds_14 := dk42 (k := 14) bX1_waterEnds_0 rfl
def dX1_waterEnds_15 := dk28 (k := 15) bX1_waterEnds_0 rfl
def dX1_waterEnds_16 := dk182 (k := 16) (x := 59) bX1_waterEnds_0 rfl rfl
def dX1_waterEnds_19 := dk120 (k := 19) bX1_waterEnds_0 rfl
def dX1_waterEnds_20 := dk128 (k := 20) bX1_waterEnds_0 rfl
def dX1_waterEnds_21 := dk60 (k := 21) bX1_waterEnds_0 rfl
theorem dX1_waterEnds_22 : decode cX1_waterEnds 22 = .ok (.iinc 2 1, 3) := dk132 (k := 22) bX1_waterEnds_0 rfl rfl (by decide)
theorem bX1_waterEnds_25 : bL cX1_waterEnds 25 [167, 255, 235, 27, 172] := bL_of (by decide +kernel)
def dX1_waterEnds_25 := dk167 (k := 0) (x := (-21)) bX1_waterEnds_25 rfl (by decide)
def dX1_waterEnds_28 := dk27 (k := 3) bX1_waterEnds_25 rfl
def dX1_waterEnds_29 := dk172 (k := 4) bX1_waterEnds_25 rfl
theorem bX1_cliffPairs_0 : bL cX1_cliffPairs 0 [3, 60, 4, 61, 28, 42, 180, 0, 15, 162, 0, 43, 42, 28, 182, 0, 33, 42, 28, 4, 100, 182, 0, 33] := bL_of (by decide +kernel)
def dX1_cliffPairs_0 := dk3 (k := 0) bX1_cliffPairs_0 rfl
def dX1_cliffPairs_1 := dk60 (k := 1) bX1_cliffPairs_0 rfl
def dX1_cliffPairs_2 := dk4 (k := 2) bX1_cliffPairs_0 rfl
def dX1_cliffPairs_3 := dk61 (k := 3) bX1_cliffPairs_0 rfl
def dX1_cliffPairs_4 := dk28 (k := 4) bX1_cliffPairs_0 rfl
def dX1_cliffPairs_5 := dk42 (k := 5) bX1_cliffPairs_0 rfl
def dX1_cliffPairs_6 := dk180 (k := 6) (x := 15) bX1_cliffPairs_0 rfl rfl
def dX1_cliffPairs_9 := dk162 (k := 9) (x := 43) bX1_cliffPairs_0 rfl (by decide)
def dX1_cliffPairs_12 := dk42 (k := 12) bX1_cliffPairs_0 rfl
def dX1_cliffPairs_13 := dk28 (k := 13) bX1_cliffPairs_0 rfl
def dX1_cliffPairs_14 := dk182 (k := 14) (x := 33) bX1_cliffPairs_0 rfl rfl
def dX1_cliffPairs_17 := dk42 (k := 17) bX1_cliffPairs_0 rfl
def dX1_cliffPairs_18 := dk28 (k := 18) bX1_cliffPairs_0 rfl
def dX1_cliffPairs_19 := dk4 (k := 19) bX1_cliffPairs_0 rfl
def dX1_cliffPairs_20 := dk100 (k := 20) bX1_cliffPairs_0 rfl
def dX1_cliffPairs_21 := dk182 (k := 21) (x := 33) bX1_cliffPairs_0 rfl rfl
theorem bX1_cliffPairs_24 : bL cX1_cliffPairs 24 [100, 62, 29, 42, 180, 0, 22, 163, 0, 12, 29, 116, 42, 180, 0, 22, 164, 0, 6, 132, 1, 1, 132, 2, 1] := bL_of (by decide +kernel)
def dX1_cliffPairs_24 := dk100 (k := 0) bX1_cliffPairs_24 rfl
def dX1_cliffPairs_25 := dk62 (k := 1) bX1_cliffPairs_24 rfl
def dX1_cliffPairs_26 := dk29 (k := 2) bX1_cliffPairs_24 rfl
def dX1_cliffPairs_27 := dk42 (k := 3) bX1_cliffPairs_24 rfl
def dX1_cliffPairs_28 := dk180 (k := 4) (x := 22) bX1_cliffPairs_24 rfl rfl
def dX1_cliffPairs_31 := dk163 (k := 7) (x := 12) bX1_cliffPairs_24 rfl (by decide)
def dX1_cliffPairs_34 := dk29 (k := 10) bX1_cliffPairs_24 rfl
def dX1_cliffPairs_35 := dk116 (k := 11) bX1_cliffPairs_24 rfl
def dX1_cliffPairs_36 := dk42 (k := 12) bX1_cliffPairs_24 rfl
def dX1_cliffPairs_37 := dk180 (k := 13) (x := 22) bX1_cliffPairs_24 rfl rfl
def dX1_cliffPairs_40 := dk164 (k := 16) (x := 6) bX1_cliffPairs_24 rfl (by decide)
theorem dX1_cliffPairs_43 : decode cX1_cliffPairs 43 = .ok (.iinc 1 1, 3) := dk132 (k := 19) bX1_cliffPairs_24 rfl rfl (by decide)
theorem dX1_cliffPairs_46 : decode cX1_cliffPairs 46 = .ok (.iinc 2 1, 3) := dk132 (k := 22) bX1_cliffPairs_24 rfl rfl (by decide)
theorem bX1_cliffPairs_49 : bL cX1_cliffPairs 49 [167, 255, 211, 27, 172] := bL_of (by decide +kernel)
def dX1_cliffPairs_49 := dk167 (k := 0) (x := (-45)) bX1_cliffPairs_49 rfl (by decide)
def dX1_cliffPairs_52 := dk27 (k := 3) bX1_cliffPairs_49 rfl
def dX1_cliffPairs_53 := dk172 (k := 4) bX1_cliffPairs_49 rfl
theorem bX1_seenFrom_0 : bL cX1_seenFrom 0 [3, 61, 3, 62, 29, 42, 180, 0, 15, 162, 0, 41, 27, 29, 162, 0, 15, 42, 27, 29, 182, 0, 62, 153, 0, 21] := bL_of (by decide +kernel)
def dX1_seenFrom_0 := dk3 (k := 0) bX1_seenFrom_0 rfl
def dX1_seenFrom_1 := dk61 (k := 1) bX1_seenFrom_0 rfl
def dX1_seenFrom_2 := dk3 (k := 2) bX1_seenFrom_0 rfl
def dX1_seenFrom_3 := dk62 (k := 3) bX1_seenFrom_0 rfl
def dX1_seenFrom_4 := dk29 (k := 4) bX1_seenFrom_0 rfl
def dX1_seenFrom_5 := dk42 (k := 5) bX1_seenFrom_0 rfl
def dX1_seenFrom_6 := dk180 (k := 6) (x := 15) bX1_seenFrom_0 rfl rfl
def dX1_seenFrom_9 := dk162 (k := 9) (x := 41) bX1_seenFrom_0 rfl (by decide)
def dX1_seenFrom_12 := dk27 (k := 12) bX1_seenFrom_0 rfl
def dX1_seenFrom_13 := dk29 (k := 13) bX1_seenFrom_0 rfl
def dX1_seenFrom_14 := dk162 (k := 14) (x := 15) bX1_seenFrom_0 rfl (by decide)
def dX1_seenFrom_17 := dk42 (k := 17) bX1_seenFrom_0 rfl
def dX1_seenFrom_18 := dk27 (k := 18) bX1_seenFrom_0 rfl
def dX1_seenFrom_19 := dk29 (k := 19) bX1_seenFrom_0 rfl
def dX1_seenFrom_20 := dk182 (k := 20) (x := 62) bX1_seenFrom_0 rfl rfl
def dX1_seenFrom_23 := dk153 (k := 23) (x := 21) bX1_seenFrom_0 rfl (by decide)
theorem bX1_seenFrom_26 : bL cX1_seenFrom 26 [167, 0, 12, 42, 29, 27, 182, 0, 62, 153, 0, 9, 28, 4, 29, 120, 128, 61, 132, 3, 1, 167, 255, 213] := bL_of (by decide +kernel)
def dX1_seenFrom_26 := dk167 (k := 0) (x := 12) bX1_seenFrom_26 rfl (by decide)
def dX1_seenFrom_29 := dk42 (k := 3) bX1_seenFrom_26 rfl
def dX1_seenFrom_30 := dk29 (k := 4) bX1_seenFrom_26 rfl
def dX1_seenFrom_31 := dk27 (k := 5) bX1_seenFrom_26 rfl
def dX1_seenFrom_32 := dk182 (k := 6) (x := 62) bX1_seenFrom_26 rfl rfl
def dX1_seenFrom_35 := dk153 (k := 9) (x := 9) bX1_seenFrom_26 rfl (by decide)
def dX1_seenFrom_38 := dk28 (k := 12) bX1_seenFrom_26 rfl
def dX1_seenFrom_39 := dk4 (k := 13) bX1_seenFrom_26 rfl
def dX1_seenFrom_40 := dk29 (k := 14) bX1_seenFrom_26 rfl
def dX1_seenFrom_41 := dk120 (k := 15) bX1_seenFrom_26 rfl
def dX1_seenFrom_42 := dk128 (k := 16) bX1_seenFrom_26 rfl
def dX1_seenFrom_43 := dk61 (k := 17) bX1_seenFrom_26 rfl
theorem dX1_seenFrom_44 : decode cX1_seenFrom 44 = .ok (.iinc 3 1, 3) := dk132 (k := 18) bX1_seenFrom_26 rfl rfl (by decide)
def dX1_seenFrom_47 := dk167 (k := 21) (x := (-43)) bX1_seenFrom_26 rfl (by decide)
theorem bX1_seenFrom_50 : bL cX1_seenFrom 50 [28, 172] := bL_of (by decide +kernel)
def dX1_seenFrom_50 := dk28 (k := 0) bX1_seenFrom_50 rfl
def dX1_seenFrom_51 := dk172 (k := 1) bX1_seenFrom_50 rfl
theorem bX1_isOpen_0 : bL cX1_isOpen 0 [42, 28, 182, 0, 33, 42, 27, 182, 0, 33, 100, 62, 27, 4, 96, 54, 4, 21, 4, 28, 162, 0, 36, 42] := bL_of (by decide +kernel)
def dX1_isOpen_0 := dk42 (k := 0) bX1_isOpen_0 rfl
def dX1_isOpen_1 := dk28 (k := 1) bX1_isOpen_0 rfl
def dX1_isOpen_2 := dk182 (k := 2) (x := 33) bX1_isOpen_0 rfl rfl
def dX1_isOpen_5 := dk42 (k := 5) bX1_isOpen_0 rfl
def dX1_isOpen_6 := dk27 (k := 6) bX1_isOpen_0 rfl
def dX1_isOpen_7 := dk182 (k := 7) (x := 33) bX1_isOpen_0 rfl rfl
def dX1_isOpen_10 := dk100 (k := 10) bX1_isOpen_0 rfl
def dX1_isOpen_11 := dk62 (k := 11) bX1_isOpen_0 rfl
def dX1_isOpen_12 := dk27 (k := 12) bX1_isOpen_0 rfl
def dX1_isOpen_13 := dk4 (k := 13) bX1_isOpen_0 rfl
def dX1_isOpen_14 := dk96 (k := 14) bX1_isOpen_0 rfl
def dX1_isOpen_15 := dk54 (k := 15) (x := 4) bX1_isOpen_0 rfl rfl
def dX1_isOpen_17 := dk21 (k := 17) (x := 4) bX1_isOpen_0 rfl rfl
def dX1_isOpen_19 := dk28 (k := 19) bX1_isOpen_0 rfl
def dX1_isOpen_20 := dk162 (k := 20) (x := 36) bX1_isOpen_0 rfl (by decide)
def dX1_isOpen_23 := dk42 (k := 23) bX1_isOpen_0 rfl
theorem bX1_isOpen_24 : bL cX1_isOpen 24 [21, 4, 182, 0, 33, 42, 27, 182, 0, 33, 100, 28, 27, 100, 104, 29, 21, 4, 27, 100, 104, 164, 0, 5] := bL_of (by decide +kernel)
def dX1_isOpen_24 := dk21 (k := 0) (x := 4) bX1_isOpen_24 rfl rfl
def dX1_isOpen_26 := dk182 (k := 2) (x := 33) bX1_isOpen_24 rfl rfl
def dX1_isOpen_29 := dk42 (k := 5) bX1_isOpen_24 rfl
def dX1_isOpen_30 := dk27 (k := 6) bX1_isOpen_24 rfl
def dX1_isOpen_31 := dk182 (k := 7) (x := 33) bX1_isOpen_24 rfl rfl
def dX1_isOpen_34 := dk100 (k := 10) bX1_isOpen_24 rfl
def dX1_isOpen_35 := dk28 (k := 11) bX1_isOpen_24 rfl
def dX1_isOpen_36 := dk27 (k := 12) bX1_isOpen_24 rfl
def dX1_isOpen_37 := dk100 (k := 13) bX1_isOpen_24 rfl
def dX1_isOpen_38 := dk104 (k := 14) bX1_isOpen_24 rfl
def dX1_isOpen_39 := dk29 (k := 15) bX1_isOpen_24 rfl
def dX1_isOpen_40 := dk21 (k := 16) (x := 4) bX1_isOpen_24 rfl rfl
def dX1_isOpen_42 := dk27 (k := 18) bX1_isOpen_24 rfl
def dX1_isOpen_43 := dk100 (k := 19) bX1_isOpen_24 rfl
def dX1_isOpen_44 := dk104 (k := 20) bX1_isOpen_24 rfl
def dX1_isOpen_45 := dk164 (k := 21) (x := 5) bX1_isOpen_24 rfl (by decide)
theorem bX1_isOpen_48 : bL cX1_isOpen 48 [3, 172, 132, 4, 1, 167, 255, 220, 4, 172] := bL_of (by decide +kernel)
def dX1_isOpen_48 := dk3 (k := 0) bX1_isOpen_48 rfl
def dX1_isOpen_49 := dk172 (k := 1) bX1_isOpen_48 rfl
theorem dX1_isOpen_50 : decode cX1_isOpen 50 = .ok (.iinc 4 1, 3) := dk132 (k := 2) bX1_isOpen_48 rfl rfl (by decide)
def dX1_isOpen_53 := dk167 (k := 5) (x := (-36)) bX1_isOpen_48 rfl (by decide)
def dX1_isOpen_56 := dk4 (k := 8) bX1_isOpen_48 rfl
def dX1_isOpen_57 := dk172 (k := 9) bX1_isOpen_48 rfl
theorem bX1_bestLookout_0 : bL cX1_bestLookout 0 [2, 60, 3, 61, 3, 62, 29, 42, 180, 0, 15, 162, 0, 30, 42, 29, 182, 0, 65, 184, 0, 68, 54, 4] := bL_of (by decide +kernel)
def dX1_bestLookout_0 := dk2 (k := 0) bX1_bestLookout_0 rfl
def dX1_bestLookout_1 := dk60 (k := 1) bX1_bestLookout_0 rfl
def dX1_bestLookout_2 := dk3 (k := 2) bX1_bestLookout_0 rfl
def dX1_bestLookout_3 := dk61 (k := 3) bX1_bestLookout_0 rfl
def dX1_bestLookout_4 := dk3 (k := 4) bX1_bestLookout_0 rfl
def dX1_bestLookout_5 := dk62 (k := 5) bX1_bestLookout_0 rfl
def dX1_bestLookout_6 := dk29 (k := 6) bX1_bestLookout_0 rfl
def dX1_bestLookout_7 := dk42 (k := 7) bX1_bestLookout_0 rfl
def dX1_bestLookout_8 := dk180 (k := 8) (x := 15) bX1_bestLookout_0 rfl rfl
def dX1_bestLookout_11 := dk162 (k := 11) (x := 30) bX1_bestLookout_0 rfl (by decide)
def dX1_bestLookout_14 := dk42 (k := 14) bX1_bestLookout_0 rfl
def dX1_bestLookout_15 := dk29 (k := 15) bX1_bestLookout_0 rfl
def dX1_bestLookout_16 := dk182 (k := 16) (x := 65) bX1_bestLookout_0 rfl rfl
def dX1_bestLookout_19 := dk184 (k := 19) (x := 68) bX1_bestLookout_0 rfl rfl
def dX1_bestLookout_22 := dk54 (k := 22) (x := 4) bX1_bestLookout_0 rfl rfl
theorem bX1_bestLookout_24 : bL cX1_bestLookout 24 [21, 4, 28, 164, 0, 8, 21, 4, 61, 29, 60, 132, 3, 1, 167, 255, 224, 27, 172] := bL_of (by decide +kernel)
def dX1_bestLookout_24 := dk21 (k := 0) (x := 4) bX1_bestLookout_24 rfl rfl
def dX1_bestLookout_26 := dk28 (k := 2) bX1_bestLookout_24 rfl
def dX1_bestLookout_27 := dk164 (k := 3) (x := 8) bX1_bestLookout_24 rfl (by decide)
def dX1_bestLookout_30 := dk21 (k := 6) (x := 4) bX1_bestLookout_24 rfl rfl
def dX1_bestLookout_32 := dk61 (k := 8) bX1_bestLookout_24 rfl
def dX1_bestLookout_33 := dk29 (k := 9) bX1_bestLookout_24 rfl
def dX1_bestLookout_34 := dk60 (k := 10) bX1_bestLookout_24 rfl
theorem dX1_bestLookout_35 : decode cX1_bestLookout 35 = .ok (.iinc 3 1, 3) := dk132 (k := 11) bX1_bestLookout_24 rfl rfl (by decide)
def dX1_bestLookout_38 := dk167 (k := 14) (x := (-32)) bX1_bestLookout_24 rfl (by decide)
def dX1_bestLookout_41 := dk27 (k := 17) bX1_bestLookout_24 rfl
def dX1_bestLookout_42 := dk172 (k := 18) bX1_bestLookout_24 rfl
theorem bX2_init_0 : bL cX2_init 0 [42, 183, 0, 3, 42, 187, 0, 9, 89, 183, 0, 11, 181, 0, 12, 42, 187, 0, 18, 89, 183, 0, 20, 181, 0, 21] := bL_of (by decide +kernel)
def dX2_init_0 := dk42 (k := 0) bX2_init_0 rfl
def dX2_init_1 := dk183 (k := 1) (x := 3) bX2_init_0 rfl rfl
def dX2_init_4 := dk42 (k := 4) bX2_init_0 rfl
def dX2_init_5 := dk187 (k := 5) (x := 9) bX2_init_0 rfl rfl
def dX2_init_8 := dk89 (k := 8) bX2_init_0 rfl
def dX2_init_9 := dk183 (k := 9) (x := 11) bX2_init_0 rfl rfl
def dX2_init_12 := dk181 (k := 12) (x := 12) bX2_init_0 rfl rfl
def dX2_init_15 := dk42 (k := 15) bX2_init_0 rfl
def dX2_init_16 := dk187 (k := 16) (x := 18) bX2_init_0 rfl rfl
def dX2_init_19 := dk89 (k := 19) bX2_init_0 rfl
def dX2_init_20 := dk183 (k := 20) (x := 20) bX2_init_0 rfl rfl
def dX2_init_23 := dk181 (k := 23) (x := 21) bX2_init_0 rfl rfl
theorem bX2_init_26 : bL cX2_init 26 [42, 16, 60] := bL_of (by decide +kernel)
def dX2_init_26 := dk42 (k := 0) bX2_init_26 rfl
def dX2_init_27 := dk16 (k := 1) (x := 60) bX2_init_26 rfl (by decide)
theorem dX2_init_29 : decode cX2_init 29 = .ok (.newarray .int, 2) := by decide +kernel
theorem bX2_init_31 : bL cX2_init 31 [181, 0, 25, 177] := bL_of (by decide +kernel)
def dX2_init_31 := dk181 (k := 0) (x := 25) bX2_init_31 rfl rfl
def dX2_init_34 := dk177 (k := 3) bX2_init_31 rfl
theorem bX2_clear_0 : bL cX2_clear 0 [42, 180, 0, 12, 182, 0, 29, 42, 180, 0, 21, 182, 0, 32, 42, 3, 181, 0, 33, 42, 3, 181, 0, 37] := bL_of (by decide +kernel)
def dX2_clear_0 := dk42 (k := 0) bX2_clear_0 rfl
def dX2_clear_1 := dk180 (k := 1) (x := 12) bX2_clear_0 rfl rfl
def dX2_clear_4 := dk182 (k := 4) (x := 29) bX2_clear_0 rfl rfl
def dX2_clear_7 := dk42 (k := 7) bX2_clear_0 rfl
def dX2_clear_8 := dk180 (k := 8) (x := 21) bX2_clear_0 rfl rfl
def dX2_clear_11 := dk182 (k := 11) (x := 32) bX2_clear_0 rfl rfl
def dX2_clear_14 := dk42 (k := 14) bX2_clear_0 rfl
def dX2_clear_15 := dk3 (k := 15) bX2_clear_0 rfl
def dX2_clear_16 := dk181 (k := 16) (x := 33) bX2_clear_0 rfl rfl
def dX2_clear_19 := dk42 (k := 19) bX2_clear_0 rfl
def dX2_clear_20 := dk3 (k := 20) bX2_clear_0 rfl
def dX2_clear_21 := dk181 (k := 21) (x := 37) bX2_clear_0 rfl rfl
theorem bX2_clear_24 : bL cX2_clear 24 [42, 3, 181, 0, 40, 42, 3, 181, 0, 43, 177] := bL_of (by decide +kernel)
def dX2_clear_24 := dk42 (k := 0) bX2_clear_24 rfl
def dX2_clear_25 := dk3 (k := 1) bX2_clear_24 rfl
def dX2_clear_26 := dk181 (k := 2) (x := 40) bX2_clear_24 rfl rfl
def dX2_clear_29 := dk42 (k := 5) bX2_clear_24 rfl
def dX2_clear_30 := dk3 (k := 6) bX2_clear_24 rfl
def dX2_clear_31 := dk181 (k := 7) (x := 43) bX2_clear_24 rfl rfl
def dX2_clear_34 := dk177 (k := 10) bX2_clear_24 rfl
theorem bX2_copyFrom_0 : bL cX2_copyFrom 0 [42, 180, 0, 12, 43, 180, 0, 12, 182, 0, 46, 42, 180, 0, 21, 43, 180, 0, 21, 182, 0, 50, 3, 61] := bL_of (by decide +kernel)
def dX2_copyFrom_0 := dk42 (k := 0) bX2_copyFrom_0 rfl
def dX2_copyFrom_1 := dk180 (k := 1) (x := 12) bX2_copyFrom_0 rfl rfl
def dX2_copyFrom_4 := dk43 (k := 4) bX2_copyFrom_0 rfl
def dX2_copyFrom_5 := dk180 (k := 5) (x := 12) bX2_copyFrom_0 rfl rfl
def dX2_copyFrom_8 := dk182 (k := 8) (x := 46) bX2_copyFrom_0 rfl rfl
def dX2_copyFrom_11 := dk42 (k := 11) bX2_copyFrom_0 rfl
def dX2_copyFrom_12 := dk180 (k := 12) (x := 21) bX2_copyFrom_0 rfl rfl
def dX2_copyFrom_15 := dk43 (k := 15) bX2_copyFrom_0 rfl
def dX2_copyFrom_16 := dk180 (k := 16) (x := 21) bX2_copyFrom_0 rfl rfl
def dX2_copyFrom_19 := dk182 (k := 19) (x := 50) bX2_copyFrom_0 rfl rfl
def dX2_copyFrom_22 := dk3 (k := 22) bX2_copyFrom_0 rfl
def dX2_copyFrom_23 := dk61 (k := 23) bX2_copyFrom_0 rfl
theorem bX2_copyFrom_24 : bL cX2_copyFrom 24 [28, 16, 60, 162, 0, 21, 42, 180, 0, 25, 28, 43, 180, 0, 25, 28, 46, 79, 132, 2, 1, 167, 255, 235] := bL_of (by decide +kernel)
def dX2_copyFrom_24 := dk28 (k := 0) bX2_copyFrom_24 rfl
def dX2_copyFrom_25 := dk16 (k := 1) (x := 60) bX2_copyFrom_24 rfl (by decide)
def dX2_copyFrom_27 := dk162 (k := 3) (x := 21) bX2_copyFrom_24 rfl (by decide)
def dX2_copyFrom_30 := dk42 (k := 6) bX2_copyFrom_24 rfl
def dX2_copyFrom_31 := dk180 (k := 7) (x := 25) bX2_copyFrom_24 rfl rfl
def dX2_copyFrom_34 := dk28 (k := 10) bX2_copyFrom_24 rfl
def dX2_copyFrom_35 := dk43 (k := 11) bX2_copyFrom_24 rfl
def dX2_copyFrom_36 := dk180 (k := 12) (x := 25) bX2_copyFrom_24 rfl rfl
def dX2_copyFrom_39 := dk28 (k := 15) bX2_copyFrom_24 rfl
def dX2_copyFrom_40 := dk46 (k := 16) bX2_copyFrom_24 rfl
def dX2_copyFrom_41 := dk79 (k := 17) bX2_copyFrom_24 rfl
theorem dX2_copyFrom_42 : decode cX2_copyFrom 42 = .ok (.iinc 2 1, 3) := dk132 (k := 18) bX2_copyFrom_24 rfl rfl (by decide)
def dX2_copyFrom_45 := dk167 (k := 21) (x := (-21)) bX2_copyFrom_24 rfl (by decide)
theorem bX2_copyFrom_48 : bL cX2_copyFrom 48 [42, 43, 180, 0, 33, 181, 0, 33, 42, 43, 180, 0, 37, 181, 0, 37, 42, 43, 180, 0, 40, 181, 0, 40] := bL_of (by decide +kernel)
def dX2_copyFrom_48 := dk42 (k := 0) bX2_copyFrom_48 rfl
def dX2_copyFrom_49 := dk43 (k := 1) bX2_copyFrom_48 rfl
def dX2_copyFrom_50 := dk180 (k := 2) (x := 33) bX2_copyFrom_48 rfl rfl
def dX2_copyFrom_53 := dk181 (k := 5) (x := 33) bX2_copyFrom_48 rfl rfl
def dX2_copyFrom_56 := dk42 (k := 8) bX2_copyFrom_48 rfl
def dX2_copyFrom_57 := dk43 (k := 9) bX2_copyFrom_48 rfl
def dX2_copyFrom_58 := dk180 (k := 10) (x := 37) bX2_copyFrom_48 rfl rfl
def dX2_copyFrom_61 := dk181 (k := 13) (x := 37) bX2_copyFrom_48 rfl rfl
def dX2_copyFrom_64 := dk42 (k := 16) bX2_copyFrom_48 rfl
def dX2_copyFrom_65 := dk43 (k := 17) bX2_copyFrom_48 rfl
def dX2_copyFrom_66 := dk180 (k := 18) (x := 40) bX2_copyFrom_48 rfl rfl
def dX2_copyFrom_69 := dk181 (k := 21) (x := 40) bX2_copyFrom_48 rfl rfl
theorem bX2_copyFrom_72 : bL cX2_copyFrom 72 [42, 43, 180, 0, 43, 181, 0, 43, 177] := bL_of (by decide +kernel)
def dX2_copyFrom_72 := dk42 (k := 0) bX2_copyFrom_72 rfl
def dX2_copyFrom_73 := dk43 (k := 1) bX2_copyFrom_72 rfl
def dX2_copyFrom_74 := dk180 (k := 2) (x := 43) bX2_copyFrom_72 rfl rfl
def dX2_copyFrom_77 := dk181 (k := 5) (x := 43) bX2_copyFrom_72 rfl rfl
def dX2_copyFrom_80 := dk177 (k := 8) bX2_copyFrom_72 rfl
theorem bX2_isTold_0 : bL cX2_isTold 0 [42, 180, 0, 43, 158, 0, 7, 4, 167, 0, 4, 3, 172] := bL_of (by decide +kernel)
def dX2_isTold_0 := dk42 (k := 0) bX2_isTold_0 rfl
def dX2_isTold_1 := dk180 (k := 1) (x := 43) bX2_isTold_0 rfl rfl
def dX2_isTold_4 := dk158 (k := 4) (x := 7) bX2_isTold_0 rfl (by decide)
def dX2_isTold_7 := dk4 (k := 7) bX2_isTold_0 rfl
def dX2_isTold_8 := dk167 (k := 8) (x := 4) bX2_isTold_0 rfl (by decide)
def dX2_isTold_11 := dk3 (k := 11) bX2_isTold_0 rfl
def dX2_isTold_12 := dk172 (k := 12) bX2_isTold_0 rfl
theorem bX2_hasSet_0 : bL cX2_hasSet 0 [42, 182, 0, 53, 153, 0, 24, 27, 155, 0, 20, 27, 4, 42, 180, 0, 21, 180, 0, 57, 120, 162, 0, 7] := bL_of (by decide +kernel)
def dX2_hasSet_0 := dk42 (k := 0) bX2_hasSet_0 rfl
def dX2_hasSet_1 := dk182 (k := 1) (x := 53) bX2_hasSet_0 rfl rfl
def dX2_hasSet_4 := dk153 (k := 4) (x := 24) bX2_hasSet_0 rfl (by decide)
def dX2_hasSet_7 := dk27 (k := 7) bX2_hasSet_0 rfl
def dX2_hasSet_8 := dk155 (k := 8) (x := 20) bX2_hasSet_0 rfl (by decide)
def dX2_hasSet_11 := dk27 (k := 11) bX2_hasSet_0 rfl
def dX2_hasSet_12 := dk4 (k := 12) bX2_hasSet_0 rfl
def dX2_hasSet_13 := dk42 (k := 13) bX2_hasSet_0 rfl
def dX2_hasSet_14 := dk180 (k := 14) (x := 21) bX2_hasSet_0 rfl rfl
def dX2_hasSet_17 := dk180 (k := 17) (x := 57) bX2_hasSet_0 rfl rfl
def dX2_hasSet_20 := dk120 (k := 20) bX2_hasSet_0 rfl
def dX2_hasSet_21 := dk162 (k := 21) (x := 7) bX2_hasSet_0 rfl (by decide)
theorem bX2_hasSet_24 : bL cX2_hasSet 24 [4, 167, 0, 4, 3, 172] := bL_of (by decide +kernel)
def dX2_hasSet_24 := dk4 (k := 0) bX2_hasSet_24 rfl
def dX2_hasSet_25 := dk167 (k := 1) (x := 4) bX2_hasSet_24 rfl (by decide)
def dX2_hasSet_28 := dk3 (k := 4) bX2_hasSet_24 rfl
def dX2_hasSet_29 := dk172 (k := 5) bX2_hasSet_24 rfl
theorem bX2_hasRoomForAct_0 : bL cX2_hasRoomForAct 0 [42, 180, 0, 33, 155, 0, 16, 42, 180, 0, 33, 16, 60, 162, 0, 7, 4, 167, 0, 4, 3, 172] := bL_of (by decide +kernel)
def dX2_hasRoomForAct_0 := dk42 (k := 0) bX2_hasRoomForAct_0 rfl
def dX2_hasRoomForAct_1 := dk180 (k := 1) (x := 33) bX2_hasRoomForAct_0 rfl rfl
def dX2_hasRoomForAct_4 := dk155 (k := 4) (x := 16) bX2_hasRoomForAct_0 rfl (by decide)
def dX2_hasRoomForAct_7 := dk42 (k := 7) bX2_hasRoomForAct_0 rfl
def dX2_hasRoomForAct_8 := dk180 (k := 8) (x := 33) bX2_hasRoomForAct_0 rfl rfl
def dX2_hasRoomForAct_11 := dk16 (k := 11) (x := 60) bX2_hasRoomForAct_0 rfl (by decide)
def dX2_hasRoomForAct_13 := dk162 (k := 13) (x := 7) bX2_hasRoomForAct_0 rfl (by decide)
def dX2_hasRoomForAct_16 := dk4 (k := 16) bX2_hasRoomForAct_0 rfl
def dX2_hasRoomForAct_17 := dk167 (k := 17) (x := 4) bX2_hasRoomForAct_0 rfl (by decide)
def dX2_hasRoomForAct_20 := dk3 (k := 20) bX2_hasRoomForAct_0 rfl
def dX2_hasRoomForAct_21 := dk172 (k := 21) bX2_hasRoomForAct_0 rfl
theorem bX2_act_0 : bL cX2_act 0 [42, 182, 0, 60, 153, 0, 36, 42, 180, 0, 12, 27, 28, 182, 0, 63, 42, 180, 0, 25, 42, 180, 0, 33] := bL_of (by decide +kernel)
def dX2_act_0 := dk42 (k := 0) bX2_act_0 rfl
def dX2_act_1 := dk182 (k := 1) (x := 60) bX2_act_0 rfl rfl
def dX2_act_4 := dk153 (k := 4) (x := 36) bX2_act_0 rfl (by decide)
def dX2_act_7 := dk42 (k := 7) bX2_act_0 rfl
def dX2_act_8 := dk180 (k := 8) (x := 12) bX2_act_0 rfl rfl
def dX2_act_11 := dk27 (k := 11) bX2_act_0 rfl
def dX2_act_12 := dk28 (k := 12) bX2_act_0 rfl
def dX2_act_13 := dk182 (k := 13) (x := 63) bX2_act_0 rfl rfl
def dX2_act_16 := dk42 (k := 16) bX2_act_0 rfl
def dX2_act_17 := dk180 (k := 17) (x := 25) bX2_act_0 rfl rfl
def dX2_act_20 := dk42 (k := 20) bX2_act_0 rfl
def dX2_act_21 := dk180 (k := 21) (x := 33) bX2_act_0 rfl rfl
theorem bX2_act_24 : bL cX2_act 24 [28, 27, 4, 96, 104, 79, 42, 89, 180, 0, 33, 4, 96, 181, 0, 33, 177] := bL_of (by decide +kernel)
def dX2_act_24 := dk28 (k := 0) bX2_act_24 rfl
def dX2_act_25 := dk27 (k := 1) bX2_act_24 rfl
def dX2_act_26 := dk4 (k := 2) bX2_act_24 rfl
def dX2_act_27 := dk96 (k := 3) bX2_act_24 rfl
def dX2_act_28 := dk104 (k := 4) bX2_act_24 rfl
def dX2_act_29 := dk79 (k := 5) bX2_act_24 rfl
def dX2_act_30 := dk42 (k := 6) bX2_act_24 rfl
def dX2_act_31 := dk89 (k := 7) bX2_act_24 rfl
def dX2_act_32 := dk180 (k := 8) (x := 33) bX2_act_24 rfl rfl
def dX2_act_35 := dk4 (k := 11) bX2_act_24 rfl
def dX2_act_36 := dk96 (k := 12) bX2_act_24 rfl
def dX2_act_37 := dk181 (k := 13) (x := 33) bX2_act_24 rfl rfl
def dX2_act_40 := dk177 (k := 16) bX2_act_24 rfl
theorem bX2_takeBack_0 : bL cX2_takeBack 0 [42, 180, 0, 33, 4, 161, 0, 12, 42, 180, 0, 33, 16, 60, 164, 0, 5, 3, 172, 42, 89, 180, 0, 33] := bL_of (by decide +kernel)
def dX2_takeBack_0 := dk42 (k := 0) bX2_takeBack_0 rfl
def dX2_takeBack_1 := dk180 (k := 1) (x := 33) bX2_takeBack_0 rfl rfl
def dX2_takeBack_4 := dk4 (k := 4) bX2_takeBack_0 rfl
def dX2_takeBack_5 := dk161 (k := 5) (x := 12) bX2_takeBack_0 rfl (by decide)
def dX2_takeBack_8 := dk42 (k := 8) bX2_takeBack_0 rfl
def dX2_takeBack_9 := dk180 (k := 9) (x := 33) bX2_takeBack_0 rfl rfl
def dX2_takeBack_12 := dk16 (k := 12) (x := 60) bX2_takeBack_0 rfl (by decide)
def dX2_takeBack_14 := dk164 (k := 14) (x := 5) bX2_takeBack_0 rfl (by decide)
def dX2_takeBack_17 := dk3 (k := 17) bX2_takeBack_0 rfl
def dX2_takeBack_18 := dk172 (k := 18) bX2_takeBack_0 rfl
def dX2_takeBack_19 := dk42 (k := 19) bX2_takeBack_0 rfl
def dX2_takeBack_20 := dk89 (k := 20) bX2_takeBack_0 rfl
def dX2_takeBack_21 := dk180 (k := 21) (x := 33) bX2_takeBack_0 rfl rfl
theorem bX2_takeBack_24 : bL cX2_takeBack 24 [4, 100, 181, 0, 33, 42, 180, 0, 25, 42, 180, 0, 33, 46, 60, 27, 156, 0, 18, 42, 180, 0, 12, 27] := bL_of (by decide +kernel)
def dX2_takeBack_24 := dk4 (k := 0) bX2_takeBack_24 rfl
def dX2_takeBack_25 := dk100 (k := 1) bX2_takeBack_24 rfl
def dX2_takeBack_26 := dk181 (k := 2) (x := 33) bX2_takeBack_24 rfl rfl
def dX2_takeBack_29 := dk42 (k := 5) bX2_takeBack_24 rfl
def dX2_takeBack_30 := dk180 (k := 6) (x := 25) bX2_takeBack_24 rfl rfl
def dX2_takeBack_33 := dk42 (k := 9) bX2_takeBack_24 rfl
def dX2_takeBack_34 := dk180 (k := 10) (x := 33) bX2_takeBack_24 rfl rfl
def dX2_takeBack_37 := dk46 (k := 13) bX2_takeBack_24 rfl
def dX2_takeBack_38 := dk60 (k := 14) bX2_takeBack_24 rfl
def dX2_takeBack_39 := dk27 (k := 15) bX2_takeBack_24 rfl
def dX2_takeBack_40 := dk156 (k := 16) (x := 18) bX2_takeBack_24 rfl (by decide)
def dX2_takeBack_43 := dk42 (k := 19) bX2_takeBack_24 rfl
def dX2_takeBack_44 := dk180 (k := 20) (x := 12) bX2_takeBack_24 rfl rfl
def dX2_takeBack_47 := dk27 (k := 23) bX2_takeBack_24 rfl
theorem bX2_takeBack_48 : bL cX2_takeBack 48 [116, 4, 100, 4, 182, 0, 63, 167, 0, 14, 42, 180, 0, 12, 27, 4, 100, 2, 182, 0, 63, 4, 172] := bL_of (by decide +kernel)
def dX2_takeBack_48 := dk116 (k := 0) bX2_takeBack_48 rfl
def dX2_takeBack_49 := dk4 (k := 1) bX2_takeBack_48 rfl
def dX2_takeBack_50 := dk100 (k := 2) bX2_takeBack_48 rfl
def dX2_takeBack_51 := dk4 (k := 3) bX2_takeBack_48 rfl
def dX2_takeBack_52 := dk182 (k := 4) (x := 63) bX2_takeBack_48 rfl rfl
def dX2_takeBack_55 := dk167 (k := 7) (x := 14) bX2_takeBack_48 rfl (by decide)
def dX2_takeBack_58 := dk42 (k := 10) bX2_takeBack_48 rfl
def dX2_takeBack_59 := dk180 (k := 11) (x := 12) bX2_takeBack_48 rfl rfl
def dX2_takeBack_62 := dk27 (k := 14) bX2_takeBack_48 rfl
def dX2_takeBack_63 := dk4 (k := 15) bX2_takeBack_48 rfl
def dX2_takeBack_64 := dk100 (k := 16) bX2_takeBack_48 rfl
def dX2_takeBack_65 := dk2 (k := 17) bX2_takeBack_48 rfl
def dX2_takeBack_66 := dk182 (k := 18) (x := 63) bX2_takeBack_48 rfl rfl
def dX2_takeBack_69 := dk4 (k := 21) bX2_takeBack_48 rfl
def dX2_takeBack_70 := dk172 (k := 22) bX2_takeBack_48 rfl
theorem bX2_isEnough_0 : bL cX2_isEnough 0 [42, 180, 0, 21, 42, 180, 0, 21, 27, 28, 182, 0, 67, 182, 0, 71, 42, 180, 0, 37, 161, 0, 7, 4] := bL_of (by decide +kernel)
def dX2_isEnough_0 := dk42 (k := 0) bX2_isEnough_0 rfl
def dX2_isEnough_1 := dk180 (k := 1) (x := 21) bX2_isEnough_0 rfl rfl
def dX2_isEnough_4 := dk42 (k := 4) bX2_isEnough_0 rfl
def dX2_isEnough_5 := dk180 (k := 5) (x := 21) bX2_isEnough_0 rfl rfl
def dX2_isEnough_8 := dk27 (k := 8) bX2_isEnough_0 rfl
def dX2_isEnough_9 := dk28 (k := 9) bX2_isEnough_0 rfl
def dX2_isEnough_10 := dk182 (k := 10) (x := 67) bX2_isEnough_0 rfl rfl
def dX2_isEnough_13 := dk182 (k := 13) (x := 71) bX2_isEnough_0 rfl rfl
def dX2_isEnough_16 := dk42 (k := 16) bX2_isEnough_0 rfl
def dX2_isEnough_17 := dk180 (k := 17) (x := 37) bX2_isEnough_0 rfl rfl
def dX2_isEnough_20 := dk161 (k := 20) (x := 7) bX2_isEnough_0 rfl (by decide)
def dX2_isEnough_23 := dk4 (k := 23) bX2_isEnough_0 rfl
theorem bX2_isEnough_24 : bL cX2_isEnough 24 [167, 0, 4, 3, 172] := bL_of (by decide +kernel)
def dX2_isEnough_24 := dk167 (k := 0) (x := 4) bX2_isEnough_24 rfl (by decide)
def dX2_isEnough_27 := dk3 (k := 3) bX2_isEnough_24 rfl
def dX2_isEnough_28 := dk172 (k := 4) bX2_isEnough_24 rfl
theorem bX3_init_0 : bL cX3_init 0 [42, 183, 0, 3, 42, 16, 56] := bL_of (by decide +kernel)
def dX3_init_0 := dk42 (k := 0) bX3_init_0 rfl
def dX3_init_1 := dk183 (k := 1) (x := 3) bX3_init_0 rfl rfl
def dX3_init_4 := dk42 (k := 4) bX3_init_0 rfl
def dX3_init_5 := dk16 (k := 5) (x := 56) bX3_init_0 rfl (by decide)
theorem dX3_init_7 : decode cX3_init 7 = .ok (.newarray .int, 2) := by decide +kernel
theorem bX3_init_9 : bL cX3_init 9 [181, 0, 9, 42, 16, 8] := bL_of (by decide +kernel)
def dX3_init_9 := dk181 (k := 0) (x := 9) bX3_init_9 rfl rfl
def dX3_init_12 := dk42 (k := 3) bX3_init_9 rfl
def dX3_init_13 := dk16 (k := 4) (x := 8) bX3_init_9 rfl (by decide)
theorem dX3_init_15 : decode cX3_init 15 = .ok (.newarray .int, 2) := by decide +kernel
theorem bX3_init_17 : bL cX3_init 17 [181, 0, 15, 42, 16, 8] := bL_of (by decide +kernel)
def dX3_init_17 := dk181 (k := 0) (x := 15) bX3_init_17 rfl rfl
def dX3_init_20 := dk42 (k := 3) bX3_init_17 rfl
def dX3_init_21 := dk16 (k := 4) (x := 8) bX3_init_17 rfl (by decide)
theorem dX3_init_23 : decode cX3_init 23 = .ok (.newarray .int, 2) := by decide +kernel
theorem bX3_init_25 : bL cX3_init 25 [181, 0, 18, 177] := bL_of (by decide +kernel)
def dX3_init_25 := dk181 (k := 0) (x := 18) bX3_init_25 rfl rfl
def dX3_init_28 := dk177 (k := 3) bX3_init_25 rfl
theorem bX3_clear_0 : bL cX3_clear 0 [42, 3, 181, 0, 21, 3, 60, 27, 42, 180, 0, 9, 190, 162, 0, 16, 42, 180, 0, 9, 27, 3, 79, 132, 1, 1] := bL_of (by decide +kernel)
def dX3_clear_0 := dk42 (k := 0) bX3_clear_0 rfl
def dX3_clear_1 := dk3 (k := 1) bX3_clear_0 rfl
def dX3_clear_2 := dk181 (k := 2) (x := 21) bX3_clear_0 rfl rfl
def dX3_clear_5 := dk3 (k := 5) bX3_clear_0 rfl
def dX3_clear_6 := dk60 (k := 6) bX3_clear_0 rfl
def dX3_clear_7 := dk27 (k := 7) bX3_clear_0 rfl
def dX3_clear_8 := dk42 (k := 8) bX3_clear_0 rfl
def dX3_clear_9 := dk180 (k := 9) (x := 9) bX3_clear_0 rfl rfl
def dX3_clear_12 := dk190 (k := 12) bX3_clear_0 rfl
def dX3_clear_13 := dk162 (k := 13) (x := 16) bX3_clear_0 rfl (by decide)
def dX3_clear_16 := dk42 (k := 16) bX3_clear_0 rfl
def dX3_clear_17 := dk180 (k := 17) (x := 9) bX3_clear_0 rfl rfl
def dX3_clear_20 := dk27 (k := 20) bX3_clear_0 rfl
def dX3_clear_21 := dk3 (k := 21) bX3_clear_0 rfl
def dX3_clear_22 := dk79 (k := 22) bX3_clear_0 rfl
theorem dX3_clear_23 : decode cX3_clear 23 = .ok (.iinc 1 1, 3) := dk132 (k := 23) bX3_clear_0 rfl rfl (by decide)
theorem bX3_clear_26 : bL cX3_clear 26 [167, 255, 237, 177] := bL_of (by decide +kernel)
def dX3_clear_26 := dk167 (k := 0) (x := (-19)) bX3_clear_26 rfl (by decide)
def dX3_clear_29 := dk177 (k := 3) bX3_clear_26 rfl
theorem bX3_copyFrom_0 : bL cX3_copyFrom 0 [3, 61, 28, 42, 180, 0, 9, 190, 162, 0, 21, 42, 180, 0, 9, 28, 43, 180, 0, 9, 28, 46, 79, 132, 2, 1] := bL_of (by decide +kernel)
def dX3_copyFrom_0 := dk3 (k := 0) bX3_copyFrom_0 rfl
def dX3_copyFrom_1 := dk61 (k := 1) bX3_copyFrom_0 rfl
def dX3_copyFrom_2 := dk28 (k := 2) bX3_copyFrom_0 rfl
def dX3_copyFrom_3 := dk42 (k := 3) bX3_copyFrom_0 rfl
def dX3_copyFrom_4 := dk180 (k := 4) (x := 9) bX3_copyFrom_0 rfl rfl
def dX3_copyFrom_7 := dk190 (k := 7) bX3_copyFrom_0 rfl
def dX3_copyFrom_8 := dk162 (k := 8) (x := 21) bX3_copyFrom_0 rfl (by decide)
def dX3_copyFrom_11 := dk42 (k := 11) bX3_copyFrom_0 rfl
def dX3_copyFrom_12 := dk180 (k := 12) (x := 9) bX3_copyFrom_0 rfl rfl
def dX3_copyFrom_15 := dk28 (k := 15) bX3_copyFrom_0 rfl
def dX3_copyFrom_16 := dk43 (k := 16) bX3_copyFrom_0 rfl
def dX3_copyFrom_17 := dk180 (k := 17) (x := 9) bX3_copyFrom_0 rfl rfl
def dX3_copyFrom_20 := dk28 (k := 20) bX3_copyFrom_0 rfl
def dX3_copyFrom_21 := dk46 (k := 21) bX3_copyFrom_0 rfl
def dX3_copyFrom_22 := dk79 (k := 22) bX3_copyFrom_0 rfl
theorem dX3_copyFrom_23 : decode cX3_copyFrom 23 = .ok (.iinc 2 1, 3) := dk132 (k := 23) bX3_copyFrom_0 rfl rfl (by decide)
theorem bX3_copyFrom_26 : bL cX3_copyFrom 26 [167, 255, 232, 42, 43, 180, 0, 21, 181, 0, 21, 177] := bL_of (by decide +kernel)
def dX3_copyFrom_26 := dk167 (k := 0) (x := (-24)) bX3_copyFrom_26 rfl (by decide)
def dX3_copyFrom_29 := dk42 (k := 3) bX3_copyFrom_26 rfl
def dX3_copyFrom_30 := dk43 (k := 4) bX3_copyFrom_26 rfl
def dX3_copyFrom_31 := dk180 (k := 5) (x := 21) bX3_copyFrom_26 rfl rfl
def dX3_copyFrom_34 := dk181 (k := 8) (x := 21) bX3_copyFrom_26 rfl rfl
def dX3_copyFrom_37 := dk177 (k := 11) bX3_copyFrom_26 rfl
theorem bX3_has_0 : bL cX3_has 0 [27, 155, 0, 21, 27, 42, 180, 0, 21, 162, 0, 13, 27, 16, 8, 162, 0, 7, 4, 167, 0, 4, 3, 172] := bL_of (by decide +kernel)
def dX3_has_0 := dk27 (k := 0) bX3_has_0 rfl
def dX3_has_1 := dk155 (k := 1) (x := 21) bX3_has_0 rfl (by decide)
def dX3_has_4 := dk27 (k := 4) bX3_has_0 rfl
def dX3_has_5 := dk42 (k := 5) bX3_has_0 rfl
def dX3_has_6 := dk180 (k := 6) (x := 21) bX3_has_0 rfl rfl
def dX3_has_9 := dk162 (k := 9) (x := 13) bX3_has_0 rfl (by decide)
def dX3_has_12 := dk27 (k := 12) bX3_has_0 rfl
def dX3_has_13 := dk16 (k := 13) (x := 8) bX3_has_0 rfl (by decide)
def dX3_has_15 := dk162 (k := 15) (x := 7) bX3_has_0 rfl (by decide)
def dX3_has_18 := dk4 (k := 18) bX3_has_0 rfl
def dX3_has_19 := dk167 (k := 19) (x := 4) bX3_has_0 rfl (by decide)
def dX3_has_22 := dk3 (k := 22) bX3_has_0 rfl
def dX3_has_23 := dk172 (k := 23) bX3_has_0 rfl
theorem bX3_fact_0 : bL cX3_fact 0 [27, 155, 0, 23, 27, 16, 8, 162, 0, 17, 28, 155, 0, 13, 28, 16, 7, 162, 0, 7, 4, 167, 0, 4] := bL_of (by decide +kernel)
def dX3_fact_0 := dk27 (k := 0) bX3_fact_0 rfl
def dX3_fact_1 := dk155 (k := 1) (x := 23) bX3_fact_0 rfl (by decide)
def dX3_fact_4 := dk27 (k := 4) bX3_fact_0 rfl
def dX3_fact_5 := dk16 (k := 5) (x := 8) bX3_fact_0 rfl (by decide)
def dX3_fact_7 := dk162 (k := 7) (x := 17) bX3_fact_0 rfl (by decide)
def dX3_fact_10 := dk28 (k := 10) bX3_fact_0 rfl
def dX3_fact_11 := dk155 (k := 11) (x := 13) bX3_fact_0 rfl (by decide)
def dX3_fact_14 := dk28 (k := 14) bX3_fact_0 rfl
def dX3_fact_15 := dk16 (k := 15) (x := 7) bX3_fact_0 rfl (by decide)
def dX3_fact_17 := dk162 (k := 17) (x := 7) bX3_fact_0 rfl (by decide)
def dX3_fact_20 := dk4 (k := 20) bX3_fact_0 rfl
def dX3_fact_21 := dk167 (k := 21) (x := 4) bX3_fact_0 rfl (by decide)
theorem bX3_fact_24 : bL cX3_fact 24 [3, 62, 29, 153, 0, 17, 42, 180, 0, 9, 27, 16, 7, 104, 28, 96, 46, 167, 0, 4, 3, 172] := bL_of (by decide +kernel)
def dX3_fact_24 := dk3 (k := 0) bX3_fact_24 rfl
def dX3_fact_25 := dk62 (k := 1) bX3_fact_24 rfl
def dX3_fact_26 := dk29 (k := 2) bX3_fact_24 rfl
def dX3_fact_27 := dk153 (k := 3) (x := 17) bX3_fact_24 rfl (by decide)
def dX3_fact_30 := dk42 (k := 6) bX3_fact_24 rfl
def dX3_fact_31 := dk180 (k := 7) (x := 9) bX3_fact_24 rfl rfl
def dX3_fact_34 := dk27 (k := 10) bX3_fact_24 rfl
def dX3_fact_35 := dk16 (k := 11) (x := 7) bX3_fact_24 rfl (by decide)
def dX3_fact_37 := dk104 (k := 13) bX3_fact_24 rfl
def dX3_fact_38 := dk28 (k := 14) bX3_fact_24 rfl
def dX3_fact_39 := dk96 (k := 15) bX3_fact_24 rfl
def dX3_fact_40 := dk46 (k := 16) bX3_fact_24 rfl
def dX3_fact_41 := dk167 (k := 17) (x := 4) bX3_fact_24 rfl (by decide)
def dX3_fact_44 := dk3 (k := 20) bX3_fact_24 rfl
def dX3_fact_45 := dk172 (k := 21) bX3_fact_24 rfl
theorem bX3_setFact_0 : bL cX3_setFact 0 [27, 155, 0, 31, 27, 16, 8, 162, 0, 25, 28, 155, 0, 21, 28, 16, 7, 162, 0, 15, 42, 180, 0, 9] := bL_of (by decide +kernel)
def dX3_setFact_0 := dk27 (k := 0) bX3_setFact_0 rfl
def dX3_setFact_1 := dk155 (k := 1) (x := 31) bX3_setFact_0 rfl (by decide)
def dX3_setFact_4 := dk27 (k := 4) bX3_setFact_0 rfl
def dX3_setFact_5 := dk16 (k := 5) (x := 8) bX3_setFact_0 rfl (by decide)
def dX3_setFact_7 := dk162 (k := 7) (x := 25) bX3_setFact_0 rfl (by decide)
def dX3_setFact_10 := dk28 (k := 10) bX3_setFact_0 rfl
def dX3_setFact_11 := dk155 (k := 11) (x := 21) bX3_setFact_0 rfl (by decide)
def dX3_setFact_14 := dk28 (k := 14) bX3_setFact_0 rfl
def dX3_setFact_15 := dk16 (k := 15) (x := 7) bX3_setFact_0 rfl (by decide)
def dX3_setFact_17 := dk162 (k := 17) (x := 15) bX3_setFact_0 rfl (by decide)
def dX3_setFact_20 := dk42 (k := 20) bX3_setFact_0 rfl
def dX3_setFact_21 := dk180 (k := 21) (x := 9) bX3_setFact_0 rfl rfl
theorem bX3_setFact_24 : bL cX3_setFact 24 [27, 16, 7, 104, 28, 96, 29, 79, 177] := bL_of (by decide +kernel)
def dX3_setFact_24 := dk27 (k := 0) bX3_setFact_24 rfl
def dX3_setFact_25 := dk16 (k := 1) (x := 7) bX3_setFact_24 rfl (by decide)
def dX3_setFact_27 := dk104 (k := 3) bX3_setFact_24 rfl
def dX3_setFact_28 := dk28 (k := 4) bX3_setFact_24 rfl
def dX3_setFact_29 := dk96 (k := 5) bX3_setFact_24 rfl
def dX3_setFact_30 := dk29 (k := 6) bX3_setFact_24 rfl
def dX3_setFact_31 := dk79 (k := 7) bX3_setFact_24 rfl
def dX3_setFact_32 := dk177 (k := 8) bX3_setFact_24 rfl
theorem bX3_befriend_0 : bL cX3_befriend 0 [42, 27, 16, 6, 42, 27, 16, 6, 182, 0, 25, 4, 28, 120, 128, 182, 0, 29, 42, 28, 16, 6, 42, 28] := bL_of (by decide +kernel)
def dX3_befriend_0 := dk42 (k := 0) bX3_befriend_0 rfl
def dX3_befriend_1 := dk27 (k := 1) bX3_befriend_0 rfl
def dX3_befriend_2 := dk16 (k := 2) (x := 6) bX3_befriend_0 rfl (by decide)
def dX3_befriend_4 := dk42 (k := 4) bX3_befriend_0 rfl
def dX3_befriend_5 := dk27 (k := 5) bX3_befriend_0 rfl
def dX3_befriend_6 := dk16 (k := 6) (x := 6) bX3_befriend_0 rfl (by decide)
def dX3_befriend_8 := dk182 (k := 8) (x := 25) bX3_befriend_0 rfl rfl
def dX3_befriend_11 := dk4 (k := 11) bX3_befriend_0 rfl
def dX3_befriend_12 := dk28 (k := 12) bX3_befriend_0 rfl
def dX3_befriend_13 := dk120 (k := 13) bX3_befriend_0 rfl
def dX3_befriend_14 := dk128 (k := 14) bX3_befriend_0 rfl
def dX3_befriend_15 := dk182 (k := 15) (x := 29) bX3_befriend_0 rfl rfl
def dX3_befriend_18 := dk42 (k := 18) bX3_befriend_0 rfl
def dX3_befriend_19 := dk28 (k := 19) bX3_befriend_0 rfl
def dX3_befriend_20 := dk16 (k := 20) (x := 6) bX3_befriend_0 rfl (by decide)
def dX3_befriend_22 := dk42 (k := 22) bX3_befriend_0 rfl
def dX3_befriend_23 := dk28 (k := 23) bX3_befriend_0 rfl
theorem bX3_befriend_24 : bL cX3_befriend 24 [16, 6, 182, 0, 25, 4, 27, 120, 128, 182, 0, 29, 177] := bL_of (by decide +kernel)
def dX3_befriend_24 := dk16 (k := 0) (x := 6) bX3_befriend_24 rfl (by decide)
def dX3_befriend_26 := dk182 (k := 2) (x := 25) bX3_befriend_24 rfl rfl
def dX3_befriend_29 := dk4 (k := 5) bX3_befriend_24 rfl
def dX3_befriend_30 := dk27 (k := 6) bX3_befriend_24 rfl
def dX3_befriend_31 := dk120 (k := 7) bX3_befriend_24 rfl
def dX3_befriend_32 := dk128 (k := 8) bX3_befriend_24 rfl
def dX3_befriend_33 := dk182 (k := 9) (x := 29) bX3_befriend_24 rfl rfl
def dX3_befriend_36 := dk177 (k := 12) bX3_befriend_24 rfl
theorem bX3_gainOn_0 : bL cX3_gainOn 0 [42, 43, 42, 180, 0, 18, 3, 182, 0, 33, 28, 155, 0, 18, 28, 16, 8, 162, 0, 12, 42, 180, 0, 18] := bL_of (by decide +kernel)
def dX3_gainOn_0 := dk42 (k := 0) bX3_gainOn_0 rfl
def dX3_gainOn_1 := dk43 (k := 1) bX3_gainOn_0 rfl
def dX3_gainOn_2 := dk42 (k := 2) bX3_gainOn_0 rfl
def dX3_gainOn_3 := dk180 (k := 3) (x := 18) bX3_gainOn_0 rfl rfl
def dX3_gainOn_6 := dk3 (k := 6) bX3_gainOn_0 rfl
def dX3_gainOn_7 := dk182 (k := 7) (x := 33) bX3_gainOn_0 rfl rfl
def dX3_gainOn_10 := dk28 (k := 10) bX3_gainOn_0 rfl
def dX3_gainOn_11 := dk155 (k := 11) (x := 18) bX3_gainOn_0 rfl (by decide)
def dX3_gainOn_14 := dk28 (k := 14) bX3_gainOn_0 rfl
def dX3_gainOn_15 := dk16 (k := 15) (x := 8) bX3_gainOn_0 rfl (by decide)
def dX3_gainOn_17 := dk162 (k := 17) (x := 12) bX3_gainOn_0 rfl (by decide)
def dX3_gainOn_20 := dk42 (k := 20) bX3_gainOn_0 rfl
def dX3_gainOn_21 := dk180 (k := 21) (x := 18) bX3_gainOn_0 rfl rfl
theorem bX3_gainOn_24 : bL cX3_gainOn 24 [28, 46, 167, 0, 4, 3, 172] := bL_of (by decide +kernel)
def dX3_gainOn_24 := dk28 (k := 0) bX3_gainOn_24 rfl
def dX3_gainOn_25 := dk46 (k := 1) bX3_gainOn_24 rfl
def dX3_gainOn_26 := dk167 (k := 2) (x := 4) bX3_gainOn_24 rfl (by decide)
def dX3_gainOn_29 := dk3 (k := 5) bX3_gainOn_24 rfl
def dX3_gainOn_30 := dk172 (k := 6) bX3_gainOn_24 rfl
theorem bX3_gainsOn_0 : bL cX3_gainsOn 0 [42, 43, 42, 180, 0, 18, 3, 182, 0, 33, 3, 61, 3, 62, 29, 42, 180, 0, 21, 162, 0, 24, 29, 16, 8] := bL_of (by decide +kernel)
def dX3_gainsOn_0 := dk42 (k := 0) bX3_gainsOn_0 rfl
def dX3_gainsOn_1 := dk43 (k := 1) bX3_gainsOn_0 rfl
def dX3_gainsOn_2 := dk42 (k := 2) bX3_gainsOn_0 rfl
def dX3_gainsOn_3 := dk180 (k := 3) (x := 18) bX3_gainsOn_0 rfl rfl
def dX3_gainsOn_6 := dk3 (k := 6) bX3_gainsOn_0 rfl
def dX3_gainsOn_7 := dk182 (k := 7) (x := 33) bX3_gainsOn_0 rfl rfl
def dX3_gainsOn_10 := dk3 (k := 10) bX3_gainsOn_0 rfl
def dX3_gainsOn_11 := dk61 (k := 11) bX3_gainsOn_0 rfl
def dX3_gainsOn_12 := dk3 (k := 12) bX3_gainsOn_0 rfl
def dX3_gainsOn_13 := dk62 (k := 13) bX3_gainsOn_0 rfl
def dX3_gainsOn_14 := dk29 (k := 14) bX3_gainsOn_0 rfl
def dX3_gainsOn_15 := dk42 (k := 15) bX3_gainsOn_0 rfl
def dX3_gainsOn_16 := dk180 (k := 16) (x := 21) bX3_gainsOn_0 rfl rfl
def dX3_gainsOn_19 := dk162 (k := 19) (x := 24) bX3_gainsOn_0 rfl (by decide)
def dX3_gainsOn_22 := dk29 (k := 22) bX3_gainsOn_0 rfl
def dX3_gainsOn_23 := dk16 (k := 23) (x := 8) bX3_gainsOn_0 rfl (by decide)
theorem bX3_gainsOn_25 : bL cX3_gainsOn 25 [162, 0, 18, 28, 42, 180, 0, 18, 29, 46, 96, 61, 132, 3, 1, 167, 255, 230, 28, 172] := bL_of (by decide +kernel)
def dX3_gainsOn_25 := dk162 (k := 0) (x := 18) bX3_gainsOn_25 rfl (by decide)
def dX3_gainsOn_28 := dk28 (k := 3) bX3_gainsOn_25 rfl
def dX3_gainsOn_29 := dk42 (k := 4) bX3_gainsOn_25 rfl
def dX3_gainsOn_30 := dk180 (k := 5) (x := 18) bX3_gainsOn_25 rfl rfl
def dX3_gainsOn_33 := dk29 (k := 8) bX3_gainsOn_25 rfl
def dX3_gainsOn_34 := dk46 (k := 9) bX3_gainsOn_25 rfl
def dX3_gainsOn_35 := dk96 (k := 10) bX3_gainsOn_25 rfl
def dX3_gainsOn_36 := dk61 (k := 11) bX3_gainsOn_25 rfl
theorem dX3_gainsOn_37 : decode cX3_gainsOn 37 = .ok (.iinc 3 1, 3) := dk132 (k := 12) bX3_gainsOn_25 rfl rfl (by decide)
def dX3_gainsOn_40 := dk167 (k := 15) (x := (-26)) bX3_gainsOn_25 rfl (by decide)
def dX3_gainsOn_43 := dk28 (k := 18) bX3_gainsOn_25 rfl
def dX3_gainsOn_44 := dk172 (k := 19) bX3_gainsOn_25 rfl
theorem bX3_fillGains_0 : bL cX3_fillGains 0 [43, 182, 0, 37, 184, 0, 43, 54, 4, 43, 182, 0, 49, 54, 5, 3, 54, 6, 21, 6, 42, 180, 0, 21] := bL_of (by decide +kernel)
def dX3_fillGains_0 := dk43 (k := 0) bX3_fillGains_0 rfl
def dX3_fillGains_1 := dk182 (k := 1) (x := 37) bX3_fillGains_0 rfl rfl
def dX3_fillGains_4 := dk184 (k := 4) (x := 43) bX3_fillGains_0 rfl rfl
def dX3_fillGains_7 := dk54 (k := 7) (x := 4) bX3_fillGains_0 rfl rfl
def dX3_fillGains_9 := dk43 (k := 9) bX3_fillGains_0 rfl
def dX3_fillGains_10 := dk182 (k := 10) (x := 49) bX3_fillGains_0 rfl rfl
def dX3_fillGains_13 := dk54 (k := 13) (x := 5) bX3_fillGains_0 rfl rfl
def dX3_fillGains_15 := dk3 (k := 15) bX3_fillGains_0 rfl
def dX3_fillGains_16 := dk54 (k := 16) (x := 6) bX3_fillGains_0 rfl rfl
def dX3_fillGains_18 := dk21 (k := 18) (x := 6) bX3_fillGains_0 rfl rfl
def dX3_fillGains_20 := dk42 (k := 20) bX3_fillGains_0 rfl
def dX3_fillGains_21 := dk180 (k := 21) (x := 21) bX3_fillGains_0 rfl rfl
theorem bX3_fillGains_24 : bL cX3_fillGains 24 [162, 0, 89, 42, 21, 6, 5, 182, 0, 25, 54, 7, 21, 7, 154, 0, 7, 3, 167, 0, 17, 21, 7, 43] := bL_of (by decide +kernel)
def dX3_fillGains_24 := dk162 (k := 0) (x := 89) bX3_fillGains_24 rfl (by decide)
def dX3_fillGains_27 := dk42 (k := 3) bX3_fillGains_24 rfl
def dX3_fillGains_28 := dk21 (k := 4) (x := 6) bX3_fillGains_24 rfl rfl
def dX3_fillGains_30 := dk5 (k := 6) bX3_fillGains_24 rfl
def dX3_fillGains_31 := dk182 (k := 7) (x := 25) bX3_fillGains_24 rfl rfl
def dX3_fillGains_34 := dk54 (k := 10) (x := 7) bX3_fillGains_24 rfl rfl
def dX3_fillGains_36 := dk21 (k := 12) (x := 7) bX3_fillGains_24 rfl rfl
def dX3_fillGains_38 := dk154 (k := 14) (x := 7) bX3_fillGains_24 rfl (by decide)
def dX3_fillGains_41 := dk3 (k := 17) bX3_fillGains_24 rfl
def dX3_fillGains_42 := dk167 (k := 18) (x := 17) bX3_fillGains_24 rfl (by decide)
def dX3_fillGains_45 := dk21 (k := 21) (x := 7) bX3_fillGains_24 rfl rfl
def dX3_fillGains_47 := dk43 (k := 23) bX3_fillGains_24 rfl
theorem bX3_fillGains_48 : bL cX3_fillGains 48 [42, 21, 6, 3, 182, 0, 25, 182, 0, 52, 104, 54, 8, 29, 21, 6, 96, 54, 9, 21, 9, 155, 0, 38] := bL_of (by decide +kernel)
def dX3_fillGains_48 := dk42 (k := 0) bX3_fillGains_48 rfl
def dX3_fillGains_49 := dk21 (k := 1) (x := 6) bX3_fillGains_48 rfl rfl
def dX3_fillGains_51 := dk3 (k := 3) bX3_fillGains_48 rfl
def dX3_fillGains_52 := dk182 (k := 4) (x := 25) bX3_fillGains_48 rfl rfl
def dX3_fillGains_55 := dk182 (k := 7) (x := 52) bX3_fillGains_48 rfl rfl
def dX3_fillGains_58 := dk104 (k := 10) bX3_fillGains_48 rfl
def dX3_fillGains_59 := dk54 (k := 11) (x := 8) bX3_fillGains_48 rfl rfl
def dX3_fillGains_61 := dk29 (k := 13) bX3_fillGains_48 rfl
def dX3_fillGains_62 := dk21 (k := 14) (x := 6) bX3_fillGains_48 rfl rfl
def dX3_fillGains_64 := dk96 (k := 16) bX3_fillGains_48 rfl
def dX3_fillGains_65 := dk54 (k := 17) (x := 9) bX3_fillGains_48 rfl rfl
def dX3_fillGains_67 := dk21 (k := 19) (x := 9) bX3_fillGains_48 rfl rfl
def dX3_fillGains_69 := dk155 (k := 21) (x := 38) bX3_fillGains_48 rfl (by decide)
theorem bX3_fillGains_72 : bL cX3_fillGains 72 [21, 9, 44, 190, 162, 0, 31, 44, 21, 9, 21, 8, 42, 21, 6, 6, 182, 0, 25, 21, 4, 104, 96, 42] := bL_of (by decide +kernel)
def dX3_fillGains_72 := dk21 (k := 0) (x := 9) bX3_fillGains_72 rfl rfl
def dX3_fillGains_74 := dk44 (k := 2) bX3_fillGains_72 rfl
def dX3_fillGains_75 := dk190 (k := 3) bX3_fillGains_72 rfl
def dX3_fillGains_76 := dk162 (k := 4) (x := 31) bX3_fillGains_72 rfl (by decide)
def dX3_fillGains_79 := dk44 (k := 7) bX3_fillGains_72 rfl
def dX3_fillGains_80 := dk21 (k := 8) (x := 9) bX3_fillGains_72 rfl rfl
def dX3_fillGains_82 := dk21 (k := 10) (x := 8) bX3_fillGains_72 rfl rfl
def dX3_fillGains_84 := dk42 (k := 12) bX3_fillGains_72 rfl
def dX3_fillGains_85 := dk21 (k := 13) (x := 6) bX3_fillGains_72 rfl rfl
def dX3_fillGains_87 := dk6 (k := 15) bX3_fillGains_72 rfl
def dX3_fillGains_88 := dk182 (k := 16) (x := 25) bX3_fillGains_72 rfl rfl
def dX3_fillGains_91 := dk21 (k := 19) (x := 4) bX3_fillGains_72 rfl rfl
def dX3_fillGains_93 := dk104 (k := 21) bX3_fillGains_72 rfl
def dX3_fillGains_94 := dk96 (k := 22) bX3_fillGains_72 rfl
def dX3_fillGains_95 := dk42 (k := 23) bX3_fillGains_72 rfl
theorem bX3_fillGains_96 : bL cX3_fillGains 96 [21, 6, 7, 182, 0, 25, 21, 5, 104, 96, 79, 132, 6, 1, 167, 255, 164, 177] := bL_of (by decide +kernel)
def dX3_fillGains_96 := dk21 (k := 0) (x := 6) bX3_fillGains_96 rfl rfl
def dX3_fillGains_98 := dk7 (k := 2) bX3_fillGains_96 rfl
def dX3_fillGains_99 := dk182 (k := 3) (x := 25) bX3_fillGains_96 rfl rfl
def dX3_fillGains_102 := dk21 (k := 6) (x := 5) bX3_fillGains_96 rfl rfl
def dX3_fillGains_104 := dk104 (k := 8) bX3_fillGains_96 rfl
def dX3_fillGains_105 := dk96 (k := 9) bX3_fillGains_96 rfl
def dX3_fillGains_106 := dk79 (k := 10) bX3_fillGains_96 rfl
theorem dX3_fillGains_107 : decode cX3_fillGains 107 = .ok (.iinc 6 1, 3) := dk132 (k := 11) bX3_fillGains_96 rfl rfl (by decide)
def dX3_fillGains_110 := dk167 (k := 14) (x := (-92)) bX3_fillGains_96 rfl (by decide)
def dX3_fillGains_113 := dk177 (k := 17) bX3_fillGains_96 rfl
theorem bX3_gainersBy_0 : bL cX3_gainersBy 0 [43, 182, 0, 55, 62, 43, 29, 182, 0, 58, 28, 96, 156, 0, 5, 3, 172, 42, 43, 42, 180, 0, 15, 3] := bL_of (by decide +kernel)
def dX3_gainersBy_0 := dk43 (k := 0) bX3_gainersBy_0 rfl
def dX3_gainersBy_1 := dk182 (k := 1) (x := 55) bX3_gainersBy_0 rfl rfl
def dX3_gainersBy_4 := dk62 (k := 4) bX3_gainersBy_0 rfl
def dX3_gainersBy_5 := dk43 (k := 5) bX3_gainersBy_0 rfl
def dX3_gainersBy_6 := dk29 (k := 6) bX3_gainersBy_0 rfl
def dX3_gainersBy_7 := dk182 (k := 7) (x := 58) bX3_gainersBy_0 rfl rfl
def dX3_gainersBy_10 := dk28 (k := 10) bX3_gainersBy_0 rfl
def dX3_gainersBy_11 := dk96 (k := 11) bX3_gainersBy_0 rfl
def dX3_gainersBy_12 := dk156 (k := 12) (x := 5) bX3_gainersBy_0 rfl (by decide)
def dX3_gainersBy_15 := dk3 (k := 15) bX3_gainersBy_0 rfl
def dX3_gainersBy_16 := dk172 (k := 16) bX3_gainersBy_0 rfl
def dX3_gainersBy_17 := dk42 (k := 17) bX3_gainersBy_0 rfl
def dX3_gainersBy_18 := dk43 (k := 18) bX3_gainersBy_0 rfl
def dX3_gainersBy_19 := dk42 (k := 19) bX3_gainersBy_0 rfl
def dX3_gainersBy_20 := dk180 (k := 20) (x := 15) bX3_gainersBy_0 rfl rfl
def dX3_gainersBy_23 := dk3 (k := 23) bX3_gainersBy_0 rfl
theorem bX3_gainersBy_24 : bL cX3_gainersBy 24 [182, 0, 33, 43, 29, 28, 182, 0, 61, 42, 43, 42, 180, 0, 18, 3, 182, 0, 33, 43, 29, 28, 116, 182, 0, 61] := bL_of (by decide +kernel)
def dX3_gainersBy_24 := dk182 (k := 0) (x := 33) bX3_gainersBy_24 rfl rfl
def dX3_gainersBy_27 := dk43 (k := 3) bX3_gainersBy_24 rfl
def dX3_gainersBy_28 := dk29 (k := 4) bX3_gainersBy_24 rfl
def dX3_gainersBy_29 := dk28 (k := 5) bX3_gainersBy_24 rfl
def dX3_gainersBy_30 := dk182 (k := 6) (x := 61) bX3_gainersBy_24 rfl rfl
def dX3_gainersBy_33 := dk42 (k := 9) bX3_gainersBy_24 rfl
def dX3_gainersBy_34 := dk43 (k := 10) bX3_gainersBy_24 rfl
def dX3_gainersBy_35 := dk42 (k := 11) bX3_gainersBy_24 rfl
def dX3_gainersBy_36 := dk180 (k := 12) (x := 18) bX3_gainersBy_24 rfl rfl
def dX3_gainersBy_39 := dk3 (k := 15) bX3_gainersBy_24 rfl
def dX3_gainersBy_40 := dk182 (k := 16) (x := 33) bX3_gainersBy_24 rfl rfl
def dX3_gainersBy_43 := dk43 (k := 19) bX3_gainersBy_24 rfl
def dX3_gainersBy_44 := dk29 (k := 20) bX3_gainersBy_24 rfl
def dX3_gainersBy_45 := dk28 (k := 21) bX3_gainersBy_24 rfl
def dX3_gainersBy_46 := dk116 (k := 22) bX3_gainersBy_24 rfl
def dX3_gainersBy_47 := dk182 (k := 23) (x := 61) bX3_gainersBy_24 rfl rfl
theorem bX3_gainersBy_50 : bL cX3_gainersBy 50 [3, 54, 4, 3, 54, 5, 21, 5, 42, 180, 0, 21, 162, 0, 42, 21, 5, 16, 8, 162, 0, 35, 42, 180, 0, 18] := bL_of (by decide +kernel)
def dX3_gainersBy_50 := dk3 (k := 0) bX3_gainersBy_50 rfl
def dX3_gainersBy_51 := dk54 (k := 1) (x := 4) bX3_gainersBy_50 rfl rfl
def dX3_gainersBy_53 := dk3 (k := 3) bX3_gainersBy_50 rfl
def dX3_gainersBy_54 := dk54 (k := 4) (x := 5) bX3_gainersBy_50 rfl rfl
def dX3_gainersBy_56 := dk21 (k := 6) (x := 5) bX3_gainersBy_50 rfl rfl
def dX3_gainersBy_58 := dk42 (k := 8) bX3_gainersBy_50 rfl
def dX3_gainersBy_59 := dk180 (k := 9) (x := 21) bX3_gainersBy_50 rfl rfl
def dX3_gainersBy_62 := dk162 (k := 12) (x := 42) bX3_gainersBy_50 rfl (by decide)
def dX3_gainersBy_65 := dk21 (k := 15) (x := 5) bX3_gainersBy_50 rfl rfl
def dX3_gainersBy_67 := dk16 (k := 17) (x := 8) bX3_gainersBy_50 rfl (by decide)
def dX3_gainersBy_69 := dk162 (k := 19) (x := 35) bX3_gainersBy_50 rfl (by decide)
def dX3_gainersBy_72 := dk42 (k := 22) bX3_gainersBy_50 rfl
def dX3_gainersBy_73 := dk180 (k := 23) (x := 18) bX3_gainersBy_50 rfl rfl
theorem bX3_gainersBy_76 : bL cX3_gainersBy 76 [21, 5, 46, 42, 180, 0, 15, 21, 5, 46, 164, 0, 12, 21, 4, 4, 21, 5, 120, 128, 54, 4, 132, 5, 1] := bL_of (by decide +kernel)
def dX3_gainersBy_76 := dk21 (k := 0) (x := 5) bX3_gainersBy_76 rfl rfl
def dX3_gainersBy_78 := dk46 (k := 2) bX3_gainersBy_76 rfl
def dX3_gainersBy_79 := dk42 (k := 3) bX3_gainersBy_76 rfl
def dX3_gainersBy_80 := dk180 (k := 4) (x := 15) bX3_gainersBy_76 rfl rfl
def dX3_gainersBy_83 := dk21 (k := 7) (x := 5) bX3_gainersBy_76 rfl rfl
def dX3_gainersBy_85 := dk46 (k := 9) bX3_gainersBy_76 rfl
def dX3_gainersBy_86 := dk164 (k := 10) (x := 12) bX3_gainersBy_76 rfl (by decide)
def dX3_gainersBy_89 := dk21 (k := 13) (x := 4) bX3_gainersBy_76 rfl rfl
def dX3_gainersBy_91 := dk4 (k := 15) bX3_gainersBy_76 rfl
def dX3_gainersBy_92 := dk21 (k := 16) (x := 5) bX3_gainersBy_76 rfl rfl
def dX3_gainersBy_94 := dk120 (k := 18) bX3_gainersBy_76 rfl
def dX3_gainersBy_95 := dk128 (k := 19) bX3_gainersBy_76 rfl
def dX3_gainersBy_96 := dk54 (k := 20) (x := 4) bX3_gainersBy_76 rfl rfl
theorem dX3_gainersBy_98 : decode cX3_gainersBy 98 = .ok (.iinc 5 1, 3) := dk132 (k := 22) bX3_gainersBy_76 rfl rfl (by decide)
theorem bX3_gainersBy_101 : bL cX3_gainersBy 101 [167, 255, 211, 21, 4, 172] := bL_of (by decide +kernel)
def dX3_gainersBy_101 := dk167 (k := 0) (x := (-45)) bX3_gainersBy_101 rfl (by decide)
def dX3_gainersBy_104 := dk21 (k := 3) (x := 4) bX3_gainersBy_101 rfl rfl
def dX3_gainersBy_106 := dk172 (k := 5) bX3_gainersBy_101 rfl
theorem bX3_signersOf_0 : bL cX3_signersOf 0 [27, 28, 2, 130, 126, 62, 3, 54, 4, 21, 4, 16, 8, 162, 0, 99, 29, 54, 5, 3, 54, 6, 21, 6] := bL_of (by decide +kernel)
def dX3_signersOf_0 := dk27 (k := 0) bX3_signersOf_0 rfl
def dX3_signersOf_1 := dk28 (k := 1) bX3_signersOf_0 rfl
def dX3_signersOf_2 := dk2 (k := 2) bX3_signersOf_0 rfl
def dX3_signersOf_3 := dk130 (k := 3) bX3_signersOf_0 rfl
def dX3_signersOf_4 := dk126 (k := 4) bX3_signersOf_0 rfl
def dX3_signersOf_5 := dk62 (k := 5) bX3_signersOf_0 rfl
def dX3_signersOf_6 := dk3 (k := 6) bX3_signersOf_0 rfl
def dX3_signersOf_7 := dk54 (k := 7) (x := 4) bX3_signersOf_0 rfl rfl
def dX3_signersOf_9 := dk21 (k := 9) (x := 4) bX3_signersOf_0 rfl rfl
def dX3_signersOf_11 := dk16 (k := 11) (x := 8) bX3_signersOf_0 rfl (by decide)
def dX3_signersOf_13 := dk162 (k := 13) (x := 99) bX3_signersOf_0 rfl (by decide)
def dX3_signersOf_16 := dk29 (k := 16) bX3_signersOf_0 rfl
def dX3_signersOf_17 := dk54 (k := 17) (x := 5) bX3_signersOf_0 rfl rfl
def dX3_signersOf_19 := dk3 (k := 19) bX3_signersOf_0 rfl
def dX3_signersOf_20 := dk54 (k := 20) (x := 6) bX3_signersOf_0 rfl rfl
def dX3_signersOf_22 := dk21 (k := 22) (x := 6) bX3_signersOf_0 rfl rfl
theorem bX3_signersOf_24 : bL cX3_signersOf 24 [42, 180, 0, 21, 162, 0, 69, 42, 21, 6, 8, 182, 0, 25, 54, 7, 21, 7, 158, 0, 25, 42, 21, 6] := bL_of (by decide +kernel)
def dX3_signersOf_24 := dk42 (k := 0) bX3_signersOf_24 rfl
def dX3_signersOf_25 := dk180 (k := 1) (x := 21) bX3_signersOf_24 rfl rfl
def dX3_signersOf_28 := dk162 (k := 4) (x := 69) bX3_signersOf_24 rfl (by decide)
def dX3_signersOf_31 := dk42 (k := 7) bX3_signersOf_24 rfl
def dX3_signersOf_32 := dk21 (k := 8) (x := 6) bX3_signersOf_24 rfl rfl
def dX3_signersOf_34 := dk8 (k := 10) bX3_signersOf_24 rfl
def dX3_signersOf_35 := dk182 (k := 11) (x := 25) bX3_signersOf_24 rfl rfl
def dX3_signersOf_38 := dk54 (k := 14) (x := 7) bX3_signersOf_24 rfl rfl
def dX3_signersOf_40 := dk21 (k := 16) (x := 7) bX3_signersOf_24 rfl rfl
def dX3_signersOf_42 := dk158 (k := 18) (x := 25) bX3_signersOf_24 rfl (by decide)
def dX3_signersOf_45 := dk42 (k := 21) bX3_signersOf_24 rfl
def dX3_signersOf_46 := dk21 (k := 22) (x := 6) bX3_signersOf_24 rfl rfl
theorem bX3_signersOf_48 : bL cX3_signersOf 48 [16, 6, 182, 0, 25, 29, 126, 184, 0, 43, 21, 7, 161, 0, 7, 4, 167, 0, 4, 3, 54, 8, 21, 8] := bL_of (by decide +kernel)
def dX3_signersOf_48 := dk16 (k := 0) (x := 6) bX3_signersOf_48 rfl (by decide)
def dX3_signersOf_50 := dk182 (k := 2) (x := 25) bX3_signersOf_48 rfl rfl
def dX3_signersOf_53 := dk29 (k := 5) bX3_signersOf_48 rfl
def dX3_signersOf_54 := dk126 (k := 6) bX3_signersOf_48 rfl
def dX3_signersOf_55 := dk184 (k := 7) (x := 43) bX3_signersOf_48 rfl rfl
def dX3_signersOf_58 := dk21 (k := 10) (x := 7) bX3_signersOf_48 rfl rfl
def dX3_signersOf_60 := dk161 (k := 12) (x := 7) bX3_signersOf_48 rfl (by decide)
def dX3_signersOf_63 := dk4 (k := 15) bX3_signersOf_48 rfl
def dX3_signersOf_64 := dk167 (k := 16) (x := 4) bX3_signersOf_48 rfl (by decide)
def dX3_signersOf_67 := dk3 (k := 19) bX3_signersOf_48 rfl
def dX3_signersOf_68 := dk54 (k := 20) (x := 8) bX3_signersOf_48 rfl rfl
def dX3_signersOf_70 := dk21 (k := 22) (x := 8) bX3_signersOf_48 rfl rfl
theorem bX3_signersOf_72 : bL cX3_signersOf 72 [153, 0, 19, 28, 21, 6, 122, 4, 126, 154, 0, 10, 29, 4, 21, 6, 120, 128, 62, 132, 6, 1, 167, 255, 184] := bL_of (by decide +kernel)
def dX3_signersOf_72 := dk153 (k := 0) (x := 19) bX3_signersOf_72 rfl (by decide)
def dX3_signersOf_75 := dk28 (k := 3) bX3_signersOf_72 rfl
def dX3_signersOf_76 := dk21 (k := 4) (x := 6) bX3_signersOf_72 rfl rfl
def dX3_signersOf_78 := dk122 (k := 6) bX3_signersOf_72 rfl
def dX3_signersOf_79 := dk4 (k := 7) bX3_signersOf_72 rfl
def dX3_signersOf_80 := dk126 (k := 8) bX3_signersOf_72 rfl
def dX3_signersOf_81 := dk154 (k := 9) (x := 10) bX3_signersOf_72 rfl (by decide)
def dX3_signersOf_84 := dk29 (k := 12) bX3_signersOf_72 rfl
def dX3_signersOf_85 := dk4 (k := 13) bX3_signersOf_72 rfl
def dX3_signersOf_86 := dk21 (k := 14) (x := 6) bX3_signersOf_72 rfl rfl
def dX3_signersOf_88 := dk120 (k := 16) bX3_signersOf_72 rfl
def dX3_signersOf_89 := dk128 (k := 17) bX3_signersOf_72 rfl
def dX3_signersOf_90 := dk62 (k := 18) bX3_signersOf_72 rfl
theorem dX3_signersOf_91 : decode cX3_signersOf 91 = .ok (.iinc 6 1, 3) := dk132 (k := 19) bX3_signersOf_72 rfl rfl (by decide)
def dX3_signersOf_94 := dk167 (k := 22) (x := (-72)) bX3_signersOf_72 rfl (by decide)
theorem bX3_signersOf_97 : bL cX3_signersOf 97 [29, 21, 5, 160, 0, 6, 167, 0, 9, 132, 4, 1, 167, 255, 156, 29, 172] := bL_of (by decide +kernel)
def dX3_signersOf_97 := dk29 (k := 0) bX3_signersOf_97 rfl
def dX3_signersOf_98 := dk21 (k := 1) (x := 5) bX3_signersOf_97 rfl rfl
def dX3_signersOf_100 := dk160 (k := 3) (x := 6) bX3_signersOf_97 rfl (by decide)
def dX3_signersOf_103 := dk167 (k := 6) (x := 9) bX3_signersOf_97 rfl (by decide)
theorem dX3_signersOf_106 : decode cX3_signersOf 106 = .ok (.iinc 4 1, 3) := dk132 (k := 9) bX3_signersOf_97 rfl rfl (by decide)
def dX3_signersOf_109 := dk167 (k := 12) (x := (-100)) bX3_signersOf_97 rfl (by decide)
def dX3_signersOf_112 := dk29 (k := 15) bX3_signersOf_97 rfl
def dX3_signersOf_113 := dk172 (k := 16) bX3_signersOf_97 rfl
theorem bX3_namesOf_0 : bL cX3_namesOf 0 [3, 61, 3, 62, 29, 42, 180, 0, 21, 162, 0, 27, 27, 29, 122, 4, 126, 4, 160, 0, 12, 28, 42, 29] := bL_of (by decide +kernel)
def dX3_namesOf_0 := dk3 (k := 0) bX3_namesOf_0 rfl
def dX3_namesOf_1 := dk61 (k := 1) bX3_namesOf_0 rfl
def dX3_namesOf_2 := dk3 (k := 2) bX3_namesOf_0 rfl
def dX3_namesOf_3 := dk62 (k := 3) bX3_namesOf_0 rfl
def dX3_namesOf_4 := dk29 (k := 4) bX3_namesOf_0 rfl
def dX3_namesOf_5 := dk42 (k := 5) bX3_namesOf_0 rfl
def dX3_namesOf_6 := dk180 (k := 6) (x := 21) bX3_namesOf_0 rfl rfl
def dX3_namesOf_9 := dk162 (k := 9) (x := 27) bX3_namesOf_0 rfl (by decide)
def dX3_namesOf_12 := dk27 (k := 12) bX3_namesOf_0 rfl
def dX3_namesOf_13 := dk29 (k := 13) bX3_namesOf_0 rfl
def dX3_namesOf_14 := dk122 (k := 14) bX3_namesOf_0 rfl
def dX3_namesOf_15 := dk4 (k := 15) bX3_namesOf_0 rfl
def dX3_namesOf_16 := dk126 (k := 16) bX3_namesOf_0 rfl
def dX3_namesOf_17 := dk4 (k := 17) bX3_namesOf_0 rfl
def dX3_namesOf_18 := dk160 (k := 18) (x := 12) bX3_namesOf_0 rfl (by decide)
def dX3_namesOf_21 := dk28 (k := 21) bX3_namesOf_0 rfl
def dX3_namesOf_22 := dk42 (k := 22) bX3_namesOf_0 rfl
def dX3_namesOf_23 := dk29 (k := 23) bX3_namesOf_0 rfl
theorem bX3_namesOf_24 : bL cX3_namesOf 24 [4, 182, 0, 25, 96, 61, 132, 3, 1, 167, 255, 227, 28, 172] := bL_of (by decide +kernel)
def dX3_namesOf_24 := dk4 (k := 0) bX3_namesOf_24 rfl
def dX3_namesOf_25 := dk182 (k := 1) (x := 25) bX3_namesOf_24 rfl rfl
def dX3_namesOf_28 := dk96 (k := 4) bX3_namesOf_24 rfl
def dX3_namesOf_29 := dk61 (k := 5) bX3_namesOf_24 rfl
theorem dX3_namesOf_30 : decode cX3_namesOf 30 = .ok (.iinc 3 1, 3) := dk132 (k := 6) bX3_namesOf_24 rfl rfl (by decide)
def dX3_namesOf_33 := dk167 (k := 9) (x := (-29)) bX3_namesOf_24 rfl (by decide)
def dX3_namesOf_36 := dk28 (k := 12) bX3_namesOf_24 rfl
def dX3_namesOf_37 := dk172 (k := 13) bX3_namesOf_24 rfl
theorem bX3_isRoll_0 : bL cX3_isRoll 0 [43, 28, 182, 0, 65, 62, 29, 5, 112, 153, 0, 5, 3, 172, 3, 54, 4, 21, 4, 29, 162, 0, 65, 43] := bL_of (by decide +kernel)
def dX3_isRoll_0 := dk43 (k := 0) bX3_isRoll_0 rfl
def dX3_isRoll_1 := dk28 (k := 1) bX3_isRoll_0 rfl
def dX3_isRoll_2 := dk182 (k := 2) (x := 65) bX3_isRoll_0 rfl rfl
def dX3_isRoll_5 := dk62 (k := 5) bX3_isRoll_0 rfl
def dX3_isRoll_6 := dk29 (k := 6) bX3_isRoll_0 rfl
def dX3_isRoll_7 := dk5 (k := 7) bX3_isRoll_0 rfl
def dX3_isRoll_8 := dk112 (k := 8) bX3_isRoll_0 rfl
def dX3_isRoll_9 := dk153 (k := 9) (x := 5) bX3_isRoll_0 rfl (by decide)
def dX3_isRoll_12 := dk3 (k := 12) bX3_isRoll_0 rfl
def dX3_isRoll_13 := dk172 (k := 13) bX3_isRoll_0 rfl
def dX3_isRoll_14 := dk3 (k := 14) bX3_isRoll_0 rfl
def dX3_isRoll_15 := dk54 (k := 15) (x := 4) bX3_isRoll_0 rfl rfl
def dX3_isRoll_17 := dk21 (k := 17) (x := 4) bX3_isRoll_0 rfl rfl
def dX3_isRoll_19 := dk29 (k := 19) bX3_isRoll_0 rfl
def dX3_isRoll_20 := dk162 (k := 20) (x := 65) bX3_isRoll_0 rfl (by decide)
def dX3_isRoll_23 := dk43 (k := 23) bX3_isRoll_0 rfl
theorem bX3_isRoll_24 : bL cX3_isRoll 24 [28, 21, 4, 182, 0, 70, 55, 5, 43, 28, 21, 4, 4, 96, 182, 0, 70, 55, 7, 22, 5, 9, 148, 155, 0, 30] := bL_of (by decide +kernel)
def dX3_isRoll_24 := dk28 (k := 0) bX3_isRoll_24 rfl
def dX3_isRoll_25 := dk21 (k := 1) (x := 4) bX3_isRoll_24 rfl rfl
def dX3_isRoll_27 := dk182 (k := 3) (x := 70) bX3_isRoll_24 rfl rfl
def dX3_isRoll_30 := dk55 (k := 6) (x := 5) bX3_isRoll_24 rfl rfl
def dX3_isRoll_32 := dk43 (k := 8) bX3_isRoll_24 rfl
def dX3_isRoll_33 := dk28 (k := 9) bX3_isRoll_24 rfl
def dX3_isRoll_34 := dk21 (k := 10) (x := 4) bX3_isRoll_24 rfl rfl
def dX3_isRoll_36 := dk4 (k := 12) bX3_isRoll_24 rfl
def dX3_isRoll_37 := dk96 (k := 13) bX3_isRoll_24 rfl
def dX3_isRoll_38 := dk182 (k := 14) (x := 70) bX3_isRoll_24 rfl rfl
def dX3_isRoll_41 := dk55 (k := 17) (x := 7) bX3_isRoll_24 rfl rfl
def dX3_isRoll_43 := dk22 (k := 19) (x := 5) bX3_isRoll_24 rfl rfl
def dX3_isRoll_45 := dk9 (k := 21) bX3_isRoll_24 rfl
def dX3_isRoll_46 := dk148 (k := 22) bX3_isRoll_24 rfl
def dX3_isRoll_47 := dk155 (k := 23) (x := 30) bX3_isRoll_24 rfl (by decide)
theorem bX3_isRoll_50 : bL cX3_isRoll 50 [22, 5, 42, 180, 0, 21, 133, 148, 156, 0, 19, 22, 7, 9, 148, 155, 0, 12, 22, 7, 20, 0, 74, 148] := bL_of (by decide +kernel)
def dX3_isRoll_50 := dk22 (k := 0) (x := 5) bX3_isRoll_50 rfl rfl
def dX3_isRoll_52 := dk42 (k := 2) bX3_isRoll_50 rfl
def dX3_isRoll_53 := dk180 (k := 3) (x := 21) bX3_isRoll_50 rfl rfl
def dX3_isRoll_56 := dk133 (k := 6) bX3_isRoll_50 rfl
def dX3_isRoll_57 := dk148 (k := 7) bX3_isRoll_50 rfl
def dX3_isRoll_58 := dk156 (k := 8) (x := 19) bX3_isRoll_50 rfl (by decide)
def dX3_isRoll_61 := dk22 (k := 11) (x := 7) bX3_isRoll_50 rfl rfl
def dX3_isRoll_63 := dk9 (k := 13) bX3_isRoll_50 rfl
def dX3_isRoll_64 := dk148 (k := 14) bX3_isRoll_50 rfl
def dX3_isRoll_65 := dk155 (k := 15) (x := 12) bX3_isRoll_50 rfl (by decide)
def dX3_isRoll_68 := dk22 (k := 18) (x := 7) bX3_isRoll_50 rfl rfl
def dX3_isRoll_70 := dk20 (k := 20) (x := 74) bX3_isRoll_50 rfl rfl
def dX3_isRoll_73 := dk148 (k := 23) bX3_isRoll_50 rfl
theorem bX3_isRoll_74 : bL cX3_isRoll 74 [158, 0, 5, 3, 172, 132, 4, 2, 167, 255, 191, 4, 172] := bL_of (by decide +kernel)
def dX3_isRoll_74 := dk158 (k := 0) (x := 5) bX3_isRoll_74 rfl (by decide)
def dX3_isRoll_77 := dk3 (k := 3) bX3_isRoll_74 rfl
def dX3_isRoll_78 := dk172 (k := 4) bX3_isRoll_74 rfl
theorem dX3_isRoll_79 : decode cX3_isRoll 79 = .ok (.iinc 4 2, 3) := dk132 (k := 5) bX3_isRoll_74 rfl rfl (by decide)
def dX3_isRoll_82 := dk167 (k := 8) (x := (-65)) bX3_isRoll_74 rfl (by decide)
def dX3_isRoll_85 := dk4 (k := 11) bX3_isRoll_74 rfl
def dX3_isRoll_86 := dk172 (k := 12) bX3_isRoll_74 rfl
theorem bX3_standing_0 : bL cX3_standing 0 [3, 54, 4, 3, 54, 5, 21, 5, 43, 28, 182, 0, 65, 162, 0, 24, 42, 43, 28, 21, 5, 182, 0, 76] := bL_of (by decide +kernel)
def dX3_standing_0 := dk3 (k := 0) bX3_standing_0 rfl
def dX3_standing_1 := dk54 (k := 1) (x := 4) bX3_standing_0 rfl rfl
def dX3_standing_3 := dk3 (k := 3) bX3_standing_0 rfl
def dX3_standing_4 := dk54 (k := 4) (x := 5) bX3_standing_0 rfl rfl
def dX3_standing_6 := dk21 (k := 6) (x := 5) bX3_standing_0 rfl rfl
def dX3_standing_8 := dk43 (k := 8) bX3_standing_0 rfl
def dX3_standing_9 := dk28 (k := 9) bX3_standing_0 rfl
def dX3_standing_10 := dk182 (k := 10) (x := 65) bX3_standing_0 rfl rfl
def dX3_standing_13 := dk162 (k := 13) (x := 24) bX3_standing_0 rfl (by decide)
def dX3_standing_16 := dk42 (k := 16) bX3_standing_0 rfl
def dX3_standing_17 := dk43 (k := 17) bX3_standing_0 rfl
def dX3_standing_18 := dk28 (k := 18) bX3_standing_0 rfl
def dX3_standing_19 := dk21 (k := 19) (x := 5) bX3_standing_0 rfl rfl
def dX3_standing_21 := dk182 (k := 21) (x := 76) bX3_standing_0 rfl rfl
theorem bX3_standing_24 : bL cX3_standing 24 [29, 160, 0, 6, 132, 4, 1, 132, 5, 2, 167, 255, 228, 21, 4, 172] := bL_of (by decide +kernel)
def dX3_standing_24 := dk29 (k := 0) bX3_standing_24 rfl
def dX3_standing_25 := dk160 (k := 1) (x := 6) bX3_standing_24 rfl (by decide)
theorem dX3_standing_28 : decode cX3_standing 28 = .ok (.iinc 4 1, 3) := dk132 (k := 4) bX3_standing_24 rfl rfl (by decide)
theorem dX3_standing_31 : decode cX3_standing 31 = .ok (.iinc 5 2, 3) := dk132 (k := 7) bX3_standing_24 rfl rfl (by decide)
def dX3_standing_34 := dk167 (k := 10) (x := (-28)) bX3_standing_24 rfl (by decide)
def dX3_standing_37 := dk21 (k := 13) (x := 4) bX3_standing_24 rfl rfl
def dX3_standing_39 := dk172 (k := 15) bX3_standing_24 rfl
theorem bX3_howStands_0 : bL cX3_howStands 0 [43, 28, 29, 182, 0, 70, 55, 4, 43, 28, 29, 4, 96, 182, 0, 70, 55, 6, 3, 54, 8, 21, 8, 29] := bL_of (by decide +kernel)
def dX3_howStands_0 := dk43 (k := 0) bX3_howStands_0 rfl
def dX3_howStands_1 := dk28 (k := 1) bX3_howStands_0 rfl
def dX3_howStands_2 := dk29 (k := 2) bX3_howStands_0 rfl
def dX3_howStands_3 := dk182 (k := 3) (x := 70) bX3_howStands_0 rfl rfl
def dX3_howStands_6 := dk55 (k := 6) (x := 4) bX3_howStands_0 rfl rfl
def dX3_howStands_8 := dk43 (k := 8) bX3_howStands_0 rfl
def dX3_howStands_9 := dk28 (k := 9) bX3_howStands_0 rfl
def dX3_howStands_10 := dk29 (k := 10) bX3_howStands_0 rfl
def dX3_howStands_11 := dk4 (k := 11) bX3_howStands_0 rfl
def dX3_howStands_12 := dk96 (k := 12) bX3_howStands_0 rfl
def dX3_howStands_13 := dk182 (k := 13) (x := 70) bX3_howStands_0 rfl rfl
def dX3_howStands_16 := dk55 (k := 16) (x := 6) bX3_howStands_0 rfl rfl
def dX3_howStands_18 := dk3 (k := 18) bX3_howStands_0 rfl
def dX3_howStands_19 := dk54 (k := 19) (x := 8) bX3_howStands_0 rfl rfl
def dX3_howStands_21 := dk21 (k := 21) (x := 8) bX3_howStands_0 rfl rfl
def dX3_howStands_23 := dk29 (k := 23) bX3_howStands_0 rfl
theorem bX3_howStands_24 : bL cX3_howStands 24 [162, 0, 39, 43, 28, 21, 8, 182, 0, 70, 22, 4, 148, 154, 0, 20, 43, 28, 21, 8, 4, 96, 182, 0, 70] := bL_of (by decide +kernel)
def dX3_howStands_24 := dk162 (k := 0) (x := 39) bX3_howStands_24 rfl (by decide)
def dX3_howStands_27 := dk43 (k := 3) bX3_howStands_24 rfl
def dX3_howStands_28 := dk28 (k := 4) bX3_howStands_24 rfl
def dX3_howStands_29 := dk21 (k := 5) (x := 8) bX3_howStands_24 rfl rfl
def dX3_howStands_31 := dk182 (k := 7) (x := 70) bX3_howStands_24 rfl rfl
def dX3_howStands_34 := dk22 (k := 10) (x := 4) bX3_howStands_24 rfl rfl
def dX3_howStands_36 := dk148 (k := 12) bX3_howStands_24 rfl
def dX3_howStands_37 := dk154 (k := 13) (x := 20) bX3_howStands_24 rfl (by decide)
def dX3_howStands_40 := dk43 (k := 16) bX3_howStands_24 rfl
def dX3_howStands_41 := dk28 (k := 17) bX3_howStands_24 rfl
def dX3_howStands_42 := dk21 (k := 18) (x := 8) bX3_howStands_24 rfl rfl
def dX3_howStands_44 := dk4 (k := 20) bX3_howStands_24 rfl
def dX3_howStands_45 := dk96 (k := 21) bX3_howStands_24 rfl
def dX3_howStands_46 := dk182 (k := 22) (x := 70) bX3_howStands_24 rfl rfl
theorem bX3_howStands_49 : bL cX3_howStands 49 [22, 6, 148, 154, 0, 5, 4, 172, 132, 8, 2, 167, 255, 217, 22, 6, 42, 22, 4, 136, 4, 182, 0, 25] := bL_of (by decide +kernel)
def dX3_howStands_49 := dk22 (k := 0) (x := 6) bX3_howStands_49 rfl rfl
def dX3_howStands_51 := dk148 (k := 2) bX3_howStands_49 rfl
def dX3_howStands_52 := dk154 (k := 3) (x := 5) bX3_howStands_49 rfl (by decide)
def dX3_howStands_55 := dk4 (k := 6) bX3_howStands_49 rfl
def dX3_howStands_56 := dk172 (k := 7) bX3_howStands_49 rfl
theorem dX3_howStands_57 : decode cX3_howStands 57 = .ok (.iinc 8 2, 3) := dk132 (k := 8) bX3_howStands_49 rfl rfl (by decide)
def dX3_howStands_60 := dk167 (k := 11) (x := (-39)) bX3_howStands_49 rfl (by decide)
def dX3_howStands_63 := dk22 (k := 14) (x := 6) bX3_howStands_49 rfl rfl
def dX3_howStands_65 := dk42 (k := 16) bX3_howStands_49 rfl
def dX3_howStands_66 := dk22 (k := 17) (x := 4) bX3_howStands_49 rfl rfl
def dX3_howStands_68 := dk136 (k := 19) bX3_howStands_49 rfl
def dX3_howStands_69 := dk4 (k := 20) bX3_howStands_49 rfl
def dX3_howStands_70 := dk182 (k := 21) (x := 25) bX3_howStands_49 rfl rfl
theorem bX3_howStands_73 : bL cX3_howStands 73 [133, 148, 156, 0, 7, 3, 167, 0, 4, 5, 172] := bL_of (by decide +kernel)
def dX3_howStands_73 := dk133 (k := 0) bX3_howStands_73 rfl
def dX3_howStands_74 := dk148 (k := 1) bX3_howStands_73 rfl
def dX3_howStands_75 := dk156 (k := 2) (x := 7) bX3_howStands_73 rfl (by decide)
def dX3_howStands_78 := dk3 (k := 5) bX3_howStands_73 rfl
def dX3_howStands_79 := dk167 (k := 6) (x := 4) bX3_howStands_73 rfl (by decide)
def dX3_howStands_82 := dk5 (k := 9) bX3_howStands_73 rfl
def dX3_howStands_83 := dk172 (k := 10) bX3_howStands_73 rfl
theorem bX4_init_0 : bL cX4_init 0 [42, 183, 0, 3, 42, 17, 25, 161] := bL_of (by decide +kernel)
def dX4_init_0 := dk42 (k := 0) bX4_init_0 rfl
def dX4_init_1 := dk183 (k := 1) (x := 3) bX4_init_0 rfl rfl
def dX4_init_4 := dk42 (k := 4) bX4_init_0 rfl
def dX4_init_5 := dk17 (k := 5) (x := 6561) bX4_init_0 rfl (by decide)
theorem dX4_init_8 : decode cX4_init 8 = .ok (.newarray .byte, 2) := by decide +kernel
theorem bX4_init_10 : bL cX4_init 10 [181, 0, 9, 42, 43, 181, 0, 15, 177] := bL_of (by decide +kernel)
def dX4_init_10 := dk181 (k := 0) (x := 9) bX4_init_10 rfl rfl
def dX4_init_13 := dk42 (k := 3) bX4_init_10 rfl
def dX4_init_14 := dk43 (k := 4) bX4_init_10 rfl
def dX4_init_15 := dk181 (k := 5) (x := 15) bX4_init_10 rfl rfl
def dX4_init_18 := dk177 (k := 8) bX4_init_10 rfl
theorem bX4_signersOfWon_0 : bL cX4_signersOfWon 0 [42, 180, 0, 15, 180, 0, 19, 42, 180, 0, 15, 180, 0, 19, 42, 180, 0, 15, 180, 0, 25, 2, 182, 0, 29] := bL_of (by decide +kernel)
def dX4_signersOfWon_0 := dk42 (k := 0) bX4_signersOfWon_0 rfl
def dX4_signersOfWon_1 := dk180 (k := 1) (x := 15) bX4_signersOfWon_0 rfl rfl
def dX4_signersOfWon_4 := dk180 (k := 4) (x := 19) bX4_signersOfWon_0 rfl rfl
def dX4_signersOfWon_7 := dk42 (k := 7) bX4_signersOfWon_0 rfl
def dX4_signersOfWon_8 := dk180 (k := 8) (x := 15) bX4_signersOfWon_0 rfl rfl
def dX4_signersOfWon_11 := dk180 (k := 11) (x := 19) bX4_signersOfWon_0 rfl rfl
def dX4_signersOfWon_14 := dk42 (k := 14) bX4_signersOfWon_0 rfl
def dX4_signersOfWon_15 := dk180 (k := 15) (x := 15) bX4_signersOfWon_0 rfl rfl
def dX4_signersOfWon_18 := dk180 (k := 18) (x := 25) bX4_signersOfWon_0 rfl rfl
def dX4_signersOfWon_21 := dk2 (k := 21) bX4_signersOfWon_0 rfl
def dX4_signersOfWon_22 := dk182 (k := 22) (x := 29) bX4_signersOfWon_0 rfl rfl
theorem bX4_signersOfWon_25 : bL cX4_signersOfWon 25 [27, 128, 3, 182, 0, 35, 172] := bL_of (by decide +kernel)
def dX4_signersOfWon_25 := dk27 (k := 0) bX4_signersOfWon_25 rfl
def dX4_signersOfWon_26 := dk128 (k := 1) bX4_signersOfWon_25 rfl
def dX4_signersOfWon_27 := dk3 (k := 2) bX4_signersOfWon_25 rfl
def dX4_signersOfWon_28 := dk182 (k := 3) (x := 35) bX4_signersOfWon_25 rfl rfl
def dX4_signersOfWon_31 := dk172 (k := 6) bX4_signersOfWon_25 rfl
theorem bX4_fewestSet_0 : bL cX4_fewestSet 0 [42, 180, 0, 15, 180, 0, 19, 42, 180, 0, 15, 180, 0, 25, 2, 182, 0, 29, 60, 2, 61, 16, 9, 62] := bL_of (by decide +kernel)
def dX4_fewestSet_0 := dk42 (k := 0) bX4_fewestSet_0 rfl
def dX4_fewestSet_1 := dk180 (k := 1) (x := 15) bX4_fewestSet_0 rfl rfl
def dX4_fewestSet_4 := dk180 (k := 4) (x := 19) bX4_fewestSet_0 rfl rfl
def dX4_fewestSet_7 := dk42 (k := 7) bX4_fewestSet_0 rfl
def dX4_fewestSet_8 := dk180 (k := 8) (x := 15) bX4_fewestSet_0 rfl rfl
def dX4_fewestSet_11 := dk180 (k := 11) (x := 25) bX4_fewestSet_0 rfl rfl
def dX4_fewestSet_14 := dk2 (k := 14) bX4_fewestSet_0 rfl
def dX4_fewestSet_15 := dk182 (k := 15) (x := 29) bX4_fewestSet_0 rfl rfl
def dX4_fewestSet_18 := dk60 (k := 18) bX4_fewestSet_0 rfl
def dX4_fewestSet_19 := dk2 (k := 19) bX4_fewestSet_0 rfl
def dX4_fewestSet_20 := dk61 (k := 20) bX4_fewestSet_0 rfl
def dX4_fewestSet_21 := dk16 (k := 21) (x := 9) bX4_fewestSet_0 rfl (by decide)
def dX4_fewestSet_23 := dk62 (k := 23) bX4_fewestSet_0 rfl
theorem bX4_fewestSet_24 : bL cX4_fewestSet 24 [3, 54, 4, 21, 4, 4, 42, 180, 0, 15, 180, 0, 19, 180, 0, 39, 120, 162, 0, 43, 21, 4, 184, 0, 43] := bL_of (by decide +kernel)
def dX4_fewestSet_24 := dk3 (k := 0) bX4_fewestSet_24 rfl
def dX4_fewestSet_25 := dk54 (k := 1) (x := 4) bX4_fewestSet_24 rfl rfl
def dX4_fewestSet_27 := dk21 (k := 3) (x := 4) bX4_fewestSet_24 rfl rfl
def dX4_fewestSet_29 := dk4 (k := 5) bX4_fewestSet_24 rfl
def dX4_fewestSet_30 := dk42 (k := 6) bX4_fewestSet_24 rfl
def dX4_fewestSet_31 := dk180 (k := 7) (x := 15) bX4_fewestSet_24 rfl rfl
def dX4_fewestSet_34 := dk180 (k := 10) (x := 19) bX4_fewestSet_24 rfl rfl
def dX4_fewestSet_37 := dk180 (k := 13) (x := 39) bX4_fewestSet_24 rfl rfl
def dX4_fewestSet_40 := dk120 (k := 16) bX4_fewestSet_24 rfl
def dX4_fewestSet_41 := dk162 (k := 17) (x := 43) bX4_fewestSet_24 rfl (by decide)
def dX4_fewestSet_44 := dk21 (k := 20) (x := 4) bX4_fewestSet_24 rfl rfl
def dX4_fewestSet_46 := dk184 (k := 22) (x := 43) bX4_fewestSet_24 rfl rfl
theorem bX4_fewestSet_49 : bL cX4_fewestSet 49 [54, 5, 21, 5, 29, 162, 0, 24, 42, 180, 0, 15, 27, 21, 4, 128, 3, 182, 0, 49, 153, 0, 9, 21, 5] := bL_of (by decide +kernel)
def dX4_fewestSet_49 := dk54 (k := 0) (x := 5) bX4_fewestSet_49 rfl rfl
def dX4_fewestSet_51 := dk21 (k := 2) (x := 5) bX4_fewestSet_49 rfl rfl
def dX4_fewestSet_53 := dk29 (k := 4) bX4_fewestSet_49 rfl
def dX4_fewestSet_54 := dk162 (k := 5) (x := 24) bX4_fewestSet_49 rfl (by decide)
def dX4_fewestSet_57 := dk42 (k := 8) bX4_fewestSet_49 rfl
def dX4_fewestSet_58 := dk180 (k := 9) (x := 15) bX4_fewestSet_49 rfl rfl
def dX4_fewestSet_61 := dk27 (k := 12) bX4_fewestSet_49 rfl
def dX4_fewestSet_62 := dk21 (k := 13) (x := 4) bX4_fewestSet_49 rfl rfl
def dX4_fewestSet_64 := dk128 (k := 15) bX4_fewestSet_49 rfl
def dX4_fewestSet_65 := dk3 (k := 16) bX4_fewestSet_49 rfl
def dX4_fewestSet_66 := dk182 (k := 17) (x := 49) bX4_fewestSet_49 rfl rfl
def dX4_fewestSet_69 := dk153 (k := 20) (x := 9) bX4_fewestSet_49 rfl (by decide)
def dX4_fewestSet_72 := dk21 (k := 23) (x := 5) bX4_fewestSet_49 rfl rfl
theorem bX4_fewestSet_74 : bL cX4_fewestSet 74 [62, 21, 4, 61, 132, 4, 1, 167, 255, 202, 28, 172] := bL_of (by decide +kernel)
def dX4_fewestSet_74 := dk62 (k := 0) bX4_fewestSet_74 rfl
def dX4_fewestSet_75 := dk21 (k := 1) (x := 4) bX4_fewestSet_74 rfl rfl
def dX4_fewestSet_77 := dk61 (k := 3) bX4_fewestSet_74 rfl
theorem dX4_fewestSet_78 : decode cX4_fewestSet 78 = .ok (.iinc 4 1, 3) := dk132 (k := 4) bX4_fewestSet_74 rfl rfl (by decide)
def dX4_fewestSet_81 := dk167 (k := 7) (x := (-54)) bX4_fewestSet_74 rfl (by decide)
def dX4_fewestSet_84 := dk28 (k := 10) bX4_fewestSet_74 rfl
def dX4_fewestSet_85 := dk172 (k := 11) bX4_fewestSet_74 rfl
theorem bX4_bestBeside_0 : bL cX4_bestBeside 0 [42, 180, 0, 15, 180, 0, 19, 42, 180, 0, 15, 180, 0, 25, 2, 182, 0, 29, 27, 128, 61, 2, 62, 42] := bL_of (by decide +kernel)
def dX4_bestBeside_0 := dk42 (k := 0) bX4_bestBeside_0 rfl
def dX4_bestBeside_1 := dk180 (k := 1) (x := 15) bX4_bestBeside_0 rfl rfl
def dX4_bestBeside_4 := dk180 (k := 4) (x := 19) bX4_bestBeside_0 rfl rfl
def dX4_bestBeside_7 := dk42 (k := 7) bX4_bestBeside_0 rfl
def dX4_bestBeside_8 := dk180 (k := 8) (x := 15) bX4_bestBeside_0 rfl rfl
def dX4_bestBeside_11 := dk180 (k := 11) (x := 25) bX4_bestBeside_0 rfl rfl
def dX4_bestBeside_14 := dk2 (k := 14) bX4_bestBeside_0 rfl
def dX4_bestBeside_15 := dk182 (k := 15) (x := 29) bX4_bestBeside_0 rfl rfl
def dX4_bestBeside_18 := dk27 (k := 18) bX4_bestBeside_0 rfl
def dX4_bestBeside_19 := dk128 (k := 19) bX4_bestBeside_0 rfl
def dX4_bestBeside_20 := dk61 (k := 20) bX4_bestBeside_0 rfl
def dX4_bestBeside_21 := dk2 (k := 21) bX4_bestBeside_0 rfl
def dX4_bestBeside_22 := dk62 (k := 22) bX4_bestBeside_0 rfl
def dX4_bestBeside_23 := dk42 (k := 23) bX4_bestBeside_0 rfl
theorem bX4_bestBeside_24 : bL cX4_bestBeside 24 [180, 0, 15, 180, 0, 19, 42, 180, 0, 15, 180, 0, 19, 28, 3, 182, 0, 35, 182, 0, 53, 54, 4, 3] := bL_of (by decide +kernel)
def dX4_bestBeside_24 := dk180 (k := 0) (x := 15) bX4_bestBeside_24 rfl rfl
def dX4_bestBeside_27 := dk180 (k := 3) (x := 19) bX4_bestBeside_24 rfl rfl
def dX4_bestBeside_30 := dk42 (k := 6) bX4_bestBeside_24 rfl
def dX4_bestBeside_31 := dk180 (k := 7) (x := 15) bX4_bestBeside_24 rfl rfl
def dX4_bestBeside_34 := dk180 (k := 10) (x := 19) bX4_bestBeside_24 rfl rfl
def dX4_bestBeside_37 := dk28 (k := 13) bX4_bestBeside_24 rfl
def dX4_bestBeside_38 := dk3 (k := 14) bX4_bestBeside_24 rfl
def dX4_bestBeside_39 := dk182 (k := 15) (x := 35) bX4_bestBeside_24 rfl rfl
def dX4_bestBeside_42 := dk182 (k := 18) (x := 53) bX4_bestBeside_24 rfl rfl
def dX4_bestBeside_45 := dk54 (k := 21) (x := 4) bX4_bestBeside_24 rfl rfl
def dX4_bestBeside_47 := dk3 (k := 23) bX4_bestBeside_24 rfl
theorem bX4_bestBeside_48 : bL cX4_bestBeside 48 [54, 5, 21, 5, 42, 180, 0, 15, 180, 0, 19, 180, 0, 39, 162, 0, 52, 42, 180, 0, 15, 180, 0, 19] := bL_of (by decide +kernel)
def dX4_bestBeside_48 := dk54 (k := 0) (x := 5) bX4_bestBeside_48 rfl rfl
def dX4_bestBeside_50 := dk21 (k := 2) (x := 5) bX4_bestBeside_48 rfl rfl
def dX4_bestBeside_52 := dk42 (k := 4) bX4_bestBeside_48 rfl
def dX4_bestBeside_53 := dk180 (k := 5) (x := 15) bX4_bestBeside_48 rfl rfl
def dX4_bestBeside_56 := dk180 (k := 8) (x := 19) bX4_bestBeside_48 rfl rfl
def dX4_bestBeside_59 := dk180 (k := 11) (x := 39) bX4_bestBeside_48 rfl rfl
def dX4_bestBeside_62 := dk162 (k := 14) (x := 52) bX4_bestBeside_48 rfl (by decide)
def dX4_bestBeside_65 := dk42 (k := 17) bX4_bestBeside_48 rfl
def dX4_bestBeside_66 := dk180 (k := 18) (x := 15) bX4_bestBeside_48 rfl rfl
def dX4_bestBeside_69 := dk180 (k := 21) (x := 19) bX4_bestBeside_48 rfl rfl
theorem bX4_bestBeside_72 : bL cX4_bestBeside 72 [42, 180, 0, 15, 180, 0, 19, 28, 4, 21, 5, 120, 128, 3, 182, 0, 35, 182, 0, 53, 54, 6, 21, 6] := bL_of (by decide +kernel)
def dX4_bestBeside_72 := dk42 (k := 0) bX4_bestBeside_72 rfl
def dX4_bestBeside_73 := dk180 (k := 1) (x := 15) bX4_bestBeside_72 rfl rfl
def dX4_bestBeside_76 := dk180 (k := 4) (x := 19) bX4_bestBeside_72 rfl rfl
def dX4_bestBeside_79 := dk28 (k := 7) bX4_bestBeside_72 rfl
def dX4_bestBeside_80 := dk4 (k := 8) bX4_bestBeside_72 rfl
def dX4_bestBeside_81 := dk21 (k := 9) (x := 5) bX4_bestBeside_72 rfl rfl
def dX4_bestBeside_83 := dk120 (k := 11) bX4_bestBeside_72 rfl
def dX4_bestBeside_84 := dk128 (k := 12) bX4_bestBeside_72 rfl
def dX4_bestBeside_85 := dk3 (k := 13) bX4_bestBeside_72 rfl
def dX4_bestBeside_86 := dk182 (k := 14) (x := 35) bX4_bestBeside_72 rfl rfl
def dX4_bestBeside_89 := dk182 (k := 17) (x := 53) bX4_bestBeside_72 rfl rfl
def dX4_bestBeside_92 := dk54 (k := 20) (x := 6) bX4_bestBeside_72 rfl rfl
def dX4_bestBeside_94 := dk21 (k := 22) (x := 6) bX4_bestBeside_72 rfl rfl
theorem bX4_bestBeside_96 : bL cX4_bestBeside 96 [21, 4, 164, 0, 10, 21, 6, 54, 4, 21, 5, 62, 132, 5, 1, 167, 255, 195, 29, 172] := bL_of (by decide +kernel)
def dX4_bestBeside_96 := dk21 (k := 0) (x := 4) bX4_bestBeside_96 rfl rfl
def dX4_bestBeside_98 := dk164 (k := 2) (x := 10) bX4_bestBeside_96 rfl (by decide)
def dX4_bestBeside_101 := dk21 (k := 5) (x := 6) bX4_bestBeside_96 rfl rfl
def dX4_bestBeside_103 := dk54 (k := 7) (x := 4) bX4_bestBeside_96 rfl rfl
def dX4_bestBeside_105 := dk21 (k := 9) (x := 5) bX4_bestBeside_96 rfl rfl
def dX4_bestBeside_107 := dk62 (k := 11) bX4_bestBeside_96 rfl
theorem dX4_bestBeside_108 : decode cX4_bestBeside 108 = .ok (.iinc 5 1, 3) := dk132 (k := 12) bX4_bestBeside_96 rfl rfl (by decide)
def dX4_bestBeside_111 := dk167 (k := 15) (x := (-61)) bX4_bestBeside_96 rfl (by decide)
def dX4_bestBeside_114 := dk29 (k := 18) bX4_bestBeside_96 rfl
def dX4_bestBeside_115 := dk172 (k := 19) bX4_bestBeside_96 rfl
theorem bX4_neededFolk_0 : bL cX4_neededFolk 0 [42, 180, 0, 15, 180, 0, 19, 42, 180, 0, 15, 180, 0, 25, 2, 182, 0, 29, 60, 42, 180, 0, 15, 27] := bL_of (by decide +kernel)
def dX4_neededFolk_0 := dk42 (k := 0) bX4_neededFolk_0 rfl
def dX4_neededFolk_1 := dk180 (k := 1) (x := 15) bX4_neededFolk_0 rfl rfl
def dX4_neededFolk_4 := dk180 (k := 4) (x := 19) bX4_neededFolk_0 rfl rfl
def dX4_neededFolk_7 := dk42 (k := 7) bX4_neededFolk_0 rfl
def dX4_neededFolk_8 := dk180 (k := 8) (x := 15) bX4_neededFolk_0 rfl rfl
def dX4_neededFolk_11 := dk180 (k := 11) (x := 25) bX4_neededFolk_0 rfl rfl
def dX4_neededFolk_14 := dk2 (k := 14) bX4_neededFolk_0 rfl
def dX4_neededFolk_15 := dk182 (k := 15) (x := 29) bX4_neededFolk_0 rfl rfl
def dX4_neededFolk_18 := dk60 (k := 18) bX4_neededFolk_0 rfl
def dX4_neededFolk_19 := dk42 (k := 19) bX4_neededFolk_0 rfl
def dX4_neededFolk_20 := dk180 (k := 20) (x := 15) bX4_neededFolk_0 rfl rfl
def dX4_neededFolk_23 := dk27 (k := 23) bX4_neededFolk_0 rfl
theorem bX4_neededFolk_24 : bL cX4_neededFolk 24 [3, 182, 0, 49, 154, 0, 5, 3, 172, 3, 61, 3, 62, 29, 42, 180, 0, 15, 180, 0, 19, 180, 0, 39] := bL_of (by decide +kernel)
def dX4_neededFolk_24 := dk3 (k := 0) bX4_neededFolk_24 rfl
def dX4_neededFolk_25 := dk182 (k := 1) (x := 49) bX4_neededFolk_24 rfl rfl
def dX4_neededFolk_28 := dk154 (k := 4) (x := 5) bX4_neededFolk_24 rfl (by decide)
def dX4_neededFolk_31 := dk3 (k := 7) bX4_neededFolk_24 rfl
def dX4_neededFolk_32 := dk172 (k := 8) bX4_neededFolk_24 rfl
def dX4_neededFolk_33 := dk3 (k := 9) bX4_neededFolk_24 rfl
def dX4_neededFolk_34 := dk61 (k := 10) bX4_neededFolk_24 rfl
def dX4_neededFolk_35 := dk3 (k := 11) bX4_neededFolk_24 rfl
def dX4_neededFolk_36 := dk62 (k := 12) bX4_neededFolk_24 rfl
def dX4_neededFolk_37 := dk29 (k := 13) bX4_neededFolk_24 rfl
def dX4_neededFolk_38 := dk42 (k := 14) bX4_neededFolk_24 rfl
def dX4_neededFolk_39 := dk180 (k := 15) (x := 15) bX4_neededFolk_24 rfl rfl
def dX4_neededFolk_42 := dk180 (k := 18) (x := 19) bX4_neededFolk_24 rfl rfl
def dX4_neededFolk_45 := dk180 (k := 21) (x := 39) bX4_neededFolk_24 rfl rfl
theorem bX4_neededFolk_48 : bL cX4_neededFolk 48 [162, 0, 29, 42, 180, 0, 15, 27, 4, 29, 120, 182, 0, 49, 154, 0, 9, 28, 4, 29, 120, 128, 61, 132, 3, 1] := bL_of (by decide +kernel)
def dX4_neededFolk_48 := dk162 (k := 0) (x := 29) bX4_neededFolk_48 rfl (by decide)
def dX4_neededFolk_51 := dk42 (k := 3) bX4_neededFolk_48 rfl
def dX4_neededFolk_52 := dk180 (k := 4) (x := 15) bX4_neededFolk_48 rfl rfl
def dX4_neededFolk_55 := dk27 (k := 7) bX4_neededFolk_48 rfl
def dX4_neededFolk_56 := dk4 (k := 8) bX4_neededFolk_48 rfl
def dX4_neededFolk_57 := dk29 (k := 9) bX4_neededFolk_48 rfl
def dX4_neededFolk_58 := dk120 (k := 10) bX4_neededFolk_48 rfl
def dX4_neededFolk_59 := dk182 (k := 11) (x := 49) bX4_neededFolk_48 rfl rfl
def dX4_neededFolk_62 := dk154 (k := 14) (x := 9) bX4_neededFolk_48 rfl (by decide)
def dX4_neededFolk_65 := dk28 (k := 17) bX4_neededFolk_48 rfl
def dX4_neededFolk_66 := dk4 (k := 18) bX4_neededFolk_48 rfl
def dX4_neededFolk_67 := dk29 (k := 19) bX4_neededFolk_48 rfl
def dX4_neededFolk_68 := dk120 (k := 20) bX4_neededFolk_48 rfl
def dX4_neededFolk_69 := dk128 (k := 21) bX4_neededFolk_48 rfl
def dX4_neededFolk_70 := dk61 (k := 22) bX4_neededFolk_48 rfl
theorem dX4_neededFolk_71 : decode cX4_neededFolk 71 = .ok (.iinc 3 1, 3) := dk132 (k := 23) bX4_neededFolk_48 rfl rfl (by decide)
theorem bX4_neededFolk_74 : bL cX4_neededFolk 74 [167, 255, 219, 28, 172] := bL_of (by decide +kernel)
def dX4_neededFolk_74 := dk167 (k := 0) (x := (-37)) bX4_neededFolk_74 rfl (by decide)
def dX4_neededFolk_77 := dk28 (k := 3) bX4_neededFolk_74 rfl
def dX4_neededFolk_78 := dk172 (k := 4) bX4_neededFolk_74 rfl
theorem bX4_playOut_0 : bL cX4_playOut 0 [42, 27, 28, 182, 0, 56, 42, 3, 3, 3, 3, 182, 0, 60, 172] := bL_of (by decide +kernel)
def dX4_playOut_0 := dk42 (k := 0) bX4_playOut_0 rfl
def dX4_playOut_1 := dk27 (k := 1) bX4_playOut_0 rfl
def dX4_playOut_2 := dk28 (k := 2) bX4_playOut_0 rfl
def dX4_playOut_3 := dk182 (k := 3) (x := 56) bX4_playOut_0 rfl rfl
def dX4_playOut_6 := dk42 (k := 6) bX4_playOut_0 rfl
def dX4_playOut_7 := dk3 (k := 7) bX4_playOut_0 rfl
def dX4_playOut_8 := dk3 (k := 8) bX4_playOut_0 rfl
def dX4_playOut_9 := dk3 (k := 9) bX4_playOut_0 rfl
def dX4_playOut_10 := dk3 (k := 10) bX4_playOut_0 rfl
def dX4_playOut_11 := dk182 (k := 11) (x := 60) bX4_playOut_0 rfl rfl
def dX4_playOut_14 := dk172 (k := 14) bX4_playOut_0 rfl
theorem bX4_firstMove_0 : bL cX4_firstMove 0 [27, 153, 0, 16, 42, 180, 0, 15, 180, 0, 19, 180, 0, 39, 154, 0, 5, 2, 172, 42, 27, 28, 182, 0, 56] := bL_of (by decide +kernel)
def dX4_firstMove_0 := dk27 (k := 0) bX4_firstMove_0 rfl
def dX4_firstMove_1 := dk153 (k := 1) (x := 16) bX4_firstMove_0 rfl (by decide)
def dX4_firstMove_4 := dk42 (k := 4) bX4_firstMove_0 rfl
def dX4_firstMove_5 := dk180 (k := 5) (x := 15) bX4_firstMove_0 rfl rfl
def dX4_firstMove_8 := dk180 (k := 8) (x := 19) bX4_firstMove_0 rfl rfl
def dX4_firstMove_11 := dk180 (k := 11) (x := 39) bX4_firstMove_0 rfl rfl
def dX4_firstMove_14 := dk154 (k := 14) (x := 5) bX4_firstMove_0 rfl (by decide)
def dX4_firstMove_17 := dk2 (k := 17) bX4_firstMove_0 rfl
def dX4_firstMove_18 := dk172 (k := 18) bX4_firstMove_0 rfl
def dX4_firstMove_19 := dk42 (k := 19) bX4_firstMove_0 rfl
def dX4_firstMove_20 := dk27 (k := 20) bX4_firstMove_0 rfl
def dX4_firstMove_21 := dk28 (k := 21) bX4_firstMove_0 rfl
def dX4_firstMove_22 := dk182 (k := 22) (x := 56) bX4_firstMove_0 rfl rfl
theorem bX4_firstMove_25 : bL cX4_firstMove 25 [28, 154, 0, 7, 4, 167, 0, 4, 3, 62, 3, 54, 4, 21, 4, 42, 180, 0, 15, 180, 0, 19, 180, 0, 39] := bL_of (by decide +kernel)
def dX4_firstMove_25 := dk28 (k := 0) bX4_firstMove_25 rfl
def dX4_firstMove_26 := dk154 (k := 1) (x := 7) bX4_firstMove_25 rfl (by decide)
def dX4_firstMove_29 := dk4 (k := 4) bX4_firstMove_25 rfl
def dX4_firstMove_30 := dk167 (k := 5) (x := 4) bX4_firstMove_25 rfl (by decide)
def dX4_firstMove_33 := dk3 (k := 8) bX4_firstMove_25 rfl
def dX4_firstMove_34 := dk62 (k := 9) bX4_firstMove_25 rfl
def dX4_firstMove_35 := dk3 (k := 10) bX4_firstMove_25 rfl
def dX4_firstMove_36 := dk54 (k := 11) (x := 4) bX4_firstMove_25 rfl rfl
def dX4_firstMove_38 := dk21 (k := 13) (x := 4) bX4_firstMove_25 rfl rfl
def dX4_firstMove_40 := dk42 (k := 15) bX4_firstMove_25 rfl
def dX4_firstMove_41 := dk180 (k := 16) (x := 15) bX4_firstMove_25 rfl rfl
def dX4_firstMove_44 := dk180 (k := 19) (x := 19) bX4_firstMove_25 rfl rfl
def dX4_firstMove_47 := dk180 (k := 22) (x := 39) bX4_firstMove_25 rfl rfl
theorem bX4_firstMove_50 : bL cX4_firstMove 50 [162, 0, 26, 42, 21, 4, 3, 3, 3, 3, 182, 0, 64, 29, 160, 0, 6, 21, 4, 172, 132, 4, 1, 167, 255, 221] := bL_of (by decide +kernel)
def dX4_firstMove_50 := dk162 (k := 0) (x := 26) bX4_firstMove_50 rfl (by decide)
def dX4_firstMove_53 := dk42 (k := 3) bX4_firstMove_50 rfl
def dX4_firstMove_54 := dk21 (k := 4) (x := 4) bX4_firstMove_50 rfl rfl
def dX4_firstMove_56 := dk3 (k := 6) bX4_firstMove_50 rfl
def dX4_firstMove_57 := dk3 (k := 7) bX4_firstMove_50 rfl
def dX4_firstMove_58 := dk3 (k := 8) bX4_firstMove_50 rfl
def dX4_firstMove_59 := dk3 (k := 9) bX4_firstMove_50 rfl
def dX4_firstMove_60 := dk182 (k := 10) (x := 64) bX4_firstMove_50 rfl rfl
def dX4_firstMove_63 := dk29 (k := 13) bX4_firstMove_50 rfl
def dX4_firstMove_64 := dk160 (k := 14) (x := 6) bX4_firstMove_50 rfl (by decide)
def dX4_firstMove_67 := dk21 (k := 17) (x := 4) bX4_firstMove_50 rfl rfl
def dX4_firstMove_69 := dk172 (k := 19) bX4_firstMove_50 rfl
theorem dX4_firstMove_70 : decode cX4_firstMove 70 = .ok (.iinc 4 1, 3) := dk132 (k := 20) bX4_firstMove_50 rfl rfl (by decide)
def dX4_firstMove_73 := dk167 (k := 23) (x := (-35)) bX4_firstMove_50 rfl (by decide)
theorem bX4_firstMove_76 : bL cX4_firstMove 76 [3, 172] := bL_of (by decide +kernel)
def dX4_firstMove_76 := dk3 (k := 0) bX4_firstMove_76 rfl
def dX4_firstMove_77 := dk172 (k := 1) bX4_firstMove_76 rfl
theorem bX4_begin_0 : bL cX4_begin 0 [42, 42, 180, 0, 15, 180, 0, 19, 42, 180, 0, 15, 180, 0, 25, 2, 182, 0, 29, 181, 0, 68, 42, 5] := bL_of (by decide +kernel)
def dX4_begin_0 := dk42 (k := 0) bX4_begin_0 rfl
def dX4_begin_1 := dk42 (k := 1) bX4_begin_0 rfl
def dX4_begin_2 := dk180 (k := 2) (x := 15) bX4_begin_0 rfl rfl
def dX4_begin_5 := dk180 (k := 5) (x := 19) bX4_begin_0 rfl rfl
def dX4_begin_8 := dk42 (k := 8) bX4_begin_0 rfl
def dX4_begin_9 := dk180 (k := 9) (x := 15) bX4_begin_0 rfl rfl
def dX4_begin_12 := dk180 (k := 12) (x := 25) bX4_begin_0 rfl rfl
def dX4_begin_15 := dk2 (k := 15) bX4_begin_0 rfl
def dX4_begin_16 := dk182 (k := 16) (x := 29) bX4_begin_0 rfl rfl
def dX4_begin_19 := dk181 (k := 19) (x := 68) bX4_begin_0 rfl rfl
def dX4_begin_22 := dk42 (k := 22) bX4_begin_0 rfl
def dX4_begin_23 := dk5 (k := 23) bX4_begin_0 rfl
theorem bX4_begin_24 : bL cX4_begin 24 [27, 104, 181, 0, 71, 42, 28, 181, 0, 74, 3, 62, 29, 42, 180, 0, 9, 190, 162, 0, 16, 42, 180, 0, 9] := bL_of (by decide +kernel)
def dX4_begin_24 := dk27 (k := 0) bX4_begin_24 rfl
def dX4_begin_25 := dk104 (k := 1) bX4_begin_24 rfl
def dX4_begin_26 := dk181 (k := 2) (x := 71) bX4_begin_24 rfl rfl
def dX4_begin_29 := dk42 (k := 5) bX4_begin_24 rfl
def dX4_begin_30 := dk28 (k := 6) bX4_begin_24 rfl
def dX4_begin_31 := dk181 (k := 7) (x := 74) bX4_begin_24 rfl rfl
def dX4_begin_34 := dk3 (k := 10) bX4_begin_24 rfl
def dX4_begin_35 := dk62 (k := 11) bX4_begin_24 rfl
def dX4_begin_36 := dk29 (k := 12) bX4_begin_24 rfl
def dX4_begin_37 := dk42 (k := 13) bX4_begin_24 rfl
def dX4_begin_38 := dk180 (k := 14) (x := 9) bX4_begin_24 rfl rfl
def dX4_begin_41 := dk190 (k := 17) bX4_begin_24 rfl
def dX4_begin_42 := dk162 (k := 18) (x := 16) bX4_begin_24 rfl (by decide)
def dX4_begin_45 := dk42 (k := 21) bX4_begin_24 rfl
def dX4_begin_46 := dk180 (k := 22) (x := 9) bX4_begin_24 rfl rfl
theorem bX4_begin_49 : bL cX4_begin 49 [29, 3, 84, 132, 3, 1, 167, 255, 237, 177] := bL_of (by decide +kernel)
def dX4_begin_49 := dk29 (k := 0) bX4_begin_49 rfl
def dX4_begin_50 := dk3 (k := 1) bX4_begin_49 rfl
def dX4_begin_51 := dk84 (k := 2) bX4_begin_49 rfl
theorem dX4_begin_52 : decode cX4_begin 52 = .ok (.iinc 3 1, 3) := dk132 (k := 3) bX4_begin_49 rfl rfl (by decide)
def dX4_begin_55 := dk167 (k := 6) (x := (-19)) bX4_begin_49 rfl (by decide)
def dX4_begin_58 := dk177 (k := 9) bX4_begin_49 rfl
theorem bX4_winsNow_0 : bL cX4_winsNow 0 [27, 42, 180, 0, 74, 96, 4, 126, 154, 0, 7, 4, 167, 0, 4, 3, 172] := bL_of (by decide +kernel)
def dX4_winsNow_0 := dk27 (k := 0) bX4_winsNow_0 rfl
def dX4_winsNow_1 := dk42 (k := 1) bX4_winsNow_0 rfl
def dX4_winsNow_2 := dk180 (k := 2) (x := 74) bX4_winsNow_0 rfl rfl
def dX4_winsNow_5 := dk96 (k := 5) bX4_winsNow_0 rfl
def dX4_winsNow_6 := dk4 (k := 6) bX4_winsNow_0 rfl
def dX4_winsNow_7 := dk126 (k := 7) bX4_winsNow_0 rfl
def dX4_winsNow_8 := dk154 (k := 8) (x := 7) bX4_winsNow_0 rfl (by decide)
def dX4_winsNow_11 := dk4 (k := 11) bX4_winsNow_0 rfl
def dX4_winsNow_12 := dk167 (k := 12) (x := 4) bX4_winsNow_0 rfl (by decide)
def dX4_winsNow_15 := dk3 (k := 15) bX4_winsNow_0 rfl
def dX4_winsNow_16 := dk172 (k := 16) bX4_winsNow_0 rfl
theorem bX4_comesOut_0 : bL cX4_comesOut 0 [27, 28, 128, 4, 42, 180, 0, 15, 180, 0, 19, 180, 0, 39, 120, 4, 100, 160, 0, 7, 4, 167, 0, 4] := bL_of (by decide +kernel)
def dX4_comesOut_0 := dk27 (k := 0) bX4_comesOut_0 rfl
def dX4_comesOut_1 := dk28 (k := 1) bX4_comesOut_0 rfl
def dX4_comesOut_2 := dk128 (k := 2) bX4_comesOut_0 rfl
def dX4_comesOut_3 := dk4 (k := 3) bX4_comesOut_0 rfl
def dX4_comesOut_4 := dk42 (k := 4) bX4_comesOut_0 rfl
def dX4_comesOut_5 := dk180 (k := 5) (x := 15) bX4_comesOut_0 rfl rfl
def dX4_comesOut_8 := dk180 (k := 8) (x := 19) bX4_comesOut_0 rfl rfl
def dX4_comesOut_11 := dk180 (k := 11) (x := 39) bX4_comesOut_0 rfl rfl
def dX4_comesOut_14 := dk120 (k := 14) bX4_comesOut_0 rfl
def dX4_comesOut_15 := dk4 (k := 15) bX4_comesOut_0 rfl
def dX4_comesOut_16 := dk100 (k := 16) bX4_comesOut_0 rfl
def dX4_comesOut_17 := dk160 (k := 17) (x := 7) bX4_comesOut_0 rfl (by decide)
def dX4_comesOut_20 := dk4 (k := 20) bX4_comesOut_0 rfl
def dX4_comesOut_21 := dk167 (k := 21) (x := 4) bX4_comesOut_0 rfl (by decide)
theorem bX4_comesOut_24 : bL cX4_comesOut 24 [3, 54, 5, 21, 5, 154, 0, 26, 29, 42, 180, 0, 71, 162, 0, 18, 21, 4, 155, 0, 13, 21, 4, 42] := bL_of (by decide +kernel)
def dX4_comesOut_24 := dk3 (k := 0) bX4_comesOut_24 rfl
def dX4_comesOut_25 := dk54 (k := 1) (x := 5) bX4_comesOut_24 rfl rfl
def dX4_comesOut_27 := dk21 (k := 3) (x := 5) bX4_comesOut_24 rfl rfl
def dX4_comesOut_29 := dk154 (k := 5) (x := 26) bX4_comesOut_24 rfl (by decide)
def dX4_comesOut_32 := dk29 (k := 8) bX4_comesOut_24 rfl
def dX4_comesOut_33 := dk42 (k := 9) bX4_comesOut_24 rfl
def dX4_comesOut_34 := dk180 (k := 10) (x := 71) bX4_comesOut_24 rfl rfl
def dX4_comesOut_37 := dk162 (k := 13) (x := 18) bX4_comesOut_24 rfl (by decide)
def dX4_comesOut_40 := dk21 (k := 16) (x := 4) bX4_comesOut_24 rfl rfl
def dX4_comesOut_42 := dk155 (k := 18) (x := 13) bX4_comesOut_24 rfl (by decide)
def dX4_comesOut_45 := dk21 (k := 21) (x := 4) bX4_comesOut_24 rfl rfl
def dX4_comesOut_47 := dk42 (k := 23) bX4_comesOut_24 rfl
theorem bX4_comesOut_48 : bL cX4_comesOut 48 [180, 0, 9, 190, 161, 0, 18, 42, 180, 0, 15, 42, 180, 0, 68, 27, 128, 28, 182, 0, 49, 172, 42, 180, 0, 9] := bL_of (by decide +kernel)
def dX4_comesOut_48 := dk180 (k := 0) (x := 9) bX4_comesOut_48 rfl rfl
def dX4_comesOut_51 := dk190 (k := 3) bX4_comesOut_48 rfl
def dX4_comesOut_52 := dk161 (k := 4) (x := 18) bX4_comesOut_48 rfl (by decide)
def dX4_comesOut_55 := dk42 (k := 7) bX4_comesOut_48 rfl
def dX4_comesOut_56 := dk180 (k := 8) (x := 15) bX4_comesOut_48 rfl rfl
def dX4_comesOut_59 := dk42 (k := 11) bX4_comesOut_48 rfl
def dX4_comesOut_60 := dk180 (k := 12) (x := 68) bX4_comesOut_48 rfl rfl
def dX4_comesOut_63 := dk27 (k := 15) bX4_comesOut_48 rfl
def dX4_comesOut_64 := dk128 (k := 16) bX4_comesOut_48 rfl
def dX4_comesOut_65 := dk28 (k := 17) bX4_comesOut_48 rfl
def dX4_comesOut_66 := dk182 (k := 18) (x := 49) bX4_comesOut_48 rfl rfl
def dX4_comesOut_69 := dk172 (k := 21) bX4_comesOut_48 rfl
def dX4_comesOut_70 := dk42 (k := 22) bX4_comesOut_48 rfl
def dX4_comesOut_71 := dk180 (k := 23) (x := 9) bX4_comesOut_48 rfl rfl
theorem bX4_comesOut_74 : bL cX4_comesOut 74 [21, 4, 51, 154, 0, 51, 42, 29, 182, 0, 77, 54, 6, 42, 21, 6, 27, 28, 29, 21, 4, 182, 0, 81] := bL_of (by decide +kernel)
def dX4_comesOut_74 := dk21 (k := 0) (x := 4) bX4_comesOut_74 rfl rfl
def dX4_comesOut_76 := dk51 (k := 2) bX4_comesOut_74 rfl
def dX4_comesOut_77 := dk154 (k := 3) (x := 51) bX4_comesOut_74 rfl (by decide)
def dX4_comesOut_80 := dk42 (k := 6) bX4_comesOut_74 rfl
def dX4_comesOut_81 := dk29 (k := 7) bX4_comesOut_74 rfl
def dX4_comesOut_82 := dk182 (k := 8) (x := 77) bX4_comesOut_74 rfl rfl
def dX4_comesOut_85 := dk54 (k := 11) (x := 6) bX4_comesOut_74 rfl rfl
def dX4_comesOut_87 := dk42 (k := 13) bX4_comesOut_74 rfl
def dX4_comesOut_88 := dk21 (k := 14) (x := 6) bX4_comesOut_74 rfl rfl
def dX4_comesOut_90 := dk27 (k := 16) bX4_comesOut_74 rfl
def dX4_comesOut_91 := dk28 (k := 17) bX4_comesOut_74 rfl
def dX4_comesOut_92 := dk29 (k := 18) bX4_comesOut_74 rfl
def dX4_comesOut_93 := dk21 (k := 19) (x := 4) bX4_comesOut_74 rfl rfl
def dX4_comesOut_95 := dk182 (k := 21) (x := 81) bX4_comesOut_74 rfl rfl
theorem bX4_comesOut_98 : bL cX4_comesOut 98 [21, 6, 160, 0, 7, 4, 167, 0, 4, 3, 54, 7, 42, 180, 0, 9, 21, 4, 21, 7, 153, 0, 7, 4] := bL_of (by decide +kernel)
def dX4_comesOut_98 := dk21 (k := 0) (x := 6) bX4_comesOut_98 rfl rfl
def dX4_comesOut_100 := dk160 (k := 2) (x := 7) bX4_comesOut_98 rfl (by decide)
def dX4_comesOut_103 := dk4 (k := 5) bX4_comesOut_98 rfl
def dX4_comesOut_104 := dk167 (k := 6) (x := 4) bX4_comesOut_98 rfl (by decide)
def dX4_comesOut_107 := dk3 (k := 9) bX4_comesOut_98 rfl
def dX4_comesOut_108 := dk54 (k := 10) (x := 7) bX4_comesOut_98 rfl rfl
def dX4_comesOut_110 := dk42 (k := 12) bX4_comesOut_98 rfl
def dX4_comesOut_111 := dk180 (k := 13) (x := 9) bX4_comesOut_98 rfl rfl
def dX4_comesOut_114 := dk21 (k := 16) (x := 4) bX4_comesOut_98 rfl rfl
def dX4_comesOut_116 := dk21 (k := 18) (x := 7) bX4_comesOut_98 rfl rfl
def dX4_comesOut_118 := dk153 (k := 20) (x := 7) bX4_comesOut_98 rfl (by decide)
def dX4_comesOut_121 := dk4 (k := 23) bX4_comesOut_98 rfl
theorem bX4_comesOut_122 : bL cX4_comesOut 122 [167, 0, 4, 5, 145, 84, 42, 180, 0, 9, 21, 4, 51, 4, 160, 0, 7, 4, 167, 0, 4, 3, 172] := bL_of (by decide +kernel)
def dX4_comesOut_122 := dk167 (k := 0) (x := 4) bX4_comesOut_122 rfl (by decide)
def dX4_comesOut_125 := dk5 (k := 3) bX4_comesOut_122 rfl
def dX4_comesOut_126 := dk145 (k := 4) bX4_comesOut_122 rfl
def dX4_comesOut_127 := dk84 (k := 5) bX4_comesOut_122 rfl
def dX4_comesOut_128 := dk42 (k := 6) bX4_comesOut_122 rfl
def dX4_comesOut_129 := dk180 (k := 7) (x := 9) bX4_comesOut_122 rfl rfl
def dX4_comesOut_132 := dk21 (k := 10) (x := 4) bX4_comesOut_122 rfl rfl
def dX4_comesOut_134 := dk51 (k := 12) bX4_comesOut_122 rfl
def dX4_comesOut_135 := dk4 (k := 13) bX4_comesOut_122 rfl
def dX4_comesOut_136 := dk160 (k := 14) (x := 7) bX4_comesOut_122 rfl (by decide)
def dX4_comesOut_139 := dk4 (k := 17) bX4_comesOut_122 rfl
def dX4_comesOut_140 := dk167 (k := 18) (x := 4) bX4_comesOut_122 rfl (by decide)
def dX4_comesOut_143 := dk3 (k := 21) bX4_comesOut_122 rfl
def dX4_comesOut_144 := dk172 (k := 22) bX4_comesOut_122 rfl
theorem bX4_canReach_0 : bL cX4_canReach 0 [3, 54, 6, 21, 6, 42, 180, 0, 15, 180, 0, 19, 180, 0, 39, 162, 0, 38, 28, 29, 128, 21, 6, 122] := bL_of (by decide +kernel)
def dX4_canReach_0 := dk3 (k := 0) bX4_canReach_0 rfl
def dX4_canReach_1 := dk54 (k := 1) (x := 6) bX4_canReach_0 rfl rfl
def dX4_canReach_3 := dk21 (k := 3) (x := 6) bX4_canReach_0 rfl rfl
def dX4_canReach_5 := dk42 (k := 5) bX4_canReach_0 rfl
def dX4_canReach_6 := dk180 (k := 6) (x := 15) bX4_canReach_0 rfl rfl
def dX4_canReach_9 := dk180 (k := 9) (x := 19) bX4_canReach_0 rfl rfl
def dX4_canReach_12 := dk180 (k := 12) (x := 39) bX4_canReach_0 rfl rfl
def dX4_canReach_15 := dk162 (k := 15) (x := 38) bX4_canReach_0 rfl (by decide)
def dX4_canReach_18 := dk28 (k := 18) bX4_canReach_0 rfl
def dX4_canReach_19 := dk29 (k := 19) bX4_canReach_0 rfl
def dX4_canReach_20 := dk128 (k := 20) bX4_canReach_0 rfl
def dX4_canReach_21 := dk21 (k := 21) (x := 6) bX4_canReach_0 rfl rfl
def dX4_canReach_23 := dk122 (k := 23) bX4_canReach_0 rfl
theorem bX4_canReach_24 : bL cX4_canReach 24 [4, 126, 154, 0, 21, 42, 21, 6, 28, 29, 21, 4, 21, 5, 182, 0, 64, 27, 160, 0, 5, 4, 172, 132, 6, 1] := bL_of (by decide +kernel)
def dX4_canReach_24 := dk4 (k := 0) bX4_canReach_24 rfl
def dX4_canReach_25 := dk126 (k := 1) bX4_canReach_24 rfl
def dX4_canReach_26 := dk154 (k := 2) (x := 21) bX4_canReach_24 rfl (by decide)
def dX4_canReach_29 := dk42 (k := 5) bX4_canReach_24 rfl
def dX4_canReach_30 := dk21 (k := 6) (x := 6) bX4_canReach_24 rfl rfl
def dX4_canReach_32 := dk28 (k := 8) bX4_canReach_24 rfl
def dX4_canReach_33 := dk29 (k := 9) bX4_canReach_24 rfl
def dX4_canReach_34 := dk21 (k := 10) (x := 4) bX4_canReach_24 rfl rfl
def dX4_canReach_36 := dk21 (k := 12) (x := 5) bX4_canReach_24 rfl rfl
def dX4_canReach_38 := dk182 (k := 14) (x := 64) bX4_canReach_24 rfl rfl
def dX4_canReach_41 := dk27 (k := 17) bX4_canReach_24 rfl
def dX4_canReach_42 := dk160 (k := 18) (x := 5) bX4_canReach_24 rfl (by decide)
def dX4_canReach_45 := dk4 (k := 21) bX4_canReach_24 rfl
def dX4_canReach_46 := dk172 (k := 22) bX4_canReach_24 rfl
theorem dX4_canReach_47 : decode cX4_canReach 47 = .ok (.iinc 6 1, 3) := dk132 (k := 23) bX4_canReach_24 rfl rfl (by decide)
theorem bX4_canReach_50 : bL cX4_canReach 50 [167, 255, 209, 3, 172] := bL_of (by decide +kernel)
def dX4_canReach_50 := dk167 (k := 0) (x := (-47)) bX4_canReach_50 rfl (by decide)
def dX4_canReach_53 := dk3 (k := 3) bX4_canReach_50 rfl
def dX4_canReach_54 := dk172 (k := 4) bX4_canReach_50 rfl
theorem bX4_comesOutBy_0 : bL cX4_comesOutBy 0 [27, 155, 0, 19, 27, 178, 0, 85, 190, 162, 0, 11, 178, 0, 85, 27, 46, 167, 0, 4, 3, 54, 6, 42] := bL_of (by decide +kernel)
def dX4_comesOutBy_0 := dk27 (k := 0) bX4_comesOutBy_0 rfl
def dX4_comesOutBy_1 := dk155 (k := 1) (x := 19) bX4_comesOutBy_0 rfl (by decide)
def dX4_comesOutBy_4 := dk27 (k := 4) bX4_comesOutBy_0 rfl
def dX4_comesOutBy_5 := dk178 (k := 5) (x := 85) bX4_comesOutBy_0 rfl rfl
def dX4_comesOutBy_8 := dk190 (k := 8) bX4_comesOutBy_0 rfl
def dX4_comesOutBy_9 := dk162 (k := 9) (x := 11) bX4_comesOutBy_0 rfl (by decide)
def dX4_comesOutBy_12 := dk178 (k := 12) (x := 85) bX4_comesOutBy_0 rfl rfl
def dX4_comesOutBy_15 := dk27 (k := 15) bX4_comesOutBy_0 rfl
def dX4_comesOutBy_16 := dk46 (k := 16) bX4_comesOutBy_0 rfl
def dX4_comesOutBy_17 := dk167 (k := 17) (x := 4) bX4_comesOutBy_0 rfl (by decide)
def dX4_comesOutBy_20 := dk3 (k := 20) bX4_comesOutBy_0 rfl
def dX4_comesOutBy_21 := dk54 (k := 21) (x := 6) bX4_comesOutBy_0 rfl rfl
def dX4_comesOutBy_23 := dk42 (k := 23) bX4_comesOutBy_0 rfl
theorem bX4_comesOutBy_24 : bL cX4_comesOutBy 24 [21, 4, 182, 0, 77, 153, 0, 23, 42, 28, 4, 27, 120, 128, 29, 21, 4, 4, 96, 21, 5, 21, 6, 96] := bL_of (by decide +kernel)
def dX4_comesOutBy_24 := dk21 (k := 0) (x := 4) bX4_comesOutBy_24 rfl rfl
def dX4_comesOutBy_26 := dk182 (k := 2) (x := 77) bX4_comesOutBy_24 rfl rfl
def dX4_comesOutBy_29 := dk153 (k := 5) (x := 23) bX4_comesOutBy_24 rfl (by decide)
def dX4_comesOutBy_32 := dk42 (k := 8) bX4_comesOutBy_24 rfl
def dX4_comesOutBy_33 := dk28 (k := 9) bX4_comesOutBy_24 rfl
def dX4_comesOutBy_34 := dk4 (k := 10) bX4_comesOutBy_24 rfl
def dX4_comesOutBy_35 := dk27 (k := 11) bX4_comesOutBy_24 rfl
def dX4_comesOutBy_36 := dk120 (k := 12) bX4_comesOutBy_24 rfl
def dX4_comesOutBy_37 := dk128 (k := 13) bX4_comesOutBy_24 rfl
def dX4_comesOutBy_38 := dk29 (k := 14) bX4_comesOutBy_24 rfl
def dX4_comesOutBy_39 := dk21 (k := 15) (x := 4) bX4_comesOutBy_24 rfl rfl
def dX4_comesOutBy_41 := dk4 (k := 17) bX4_comesOutBy_24 rfl
def dX4_comesOutBy_42 := dk96 (k := 18) bX4_comesOutBy_24 rfl
def dX4_comesOutBy_43 := dk21 (k := 19) (x := 5) bX4_comesOutBy_24 rfl rfl
def dX4_comesOutBy_45 := dk21 (k := 21) (x := 6) bX4_comesOutBy_24 rfl rfl
def dX4_comesOutBy_47 := dk96 (k := 23) bX4_comesOutBy_24 rfl
theorem bX4_comesOutBy_48 : bL cX4_comesOutBy 48 [182, 0, 60, 172, 42, 28, 29, 4, 27, 120, 128, 21, 4, 4, 96, 21, 5, 5, 21, 6, 104, 96, 182, 0, 60] := bL_of (by decide +kernel)
def dX4_comesOutBy_48 := dk182 (k := 0) (x := 60) bX4_comesOutBy_48 rfl rfl
def dX4_comesOutBy_51 := dk172 (k := 3) bX4_comesOutBy_48 rfl
def dX4_comesOutBy_52 := dk42 (k := 4) bX4_comesOutBy_48 rfl
def dX4_comesOutBy_53 := dk28 (k := 5) bX4_comesOutBy_48 rfl
def dX4_comesOutBy_54 := dk29 (k := 6) bX4_comesOutBy_48 rfl
def dX4_comesOutBy_55 := dk4 (k := 7) bX4_comesOutBy_48 rfl
def dX4_comesOutBy_56 := dk27 (k := 8) bX4_comesOutBy_48 rfl
def dX4_comesOutBy_57 := dk120 (k := 9) bX4_comesOutBy_48 rfl
def dX4_comesOutBy_58 := dk128 (k := 10) bX4_comesOutBy_48 rfl
def dX4_comesOutBy_59 := dk21 (k := 11) (x := 4) bX4_comesOutBy_48 rfl rfl
def dX4_comesOutBy_61 := dk4 (k := 13) bX4_comesOutBy_48 rfl
def dX4_comesOutBy_62 := dk96 (k := 14) bX4_comesOutBy_48 rfl
def dX4_comesOutBy_63 := dk21 (k := 15) (x := 5) bX4_comesOutBy_48 rfl rfl
def dX4_comesOutBy_65 := dk5 (k := 17) bX4_comesOutBy_48 rfl
def dX4_comesOutBy_66 := dk21 (k := 18) (x := 6) bX4_comesOutBy_48 rfl rfl
def dX4_comesOutBy_68 := dk104 (k := 20) bX4_comesOutBy_48 rfl
def dX4_comesOutBy_69 := dk96 (k := 21) bX4_comesOutBy_48 rfl
def dX4_comesOutBy_70 := dk182 (k := 22) (x := 60) bX4_comesOutBy_48 rfl rfl
theorem bX4_comesOutBy_73 : bL cX4_comesOutBy 73 [172] := bL_of (by decide +kernel)
def dX4_comesOutBy_73 := dk172 (k := 0) bX4_comesOutBy_73 rfl
theorem bX5_init_0 : bL cX5_init 0 [42, 183, 0, 3, 42, 187, 0, 9, 89, 183, 0, 11, 181, 0, 12, 42, 2, 181, 0, 18, 42, 43, 181, 0, 22] := bL_of (by decide +kernel)
def dX5_init_0 := dk42 (k := 0) bX5_init_0 rfl
def dX5_init_1 := dk183 (k := 1) (x := 3) bX5_init_0 rfl rfl
def dX5_init_4 := dk42 (k := 4) bX5_init_0 rfl
def dX5_init_5 := dk187 (k := 5) (x := 9) bX5_init_0 rfl rfl
def dX5_init_8 := dk89 (k := 8) bX5_init_0 rfl
def dX5_init_9 := dk183 (k := 9) (x := 11) bX5_init_0 rfl rfl
def dX5_init_12 := dk181 (k := 12) (x := 12) bX5_init_0 rfl rfl
def dX5_init_15 := dk42 (k := 15) bX5_init_0 rfl
def dX5_init_16 := dk2 (k := 16) bX5_init_0 rfl
def dX5_init_17 := dk181 (k := 17) (x := 18) bX5_init_0 rfl rfl
def dX5_init_20 := dk42 (k := 20) bX5_init_0 rfl
def dX5_init_21 := dk43 (k := 21) bX5_init_0 rfl
def dX5_init_22 := dk181 (k := 22) (x := 22) bX5_init_0 rfl rfl
theorem bX5_init_25 : bL cX5_init 25 [177] := bL_of (by decide +kernel)
def dX5_init_25 := dk177 (k := 0) bX5_init_25 rfl
theorem bX5_readAll_0 : bL cX5_readAll 0 [42, 180, 0, 22, 182, 0, 26, 42, 180, 0, 12, 182, 0, 31, 42, 3, 181, 0, 34, 42, 2, 181, 0, 18] := bL_of (by decide +kernel)
def dX5_readAll_0 := dk42 (k := 0) bX5_readAll_0 rfl
def dX5_readAll_1 := dk180 (k := 1) (x := 22) bX5_readAll_0 rfl rfl
def dX5_readAll_4 := dk182 (k := 4) (x := 26) bX5_readAll_0 rfl rfl
def dX5_readAll_7 := dk42 (k := 7) bX5_readAll_0 rfl
def dX5_readAll_8 := dk180 (k := 8) (x := 12) bX5_readAll_0 rfl rfl
def dX5_readAll_11 := dk182 (k := 11) (x := 31) bX5_readAll_0 rfl rfl
def dX5_readAll_14 := dk42 (k := 14) bX5_readAll_0 rfl
def dX5_readAll_15 := dk3 (k := 15) bX5_readAll_0 rfl
def dX5_readAll_16 := dk181 (k := 16) (x := 34) bX5_readAll_0 rfl rfl
def dX5_readAll_19 := dk42 (k := 19) bX5_readAll_0 rfl
def dX5_readAll_20 := dk2 (k := 20) bX5_readAll_0 rfl
def dX5_readAll_21 := dk181 (k := 21) (x := 18) bX5_readAll_0 rfl rfl
theorem bX5_readAll_24 : bL cX5_readAll 24 [42, 3, 181, 0, 37, 42, 182, 0, 40, 3, 60, 27, 17, 3, 132, 162, 0, 38, 42, 180, 0, 43, 153, 0, 31] := bL_of (by decide +kernel)
def dX5_readAll_24 := dk42 (k := 0) bX5_readAll_24 rfl
def dX5_readAll_25 := dk3 (k := 1) bX5_readAll_24 rfl
def dX5_readAll_26 := dk181 (k := 2) (x := 37) bX5_readAll_24 rfl rfl
def dX5_readAll_29 := dk42 (k := 5) bX5_readAll_24 rfl
def dX5_readAll_30 := dk182 (k := 6) (x := 40) bX5_readAll_24 rfl rfl
def dX5_readAll_33 := dk3 (k := 9) bX5_readAll_24 rfl
def dX5_readAll_34 := dk60 (k := 10) bX5_readAll_24 rfl
def dX5_readAll_35 := dk27 (k := 11) bX5_readAll_24 rfl
def dX5_readAll_36 := dk17 (k := 12) (x := 900) bX5_readAll_24 rfl (by decide)
def dX5_readAll_39 := dk162 (k := 15) (x := 38) bX5_readAll_24 rfl (by decide)
def dX5_readAll_42 := dk42 (k := 18) bX5_readAll_24 rfl
def dX5_readAll_43 := dk180 (k := 19) (x := 43) bX5_readAll_24 rfl rfl
def dX5_readAll_46 := dk153 (k := 22) (x := 31) bX5_readAll_24 rfl (by decide)
theorem bX5_readAll_49 : bL cX5_readAll 49 [42, 182, 0, 46, 154, 0, 5, 3, 172, 42, 180, 0, 12, 89, 180, 0, 50, 4, 96, 181, 0, 50, 132, 1, 1] := bL_of (by decide +kernel)
def dX5_readAll_49 := dk42 (k := 0) bX5_readAll_49 rfl
def dX5_readAll_50 := dk182 (k := 1) (x := 46) bX5_readAll_49 rfl rfl
def dX5_readAll_53 := dk154 (k := 4) (x := 5) bX5_readAll_49 rfl (by decide)
def dX5_readAll_56 := dk3 (k := 7) bX5_readAll_49 rfl
def dX5_readAll_57 := dk172 (k := 8) bX5_readAll_49 rfl
def dX5_readAll_58 := dk42 (k := 9) bX5_readAll_49 rfl
def dX5_readAll_59 := dk180 (k := 10) (x := 12) bX5_readAll_49 rfl rfl
def dX5_readAll_62 := dk89 (k := 13) bX5_readAll_49 rfl
def dX5_readAll_63 := dk180 (k := 14) (x := 50) bX5_readAll_49 rfl rfl
def dX5_readAll_66 := dk4 (k := 17) bX5_readAll_49 rfl
def dX5_readAll_67 := dk96 (k := 18) bX5_readAll_49 rfl
def dX5_readAll_68 := dk181 (k := 19) (x := 50) bX5_readAll_49 rfl rfl
theorem dX5_readAll_71 : decode cX5_readAll 71 = .ok (.iinc 1 1, 3) := dk132 (k := 22) bX5_readAll_49 rfl rfl (by decide)
theorem bX5_readAll_74 : bL cX5_readAll 74 [167, 255, 217, 4, 172] := bL_of (by decide +kernel)
def dX5_readAll_74 := dk167 (k := 0) (x := (-39)) bX5_readAll_74 rfl (by decide)
def dX5_readAll_77 := dk4 (k := 3) bX5_readAll_74 rfl
def dX5_readAll_78 := dk172 (k := 4) bX5_readAll_74 rfl
theorem bX5_advance_0 : bL cX5_advance 0 [42, 180, 0, 37, 155, 0, 90, 42, 180, 0, 37, 42, 180, 0, 22, 180, 0, 53, 162, 0, 76, 42, 180, 0, 37] := bL_of (by decide +kernel)
def dX5_advance_0 := dk42 (k := 0) bX5_advance_0 rfl
def dX5_advance_1 := dk180 (k := 1) (x := 37) bX5_advance_0 rfl rfl
def dX5_advance_4 := dk155 (k := 4) (x := 90) bX5_advance_0 rfl (by decide)
def dX5_advance_7 := dk42 (k := 7) bX5_advance_0 rfl
def dX5_advance_8 := dk180 (k := 8) (x := 37) bX5_advance_0 rfl rfl
def dX5_advance_11 := dk42 (k := 11) bX5_advance_0 rfl
def dX5_advance_12 := dk180 (k := 12) (x := 22) bX5_advance_0 rfl rfl
def dX5_advance_15 := dk180 (k := 15) (x := 53) bX5_advance_0 rfl rfl
def dX5_advance_18 := dk162 (k := 18) (x := 76) bX5_advance_0 rfl (by decide)
def dX5_advance_21 := dk42 (k := 21) bX5_advance_0 rfl
def dX5_advance_22 := dk180 (k := 22) (x := 37) bX5_advance_0 rfl rfl
theorem bX5_advance_25 : bL cX5_advance 25 [42, 180, 0, 22, 180, 0, 56, 190, 162, 0, 61, 42, 42, 180, 0, 22, 180, 0, 56, 42, 180, 0, 37, 46] := bL_of (by decide +kernel)
def dX5_advance_25 := dk42 (k := 0) bX5_advance_25 rfl
def dX5_advance_26 := dk180 (k := 1) (x := 22) bX5_advance_25 rfl rfl
def dX5_advance_29 := dk180 (k := 4) (x := 56) bX5_advance_25 rfl rfl
def dX5_advance_32 := dk190 (k := 7) bX5_advance_25 rfl
def dX5_advance_33 := dk162 (k := 8) (x := 61) bX5_advance_25 rfl (by decide)
def dX5_advance_36 := dk42 (k := 11) bX5_advance_25 rfl
def dX5_advance_37 := dk42 (k := 12) bX5_advance_25 rfl
def dX5_advance_38 := dk180 (k := 13) (x := 22) bX5_advance_25 rfl rfl
def dX5_advance_41 := dk180 (k := 16) (x := 56) bX5_advance_25 rfl rfl
def dX5_advance_44 := dk42 (k := 19) bX5_advance_25 rfl
def dX5_advance_45 := dk180 (k := 20) (x := 37) bX5_advance_25 rfl rfl
def dX5_advance_48 := dk46 (k := 23) bX5_advance_25 rfl
theorem bX5_advance_49 : bL cX5_advance 49 [181, 0, 43, 42, 42, 180, 0, 22, 180, 0, 60, 42, 180, 0, 37, 46, 181, 0, 63, 42, 42, 180, 0, 22] := bL_of (by decide +kernel)
def dX5_advance_49 := dk181 (k := 0) (x := 43) bX5_advance_49 rfl rfl
def dX5_advance_52 := dk42 (k := 3) bX5_advance_49 rfl
def dX5_advance_53 := dk42 (k := 4) bX5_advance_49 rfl
def dX5_advance_54 := dk180 (k := 5) (x := 22) bX5_advance_49 rfl rfl
def dX5_advance_57 := dk180 (k := 8) (x := 60) bX5_advance_49 rfl rfl
def dX5_advance_60 := dk42 (k := 11) bX5_advance_49 rfl
def dX5_advance_61 := dk180 (k := 12) (x := 37) bX5_advance_49 rfl rfl
def dX5_advance_64 := dk46 (k := 15) bX5_advance_49 rfl
def dX5_advance_65 := dk181 (k := 16) (x := 63) bX5_advance_49 rfl rfl
def dX5_advance_68 := dk42 (k := 19) bX5_advance_49 rfl
def dX5_advance_69 := dk42 (k := 20) bX5_advance_49 rfl
def dX5_advance_70 := dk180 (k := 21) (x := 22) bX5_advance_49 rfl rfl
theorem bX5_advance_73 : bL cX5_advance 73 [180, 0, 66, 42, 180, 0, 37, 46, 181, 0, 69, 42, 89, 180, 0, 37, 4, 96, 181, 0, 37, 177] := bL_of (by decide +kernel)
def dX5_advance_73 := dk180 (k := 0) (x := 66) bX5_advance_73 rfl rfl
def dX5_advance_76 := dk42 (k := 3) bX5_advance_73 rfl
def dX5_advance_77 := dk180 (k := 4) (x := 37) bX5_advance_73 rfl rfl
def dX5_advance_80 := dk46 (k := 7) bX5_advance_73 rfl
def dX5_advance_81 := dk181 (k := 8) (x := 69) bX5_advance_73 rfl rfl
def dX5_advance_84 := dk42 (k := 11) bX5_advance_73 rfl
def dX5_advance_85 := dk89 (k := 12) bX5_advance_73 rfl
def dX5_advance_86 := dk180 (k := 13) (x := 37) bX5_advance_73 rfl rfl
def dX5_advance_89 := dk4 (k := 16) bX5_advance_73 rfl
def dX5_advance_90 := dk96 (k := 17) bX5_advance_73 rfl
def dX5_advance_91 := dk181 (k := 18) (x := 37) bX5_advance_73 rfl rfl
def dX5_advance_94 := dk177 (k := 21) bX5_advance_73 rfl
theorem bX5_refuse_0 : bL cX5_refuse 0 [42, 27, 181, 0, 34, 42, 42, 180, 0, 63, 181, 0, 18, 3, 172] := bL_of (by decide +kernel)
def dX5_refuse_0 := dk42 (k := 0) bX5_refuse_0 rfl
def dX5_refuse_1 := dk27 (k := 1) bX5_refuse_0 rfl
def dX5_refuse_2 := dk181 (k := 2) (x := 34) bX5_refuse_0 rfl rfl
def dX5_refuse_5 := dk42 (k := 5) bX5_refuse_0 rfl
def dX5_refuse_6 := dk42 (k := 6) bX5_refuse_0 rfl
def dX5_refuse_7 := dk180 (k := 7) (x := 63) bX5_refuse_0 rfl rfl
def dX5_refuse_10 := dk181 (k := 10) (x := 18) bX5_refuse_0 rfl rfl
def dX5_refuse_13 := dk3 (k := 13) bX5_refuse_0 rfl
def dX5_refuse_14 := dk172 (k := 14) bX5_refuse_0 rfl
theorem bX5_pass_0 : bL cX5_pass 0 [42, 180, 0, 43, 27, 159, 0, 9, 42, 4, 182, 0, 72, 172, 42, 182, 0, 40, 4, 172] := bL_of (by decide +kernel)
def dX5_pass_0 := dk42 (k := 0) bX5_pass_0 rfl
def dX5_pass_1 := dk180 (k := 1) (x := 43) bX5_pass_0 rfl rfl
def dX5_pass_4 := dk27 (k := 4) bX5_pass_0 rfl
def dX5_pass_5 := dk159 (k := 5) (x := 9) bX5_pass_0 rfl (by decide)
def dX5_pass_8 := dk42 (k := 8) bX5_pass_0 rfl
def dX5_pass_9 := dk4 (k := 9) bX5_pass_0 rfl
def dX5_pass_10 := dk182 (k := 10) (x := 72) bX5_pass_0 rfl rfl
def dX5_pass_13 := dk172 (k := 13) bX5_pass_0 rfl
def dX5_pass_14 := dk42 (k := 14) bX5_pass_0 rfl
def dX5_pass_15 := dk182 (k := 15) (x := 40) bX5_pass_0 rfl rfl
def dX5_pass_18 := dk4 (k := 18) bX5_pass_0 rfl
def dX5_pass_19 := dk172 (k := 19) bX5_pass_0 rfl
theorem bX5_isNumber_0 : bL cX5_isNumber 0 [42, 180, 0, 43, 6, 159, 0, 9, 42, 4, 182, 0, 72, 172, 42, 180, 0, 69, 27, 161, 0, 11, 42, 180, 0, 69] := bL_of (by decide +kernel)
def dX5_isNumber_0 := dk42 (k := 0) bX5_isNumber_0 rfl
def dX5_isNumber_1 := dk180 (k := 1) (x := 43) bX5_isNumber_0 rfl rfl
def dX5_isNumber_4 := dk6 (k := 4) bX5_isNumber_0 rfl
def dX5_isNumber_5 := dk159 (k := 5) (x := 9) bX5_isNumber_0 rfl (by decide)
def dX5_isNumber_8 := dk42 (k := 8) bX5_isNumber_0 rfl
def dX5_isNumber_9 := dk4 (k := 9) bX5_isNumber_0 rfl
def dX5_isNumber_10 := dk182 (k := 10) (x := 72) bX5_isNumber_0 rfl rfl
def dX5_isNumber_13 := dk172 (k := 13) bX5_isNumber_0 rfl
def dX5_isNumber_14 := dk42 (k := 14) bX5_isNumber_0 rfl
def dX5_isNumber_15 := dk180 (k := 15) (x := 69) bX5_isNumber_0 rfl rfl
def dX5_isNumber_18 := dk27 (k := 18) bX5_isNumber_0 rfl
def dX5_isNumber_19 := dk161 (k := 19) (x := 11) bX5_isNumber_0 rfl (by decide)
def dX5_isNumber_22 := dk42 (k := 22) bX5_isNumber_0 rfl
def dX5_isNumber_23 := dk180 (k := 23) (x := 69) bX5_isNumber_0 rfl rfl
theorem bX5_isNumber_26 : bL cX5_isNumber 26 [28, 164, 0, 11, 42, 5, 182, 0, 72, 153, 0, 7, 4, 167, 0, 4, 3, 172] := bL_of (by decide +kernel)
def dX5_isNumber_26 := dk28 (k := 0) bX5_isNumber_26 rfl
def dX5_isNumber_27 := dk164 (k := 1) (x := 11) bX5_isNumber_26 rfl (by decide)
def dX5_isNumber_30 := dk42 (k := 4) bX5_isNumber_26 rfl
def dX5_isNumber_31 := dk5 (k := 5) bX5_isNumber_26 rfl
def dX5_isNumber_32 := dk182 (k := 6) (x := 72) bX5_isNumber_26 rfl rfl
def dX5_isNumber_35 := dk153 (k := 9) (x := 7) bX5_isNumber_26 rfl (by decide)
def dX5_isNumber_38 := dk4 (k := 12) bX5_isNumber_26 rfl
def dX5_isNumber_39 := dk167 (k := 13) (x := 4) bX5_isNumber_26 rfl (by decide)
def dX5_isNumber_42 := dk3 (k := 16) bX5_isNumber_26 rfl
def dX5_isNumber_43 := dk172 (k := 17) bX5_isNumber_26 rfl
theorem bX5_passNumber_0 : bL cX5_passNumber 0 [42, 180, 0, 69, 60, 42, 182, 0, 40, 27, 172] := bL_of (by decide +kernel)
def dX5_passNumber_0 := dk42 (k := 0) bX5_passNumber_0 rfl
def dX5_passNumber_1 := dk180 (k := 1) (x := 69) bX5_passNumber_0 rfl rfl
def dX5_passNumber_4 := dk60 (k := 4) bX5_passNumber_0 rfl
def dX5_passNumber_5 := dk42 (k := 5) bX5_passNumber_0 rfl
def dX5_passNumber_6 := dk182 (k := 6) (x := 40) bX5_passNumber_0 rfl rfl
def dX5_passNumber_9 := dk27 (k := 9) bX5_passNumber_0 rfl
def dX5_passNumber_10 := dk172 (k := 10) bX5_passNumber_0 rfl
theorem bX5_readLine_0 : bL cX5_readLine 0 [42, 180, 0, 12, 180, 0, 50, 154, 0, 11, 42, 182, 0, 76, 60, 167, 0, 24, 42, 180, 0, 43, 16, 8] := bL_of (by decide +kernel)
def dX5_readLine_0 := dk42 (k := 0) bX5_readLine_0 rfl
def dX5_readLine_1 := dk180 (k := 1) (x := 12) bX5_readLine_0 rfl rfl
def dX5_readLine_4 := dk180 (k := 4) (x := 50) bX5_readLine_0 rfl rfl
def dX5_readLine_7 := dk154 (k := 7) (x := 11) bX5_readLine_0 rfl (by decide)
def dX5_readLine_10 := dk42 (k := 10) bX5_readLine_0 rfl
def dX5_readLine_11 := dk182 (k := 11) (x := 76) bX5_readLine_0 rfl rfl
def dX5_readLine_14 := dk60 (k := 14) bX5_readLine_0 rfl
def dX5_readLine_15 := dk167 (k := 15) (x := 24) bX5_readLine_0 rfl (by decide)
def dX5_readLine_18 := dk42 (k := 18) bX5_readLine_0 rfl
def dX5_readLine_19 := dk180 (k := 19) (x := 43) bX5_readLine_0 rfl rfl
def dX5_readLine_22 := dk16 (k := 22) (x := 8) bX5_readLine_0 rfl (by decide)
theorem bX5_readLine_24 : bL cX5_readLine 24 [160, 0, 10, 42, 182, 0, 79, 167, 0, 7, 42, 182, 0, 82, 60, 27, 153, 0, 15, 42, 5, 182, 0, 85] := bL_of (by decide +kernel)
def dX5_readLine_24 := dk160 (k := 0) (x := 10) bX5_readLine_24 rfl (by decide)
def dX5_readLine_27 := dk42 (k := 3) bX5_readLine_24 rfl
def dX5_readLine_28 := dk182 (k := 4) (x := 79) bX5_readLine_24 rfl rfl
def dX5_readLine_31 := dk167 (k := 7) (x := 7) bX5_readLine_24 rfl (by decide)
def dX5_readLine_34 := dk42 (k := 10) bX5_readLine_24 rfl
def dX5_readLine_35 := dk182 (k := 11) (x := 82) bX5_readLine_24 rfl rfl
def dX5_readLine_38 := dk60 (k := 14) bX5_readLine_24 rfl
def dX5_readLine_39 := dk27 (k := 15) bX5_readLine_24 rfl
def dX5_readLine_40 := dk153 (k := 16) (x := 15) bX5_readLine_24 rfl (by decide)
def dX5_readLine_43 := dk42 (k := 19) bX5_readLine_24 rfl
def dX5_readLine_44 := dk5 (k := 20) bX5_readLine_24 rfl
def dX5_readLine_45 := dk182 (k := 21) (x := 85) bX5_readLine_24 rfl rfl
theorem bX5_readLine_48 : bL cX5_readLine 48 [153, 0, 7, 4, 167, 0, 4, 3, 172] := bL_of (by decide +kernel)
def dX5_readLine_48 := dk153 (k := 0) (x := 7) bX5_readLine_48 rfl (by decide)
def dX5_readLine_51 := dk4 (k := 3) bX5_readLine_48 rfl
def dX5_readLine_52 := dk167 (k := 4) (x := 4) bX5_readLine_48 rfl (by decide)
def dX5_readLine_55 := dk3 (k := 7) bX5_readLine_48 rfl
def dX5_readLine_56 := dk172 (k := 8) bX5_readLine_48 rfl
theorem bX5_readMountain_0 : bL cX5_readMountain 0 [42, 180, 0, 12, 180, 0, 88, 76, 42, 7, 182, 0, 85, 153, 0, 29, 42, 43, 182, 0, 92, 153, 0, 21] := bL_of (by decide +kernel)
def dX5_readMountain_0 := dk42 (k := 0) bX5_readMountain_0 rfl
def dX5_readMountain_1 := dk180 (k := 1) (x := 12) bX5_readMountain_0 rfl rfl
def dX5_readMountain_4 := dk180 (k := 4) (x := 88) bX5_readMountain_0 rfl rfl
def dX5_readMountain_7 := dk76 (k := 7) bX5_readMountain_0 rfl
def dX5_readMountain_8 := dk42 (k := 8) bX5_readMountain_0 rfl
def dX5_readMountain_9 := dk7 (k := 9) bX5_readMountain_0 rfl
def dX5_readMountain_10 := dk182 (k := 10) (x := 85) bX5_readMountain_0 rfl rfl
def dX5_readMountain_13 := dk153 (k := 13) (x := 29) bX5_readMountain_0 rfl (by decide)
def dX5_readMountain_16 := dk42 (k := 16) bX5_readMountain_0 rfl
def dX5_readMountain_17 := dk43 (k := 17) bX5_readMountain_0 rfl
def dX5_readMountain_18 := dk182 (k := 18) (x := 92) bX5_readMountain_0 rfl rfl
def dX5_readMountain_21 := dk153 (k := 21) (x := 21) bX5_readMountain_0 rfl (by decide)
theorem bX5_readMountain_24 : bL cX5_readMountain 24 [42, 8, 182, 0, 85, 153, 0, 13, 42, 3, 16, 40, 182, 0, 96, 154, 0, 5, 3, 172, 43, 42, 182, 0, 100] := bL_of (by decide +kernel)
def dX5_readMountain_24 := dk42 (k := 0) bX5_readMountain_24 rfl
def dX5_readMountain_25 := dk8 (k := 1) bX5_readMountain_24 rfl
def dX5_readMountain_26 := dk182 (k := 2) (x := 85) bX5_readMountain_24 rfl rfl
def dX5_readMountain_29 := dk153 (k := 5) (x := 13) bX5_readMountain_24 rfl (by decide)
def dX5_readMountain_32 := dk42 (k := 8) bX5_readMountain_24 rfl
def dX5_readMountain_33 := dk3 (k := 9) bX5_readMountain_24 rfl
def dX5_readMountain_34 := dk16 (k := 10) (x := 40) bX5_readMountain_24 rfl (by decide)
def dX5_readMountain_36 := dk182 (k := 12) (x := 96) bX5_readMountain_24 rfl rfl
def dX5_readMountain_39 := dk154 (k := 15) (x := 5) bX5_readMountain_24 rfl (by decide)
def dX5_readMountain_42 := dk3 (k := 18) bX5_readMountain_24 rfl
def dX5_readMountain_43 := dk172 (k := 19) bX5_readMountain_24 rfl
def dX5_readMountain_44 := dk43 (k := 20) bX5_readMountain_24 rfl
def dX5_readMountain_45 := dk42 (k := 21) bX5_readMountain_24 rfl
def dX5_readMountain_46 := dk182 (k := 22) (x := 100) bX5_readMountain_24 rfl rfl
theorem bX5_readMountain_49 : bL cX5_readMountain 49 [181, 0, 104, 42, 16, 6, 182, 0, 85, 153, 0, 13, 42, 4, 16, 40, 182, 0, 96, 154, 0, 5, 3, 172] := bL_of (by decide +kernel)
def dX5_readMountain_49 := dk181 (k := 0) (x := 104) bX5_readMountain_49 rfl rfl
def dX5_readMountain_52 := dk42 (k := 3) bX5_readMountain_49 rfl
def dX5_readMountain_53 := dk16 (k := 4) (x := 6) bX5_readMountain_49 rfl (by decide)
def dX5_readMountain_55 := dk182 (k := 6) (x := 85) bX5_readMountain_49 rfl rfl
def dX5_readMountain_58 := dk153 (k := 9) (x := 13) bX5_readMountain_49 rfl (by decide)
def dX5_readMountain_61 := dk42 (k := 12) bX5_readMountain_49 rfl
def dX5_readMountain_62 := dk4 (k := 13) bX5_readMountain_49 rfl
def dX5_readMountain_63 := dk16 (k := 14) (x := 40) bX5_readMountain_49 rfl (by decide)
def dX5_readMountain_65 := dk182 (k := 16) (x := 96) bX5_readMountain_49 rfl rfl
def dX5_readMountain_68 := dk154 (k := 19) (x := 5) bX5_readMountain_49 rfl (by decide)
def dX5_readMountain_71 := dk3 (k := 22) bX5_readMountain_49 rfl
def dX5_readMountain_72 := dk172 (k := 23) bX5_readMountain_49 rfl
theorem bX5_readMountain_73 : bL cX5_readMountain 73 [43, 42, 182, 0, 100, 181, 0, 109, 42, 16, 7, 182, 0, 85, 153, 0, 14, 42, 4, 17, 3, 231, 182, 0, 96] := bL_of (by decide +kernel)
def dX5_readMountain_73 := dk43 (k := 0) bX5_readMountain_73 rfl
def dX5_readMountain_74 := dk42 (k := 1) bX5_readMountain_73 rfl
def dX5_readMountain_75 := dk182 (k := 2) (x := 100) bX5_readMountain_73 rfl rfl
def dX5_readMountain_78 := dk181 (k := 5) (x := 109) bX5_readMountain_73 rfl rfl
def dX5_readMountain_81 := dk42 (k := 8) bX5_readMountain_73 rfl
def dX5_readMountain_82 := dk16 (k := 9) (x := 7) bX5_readMountain_73 rfl (by decide)
def dX5_readMountain_84 := dk182 (k := 11) (x := 85) bX5_readMountain_73 rfl rfl
def dX5_readMountain_87 := dk153 (k := 14) (x := 14) bX5_readMountain_73 rfl (by decide)
def dX5_readMountain_90 := dk42 (k := 17) bX5_readMountain_73 rfl
def dX5_readMountain_91 := dk4 (k := 18) bX5_readMountain_73 rfl
def dX5_readMountain_92 := dk17 (k := 19) (x := 999) bX5_readMountain_73 rfl (by decide)
def dX5_readMountain_95 := dk182 (k := 22) (x := 96) bX5_readMountain_73 rfl rfl
theorem bX5_readMountain_98 : bL cX5_readMountain 98 [154, 0, 5, 3, 172, 42, 180, 0, 12, 42, 182, 0, 100, 181, 0, 112, 43, 42, 180, 0, 43, 16, 16, 160, 0, 7] := bL_of (by decide +kernel)
def dX5_readMountain_98 := dk154 (k := 0) (x := 5) bX5_readMountain_98 rfl (by decide)
def dX5_readMountain_101 := dk3 (k := 3) bX5_readMountain_98 rfl
def dX5_readMountain_102 := dk172 (k := 4) bX5_readMountain_98 rfl
def dX5_readMountain_103 := dk42 (k := 5) bX5_readMountain_98 rfl
def dX5_readMountain_104 := dk180 (k := 6) (x := 12) bX5_readMountain_98 rfl rfl
def dX5_readMountain_107 := dk42 (k := 9) bX5_readMountain_98 rfl
def dX5_readMountain_108 := dk182 (k := 10) (x := 100) bX5_readMountain_98 rfl rfl
def dX5_readMountain_111 := dk181 (k := 13) (x := 112) bX5_readMountain_98 rfl rfl
def dX5_readMountain_114 := dk43 (k := 16) bX5_readMountain_98 rfl
def dX5_readMountain_115 := dk42 (k := 17) bX5_readMountain_98 rfl
def dX5_readMountain_116 := dk180 (k := 18) (x := 43) bX5_readMountain_98 rfl rfl
def dX5_readMountain_119 := dk16 (k := 21) (x := 16) bX5_readMountain_98 rfl (by decide)
def dX5_readMountain_121 := dk160 (k := 23) (x := 7) bX5_readMountain_98 rfl (by decide)
theorem bX5_readMountain_124 : bL cX5_readMountain 124 [4, 167, 0, 4, 3, 181, 0, 115, 42, 43, 180, 0, 115, 153, 0, 8, 16, 16, 167, 0, 5, 16, 15, 182, 0, 85] := bL_of (by decide +kernel)
def dX5_readMountain_124 := dk4 (k := 0) bX5_readMountain_124 rfl
def dX5_readMountain_125 := dk167 (k := 1) (x := 4) bX5_readMountain_124 rfl (by decide)
def dX5_readMountain_128 := dk3 (k := 4) bX5_readMountain_124 rfl
def dX5_readMountain_129 := dk181 (k := 5) (x := 115) bX5_readMountain_124 rfl rfl
def dX5_readMountain_132 := dk42 (k := 8) bX5_readMountain_124 rfl
def dX5_readMountain_133 := dk43 (k := 9) bX5_readMountain_124 rfl
def dX5_readMountain_134 := dk180 (k := 10) (x := 115) bX5_readMountain_124 rfl rfl
def dX5_readMountain_137 := dk153 (k := 13) (x := 8) bX5_readMountain_124 rfl (by decide)
def dX5_readMountain_140 := dk16 (k := 16) (x := 16) bX5_readMountain_124 rfl (by decide)
def dX5_readMountain_142 := dk167 (k := 18) (x := 5) bX5_readMountain_124 rfl (by decide)
def dX5_readMountain_145 := dk16 (k := 21) (x := 15) bX5_readMountain_124 rfl (by decide)
def dX5_readMountain_147 := dk182 (k := 23) (x := 85) bX5_readMountain_124 rfl rfl
theorem bX5_readMountain_150 : bL cX5_readMountain 150 [172] := bL_of (by decide +kernel)
def dX5_readMountain_150 := dk172 (k := 0) bX5_readMountain_150 rfl
theorem bX5_readHeights_0 : bL cX5_readHeights 0 [3, 61, 28, 16, 10, 163, 0, 49, 42, 180, 0, 43, 6, 160, 0, 41, 42, 3, 16, 40, 182, 0, 96, 154, 0, 5] := bL_of (by decide +kernel)
def dX5_readHeights_0 := dk3 (k := 0) bX5_readHeights_0 rfl
def dX5_readHeights_1 := dk61 (k := 1) bX5_readHeights_0 rfl
def dX5_readHeights_2 := dk28 (k := 2) bX5_readHeights_0 rfl
def dX5_readHeights_3 := dk16 (k := 3) (x := 10) bX5_readHeights_0 rfl (by decide)
def dX5_readHeights_5 := dk163 (k := 5) (x := 49) bX5_readHeights_0 rfl (by decide)
def dX5_readHeights_8 := dk42 (k := 8) bX5_readHeights_0 rfl
def dX5_readHeights_9 := dk180 (k := 9) (x := 43) bX5_readHeights_0 rfl rfl
def dX5_readHeights_12 := dk6 (k := 12) bX5_readHeights_0 rfl
def dX5_readHeights_13 := dk160 (k := 13) (x := 41) bX5_readHeights_0 rfl (by decide)
def dX5_readHeights_16 := dk42 (k := 16) bX5_readHeights_0 rfl
def dX5_readHeights_17 := dk3 (k := 17) bX5_readHeights_0 rfl
def dX5_readHeights_18 := dk16 (k := 18) (x := 40) bX5_readHeights_0 rfl (by decide)
def dX5_readHeights_20 := dk182 (k := 20) (x := 96) bX5_readHeights_0 rfl rfl
def dX5_readHeights_23 := dk154 (k := 23) (x := 5) bX5_readHeights_0 rfl (by decide)
theorem bX5_readHeights_26 : bL cX5_readHeights 26 [3, 172, 28, 16, 10, 160, 0, 9, 42, 6, 182, 0, 72, 172, 43, 42, 182, 0, 100, 182, 0, 119, 132, 2, 1] := bL_of (by decide +kernel)
def dX5_readHeights_26 := dk3 (k := 0) bX5_readHeights_26 rfl
def dX5_readHeights_27 := dk172 (k := 1) bX5_readHeights_26 rfl
def dX5_readHeights_28 := dk28 (k := 2) bX5_readHeights_26 rfl
def dX5_readHeights_29 := dk16 (k := 3) (x := 10) bX5_readHeights_26 rfl (by decide)
def dX5_readHeights_31 := dk160 (k := 5) (x := 9) bX5_readHeights_26 rfl (by decide)
def dX5_readHeights_34 := dk42 (k := 8) bX5_readHeights_26 rfl
def dX5_readHeights_35 := dk6 (k := 9) bX5_readHeights_26 rfl
def dX5_readHeights_36 := dk182 (k := 10) (x := 72) bX5_readHeights_26 rfl rfl
def dX5_readHeights_39 := dk172 (k := 13) bX5_readHeights_26 rfl
def dX5_readHeights_40 := dk43 (k := 14) bX5_readHeights_26 rfl
def dX5_readHeights_41 := dk42 (k := 15) bX5_readHeights_26 rfl
def dX5_readHeights_42 := dk182 (k := 16) (x := 100) bX5_readHeights_26 rfl rfl
def dX5_readHeights_45 := dk182 (k := 19) (x := 119) bX5_readHeights_26 rfl rfl
theorem dX5_readHeights_48 : decode cX5_readHeights 48 = .ok (.iinc 2 1, 3) := dk132 (k := 22) bX5_readHeights_26 rfl rfl (by decide)
theorem bX5_readHeights_51 : bL cX5_readHeights 51 [167, 255, 207, 43, 180, 0, 123, 6, 162, 0, 11, 42, 4, 182, 0, 72, 153, 0, 7, 4, 167, 0, 4, 3] := bL_of (by decide +kernel)
def dX5_readHeights_51 := dk167 (k := 0) (x := (-49)) bX5_readHeights_51 rfl (by decide)
def dX5_readHeights_54 := dk43 (k := 3) bX5_readHeights_51 rfl
def dX5_readHeights_55 := dk180 (k := 4) (x := 123) bX5_readHeights_51 rfl rfl
def dX5_readHeights_58 := dk6 (k := 7) bX5_readHeights_51 rfl
def dX5_readHeights_59 := dk162 (k := 8) (x := 11) bX5_readHeights_51 rfl (by decide)
def dX5_readHeights_62 := dk42 (k := 11) bX5_readHeights_51 rfl
def dX5_readHeights_63 := dk4 (k := 12) bX5_readHeights_51 rfl
def dX5_readHeights_64 := dk182 (k := 13) (x := 72) bX5_readHeights_51 rfl rfl
def dX5_readHeights_67 := dk153 (k := 16) (x := 7) bX5_readHeights_51 rfl (by decide)
def dX5_readHeights_70 := dk4 (k := 19) bX5_readHeights_51 rfl
def dX5_readHeights_71 := dk167 (k := 20) (x := 4) bX5_readHeights_51 rfl (by decide)
def dX5_readHeights_74 := dk3 (k := 23) bX5_readHeights_51 rfl
theorem bX5_readHeights_75 : bL cX5_readHeights 75 [172] := bL_of (by decide +kernel)
def dX5_readHeights_75 := dk172 (k := 0) bX5_readHeights_75 rfl
theorem bX5_readFolk_0 : bL cX5_readFolk 0 [42, 180, 0, 12, 180, 0, 126, 180, 0, 130, 60, 27, 16, 8, 161, 0, 9, 42, 6, 182, 0, 72, 172, 42] := bL_of (by decide +kernel)
def dX5_readFolk_0 := dk42 (k := 0) bX5_readFolk_0 rfl
def dX5_readFolk_1 := dk180 (k := 1) (x := 12) bX5_readFolk_0 rfl rfl
def dX5_readFolk_4 := dk180 (k := 4) (x := 126) bX5_readFolk_0 rfl rfl
def dX5_readFolk_7 := dk180 (k := 7) (x := 130) bX5_readFolk_0 rfl rfl
def dX5_readFolk_10 := dk60 (k := 10) bX5_readFolk_0 rfl
def dX5_readFolk_11 := dk27 (k := 11) bX5_readFolk_0 rfl
def dX5_readFolk_12 := dk16 (k := 12) (x := 8) bX5_readFolk_0 rfl (by decide)
def dX5_readFolk_14 := dk161 (k := 14) (x := 9) bX5_readFolk_0 rfl (by decide)
def dX5_readFolk_17 := dk42 (k := 17) bX5_readFolk_0 rfl
def dX5_readFolk_18 := dk6 (k := 18) bX5_readFolk_0 rfl
def dX5_readFolk_19 := dk182 (k := 19) (x := 72) bX5_readFolk_0 rfl rfl
def dX5_readFolk_22 := dk172 (k := 22) bX5_readFolk_0 rfl
def dX5_readFolk_23 := dk42 (k := 23) bX5_readFolk_0 rfl
theorem bX5_readFolk_24 : bL cX5_readFolk 24 [180, 0, 12, 180, 0, 126, 89, 180, 0, 130, 4, 96, 181, 0, 130, 42, 16, 8, 182, 0, 85, 153, 0, 103] := bL_of (by decide +kernel)
def dX5_readFolk_24 := dk180 (k := 0) (x := 12) bX5_readFolk_24 rfl rfl
def dX5_readFolk_27 := dk180 (k := 3) (x := 126) bX5_readFolk_24 rfl rfl
def dX5_readFolk_30 := dk89 (k := 6) bX5_readFolk_24 rfl
def dX5_readFolk_31 := dk180 (k := 7) (x := 130) bX5_readFolk_24 rfl rfl
def dX5_readFolk_34 := dk4 (k := 10) bX5_readFolk_24 rfl
def dX5_readFolk_35 := dk96 (k := 11) bX5_readFolk_24 rfl
def dX5_readFolk_36 := dk181 (k := 12) (x := 130) bX5_readFolk_24 rfl rfl
def dX5_readFolk_39 := dk42 (k := 15) bX5_readFolk_24 rfl
def dX5_readFolk_40 := dk16 (k := 16) (x := 8) bX5_readFolk_24 rfl (by decide)
def dX5_readFolk_42 := dk182 (k := 18) (x := 85) bX5_readFolk_24 rfl rfl
def dX5_readFolk_45 := dk153 (k := 21) (x := 103) bX5_readFolk_24 rfl (by decide)
theorem bX5_readFolk_48 : bL cX5_readFolk 48 [42, 27, 16, 9, 3, 3, 42, 180, 0, 12, 180, 0, 88, 180, 0, 123, 4, 100, 182, 0, 135, 153, 0, 79] := bL_of (by decide +kernel)
def dX5_readFolk_48 := dk42 (k := 0) bX5_readFolk_48 rfl
def dX5_readFolk_49 := dk27 (k := 1) bX5_readFolk_48 rfl
def dX5_readFolk_50 := dk16 (k := 2) (x := 9) bX5_readFolk_48 rfl (by decide)
def dX5_readFolk_52 := dk3 (k := 4) bX5_readFolk_48 rfl
def dX5_readFolk_53 := dk3 (k := 5) bX5_readFolk_48 rfl
def dX5_readFolk_54 := dk42 (k := 6) bX5_readFolk_48 rfl
def dX5_readFolk_55 := dk180 (k := 7) (x := 12) bX5_readFolk_48 rfl rfl
def dX5_readFolk_58 := dk180 (k := 10) (x := 88) bX5_readFolk_48 rfl rfl
def dX5_readFolk_61 := dk180 (k := 13) (x := 123) bX5_readFolk_48 rfl rfl
def dX5_readFolk_64 := dk4 (k := 16) bX5_readFolk_48 rfl
def dX5_readFolk_65 := dk100 (k := 17) bX5_readFolk_48 rfl
def dX5_readFolk_66 := dk182 (k := 18) (x := 135) bX5_readFolk_48 rfl rfl
def dX5_readFolk_69 := dk153 (k := 21) (x := 79) bX5_readFolk_48 rfl (by decide)
theorem bX5_readFolk_72 : bL cX5_readFolk 72 [42, 27, 16, 7, 4, 4, 16, 99, 182, 0, 135, 153, 0, 65, 42, 27, 16, 10, 5, 3, 16, 9, 182, 0, 135] := bL_of (by decide +kernel)
def dX5_readFolk_72 := dk42 (k := 0) bX5_readFolk_72 rfl
def dX5_readFolk_73 := dk27 (k := 1) bX5_readFolk_72 rfl
def dX5_readFolk_74 := dk16 (k := 2) (x := 7) bX5_readFolk_72 rfl (by decide)
def dX5_readFolk_76 := dk4 (k := 4) bX5_readFolk_72 rfl
def dX5_readFolk_77 := dk4 (k := 5) bX5_readFolk_72 rfl
def dX5_readFolk_78 := dk16 (k := 6) (x := 99) bX5_readFolk_72 rfl (by decide)
def dX5_readFolk_80 := dk182 (k := 8) (x := 135) bX5_readFolk_72 rfl rfl
def dX5_readFolk_83 := dk153 (k := 11) (x := 65) bX5_readFolk_72 rfl (by decide)
def dX5_readFolk_86 := dk42 (k := 14) bX5_readFolk_72 rfl
def dX5_readFolk_87 := dk27 (k := 15) bX5_readFolk_72 rfl
def dX5_readFolk_88 := dk16 (k := 16) (x := 10) bX5_readFolk_72 rfl (by decide)
def dX5_readFolk_90 := dk5 (k := 18) bX5_readFolk_72 rfl
def dX5_readFolk_91 := dk3 (k := 19) bX5_readFolk_72 rfl
def dX5_readFolk_92 := dk16 (k := 20) (x := 9) bX5_readFolk_72 rfl (by decide)
def dX5_readFolk_94 := dk182 (k := 22) (x := 135) bX5_readFolk_72 rfl rfl
theorem bX5_readFolk_97 : bL cX5_readFolk 97 [153, 0, 51, 42, 27, 8, 6, 3, 16, 9, 182, 0, 135, 153, 0, 38, 42, 27, 16, 11, 7, 3, 16, 9] := bL_of (by decide +kernel)
def dX5_readFolk_97 := dk153 (k := 0) (x := 51) bX5_readFolk_97 rfl (by decide)
def dX5_readFolk_100 := dk42 (k := 3) bX5_readFolk_97 rfl
def dX5_readFolk_101 := dk27 (k := 4) bX5_readFolk_97 rfl
def dX5_readFolk_102 := dk8 (k := 5) bX5_readFolk_97 rfl
def dX5_readFolk_103 := dk6 (k := 6) bX5_readFolk_97 rfl
def dX5_readFolk_104 := dk3 (k := 7) bX5_readFolk_97 rfl
def dX5_readFolk_105 := dk16 (k := 8) (x := 9) bX5_readFolk_97 rfl (by decide)
def dX5_readFolk_107 := dk182 (k := 10) (x := 135) bX5_readFolk_97 rfl rfl
def dX5_readFolk_110 := dk153 (k := 13) (x := 38) bX5_readFolk_97 rfl (by decide)
def dX5_readFolk_113 := dk42 (k := 16) bX5_readFolk_97 rfl
def dX5_readFolk_114 := dk27 (k := 17) bX5_readFolk_97 rfl
def dX5_readFolk_115 := dk16 (k := 18) (x := 11) bX5_readFolk_97 rfl (by decide)
def dX5_readFolk_117 := dk7 (k := 20) bX5_readFolk_97 rfl
def dX5_readFolk_118 := dk3 (k := 21) bX5_readFolk_97 rfl
def dX5_readFolk_119 := dk16 (k := 22) (x := 9) bX5_readFolk_97 rfl (by decide)
theorem bX5_readFolk_121 : bL cX5_readFolk 121 [182, 0, 135, 153, 0, 24, 42, 180, 0, 43, 16, 12, 160, 0, 11, 42, 27, 182, 0, 139, 153, 0, 7, 4] := bL_of (by decide +kernel)
def dX5_readFolk_121 := dk182 (k := 0) (x := 135) bX5_readFolk_121 rfl rfl
def dX5_readFolk_124 := dk153 (k := 3) (x := 24) bX5_readFolk_121 rfl (by decide)
def dX5_readFolk_127 := dk42 (k := 6) bX5_readFolk_121 rfl
def dX5_readFolk_128 := dk180 (k := 7) (x := 43) bX5_readFolk_121 rfl rfl
def dX5_readFolk_131 := dk16 (k := 10) (x := 12) bX5_readFolk_121 rfl (by decide)
def dX5_readFolk_133 := dk160 (k := 12) (x := 11) bX5_readFolk_121 rfl (by decide)
def dX5_readFolk_136 := dk42 (k := 15) bX5_readFolk_121 rfl
def dX5_readFolk_137 := dk27 (k := 16) bX5_readFolk_121 rfl
def dX5_readFolk_138 := dk182 (k := 17) (x := 139) bX5_readFolk_121 rfl rfl
def dX5_readFolk_141 := dk153 (k := 20) (x := 7) bX5_readFolk_121 rfl (by decide)
def dX5_readFolk_144 := dk4 (k := 23) bX5_readFolk_121 rfl
theorem bX5_readFolk_145 : bL cX5_readFolk 145 [167, 0, 4, 3, 172] := bL_of (by decide +kernel)
def dX5_readFolk_145 := dk167 (k := 0) (x := 4) bX5_readFolk_145 rfl (by decide)
def dX5_readFolk_148 := dk3 (k := 3) bX5_readFolk_145 rfl
def dX5_readFolk_149 := dk172 (k := 4) bX5_readFolk_145 rfl
theorem bX5_readFact_0 : bL cX5_readFact 0 [42, 28, 182, 0, 85, 153, 0, 14, 42, 21, 4, 21, 5, 182, 0, 96, 154, 0, 5, 3, 172, 42, 180, 0, 12] := bL_of (by decide +kernel)
def dX5_readFact_0 := dk42 (k := 0) bX5_readFact_0 rfl
def dX5_readFact_1 := dk28 (k := 1) bX5_readFact_0 rfl
def dX5_readFact_2 := dk182 (k := 2) (x := 85) bX5_readFact_0 rfl rfl
def dX5_readFact_5 := dk153 (k := 5) (x := 14) bX5_readFact_0 rfl (by decide)
def dX5_readFact_8 := dk42 (k := 8) bX5_readFact_0 rfl
def dX5_readFact_9 := dk21 (k := 9) (x := 4) bX5_readFact_0 rfl rfl
def dX5_readFact_11 := dk21 (k := 11) (x := 5) bX5_readFact_0 rfl rfl
def dX5_readFact_13 := dk182 (k := 13) (x := 96) bX5_readFact_0 rfl rfl
def dX5_readFact_16 := dk154 (k := 16) (x := 5) bX5_readFact_0 rfl (by decide)
def dX5_readFact_19 := dk3 (k := 19) bX5_readFact_0 rfl
def dX5_readFact_20 := dk172 (k := 20) bX5_readFact_0 rfl
def dX5_readFact_21 := dk42 (k := 21) bX5_readFact_0 rfl
def dX5_readFact_22 := dk180 (k := 22) (x := 12) bX5_readFact_0 rfl rfl
theorem bX5_readFact_25 : bL cX5_readFact 25 [180, 0, 126, 27, 29, 42, 182, 0, 100, 182, 0, 142, 4, 172] := bL_of (by decide +kernel)
def dX5_readFact_25 := dk180 (k := 0) (x := 126) bX5_readFact_25 rfl rfl
def dX5_readFact_28 := dk27 (k := 3) bX5_readFact_25 rfl
def dX5_readFact_29 := dk29 (k := 4) bX5_readFact_25 rfl
def dX5_readFact_30 := dk42 (k := 5) bX5_readFact_25 rfl
def dX5_readFact_31 := dk182 (k := 6) (x := 100) bX5_readFact_25 rfl rfl
def dX5_readFact_34 := dk182 (k := 9) (x := 142) bX5_readFact_25 rfl rfl
def dX5_readFact_37 := dk4 (k := 12) bX5_readFact_25 rfl
def dX5_readFact_38 := dk172 (k := 13) bX5_readFact_25 rfl
theorem bX5_readTalk_0 : bL cX5_readTalk 0 [42, 27, 16, 12, 8, 4, 16, 7, 182, 0, 135, 153, 0, 23, 42, 16, 13, 182, 0, 85, 153, 0, 14, 42] := bL_of (by decide +kernel)
def dX5_readTalk_0 := dk42 (k := 0) bX5_readTalk_0 rfl
def dX5_readTalk_1 := dk27 (k := 1) bX5_readTalk_0 rfl
def dX5_readTalk_2 := dk16 (k := 2) (x := 12) bX5_readTalk_0 rfl (by decide)
def dX5_readTalk_4 := dk8 (k := 4) bX5_readTalk_0 rfl
def dX5_readTalk_5 := dk4 (k := 5) bX5_readTalk_0 rfl
def dX5_readTalk_6 := dk16 (k := 6) (x := 7) bX5_readTalk_0 rfl (by decide)
def dX5_readTalk_8 := dk182 (k := 8) (x := 135) bX5_readTalk_0 rfl rfl
def dX5_readTalk_11 := dk153 (k := 11) (x := 23) bX5_readTalk_0 rfl (by decide)
def dX5_readTalk_14 := dk42 (k := 14) bX5_readTalk_0 rfl
def dX5_readTalk_15 := dk16 (k := 15) (x := 13) bX5_readTalk_0 rfl (by decide)
def dX5_readTalk_17 := dk182 (k := 17) (x := 85) bX5_readTalk_0 rfl rfl
def dX5_readTalk_20 := dk153 (k := 20) (x := 14) bX5_readTalk_0 rfl (by decide)
def dX5_readTalk_23 := dk42 (k := 23) bX5_readTalk_0 rfl
theorem bX5_readTalk_24 : bL cX5_readTalk 24 [3, 27, 4, 100, 182, 0, 96, 154, 0, 5, 3, 172, 42, 180, 0, 12, 180, 0, 126, 27, 42, 182, 0, 100] := bL_of (by decide +kernel)
def dX5_readTalk_24 := dk3 (k := 0) bX5_readTalk_24 rfl
def dX5_readTalk_25 := dk27 (k := 1) bX5_readTalk_24 rfl
def dX5_readTalk_26 := dk4 (k := 2) bX5_readTalk_24 rfl
def dX5_readTalk_27 := dk100 (k := 3) bX5_readTalk_24 rfl
def dX5_readTalk_28 := dk182 (k := 4) (x := 96) bX5_readTalk_24 rfl rfl
def dX5_readTalk_31 := dk154 (k := 7) (x := 5) bX5_readTalk_24 rfl (by decide)
def dX5_readTalk_34 := dk3 (k := 10) bX5_readTalk_24 rfl
def dX5_readTalk_35 := dk172 (k := 11) bX5_readTalk_24 rfl
def dX5_readTalk_36 := dk42 (k := 12) bX5_readTalk_24 rfl
def dX5_readTalk_37 := dk180 (k := 13) (x := 12) bX5_readTalk_24 rfl rfl
def dX5_readTalk_40 := dk180 (k := 16) (x := 126) bX5_readTalk_24 rfl rfl
def dX5_readTalk_43 := dk27 (k := 19) bX5_readTalk_24 rfl
def dX5_readTalk_44 := dk42 (k := 20) bX5_readTalk_24 rfl
def dX5_readTalk_45 := dk182 (k := 21) (x := 100) bX5_readTalk_24 rfl rfl
theorem bX5_readTalk_48 : bL cX5_readTalk 48 [182, 0, 146, 3, 61, 28, 17, 3, 132, 162, 0, 45, 42, 180, 0, 43, 6, 160, 0, 37, 42, 3, 27, 4] := bL_of (by decide +kernel)
def dX5_readTalk_48 := dk182 (k := 0) (x := 146) bX5_readTalk_48 rfl rfl
def dX5_readTalk_51 := dk3 (k := 3) bX5_readTalk_48 rfl
def dX5_readTalk_52 := dk61 (k := 4) bX5_readTalk_48 rfl
def dX5_readTalk_53 := dk28 (k := 5) bX5_readTalk_48 rfl
def dX5_readTalk_54 := dk17 (k := 6) (x := 900) bX5_readTalk_48 rfl (by decide)
def dX5_readTalk_57 := dk162 (k := 9) (x := 45) bX5_readTalk_48 rfl (by decide)
def dX5_readTalk_60 := dk42 (k := 12) bX5_readTalk_48 rfl
def dX5_readTalk_61 := dk180 (k := 13) (x := 43) bX5_readTalk_48 rfl rfl
def dX5_readTalk_64 := dk6 (k := 16) bX5_readTalk_48 rfl
def dX5_readTalk_65 := dk160 (k := 17) (x := 37) bX5_readTalk_48 rfl (by decide)
def dX5_readTalk_68 := dk42 (k := 20) bX5_readTalk_48 rfl
def dX5_readTalk_69 := dk3 (k := 21) bX5_readTalk_48 rfl
def dX5_readTalk_70 := dk27 (k := 22) bX5_readTalk_48 rfl
def dX5_readTalk_71 := dk4 (k := 23) bX5_readTalk_48 rfl
theorem bX5_readTalk_72 : bL cX5_readTalk 72 [100, 182, 0, 96, 154, 0, 5, 3, 172, 42, 180, 0, 12, 180, 0, 126, 27, 42, 182, 0, 100, 182, 0, 146] := bL_of (by decide +kernel)
def dX5_readTalk_72 := dk100 (k := 0) bX5_readTalk_72 rfl
def dX5_readTalk_73 := dk182 (k := 1) (x := 96) bX5_readTalk_72 rfl rfl
def dX5_readTalk_76 := dk154 (k := 4) (x := 5) bX5_readTalk_72 rfl (by decide)
def dX5_readTalk_79 := dk3 (k := 7) bX5_readTalk_72 rfl
def dX5_readTalk_80 := dk172 (k := 8) bX5_readTalk_72 rfl
def dX5_readTalk_81 := dk42 (k := 9) bX5_readTalk_72 rfl
def dX5_readTalk_82 := dk180 (k := 10) (x := 12) bX5_readTalk_72 rfl rfl
def dX5_readTalk_85 := dk180 (k := 13) (x := 126) bX5_readTalk_72 rfl rfl
def dX5_readTalk_88 := dk27 (k := 16) bX5_readTalk_72 rfl
def dX5_readTalk_89 := dk42 (k := 17) bX5_readTalk_72 rfl
def dX5_readTalk_90 := dk182 (k := 18) (x := 100) bX5_readTalk_72 rfl rfl
def dX5_readTalk_93 := dk182 (k := 21) (x := 146) bX5_readTalk_72 rfl rfl
theorem bX5_readTalk_96 : bL cX5_readTalk 96 [132, 2, 1, 167, 255, 210, 4, 172] := bL_of (by decide +kernel)
theorem dX5_readTalk_96 : decode cX5_readTalk 96 = .ok (.iinc 2 1, 3) := dk132 (k := 0) bX5_readTalk_96 rfl rfl (by decide)
def dX5_readTalk_99 := dk167 (k := 3) (x := (-46)) bX5_readTalk_96 rfl (by decide)
def dX5_readTalk_102 := dk4 (k := 6) bX5_readTalk_96 rfl
def dX5_readTalk_103 := dk172 (k := 7) bX5_readTalk_96 rfl
theorem bX5_readHeap_0 : bL cX5_readHeap 0 [42, 16, 14, 182, 0, 85, 153, 0, 23, 42, 3, 42, 180, 0, 12, 180, 0, 88, 180, 0, 123, 4, 100, 182, 0, 96] := bL_of (by decide +kernel)
def dX5_readHeap_0 := dk42 (k := 0) bX5_readHeap_0 rfl
def dX5_readHeap_1 := dk16 (k := 1) (x := 14) bX5_readHeap_0 rfl (by decide)
def dX5_readHeap_3 := dk182 (k := 3) (x := 85) bX5_readHeap_0 rfl rfl
def dX5_readHeap_6 := dk153 (k := 6) (x := 23) bX5_readHeap_0 rfl (by decide)
def dX5_readHeap_9 := dk42 (k := 9) bX5_readHeap_0 rfl
def dX5_readHeap_10 := dk3 (k := 10) bX5_readHeap_0 rfl
def dX5_readHeap_11 := dk42 (k := 11) bX5_readHeap_0 rfl
def dX5_readHeap_12 := dk180 (k := 12) (x := 12) bX5_readHeap_0 rfl rfl
def dX5_readHeap_15 := dk180 (k := 15) (x := 88) bX5_readHeap_0 rfl rfl
def dX5_readHeap_18 := dk180 (k := 18) (x := 123) bX5_readHeap_0 rfl rfl
def dX5_readHeap_21 := dk4 (k := 21) bX5_readHeap_0 rfl
def dX5_readHeap_22 := dk100 (k := 22) bX5_readHeap_0 rfl
def dX5_readHeap_23 := dk182 (k := 23) (x := 96) bX5_readHeap_0 rfl rfl
theorem bX5_readHeap_26 : bL cX5_readHeap 26 [154, 0, 5, 3, 172, 42, 180, 0, 12, 42, 182, 0, 100, 181, 0, 150, 4, 172] := bL_of (by decide +kernel)
def dX5_readHeap_26 := dk154 (k := 0) (x := 5) bX5_readHeap_26 rfl (by decide)
def dX5_readHeap_29 := dk3 (k := 3) bX5_readHeap_26 rfl
def dX5_readHeap_30 := dk172 (k := 4) bX5_readHeap_26 rfl
def dX5_readHeap_31 := dk42 (k := 5) bX5_readHeap_26 rfl
def dX5_readHeap_32 := dk180 (k := 6) (x := 12) bX5_readHeap_26 rfl rfl
def dX5_readHeap_35 := dk42 (k := 9) bX5_readHeap_26 rfl
def dX5_readHeap_36 := dk182 (k := 10) (x := 100) bX5_readHeap_26 rfl rfl
def dX5_readHeap_39 := dk181 (k := 13) (x := 150) bX5_readHeap_26 rfl rfl
def dX5_readHeap_42 := dk4 (k := 16) bX5_readHeap_26 rfl
def dX5_readHeap_43 := dk172 (k := 17) bX5_readHeap_26 rfl
theorem bX6_init_0 : bL cX6_init 0 [42, 183, 0, 3, 42, 16, 21] := bL_of (by decide +kernel)
def dX6_init_0 := dk42 (k := 0) bX6_init_0 rfl
def dX6_init_1 := dk183 (k := 1) (x := 3) bX6_init_0 rfl rfl
def dX6_init_4 := dk42 (k := 4) bX6_init_0 rfl
def dX6_init_5 := dk16 (k := 5) (x := 21) bX6_init_0 rfl (by decide)
theorem dX6_init_7 : decode cX6_init 7 = .ok (.newarray .int, 2) := by decide +kernel
theorem bX6_init_9 : bL cX6_init 9 [181, 0, 9, 42, 16, 21] := bL_of (by decide +kernel)
def dX6_init_9 := dk181 (k := 0) (x := 9) bX6_init_9 rfl rfl
def dX6_init_12 := dk42 (k := 3) bX6_init_9 rfl
def dX6_init_13 := dk16 (k := 4) (x := 21) bX6_init_9 rfl (by decide)
theorem dX6_init_15 : decode cX6_init 15 = .ok (.newarray .int, 2) := by decide +kernel
theorem bX6_init_17 : bL cX6_init 17 [181, 0, 15, 42, 16, 19] := bL_of (by decide +kernel)
def dX6_init_17 := dk181 (k := 0) (x := 15) bX6_init_17 rfl rfl
def dX6_init_20 := dk42 (k := 3) bX6_init_17 rfl
def dX6_init_21 := dk16 (k := 4) (x := 19) bX6_init_17 rfl (by decide)
theorem dX6_init_23 : decode cX6_init 23 = .ok (.newarray .int, 2) := by decide +kernel
theorem bX6_init_25 : bL cX6_init 25 [181, 0, 18, 42, 43, 181, 0, 21, 42, 44, 181, 0, 25, 42, 45, 181, 0, 29, 177] := bL_of (by decide +kernel)
def dX6_init_25 := dk181 (k := 0) (x := 18) bX6_init_25 rfl rfl
def dX6_init_28 := dk42 (k := 3) bX6_init_25 rfl
def dX6_init_29 := dk43 (k := 4) bX6_init_25 rfl
def dX6_init_30 := dk181 (k := 5) (x := 21) bX6_init_25 rfl rfl
def dX6_init_33 := dk42 (k := 8) bX6_init_25 rfl
def dX6_init_34 := dk44 (k := 9) bX6_init_25 rfl
def dX6_init_35 := dk181 (k := 10) (x := 25) bX6_init_25 rfl rfl
def dX6_init_38 := dk42 (k := 13) bX6_init_25 rfl
def dX6_init_39 := dk45 (k := 14) bX6_init_25 rfl
def dX6_init_40 := dk181 (k := 15) (x := 29) bX6_init_25 rfl rfl
def dX6_init_43 := dk177 (k := 18) bX6_init_25 rfl
theorem bX6_load_0 : bL cX6_load 0 [42, 180, 0, 25, 27, 182, 0, 33, 153, 0, 13, 42, 180, 0, 21, 182, 0, 39, 154, 0, 6, 16, 254, 172] := bL_of (by decide +kernel)
def dX6_load_0 := dk42 (k := 0) bX6_load_0 rfl
def dX6_load_1 := dk180 (k := 1) (x := 25) bX6_load_0 rfl rfl
def dX6_load_4 := dk27 (k := 4) bX6_load_0 rfl
def dX6_load_5 := dk182 (k := 5) (x := 33) bX6_load_0 rfl rfl
def dX6_load_8 := dk153 (k := 8) (x := 13) bX6_load_0 rfl (by decide)
def dX6_load_11 := dk42 (k := 11) bX6_load_0 rfl
def dX6_load_12 := dk180 (k := 12) (x := 21) bX6_load_0 rfl rfl
def dX6_load_15 := dk182 (k := 15) (x := 39) bX6_load_0 rfl rfl
def dX6_load_18 := dk154 (k := 18) (x := 6) bX6_load_0 rfl (by decide)
def dX6_load_21 := dk16 (k := 21) (x := (-2)) bX6_load_0 rfl (by decide)
def dX6_load_23 := dk172 (k := 23) bX6_load_0 rfl
theorem bX6_load_24 : bL cX6_load 24 [42, 180, 0, 25, 27, 182, 0, 45, 154, 0, 6, 16, 250, 172, 42, 27, 182, 0, 48, 154, 0, 6, 16, 254] := bL_of (by decide +kernel)
def dX6_load_24 := dk42 (k := 0) bX6_load_24 rfl
def dX6_load_25 := dk180 (k := 1) (x := 25) bX6_load_24 rfl rfl
def dX6_load_28 := dk27 (k := 4) bX6_load_24 rfl
def dX6_load_29 := dk182 (k := 5) (x := 45) bX6_load_24 rfl rfl
def dX6_load_32 := dk154 (k := 8) (x := 6) bX6_load_24 rfl (by decide)
def dX6_load_35 := dk16 (k := 11) (x := (-6)) bX6_load_24 rfl (by decide)
def dX6_load_37 := dk172 (k := 13) bX6_load_24 rfl
def dX6_load_38 := dk42 (k := 14) bX6_load_24 rfl
def dX6_load_39 := dk27 (k := 15) bX6_load_24 rfl
def dX6_load_40 := dk182 (k := 16) (x := 48) bX6_load_24 rfl rfl
def dX6_load_43 := dk154 (k := 19) (x := 6) bX6_load_24 rfl (by decide)
def dX6_load_46 := dk16 (k := 22) (x := (-2)) bX6_load_24 rfl (by decide)
theorem bX6_load_48 : bL cX6_load 48 [172, 42, 42, 180, 0, 25, 27, 182, 0, 51, 6, 108, 181, 0, 55, 42, 3, 181, 0, 59, 42, 180, 0, 29] := bL_of (by decide +kernel)
def dX6_load_48 := dk172 (k := 0) bX6_load_48 rfl
def dX6_load_49 := dk42 (k := 1) bX6_load_48 rfl
def dX6_load_50 := dk42 (k := 2) bX6_load_48 rfl
def dX6_load_51 := dk180 (k := 3) (x := 25) bX6_load_48 rfl rfl
def dX6_load_54 := dk27 (k := 6) bX6_load_48 rfl
def dX6_load_55 := dk182 (k := 7) (x := 51) bX6_load_48 rfl rfl
def dX6_load_58 := dk6 (k := 10) bX6_load_48 rfl
def dX6_load_59 := dk108 (k := 11) bX6_load_48 rfl
def dX6_load_60 := dk181 (k := 12) (x := 55) bX6_load_48 rfl rfl
def dX6_load_63 := dk42 (k := 15) bX6_load_48 rfl
def dX6_load_64 := dk3 (k := 16) bX6_load_48 rfl
def dX6_load_65 := dk181 (k := 17) (x := 59) bX6_load_48 rfl rfl
def dX6_load_68 := dk42 (k := 20) bX6_load_48 rfl
def dX6_load_69 := dk180 (k := 21) (x := 29) bX6_load_48 rfl rfl
theorem bX6_load_72 : bL cX6_load 72 [42, 180, 0, 21, 180, 0, 62, 182, 0, 65, 42, 180, 0, 29, 182, 0, 71, 61, 3, 62, 29, 16, 20, 163, 0, 45] := bL_of (by decide +kernel)
def dX6_load_72 := dk42 (k := 0) bX6_load_72 rfl
def dX6_load_73 := dk180 (k := 1) (x := 21) bX6_load_72 rfl rfl
def dX6_load_76 := dk180 (k := 4) (x := 62) bX6_load_72 rfl rfl
def dX6_load_79 := dk182 (k := 7) (x := 65) bX6_load_72 rfl rfl
def dX6_load_82 := dk42 (k := 10) bX6_load_72 rfl
def dX6_load_83 := dk180 (k := 11) (x := 29) bX6_load_72 rfl rfl
def dX6_load_86 := dk182 (k := 14) (x := 71) bX6_load_72 rfl rfl
def dX6_load_89 := dk61 (k := 17) bX6_load_72 rfl
def dX6_load_90 := dk3 (k := 18) bX6_load_72 rfl
def dX6_load_91 := dk62 (k := 19) bX6_load_72 rfl
def dX6_load_92 := dk29 (k := 20) bX6_load_72 rfl
def dX6_load_93 := dk16 (k := 21) (x := 20) bX6_load_72 rfl (by decide)
def dX6_load_95 := dk163 (k := 23) (x := 45) bX6_load_72 rfl (by decide)
theorem bX6_load_98 : bL cX6_load 98 [42, 27, 29, 182, 0, 75, 42, 180, 0, 9, 29, 46, 154, 0, 15, 42, 89, 180, 0, 59, 4, 29, 120, 128] := bL_of (by decide +kernel)
def dX6_load_98 := dk42 (k := 0) bX6_load_98 rfl
def dX6_load_99 := dk27 (k := 1) bX6_load_98 rfl
def dX6_load_100 := dk29 (k := 2) bX6_load_98 rfl
def dX6_load_101 := dk182 (k := 3) (x := 75) bX6_load_98 rfl rfl
def dX6_load_104 := dk42 (k := 6) bX6_load_98 rfl
def dX6_load_105 := dk180 (k := 7) (x := 9) bX6_load_98 rfl rfl
def dX6_load_108 := dk29 (k := 10) bX6_load_98 rfl
def dX6_load_109 := dk46 (k := 11) bX6_load_98 rfl
def dX6_load_110 := dk154 (k := 12) (x := 15) bX6_load_98 rfl (by decide)
def dX6_load_113 := dk42 (k := 15) bX6_load_98 rfl
def dX6_load_114 := dk89 (k := 16) bX6_load_98 rfl
def dX6_load_115 := dk180 (k := 17) (x := 59) bX6_load_98 rfl rfl
def dX6_load_118 := dk4 (k := 20) bX6_load_98 rfl
def dX6_load_119 := dk29 (k := 21) bX6_load_98 rfl
def dX6_load_120 := dk120 (k := 22) bX6_load_98 rfl
def dX6_load_121 := dk128 (k := 23) bX6_load_98 rfl
theorem bX6_load_122 : bL cX6_load 122 [181, 0, 59, 42, 180, 0, 29, 28, 4, 182, 0, 79, 132, 3, 1, 167, 255, 211, 3, 172] := bL_of (by decide +kernel)
def dX6_load_122 := dk181 (k := 0) (x := 59) bX6_load_122 rfl rfl
def dX6_load_125 := dk42 (k := 3) bX6_load_122 rfl
def dX6_load_126 := dk180 (k := 4) (x := 29) bX6_load_122 rfl rfl
def dX6_load_129 := dk28 (k := 7) bX6_load_122 rfl
def dX6_load_130 := dk4 (k := 8) bX6_load_122 rfl
def dX6_load_131 := dk182 (k := 9) (x := 79) bX6_load_122 rfl rfl
theorem dX6_load_134 : decode cX6_load 134 = .ok (.iinc 3 1, 3) := dk132 (k := 12) bX6_load_122 rfl rfl (by decide)
def dX6_load_137 := dk167 (k := 15) (x := (-45)) bX6_load_122 rfl (by decide)
def dX6_load_140 := dk3 (k := 18) bX6_load_122 rfl
def dX6_load_141 := dk172 (k := 19) bX6_load_122 rfl
theorem bX6_isSighting_0 : bL cX6_isSighting 0 [42, 180, 0, 25, 27, 182, 0, 51, 61, 28, 6, 112, 153, 0, 5, 3, 172, 3, 62, 29, 28, 162, 0, 135] := bL_of (by decide +kernel)
def dX6_isSighting_0 := dk42 (k := 0) bX6_isSighting_0 rfl
def dX6_isSighting_1 := dk180 (k := 1) (x := 25) bX6_isSighting_0 rfl rfl
def dX6_isSighting_4 := dk27 (k := 4) bX6_isSighting_0 rfl
def dX6_isSighting_5 := dk182 (k := 5) (x := 51) bX6_isSighting_0 rfl rfl
def dX6_isSighting_8 := dk61 (k := 8) bX6_isSighting_0 rfl
def dX6_isSighting_9 := dk28 (k := 9) bX6_isSighting_0 rfl
def dX6_isSighting_10 := dk6 (k := 10) bX6_isSighting_0 rfl
def dX6_isSighting_11 := dk112 (k := 11) bX6_isSighting_0 rfl
def dX6_isSighting_12 := dk153 (k := 12) (x := 5) bX6_isSighting_0 rfl (by decide)
def dX6_isSighting_15 := dk3 (k := 15) bX6_isSighting_0 rfl
def dX6_isSighting_16 := dk172 (k := 16) bX6_isSighting_0 rfl
def dX6_isSighting_17 := dk3 (k := 17) bX6_isSighting_0 rfl
def dX6_isSighting_18 := dk62 (k := 18) bX6_isSighting_0 rfl
def dX6_isSighting_19 := dk29 (k := 19) bX6_isSighting_0 rfl
def dX6_isSighting_20 := dk28 (k := 20) bX6_isSighting_0 rfl
def dX6_isSighting_21 := dk162 (k := 21) (x := 135) bX6_isSighting_0 rfl (by decide)
theorem bX6_isSighting_24 : bL cX6_isSighting 24 [42, 180, 0, 25, 27, 29, 182, 0, 82, 55, 4, 42, 180, 0, 25, 27, 29, 4, 96, 182, 0, 82, 55, 6] := bL_of (by decide +kernel)
def dX6_isSighting_24 := dk42 (k := 0) bX6_isSighting_24 rfl
def dX6_isSighting_25 := dk180 (k := 1) (x := 25) bX6_isSighting_24 rfl rfl
def dX6_isSighting_28 := dk27 (k := 4) bX6_isSighting_24 rfl
def dX6_isSighting_29 := dk29 (k := 5) bX6_isSighting_24 rfl
def dX6_isSighting_30 := dk182 (k := 6) (x := 82) bX6_isSighting_24 rfl rfl
def dX6_isSighting_33 := dk55 (k := 9) (x := 4) bX6_isSighting_24 rfl rfl
def dX6_isSighting_35 := dk42 (k := 11) bX6_isSighting_24 rfl
def dX6_isSighting_36 := dk180 (k := 12) (x := 25) bX6_isSighting_24 rfl rfl
def dX6_isSighting_39 := dk27 (k := 15) bX6_isSighting_24 rfl
def dX6_isSighting_40 := dk29 (k := 16) bX6_isSighting_24 rfl
def dX6_isSighting_41 := dk4 (k := 17) bX6_isSighting_24 rfl
def dX6_isSighting_42 := dk96 (k := 18) bX6_isSighting_24 rfl
def dX6_isSighting_43 := dk182 (k := 19) (x := 82) bX6_isSighting_24 rfl rfl
def dX6_isSighting_46 := dk55 (k := 22) (x := 6) bX6_isSighting_24 rfl rfl
theorem bX6_isSighting_48 : bL cX6_isSighting 48 [42, 180, 0, 25, 27, 29, 5, 96, 182, 0, 82, 55, 8, 22, 4, 9, 148, 155, 0, 24, 22, 4, 42, 180, 0, 21] := bL_of (by decide +kernel)
def dX6_isSighting_48 := dk42 (k := 0) bX6_isSighting_48 rfl
def dX6_isSighting_49 := dk180 (k := 1) (x := 25) bX6_isSighting_48 rfl rfl
def dX6_isSighting_52 := dk27 (k := 4) bX6_isSighting_48 rfl
def dX6_isSighting_53 := dk29 (k := 5) bX6_isSighting_48 rfl
def dX6_isSighting_54 := dk5 (k := 6) bX6_isSighting_48 rfl
def dX6_isSighting_55 := dk96 (k := 7) bX6_isSighting_48 rfl
def dX6_isSighting_56 := dk182 (k := 8) (x := 82) bX6_isSighting_48 rfl rfl
def dX6_isSighting_59 := dk55 (k := 11) (x := 8) bX6_isSighting_48 rfl rfl
def dX6_isSighting_61 := dk22 (k := 13) (x := 4) bX6_isSighting_48 rfl rfl
def dX6_isSighting_63 := dk9 (k := 15) bX6_isSighting_48 rfl
def dX6_isSighting_64 := dk148 (k := 16) bX6_isSighting_48 rfl
def dX6_isSighting_65 := dk155 (k := 17) (x := 24) bX6_isSighting_48 rfl (by decide)
def dX6_isSighting_68 := dk22 (k := 20) (x := 4) bX6_isSighting_48 rfl rfl
def dX6_isSighting_70 := dk42 (k := 22) bX6_isSighting_48 rfl
def dX6_isSighting_71 := dk180 (k := 23) (x := 21) bX6_isSighting_48 rfl rfl
theorem bX6_isSighting_74 : bL cX6_isSighting 74 [180, 0, 62, 180, 0, 86, 133, 148, 156, 0, 7, 4, 167, 0, 4, 3, 54, 10, 22, 6, 9, 148, 153, 0, 25] := bL_of (by decide +kernel)
def dX6_isSighting_74 := dk180 (k := 0) (x := 62) bX6_isSighting_74 rfl rfl
def dX6_isSighting_77 := dk180 (k := 3) (x := 86) bX6_isSighting_74 rfl rfl
def dX6_isSighting_80 := dk133 (k := 6) bX6_isSighting_74 rfl
def dX6_isSighting_81 := dk148 (k := 7) bX6_isSighting_74 rfl
def dX6_isSighting_82 := dk156 (k := 8) (x := 7) bX6_isSighting_74 rfl (by decide)
def dX6_isSighting_85 := dk4 (k := 11) bX6_isSighting_74 rfl
def dX6_isSighting_86 := dk167 (k := 12) (x := 4) bX6_isSighting_74 rfl (by decide)
def dX6_isSighting_89 := dk3 (k := 15) bX6_isSighting_74 rfl
def dX6_isSighting_90 := dk54 (k := 16) (x := 10) bX6_isSighting_74 rfl rfl
def dX6_isSighting_92 := dk22 (k := 18) (x := 6) bX6_isSighting_74 rfl rfl
def dX6_isSighting_94 := dk9 (k := 20) bX6_isSighting_74 rfl
def dX6_isSighting_95 := dk148 (k := 21) bX6_isSighting_74 rfl
def dX6_isSighting_96 := dk153 (k := 22) (x := 25) bX6_isSighting_74 rfl (by decide)
theorem bX6_isSighting_99 : bL cX6_isSighting 99 [22, 6, 20, 0, 89, 148, 155, 0, 16, 22, 6, 20, 0, 91, 148, 157, 0, 7, 4, 167, 0, 4, 3, 54, 11] := bL_of (by decide +kernel)
def dX6_isSighting_99 := dk22 (k := 0) (x := 6) bX6_isSighting_99 rfl rfl
def dX6_isSighting_101 := dk20 (k := 2) (x := 89) bX6_isSighting_99 rfl rfl
def dX6_isSighting_104 := dk148 (k := 5) bX6_isSighting_99 rfl
def dX6_isSighting_105 := dk155 (k := 6) (x := 16) bX6_isSighting_99 rfl (by decide)
def dX6_isSighting_108 := dk22 (k := 9) (x := 6) bX6_isSighting_99 rfl rfl
def dX6_isSighting_110 := dk20 (k := 11) (x := 91) bX6_isSighting_99 rfl rfl
def dX6_isSighting_113 := dk148 (k := 14) bX6_isSighting_99 rfl
def dX6_isSighting_114 := dk157 (k := 15) (x := 7) bX6_isSighting_99 rfl (by decide)
def dX6_isSighting_117 := dk4 (k := 18) bX6_isSighting_99 rfl
def dX6_isSighting_118 := dk167 (k := 19) (x := 4) bX6_isSighting_99 rfl (by decide)
def dX6_isSighting_121 := dk3 (k := 22) bX6_isSighting_99 rfl
def dX6_isSighting_122 := dk54 (k := 23) (x := 11) bX6_isSighting_99 rfl rfl
theorem bX6_isSighting_124 : bL cX6_isSighting 124 [21, 10, 153, 0, 22, 21, 11, 153, 0, 17, 22, 8, 9, 148, 155, 0, 10, 22, 8, 10, 148, 158, 0, 5] := bL_of (by decide +kernel)
def dX6_isSighting_124 := dk21 (k := 0) (x := 10) bX6_isSighting_124 rfl rfl
def dX6_isSighting_126 := dk153 (k := 2) (x := 22) bX6_isSighting_124 rfl (by decide)
def dX6_isSighting_129 := dk21 (k := 5) (x := 11) bX6_isSighting_124 rfl rfl
def dX6_isSighting_131 := dk153 (k := 7) (x := 17) bX6_isSighting_124 rfl (by decide)
def dX6_isSighting_134 := dk22 (k := 10) (x := 8) bX6_isSighting_124 rfl rfl
def dX6_isSighting_136 := dk9 (k := 12) bX6_isSighting_124 rfl
def dX6_isSighting_137 := dk148 (k := 13) bX6_isSighting_124 rfl
def dX6_isSighting_138 := dk155 (k := 14) (x := 10) bX6_isSighting_124 rfl (by decide)
def dX6_isSighting_141 := dk22 (k := 17) (x := 8) bX6_isSighting_124 rfl rfl
def dX6_isSighting_143 := dk10 (k := 19) bX6_isSighting_124 rfl
def dX6_isSighting_144 := dk148 (k := 20) bX6_isSighting_124 rfl
def dX6_isSighting_145 := dk158 (k := 21) (x := 5) bX6_isSighting_124 rfl (by decide)
theorem bX6_isSighting_148 : bL cX6_isSighting 148 [3, 172, 132, 3, 3, 167, 255, 122, 4, 172] := bL_of (by decide +kernel)
def dX6_isSighting_148 := dk3 (k := 0) bX6_isSighting_148 rfl
def dX6_isSighting_149 := dk172 (k := 1) bX6_isSighting_148 rfl
theorem dX6_isSighting_150 : decode cX6_isSighting 150 = .ok (.iinc 3 3, 3) := dk132 (k := 2) bX6_isSighting_148 rfl rfl (by decide)
def dX6_isSighting_153 := dk167 (k := 5) (x := (-134)) bX6_isSighting_148 rfl (by decide)
def dX6_isSighting_156 := dk4 (k := 8) bX6_isSighting_148 rfl
def dX6_isSighting_157 := dk172 (k := 9) bX6_isSighting_148 rfl
theorem bX6_countMisses_0 : bL cX6_countMisses 0 [28, 155, 0, 12, 28, 42, 180, 0, 9, 190, 161, 0, 4, 177, 42, 180, 0, 9, 28, 3, 79, 42, 180, 0, 15] := bL_of (by decide +kernel)
def dX6_countMisses_0 := dk28 (k := 0) bX6_countMisses_0 rfl
def dX6_countMisses_1 := dk155 (k := 1) (x := 12) bX6_countMisses_0 rfl (by decide)
def dX6_countMisses_4 := dk28 (k := 4) bX6_countMisses_0 rfl
def dX6_countMisses_5 := dk42 (k := 5) bX6_countMisses_0 rfl
def dX6_countMisses_6 := dk180 (k := 6) (x := 9) bX6_countMisses_0 rfl rfl
def dX6_countMisses_9 := dk190 (k := 9) bX6_countMisses_0 rfl
def dX6_countMisses_10 := dk161 (k := 10) (x := 4) bX6_countMisses_0 rfl (by decide)
def dX6_countMisses_13 := dk177 (k := 13) bX6_countMisses_0 rfl
def dX6_countMisses_14 := dk42 (k := 14) bX6_countMisses_0 rfl
def dX6_countMisses_15 := dk180 (k := 15) (x := 9) bX6_countMisses_0 rfl rfl
def dX6_countMisses_18 := dk28 (k := 18) bX6_countMisses_0 rfl
def dX6_countMisses_19 := dk3 (k := 19) bX6_countMisses_0 rfl
def dX6_countMisses_20 := dk79 (k := 20) bX6_countMisses_0 rfl
def dX6_countMisses_21 := dk42 (k := 21) bX6_countMisses_0 rfl
def dX6_countMisses_22 := dk180 (k := 22) (x := 15) bX6_countMisses_0 rfl rfl
theorem bX6_countMisses_25 : bL cX6_countMisses 25 [28, 2, 79, 3, 62, 29, 42, 180, 0, 55, 162, 0, 97, 42, 180, 0, 25, 27, 6, 29, 104, 182, 0, 82] := bL_of (by decide +kernel)
def dX6_countMisses_25 := dk28 (k := 0) bX6_countMisses_25 rfl
def dX6_countMisses_26 := dk2 (k := 1) bX6_countMisses_25 rfl
def dX6_countMisses_27 := dk79 (k := 2) bX6_countMisses_25 rfl
def dX6_countMisses_28 := dk3 (k := 3) bX6_countMisses_25 rfl
def dX6_countMisses_29 := dk62 (k := 4) bX6_countMisses_25 rfl
def dX6_countMisses_30 := dk29 (k := 5) bX6_countMisses_25 rfl
def dX6_countMisses_31 := dk42 (k := 6) bX6_countMisses_25 rfl
def dX6_countMisses_32 := dk180 (k := 7) (x := 55) bX6_countMisses_25 rfl rfl
def dX6_countMisses_35 := dk162 (k := 10) (x := 97) bX6_countMisses_25 rfl (by decide)
def dX6_countMisses_38 := dk42 (k := 13) bX6_countMisses_25 rfl
def dX6_countMisses_39 := dk180 (k := 14) (x := 25) bX6_countMisses_25 rfl rfl
def dX6_countMisses_42 := dk27 (k := 17) bX6_countMisses_25 rfl
def dX6_countMisses_43 := dk6 (k := 18) bX6_countMisses_25 rfl
def dX6_countMisses_44 := dk29 (k := 19) bX6_countMisses_25 rfl
def dX6_countMisses_45 := dk104 (k := 20) bX6_countMisses_25 rfl
def dX6_countMisses_46 := dk182 (k := 21) (x := 82) bX6_countMisses_25 rfl rfl
theorem bX6_countMisses_49 : bL cX6_countMisses 49 [136, 54, 4, 42, 180, 0, 25, 27, 6, 29, 104, 4, 96, 182, 0, 82, 136, 54, 5, 42, 180, 0, 25, 27] := bL_of (by decide +kernel)
def dX6_countMisses_49 := dk136 (k := 0) bX6_countMisses_49 rfl
def dX6_countMisses_50 := dk54 (k := 1) (x := 4) bX6_countMisses_49 rfl rfl
def dX6_countMisses_52 := dk42 (k := 3) bX6_countMisses_49 rfl
def dX6_countMisses_53 := dk180 (k := 4) (x := 25) bX6_countMisses_49 rfl rfl
def dX6_countMisses_56 := dk27 (k := 7) bX6_countMisses_49 rfl
def dX6_countMisses_57 := dk6 (k := 8) bX6_countMisses_49 rfl
def dX6_countMisses_58 := dk29 (k := 9) bX6_countMisses_49 rfl
def dX6_countMisses_59 := dk104 (k := 10) bX6_countMisses_49 rfl
def dX6_countMisses_60 := dk4 (k := 11) bX6_countMisses_49 rfl
def dX6_countMisses_61 := dk96 (k := 12) bX6_countMisses_49 rfl
def dX6_countMisses_62 := dk182 (k := 13) (x := 82) bX6_countMisses_49 rfl rfl
def dX6_countMisses_65 := dk136 (k := 16) bX6_countMisses_49 rfl
def dX6_countMisses_66 := dk54 (k := 17) (x := 5) bX6_countMisses_49 rfl rfl
def dX6_countMisses_68 := dk42 (k := 19) bX6_countMisses_49 rfl
def dX6_countMisses_69 := dk180 (k := 20) (x := 25) bX6_countMisses_49 rfl rfl
def dX6_countMisses_72 := dk27 (k := 23) bX6_countMisses_49 rfl
theorem bX6_countMisses_73 : bL cX6_countMisses 73 [6, 29, 104, 5, 96, 182, 0, 82, 10, 148, 154, 0, 7, 4, 167, 0, 4, 3, 54, 6, 42, 180, 0, 29] := bL_of (by decide +kernel)
def dX6_countMisses_73 := dk6 (k := 0) bX6_countMisses_73 rfl
def dX6_countMisses_74 := dk29 (k := 1) bX6_countMisses_73 rfl
def dX6_countMisses_75 := dk104 (k := 2) bX6_countMisses_73 rfl
def dX6_countMisses_76 := dk5 (k := 3) bX6_countMisses_73 rfl
def dX6_countMisses_77 := dk96 (k := 4) bX6_countMisses_73 rfl
def dX6_countMisses_78 := dk182 (k := 5) (x := 82) bX6_countMisses_73 rfl rfl
def dX6_countMisses_81 := dk10 (k := 8) bX6_countMisses_73 rfl
def dX6_countMisses_82 := dk148 (k := 9) bX6_countMisses_73 rfl
def dX6_countMisses_83 := dk154 (k := 10) (x := 7) bX6_countMisses_73 rfl (by decide)
def dX6_countMisses_86 := dk4 (k := 13) bX6_countMisses_73 rfl
def dX6_countMisses_87 := dk167 (k := 14) (x := 4) bX6_countMisses_73 rfl (by decide)
def dX6_countMisses_90 := dk3 (k := 17) bX6_countMisses_73 rfl
def dX6_countMisses_91 := dk54 (k := 18) (x := 6) bX6_countMisses_73 rfl rfl
def dX6_countMisses_93 := dk42 (k := 20) bX6_countMisses_73 rfl
def dX6_countMisses_94 := dk180 (k := 21) (x := 29) bX6_countMisses_73 rfl rfl
theorem bX6_countMisses_97 : bL cX6_countMisses 97 [21, 4, 21, 5, 182, 0, 93, 21, 6, 159, 0, 20, 42, 180, 0, 9, 28, 92, 46, 4, 96, 79, 42, 180, 0, 15] := bL_of (by decide +kernel)
def dX6_countMisses_97 := dk21 (k := 0) (x := 4) bX6_countMisses_97 rfl rfl
def dX6_countMisses_99 := dk21 (k := 2) (x := 5) bX6_countMisses_97 rfl rfl
def dX6_countMisses_101 := dk182 (k := 4) (x := 93) bX6_countMisses_97 rfl rfl
def dX6_countMisses_104 := dk21 (k := 7) (x := 6) bX6_countMisses_97 rfl rfl
def dX6_countMisses_106 := dk159 (k := 9) (x := 20) bX6_countMisses_97 rfl (by decide)
def dX6_countMisses_109 := dk42 (k := 12) bX6_countMisses_97 rfl
def dX6_countMisses_110 := dk180 (k := 13) (x := 9) bX6_countMisses_97 rfl rfl
def dX6_countMisses_113 := dk28 (k := 16) bX6_countMisses_97 rfl
def dX6_countMisses_114 := dk92 (k := 17) bX6_countMisses_97 rfl
def dX6_countMisses_115 := dk46 (k := 18) bX6_countMisses_97 rfl
def dX6_countMisses_116 := dk4 (k := 19) bX6_countMisses_97 rfl
def dX6_countMisses_117 := dk96 (k := 20) bX6_countMisses_97 rfl
def dX6_countMisses_118 := dk79 (k := 21) bX6_countMisses_97 rfl
def dX6_countMisses_119 := dk42 (k := 22) bX6_countMisses_97 rfl
def dX6_countMisses_120 := dk180 (k := 23) (x := 15) bX6_countMisses_97 rfl rfl
theorem bX6_countMisses_123 : bL cX6_countMisses 123 [28, 29, 79, 132, 3, 1, 167, 255, 157, 177] := bL_of (by decide +kernel)
def dX6_countMisses_123 := dk28 (k := 0) bX6_countMisses_123 rfl
def dX6_countMisses_124 := dk29 (k := 1) bX6_countMisses_123 rfl
def dX6_countMisses_125 := dk79 (k := 2) bX6_countMisses_123 rfl
theorem dX6_countMisses_126 : decode cX6_countMisses 126 = .ok (.iinc 3 1, 3) := dk132 (k := 3) bX6_countMisses_123 rfl rfl (by decide)
def dX6_countMisses_129 := dk167 (k := 6) (x := (-99)) bX6_countMisses_123 rfl (by decide)
def dX6_countMisses_132 := dk177 (k := 9) bX6_countMisses_123 rfl
theorem bX6_hourToMeasure_0 : bL cX6_hourToMeasure 0 [42, 27, 182, 0, 97, 42, 180, 0, 59, 184, 0, 101, 61, 3, 62, 42, 28, 181, 0, 106, 4, 54, 4, 21, 4] := bL_of (by decide +kernel)
def dX6_hourToMeasure_0 := dk42 (k := 0) bX6_hourToMeasure_0 rfl
def dX6_hourToMeasure_1 := dk27 (k := 1) bX6_hourToMeasure_0 rfl
def dX6_hourToMeasure_2 := dk182 (k := 2) (x := 97) bX6_hourToMeasure_0 rfl rfl
def dX6_hourToMeasure_5 := dk42 (k := 5) bX6_hourToMeasure_0 rfl
def dX6_hourToMeasure_6 := dk180 (k := 6) (x := 59) bX6_hourToMeasure_0 rfl rfl
def dX6_hourToMeasure_9 := dk184 (k := 9) (x := 101) bX6_hourToMeasure_0 rfl rfl
def dX6_hourToMeasure_12 := dk61 (k := 12) bX6_hourToMeasure_0 rfl
def dX6_hourToMeasure_13 := dk3 (k := 13) bX6_hourToMeasure_0 rfl
def dX6_hourToMeasure_14 := dk62 (k := 14) bX6_hourToMeasure_0 rfl
def dX6_hourToMeasure_15 := dk42 (k := 15) bX6_hourToMeasure_0 rfl
def dX6_hourToMeasure_16 := dk28 (k := 16) bX6_hourToMeasure_0 rfl
def dX6_hourToMeasure_17 := dk181 (k := 17) (x := 106) bX6_hourToMeasure_0 rfl rfl
def dX6_hourToMeasure_20 := dk4 (k := 20) bX6_hourToMeasure_0 rfl
def dX6_hourToMeasure_21 := dk54 (k := 21) (x := 4) bX6_hourToMeasure_0 rfl rfl
def dX6_hourToMeasure_23 := dk21 (k := 23) (x := 4) bX6_hourToMeasure_0 rfl rfl
theorem bX6_hourToMeasure_25 : bL cX6_hourToMeasure 25 [42, 180, 0, 18, 190, 162, 0, 48, 42, 180, 0, 18, 21, 4, 46, 28, 42, 180, 0, 18, 21, 4, 46, 100] := bL_of (by decide +kernel)
def dX6_hourToMeasure_25 := dk42 (k := 0) bX6_hourToMeasure_25 rfl
def dX6_hourToMeasure_26 := dk180 (k := 1) (x := 18) bX6_hourToMeasure_25 rfl rfl
def dX6_hourToMeasure_29 := dk190 (k := 4) bX6_hourToMeasure_25 rfl
def dX6_hourToMeasure_30 := dk162 (k := 5) (x := 48) bX6_hourToMeasure_25 rfl (by decide)
def dX6_hourToMeasure_33 := dk42 (k := 8) bX6_hourToMeasure_25 rfl
def dX6_hourToMeasure_34 := dk180 (k := 9) (x := 18) bX6_hourToMeasure_25 rfl rfl
def dX6_hourToMeasure_37 := dk21 (k := 12) (x := 4) bX6_hourToMeasure_25 rfl rfl
def dX6_hourToMeasure_39 := dk46 (k := 14) bX6_hourToMeasure_25 rfl
def dX6_hourToMeasure_40 := dk28 (k := 15) bX6_hourToMeasure_25 rfl
def dX6_hourToMeasure_41 := dk42 (k := 16) bX6_hourToMeasure_25 rfl
def dX6_hourToMeasure_42 := dk180 (k := 17) (x := 18) bX6_hourToMeasure_25 rfl rfl
def dX6_hourToMeasure_45 := dk21 (k := 20) (x := 4) bX6_hourToMeasure_25 rfl rfl
def dX6_hourToMeasure_47 := dk46 (k := 22) bX6_hourToMeasure_25 rfl
def dX6_hourToMeasure_48 := dk100 (k := 23) bX6_hourToMeasure_25 rfl
theorem bX6_hourToMeasure_49 : bL cX6_hourToMeasure 49 [184, 0, 109, 54, 5, 21, 5, 42, 180, 0, 106, 162, 0, 12, 42, 21, 5, 181, 0, 106, 21, 4, 62, 132, 4, 1] := bL_of (by decide +kernel)
def dX6_hourToMeasure_49 := dk184 (k := 0) (x := 109) bX6_hourToMeasure_49 rfl rfl
def dX6_hourToMeasure_52 := dk54 (k := 3) (x := 5) bX6_hourToMeasure_49 rfl rfl
def dX6_hourToMeasure_54 := dk21 (k := 5) (x := 5) bX6_hourToMeasure_49 rfl rfl
def dX6_hourToMeasure_56 := dk42 (k := 7) bX6_hourToMeasure_49 rfl
def dX6_hourToMeasure_57 := dk180 (k := 8) (x := 106) bX6_hourToMeasure_49 rfl rfl
def dX6_hourToMeasure_60 := dk162 (k := 11) (x := 12) bX6_hourToMeasure_49 rfl (by decide)
def dX6_hourToMeasure_63 := dk42 (k := 14) bX6_hourToMeasure_49 rfl
def dX6_hourToMeasure_64 := dk21 (k := 15) (x := 5) bX6_hourToMeasure_49 rfl rfl
def dX6_hourToMeasure_66 := dk181 (k := 17) (x := 106) bX6_hourToMeasure_49 rfl rfl
def dX6_hourToMeasure_69 := dk21 (k := 20) (x := 4) bX6_hourToMeasure_49 rfl rfl
def dX6_hourToMeasure_71 := dk62 (k := 22) bX6_hourToMeasure_49 rfl
theorem dX6_hourToMeasure_72 : decode cX6_hourToMeasure 72 = .ok (.iinc 4 1, 3) := dk132 (k := 23) bX6_hourToMeasure_49 rfl rfl (by decide)
theorem bX6_hourToMeasure_75 : bL cX6_hourToMeasure 75 [167, 255, 204, 29, 172] := bL_of (by decide +kernel)
def dX6_hourToMeasure_75 := dk167 (k := 0) (x := (-52)) bX6_hourToMeasure_75 rfl (by decide)
def dX6_hourToMeasure_78 := dk29 (k := 3) bX6_hourToMeasure_75 rfl
def dX6_hourToMeasure_79 := dk172 (k := 4) bX6_hourToMeasure_75 rfl
theorem bX6_countShaded_0 : bL cX6_countShaded 0 [3, 61, 28, 42, 180, 0, 18, 190, 162, 0, 16, 42, 180, 0, 18, 28, 3, 79, 132, 2, 1, 167, 255, 237] := bL_of (by decide +kernel)
def dX6_countShaded_0 := dk3 (k := 0) bX6_countShaded_0 rfl
def dX6_countShaded_1 := dk61 (k := 1) bX6_countShaded_0 rfl
def dX6_countShaded_2 := dk28 (k := 2) bX6_countShaded_0 rfl
def dX6_countShaded_3 := dk42 (k := 3) bX6_countShaded_0 rfl
def dX6_countShaded_4 := dk180 (k := 4) (x := 18) bX6_countShaded_0 rfl rfl
def dX6_countShaded_7 := dk190 (k := 7) bX6_countShaded_0 rfl
def dX6_countShaded_8 := dk162 (k := 8) (x := 16) bX6_countShaded_0 rfl (by decide)
def dX6_countShaded_11 := dk42 (k := 11) bX6_countShaded_0 rfl
def dX6_countShaded_12 := dk180 (k := 12) (x := 18) bX6_countShaded_0 rfl rfl
def dX6_countShaded_15 := dk28 (k := 15) bX6_countShaded_0 rfl
def dX6_countShaded_16 := dk3 (k := 16) bX6_countShaded_0 rfl
def dX6_countShaded_17 := dk79 (k := 17) bX6_countShaded_0 rfl
theorem dX6_countShaded_18 : decode cX6_countShaded 18 = .ok (.iinc 2 1, 3) := dk132 (k := 18) bX6_countShaded_0 rfl rfl (by decide)
def dX6_countShaded_21 := dk167 (k := 21) (x := (-19)) bX6_countShaded_0 rfl (by decide)
theorem bX6_countShaded_24 : bL cX6_countShaded 24 [42, 180, 0, 29, 42, 180, 0, 21, 180, 0, 62, 182, 0, 65, 42, 180, 0, 29, 182, 0, 71, 61, 3, 62] := bL_of (by decide +kernel)
def dX6_countShaded_24 := dk42 (k := 0) bX6_countShaded_24 rfl
def dX6_countShaded_25 := dk180 (k := 1) (x := 29) bX6_countShaded_24 rfl rfl
def dX6_countShaded_28 := dk42 (k := 4) bX6_countShaded_24 rfl
def dX6_countShaded_29 := dk180 (k := 5) (x := 21) bX6_countShaded_24 rfl rfl
def dX6_countShaded_32 := dk180 (k := 8) (x := 62) bX6_countShaded_24 rfl rfl
def dX6_countShaded_35 := dk182 (k := 11) (x := 65) bX6_countShaded_24 rfl rfl
def dX6_countShaded_38 := dk42 (k := 14) bX6_countShaded_24 rfl
def dX6_countShaded_39 := dk180 (k := 15) (x := 29) bX6_countShaded_24 rfl rfl
def dX6_countShaded_42 := dk182 (k := 18) (x := 71) bX6_countShaded_24 rfl rfl
def dX6_countShaded_45 := dk61 (k := 21) bX6_countShaded_24 rfl
def dX6_countShaded_46 := dk3 (k := 22) bX6_countShaded_24 rfl
def dX6_countShaded_47 := dk62 (k := 23) bX6_countShaded_24 rfl
theorem bX6_countShaded_48 : bL cX6_countShaded 48 [29, 16, 20, 163, 0, 59, 42, 180, 0, 59, 29, 122, 4, 126, 4, 160, 0, 32, 42, 42, 180, 0, 29, 27] := bL_of (by decide +kernel)
def dX6_countShaded_48 := dk29 (k := 0) bX6_countShaded_48 rfl
def dX6_countShaded_49 := dk16 (k := 1) (x := 20) bX6_countShaded_48 rfl (by decide)
def dX6_countShaded_51 := dk163 (k := 3) (x := 59) bX6_countShaded_48 rfl (by decide)
def dX6_countShaded_54 := dk42 (k := 6) bX6_countShaded_48 rfl
def dX6_countShaded_55 := dk180 (k := 7) (x := 59) bX6_countShaded_48 rfl rfl
def dX6_countShaded_58 := dk29 (k := 10) bX6_countShaded_48 rfl
def dX6_countShaded_59 := dk122 (k := 11) bX6_countShaded_48 rfl
def dX6_countShaded_60 := dk4 (k := 12) bX6_countShaded_48 rfl
def dX6_countShaded_61 := dk126 (k := 13) bX6_countShaded_48 rfl
def dX6_countShaded_62 := dk4 (k := 14) bX6_countShaded_48 rfl
def dX6_countShaded_63 := dk160 (k := 15) (x := 32) bX6_countShaded_48 rfl (by decide)
def dX6_countShaded_66 := dk42 (k := 18) bX6_countShaded_48 rfl
def dX6_countShaded_67 := dk42 (k := 19) bX6_countShaded_48 rfl
def dX6_countShaded_68 := dk180 (k := 20) (x := 29) bX6_countShaded_48 rfl rfl
def dX6_countShaded_71 := dk27 (k := 23) bX6_countShaded_48 rfl
theorem bX6_countShaded_72 : bL cX6_countShaded 72 [2, 182, 0, 115, 3, 182, 0, 118, 42, 42, 180, 0, 29, 27, 4, 182, 0, 115, 16, 9, 182, 0, 118, 42] := bL_of (by decide +kernel)
def dX6_countShaded_72 := dk2 (k := 0) bX6_countShaded_72 rfl
def dX6_countShaded_73 := dk182 (k := 1) (x := 115) bX6_countShaded_72 rfl rfl
def dX6_countShaded_76 := dk3 (k := 4) bX6_countShaded_72 rfl
def dX6_countShaded_77 := dk182 (k := 5) (x := 118) bX6_countShaded_72 rfl rfl
def dX6_countShaded_80 := dk42 (k := 8) bX6_countShaded_72 rfl
def dX6_countShaded_81 := dk42 (k := 9) bX6_countShaded_72 rfl
def dX6_countShaded_82 := dk180 (k := 10) (x := 29) bX6_countShaded_72 rfl rfl
def dX6_countShaded_85 := dk27 (k := 13) bX6_countShaded_72 rfl
def dX6_countShaded_86 := dk4 (k := 14) bX6_countShaded_72 rfl
def dX6_countShaded_87 := dk182 (k := 15) (x := 115) bX6_countShaded_72 rfl rfl
def dX6_countShaded_90 := dk16 (k := 18) (x := 9) bX6_countShaded_72 rfl (by decide)
def dX6_countShaded_92 := dk182 (k := 20) (x := 118) bX6_countShaded_72 rfl rfl
def dX6_countShaded_95 := dk42 (k := 23) bX6_countShaded_72 rfl
theorem bX6_countShaded_96 : bL cX6_countShaded 96 [180, 0, 29, 28, 4, 182, 0, 79, 132, 3, 1, 167, 255, 197, 177] := bL_of (by decide +kernel)
def dX6_countShaded_96 := dk180 (k := 0) (x := 29) bX6_countShaded_96 rfl rfl
def dX6_countShaded_99 := dk28 (k := 3) bX6_countShaded_96 rfl
def dX6_countShaded_100 := dk4 (k := 4) bX6_countShaded_96 rfl
def dX6_countShaded_101 := dk182 (k := 5) (x := 79) bX6_countShaded_96 rfl rfl
theorem dX6_countShaded_104 : decode cX6_countShaded 104 = .ok (.iinc 3 1, 3) := dk132 (k := 8) bX6_countShaded_96 rfl rfl (by decide)
def dX6_countShaded_107 := dk167 (k := 11) (x := (-59)) bX6_countShaded_96 rfl (by decide)
def dX6_countShaded_110 := dk177 (k := 14) bX6_countShaded_96 rfl
theorem bX6_addShaded_0 : bL cX6_addShaded 0 [28, 4, 96, 62, 29, 28, 27, 96, 163, 0, 32, 29, 155, 0, 22, 29, 42, 180, 0, 18, 190, 162, 0, 13] := bL_of (by decide +kernel)
def dX6_addShaded_0 := dk28 (k := 0) bX6_addShaded_0 rfl
def dX6_addShaded_1 := dk4 (k := 1) bX6_addShaded_0 rfl
def dX6_addShaded_2 := dk96 (k := 2) bX6_addShaded_0 rfl
def dX6_addShaded_3 := dk62 (k := 3) bX6_addShaded_0 rfl
def dX6_addShaded_4 := dk29 (k := 4) bX6_addShaded_0 rfl
def dX6_addShaded_5 := dk28 (k := 5) bX6_addShaded_0 rfl
def dX6_addShaded_6 := dk27 (k := 6) bX6_addShaded_0 rfl
def dX6_addShaded_7 := dk96 (k := 7) bX6_addShaded_0 rfl
def dX6_addShaded_8 := dk163 (k := 8) (x := 32) bX6_addShaded_0 rfl (by decide)
def dX6_addShaded_11 := dk29 (k := 11) bX6_addShaded_0 rfl
def dX6_addShaded_12 := dk155 (k := 12) (x := 22) bX6_addShaded_0 rfl (by decide)
def dX6_addShaded_15 := dk29 (k := 15) bX6_addShaded_0 rfl
def dX6_addShaded_16 := dk42 (k := 16) bX6_addShaded_0 rfl
def dX6_addShaded_17 := dk180 (k := 17) (x := 18) bX6_addShaded_0 rfl rfl
def dX6_addShaded_20 := dk190 (k := 20) bX6_addShaded_0 rfl
def dX6_addShaded_21 := dk162 (k := 21) (x := 13) bX6_addShaded_0 rfl (by decide)
theorem bX6_addShaded_24 : bL cX6_addShaded 24 [42, 180, 0, 18, 29, 92, 46, 4, 96, 79, 132, 3, 1, 167, 255, 223, 177] := bL_of (by decide +kernel)
def dX6_addShaded_24 := dk42 (k := 0) bX6_addShaded_24 rfl
def dX6_addShaded_25 := dk180 (k := 1) (x := 18) bX6_addShaded_24 rfl rfl
def dX6_addShaded_28 := dk29 (k := 4) bX6_addShaded_24 rfl
def dX6_addShaded_29 := dk92 (k := 5) bX6_addShaded_24 rfl
def dX6_addShaded_30 := dk46 (k := 6) bX6_addShaded_24 rfl
def dX6_addShaded_31 := dk4 (k := 7) bX6_addShaded_24 rfl
def dX6_addShaded_32 := dk96 (k := 8) bX6_addShaded_24 rfl
def dX6_addShaded_33 := dk79 (k := 9) bX6_addShaded_24 rfl
theorem dX6_addShaded_34 : decode cX6_addShaded 34 = .ok (.iinc 3 1, 3) := dk132 (k := 10) bX6_addShaded_24 rfl rfl (by decide)
def dX6_addShaded_37 := dk167 (k := 13) (x := (-33)) bX6_addShaded_24 rfl (by decide)
def dX6_addShaded_40 := dk177 (k := 16) bX6_addShaded_24 rfl
theorem bX6_doubtful_0 : bL cX6_doubtful 0 [42, 180, 0, 59, 153, 0, 8, 42, 180, 0, 55, 172, 3, 60, 3, 61, 28, 42, 180, 0, 55, 162, 0, 20] := bL_of (by decide +kernel)
def dX6_doubtful_0 := dk42 (k := 0) bX6_doubtful_0 rfl
def dX6_doubtful_1 := dk180 (k := 1) (x := 59) bX6_doubtful_0 rfl rfl
def dX6_doubtful_4 := dk153 (k := 4) (x := 8) bX6_doubtful_0 rfl (by decide)
def dX6_doubtful_7 := dk42 (k := 7) bX6_doubtful_0 rfl
def dX6_doubtful_8 := dk180 (k := 8) (x := 55) bX6_doubtful_0 rfl rfl
def dX6_doubtful_11 := dk172 (k := 11) bX6_doubtful_0 rfl
def dX6_doubtful_12 := dk3 (k := 12) bX6_doubtful_0 rfl
def dX6_doubtful_13 := dk60 (k := 13) bX6_doubtful_0 rfl
def dX6_doubtful_14 := dk3 (k := 14) bX6_doubtful_0 rfl
def dX6_doubtful_15 := dk61 (k := 15) bX6_doubtful_0 rfl
def dX6_doubtful_16 := dk28 (k := 16) bX6_doubtful_0 rfl
def dX6_doubtful_17 := dk42 (k := 17) bX6_doubtful_0 rfl
def dX6_doubtful_18 := dk180 (k := 18) (x := 55) bX6_doubtful_0 rfl rfl
def dX6_doubtful_21 := dk162 (k := 21) (x := 20) bX6_doubtful_0 rfl (by decide)
theorem bX6_doubtful_24 : bL cX6_doubtful 24 [42, 28, 182, 0, 121, 153, 0, 6, 132, 1, 1, 132, 2, 1, 167, 255, 234, 27, 172] := bL_of (by decide +kernel)
def dX6_doubtful_24 := dk42 (k := 0) bX6_doubtful_24 rfl
def dX6_doubtful_25 := dk28 (k := 1) bX6_doubtful_24 rfl
def dX6_doubtful_26 := dk182 (k := 2) (x := 121) bX6_doubtful_24 rfl rfl
def dX6_doubtful_29 := dk153 (k := 5) (x := 6) bX6_doubtful_24 rfl (by decide)
theorem dX6_doubtful_32 : decode cX6_doubtful 32 = .ok (.iinc 1 1, 3) := dk132 (k := 8) bX6_doubtful_24 rfl rfl (by decide)
theorem dX6_doubtful_35 : decode cX6_doubtful 35 = .ok (.iinc 2 1, 3) := dk132 (k := 11) bX6_doubtful_24 rfl rfl (by decide)
def dX6_doubtful_38 := dk167 (k := 14) (x := (-22)) bX6_doubtful_24 rfl (by decide)
def dX6_doubtful_41 := dk27 (k := 17) bX6_doubtful_24 rfl
def dX6_doubtful_42 := dk172 (k := 18) bX6_doubtful_24 rfl
theorem bX6_isOnlyMiss_0 : bL cX6_isOnlyMiss 0 [3, 61, 28, 16, 20, 163, 0, 31, 42, 180, 0, 9, 28, 46, 4, 160, 0, 15, 42, 180, 0, 15, 28, 46] := bL_of (by decide +kernel)
def dX6_isOnlyMiss_0 := dk3 (k := 0) bX6_isOnlyMiss_0 rfl
def dX6_isOnlyMiss_1 := dk61 (k := 1) bX6_isOnlyMiss_0 rfl
def dX6_isOnlyMiss_2 := dk28 (k := 2) bX6_isOnlyMiss_0 rfl
def dX6_isOnlyMiss_3 := dk16 (k := 3) (x := 20) bX6_isOnlyMiss_0 rfl (by decide)
def dX6_isOnlyMiss_5 := dk163 (k := 5) (x := 31) bX6_isOnlyMiss_0 rfl (by decide)
def dX6_isOnlyMiss_8 := dk42 (k := 8) bX6_isOnlyMiss_0 rfl
def dX6_isOnlyMiss_9 := dk180 (k := 9) (x := 9) bX6_isOnlyMiss_0 rfl rfl
def dX6_isOnlyMiss_12 := dk28 (k := 12) bX6_isOnlyMiss_0 rfl
def dX6_isOnlyMiss_13 := dk46 (k := 13) bX6_isOnlyMiss_0 rfl
def dX6_isOnlyMiss_14 := dk4 (k := 14) bX6_isOnlyMiss_0 rfl
def dX6_isOnlyMiss_15 := dk160 (k := 15) (x := 15) bX6_isOnlyMiss_0 rfl (by decide)
def dX6_isOnlyMiss_18 := dk42 (k := 18) bX6_isOnlyMiss_0 rfl
def dX6_isOnlyMiss_19 := dk180 (k := 19) (x := 15) bX6_isOnlyMiss_0 rfl rfl
def dX6_isOnlyMiss_22 := dk28 (k := 22) bX6_isOnlyMiss_0 rfl
def dX6_isOnlyMiss_23 := dk46 (k := 23) bX6_isOnlyMiss_0 rfl
theorem bX6_isOnlyMiss_24 : bL cX6_isOnlyMiss 24 [27, 160, 0, 5, 4, 172, 132, 2, 1, 167, 255, 225, 3, 172] := bL_of (by decide +kernel)
def dX6_isOnlyMiss_24 := dk27 (k := 0) bX6_isOnlyMiss_24 rfl
def dX6_isOnlyMiss_25 := dk160 (k := 1) (x := 5) bX6_isOnlyMiss_24 rfl (by decide)
def dX6_isOnlyMiss_28 := dk4 (k := 4) bX6_isOnlyMiss_24 rfl
def dX6_isOnlyMiss_29 := dk172 (k := 5) bX6_isOnlyMiss_24 rfl
theorem dX6_isOnlyMiss_30 : decode cX6_isOnlyMiss 30 = .ok (.iinc 2 1, 3) := dk132 (k := 6) bX6_isOnlyMiss_24 rfl rfl (by decide)
def dX6_isOnlyMiss_33 := dk167 (k := 9) (x := (-31)) bX6_isOnlyMiss_24 rfl (by decide)
def dX6_isOnlyMiss_36 := dk3 (k := 12) bX6_isOnlyMiss_24 rfl
def dX6_isOnlyMiss_37 := dk172 (k := 13) bX6_isOnlyMiss_24 rfl
theorem bX7_init_0 : bL cX7_init 0 [42, 183, 0, 3, 42, 16, 80] := bL_of (by decide +kernel)
def dX7_init_0 := dk42 (k := 0) bX7_init_0 rfl
def dX7_init_1 := dk183 (k := 1) (x := 3) bX7_init_0 rfl rfl
def dX7_init_4 := dk42 (k := 4) bX7_init_0 rfl
def dX7_init_5 := dk16 (k := 5) (x := 80) bX7_init_0 rfl (by decide)
theorem dX7_init_7 : decode cX7_init 7 = .ok (.newarray .int, 2) := by decide +kernel
theorem bX7_init_9 : bL cX7_init 9 [181, 0, 9, 42, 6] := bL_of (by decide +kernel)
def dX7_init_9 := dk181 (k := 0) (x := 9) bX7_init_9 rfl rfl
def dX7_init_12 := dk42 (k := 3) bX7_init_9 rfl
def dX7_init_13 := dk6 (k := 4) bX7_init_9 rfl
theorem dX7_init_14 : decode cX7_init 14 = .ok (.newarray .int, 2) := by decide +kernel
theorem bX7_init_16 : bL cX7_init 16 [181, 0, 15, 42, 6] := bL_of (by decide +kernel)
def dX7_init_16 := dk181 (k := 0) (x := 15) bX7_init_16 rfl rfl
def dX7_init_19 := dk42 (k := 3) bX7_init_16 rfl
def dX7_init_20 := dk6 (k := 4) bX7_init_16 rfl
theorem dX7_init_21 : decode cX7_init 21 = .ok (.newarray .int, 2) := by decide +kernel
theorem bX7_init_23 : bL cX7_init 23 [181, 0, 18, 42, 43, 181, 0, 21, 42, 44, 181, 0, 25, 177] := bL_of (by decide +kernel)
def dX7_init_23 := dk181 (k := 0) (x := 18) bX7_init_23 rfl rfl
def dX7_init_26 := dk42 (k := 3) bX7_init_23 rfl
def dX7_init_27 := dk43 (k := 4) bX7_init_23 rfl
def dX7_init_28 := dk181 (k := 5) (x := 21) bX7_init_23 rfl rfl
def dX7_init_31 := dk42 (k := 8) bX7_init_23 rfl
def dX7_init_32 := dk44 (k := 9) bX7_init_23 rfl
def dX7_init_33 := dk181 (k := 10) (x := 25) bX7_init_23 rfl rfl
def dX7_init_36 := dk177 (k := 13) bX7_init_23 rfl
theorem bX7_weighCells_0 : bL cX7_weighCells 0 [42, 180, 0, 25, 42, 180, 0, 21, 180, 0, 29, 182, 0, 34, 3, 60, 27, 42, 180, 0, 25, 180, 0, 40] := bL_of (by decide +kernel)
def dX7_weighCells_0 := dk42 (k := 0) bX7_weighCells_0 rfl
def dX7_weighCells_1 := dk180 (k := 1) (x := 25) bX7_weighCells_0 rfl rfl
def dX7_weighCells_4 := dk42 (k := 4) bX7_weighCells_0 rfl
def dX7_weighCells_5 := dk180 (k := 5) (x := 21) bX7_weighCells_0 rfl rfl
def dX7_weighCells_8 := dk180 (k := 8) (x := 29) bX7_weighCells_0 rfl rfl
def dX7_weighCells_11 := dk182 (k := 11) (x := 34) bX7_weighCells_0 rfl rfl
def dX7_weighCells_14 := dk3 (k := 14) bX7_weighCells_0 rfl
def dX7_weighCells_15 := dk60 (k := 15) bX7_weighCells_0 rfl
def dX7_weighCells_16 := dk27 (k := 16) bX7_weighCells_0 rfl
def dX7_weighCells_17 := dk42 (k := 17) bX7_weighCells_0 rfl
def dX7_weighCells_18 := dk180 (k := 18) (x := 25) bX7_weighCells_0 rfl rfl
def dX7_weighCells_21 := dk180 (k := 21) (x := 40) bX7_weighCells_0 rfl rfl
theorem bX7_weighCells_24 : bL cX7_weighCells 24 [162, 0, 60, 42, 180, 0, 25, 27, 182, 0, 44, 158, 0, 43] := bL_of (by decide +kernel)
def dX7_weighCells_24 := dk162 (k := 0) (x := 60) bX7_weighCells_24 rfl (by decide)
def dX7_weighCells_27 := dk42 (k := 3) bX7_weighCells_24 rfl
def dX7_weighCells_28 := dk180 (k := 4) (x := 25) bX7_weighCells_24 rfl rfl
def dX7_weighCells_31 := dk27 (k := 7) bX7_weighCells_24 rfl
def dX7_weighCells_32 := dk182 (k := 8) (x := 44) bX7_weighCells_24 rfl rfl
def dX7_weighCells_35 := dk158 (k := 11) (x := 43) bX7_weighCells_24 rfl (by decide)
