theorem bX12_shape_13 : bL cX12_shape 13 [184, 0, 65, 154, 0, 6, 16, 254, 172, 42, 27, 182, 1, 88, 61, 28, 19, 1, 79, 160, 0, 8, 16, 254] := bL_of (by decide +kernel)
def dX12_shape_13 := dk184 (k := 0) (x := 65) bX12_shape_13 rfl rfl
def dX12_shape_16 := dk154 (k := 3) (x := 6) bX12_shape_13 rfl (by decide)
def dX12_shape_19 := dk16 (k := 6) (x := (-2)) bX12_shape_13 rfl (by decide)
def dX12_shape_21 := dk172 (k := 8) bX12_shape_13 rfl
def dX12_shape_22 := dk42 (k := 9) bX12_shape_13 rfl
def dX12_shape_23 := dk27 (k := 10) bX12_shape_13 rfl
def dX12_shape_24 := dk182 (k := 11) (x := 344) bX12_shape_13 rfl rfl
def dX12_shape_27 := dk61 (k := 14) bX12_shape_13 rfl
def dX12_shape_28 := dk28 (k := 15) bX12_shape_13 rfl
def dX12_shape_29 := dk19 (k := 16) (x := 335) bX12_shape_13 rfl rfl
def dX12_shape_32 := dk160 (k := 19) (x := 8) bX12_shape_13 rfl (by decide)
def dX12_shape_35 := dk16 (k := 22) (x := (-2)) bX12_shape_13 rfl (by decide)
theorem bX12_shape_37 : bL cX12_shape 37 [167, 0, 4, 28, 172] := bL_of (by decide +kernel)
def dX12_shape_37 := dk167 (k := 0) (x := 4) bX12_shape_37 rfl (by decide)
def dX12_shape_40 := dk28 (k := 3) bX12_shape_37 rfl
def dX12_shape_41 := dk172 (k := 4) bX12_shape_37 rfl
theorem bX12_shaped_0 : bL cX12_shaped 0 [42, 182, 0, 73, 153, 0, 26, 27, 133, 9, 20, 1, 86, 184, 0, 65, 153, 0, 14, 42, 27, 182, 1, 88] := bL_of (by decide +kernel)
def dX12_shaped_0 := dk42 (k := 0) bX12_shaped_0 rfl
def dX12_shaped_1 := dk182 (k := 1) (x := 73) bX12_shaped_0 rfl rfl
def dX12_shaped_4 := dk153 (k := 4) (x := 26) bX12_shaped_0 rfl (by decide)
def dX12_shaped_7 := dk27 (k := 7) bX12_shaped_0 rfl
def dX12_shaped_8 := dk133 (k := 8) bX12_shaped_0 rfl
def dX12_shaped_9 := dk9 (k := 9) bX12_shaped_0 rfl
def dX12_shaped_10 := dk20 (k := 10) (x := 342) bX12_shaped_0 rfl rfl
def dX12_shaped_13 := dk184 (k := 13) (x := 65) bX12_shaped_0 rfl rfl
def dX12_shaped_16 := dk153 (k := 16) (x := 14) bX12_shaped_0 rfl (by decide)
def dX12_shaped_19 := dk42 (k := 19) bX12_shaped_0 rfl
def dX12_shaped_20 := dk27 (k := 20) bX12_shaped_0 rfl
def dX12_shaped_21 := dk182 (k := 21) (x := 344) bX12_shaped_0 rfl rfl
theorem bX12_shaped_24 : bL cX12_shaped 24 [19, 1, 79, 160, 0, 6, 16, 254, 172, 28, 133, 9, 27, 4, 100, 133, 184, 0, 65, 153, 0, 12, 42, 180, 0, 44] := bL_of (by decide +kernel)
def dX12_shaped_24 := dk19 (k := 0) (x := 335) bX12_shaped_24 rfl rfl
def dX12_shaped_27 := dk160 (k := 3) (x := 6) bX12_shaped_24 rfl (by decide)
def dX12_shaped_30 := dk16 (k := 6) (x := (-2)) bX12_shaped_24 rfl (by decide)
def dX12_shaped_32 := dk172 (k := 8) bX12_shaped_24 rfl
def dX12_shaped_33 := dk28 (k := 9) bX12_shaped_24 rfl
def dX12_shaped_34 := dk133 (k := 10) bX12_shaped_24 rfl
def dX12_shaped_35 := dk9 (k := 11) bX12_shaped_24 rfl
def dX12_shaped_36 := dk27 (k := 12) bX12_shaped_24 rfl
def dX12_shaped_37 := dk4 (k := 13) bX12_shaped_24 rfl
def dX12_shaped_38 := dk100 (k := 14) bX12_shaped_24 rfl
def dX12_shaped_39 := dk133 (k := 15) bX12_shaped_24 rfl
def dX12_shaped_40 := dk184 (k := 16) (x := 65) bX12_shaped_24 rfl rfl
def dX12_shaped_43 := dk153 (k := 19) (x := 12) bX12_shaped_24 rfl (by decide)
def dX12_shaped_46 := dk42 (k := 22) bX12_shaped_24 rfl
def dX12_shaped_47 := dk180 (k := 23) (x := 44) bX12_shaped_24 rfl rfl
theorem bX12_shaped_50 : bL cX12_shaped 50 [28, 46, 167, 0, 4, 2, 172] := bL_of (by decide +kernel)
def dX12_shaped_50 := dk28 (k := 0) bX12_shaped_50 rfl
def dX12_shaped_51 := dk46 (k := 1) bX12_shaped_50 rfl
def dX12_shaped_52 := dk167 (k := 2) (x := 4) bX12_shaped_50 rfl (by decide)
def dX12_shaped_55 := dk2 (k := 5) bX12_shaped_50 rfl
def dX12_shaped_56 := dk172 (k := 6) bX12_shaped_50 rfl
theorem bX12_spoil_0 : bL cX12_spoil 0 [42, 182, 0, 73, 154, 0, 6, 16, 254, 172, 2, 60, 19, 1, 79, 61, 3, 62, 29, 42, 180, 0, 9, 3] := bL_of (by decide +kernel)
def dX12_spoil_0 := dk42 (k := 0) bX12_spoil_0 rfl
def dX12_spoil_1 := dk182 (k := 1) (x := 73) bX12_spoil_0 rfl rfl
def dX12_spoil_4 := dk154 (k := 4) (x := 6) bX12_spoil_0 rfl (by decide)
def dX12_spoil_7 := dk16 (k := 7) (x := (-2)) bX12_spoil_0 rfl (by decide)
def dX12_spoil_9 := dk172 (k := 9) bX12_spoil_0 rfl
def dX12_spoil_10 := dk2 (k := 10) bX12_spoil_0 rfl
def dX12_spoil_11 := dk60 (k := 11) bX12_spoil_0 rfl
def dX12_spoil_12 := dk19 (k := 12) (x := 335) bX12_spoil_0 rfl rfl
def dX12_spoil_15 := dk61 (k := 15) bX12_spoil_0 rfl
def dX12_spoil_16 := dk3 (k := 16) bX12_spoil_0 rfl
def dX12_spoil_17 := dk62 (k := 17) bX12_spoil_0 rfl
def dX12_spoil_18 := dk29 (k := 18) bX12_spoil_0 rfl
def dX12_spoil_19 := dk42 (k := 19) bX12_spoil_0 rfl
def dX12_spoil_20 := dk180 (k := 20) (x := 9) bX12_spoil_0 rfl rfl
def dX12_spoil_23 := dk3 (k := 23) bX12_spoil_0 rfl
theorem bX12_spoil_24 : bL cX12_spoil 24 [46, 162, 0, 40, 42, 182, 0, 240, 42, 29, 182, 0, 197, 2, 159, 0, 21, 42, 182, 0, 251, 28, 163, 0, 6] := bL_of (by decide +kernel)
def dX12_spoil_24 := dk46 (k := 0) bX12_spoil_24 rfl
def dX12_spoil_25 := dk162 (k := 1) (x := 40) bX12_spoil_24 rfl (by decide)
def dX12_spoil_28 := dk42 (k := 4) bX12_spoil_24 rfl
def dX12_spoil_29 := dk182 (k := 5) (x := 240) bX12_spoil_24 rfl rfl
def dX12_spoil_32 := dk42 (k := 8) bX12_spoil_24 rfl
def dX12_spoil_33 := dk29 (k := 9) bX12_spoil_24 rfl
def dX12_spoil_34 := dk182 (k := 10) (x := 197) bX12_spoil_24 rfl rfl
def dX12_spoil_37 := dk2 (k := 13) bX12_spoil_24 rfl
def dX12_spoil_38 := dk159 (k := 14) (x := 21) bX12_spoil_24 rfl (by decide)
def dX12_spoil_41 := dk42 (k := 17) bX12_spoil_24 rfl
def dX12_spoil_42 := dk182 (k := 18) (x := 251) bX12_spoil_24 rfl rfl
def dX12_spoil_45 := dk28 (k := 21) bX12_spoil_24 rfl
def dX12_spoil_46 := dk163 (k := 22) (x := 6) bX12_spoil_24 rfl (by decide)
theorem bX12_spoil_49 : bL cX12_spoil 49 [167, 0, 10, 42, 182, 0, 251, 61, 29, 60, 132, 3, 1, 167, 255, 212, 27, 172] := bL_of (by decide +kernel)
def dX12_spoil_49 := dk167 (k := 0) (x := 10) bX12_spoil_49 rfl (by decide)
def dX12_spoil_52 := dk42 (k := 3) bX12_spoil_49 rfl
def dX12_spoil_53 := dk182 (k := 4) (x := 251) bX12_spoil_49 rfl rfl
def dX12_spoil_56 := dk61 (k := 7) bX12_spoil_49 rfl
def dX12_spoil_57 := dk29 (k := 8) bX12_spoil_49 rfl
def dX12_spoil_58 := dk60 (k := 9) bX12_spoil_49 rfl
theorem dX12_spoil_59 : decode cX12_spoil 59 = .ok (.iinc 3 1, 3) := dk132 (k := 10) bX12_spoil_49 rfl rfl (by decide)
def dX12_spoil_62 := dk167 (k := 13) (x := (-44)) bX12_spoil_49 rfl (by decide)
def dX12_spoil_65 := dk27 (k := 16) bX12_spoil_49 rfl
def dX12_spoil_66 := dk172 (k := 17) bX12_spoil_49 rfl
theorem bX12_raisers_0 : bL cX12_raisers 0 [42, 182, 0, 73, 154, 0, 6, 16, 254, 172, 42, 182, 0, 240, 42, 182, 0, 200, 60, 3, 61, 3, 62, 29] := bL_of (by decide +kernel)
def dX12_raisers_0 := dk42 (k := 0) bX12_raisers_0 rfl
def dX12_raisers_1 := dk182 (k := 1) (x := 73) bX12_raisers_0 rfl rfl
def dX12_raisers_4 := dk154 (k := 4) (x := 6) bX12_raisers_0 rfl (by decide)
def dX12_raisers_7 := dk16 (k := 7) (x := (-2)) bX12_raisers_0 rfl (by decide)
def dX12_raisers_9 := dk172 (k := 9) bX12_raisers_0 rfl
def dX12_raisers_10 := dk42 (k := 10) bX12_raisers_0 rfl
def dX12_raisers_11 := dk182 (k := 11) (x := 240) bX12_raisers_0 rfl rfl
def dX12_raisers_14 := dk42 (k := 14) bX12_raisers_0 rfl
def dX12_raisers_15 := dk182 (k := 15) (x := 200) bX12_raisers_0 rfl rfl
def dX12_raisers_18 := dk60 (k := 18) bX12_raisers_0 rfl
def dX12_raisers_19 := dk3 (k := 19) bX12_raisers_0 rfl
def dX12_raisers_20 := dk61 (k := 20) bX12_raisers_0 rfl
def dX12_raisers_21 := dk3 (k := 21) bX12_raisers_0 rfl
def dX12_raisers_22 := dk62 (k := 22) bX12_raisers_0 rfl
def dX12_raisers_23 := dk29 (k := 23) bX12_raisers_0 rfl
theorem bX12_raisers_24 : bL cX12_raisers 24 [42, 180, 0, 9, 16, 6, 46, 162, 0, 56, 42, 29, 182, 0, 232, 54, 4, 42, 180, 0, 34, 27, 92, 46] := bL_of (by decide +kernel)
def dX12_raisers_24 := dk42 (k := 0) bX12_raisers_24 rfl
def dX12_raisers_25 := dk180 (k := 1) (x := 9) bX12_raisers_24 rfl rfl
def dX12_raisers_28 := dk16 (k := 4) (x := 6) bX12_raisers_24 rfl (by decide)
def dX12_raisers_30 := dk46 (k := 6) bX12_raisers_24 rfl
def dX12_raisers_31 := dk162 (k := 7) (x := 56) bX12_raisers_24 rfl (by decide)
def dX12_raisers_34 := dk42 (k := 10) bX12_raisers_24 rfl
def dX12_raisers_35 := dk29 (k := 11) bX12_raisers_24 rfl
def dX12_raisers_36 := dk182 (k := 12) (x := 232) bX12_raisers_24 rfl rfl
def dX12_raisers_39 := dk54 (k := 15) (x := 4) bX12_raisers_24 rfl rfl
def dX12_raisers_41 := dk42 (k := 17) bX12_raisers_24 rfl
def dX12_raisers_42 := dk180 (k := 18) (x := 34) bX12_raisers_24 rfl rfl
def dX12_raisers_45 := dk27 (k := 21) bX12_raisers_24 rfl
def dX12_raisers_46 := dk92 (k := 22) bX12_raisers_24 rfl
def dX12_raisers_47 := dk46 (k := 23) bX12_raisers_24 rfl
theorem bX12_raisers_48 : bL cX12_raisers 48 [4, 96, 79, 28, 42, 29, 182, 0, 232, 21, 4, 164, 0, 9, 4, 29, 120, 167, 0, 4, 3, 128, 61, 42] := bL_of (by decide +kernel)
def dX12_raisers_48 := dk4 (k := 0) bX12_raisers_48 rfl
def dX12_raisers_49 := dk96 (k := 1) bX12_raisers_48 rfl
def dX12_raisers_50 := dk79 (k := 2) bX12_raisers_48 rfl
def dX12_raisers_51 := dk28 (k := 3) bX12_raisers_48 rfl
def dX12_raisers_52 := dk42 (k := 4) bX12_raisers_48 rfl
def dX12_raisers_53 := dk29 (k := 5) bX12_raisers_48 rfl
def dX12_raisers_54 := dk182 (k := 6) (x := 232) bX12_raisers_48 rfl rfl
def dX12_raisers_57 := dk21 (k := 9) (x := 4) bX12_raisers_48 rfl rfl
def dX12_raisers_59 := dk164 (k := 11) (x := 9) bX12_raisers_48 rfl (by decide)
def dX12_raisers_62 := dk4 (k := 14) bX12_raisers_48 rfl
def dX12_raisers_63 := dk29 (k := 15) bX12_raisers_48 rfl
def dX12_raisers_64 := dk120 (k := 16) bX12_raisers_48 rfl
def dX12_raisers_65 := dk167 (k := 17) (x := 4) bX12_raisers_48 rfl (by decide)
def dX12_raisers_68 := dk3 (k := 20) bX12_raisers_48 rfl
def dX12_raisers_69 := dk128 (k := 21) bX12_raisers_48 rfl
def dX12_raisers_70 := dk61 (k := 22) bX12_raisers_48 rfl
def dX12_raisers_71 := dk42 (k := 23) bX12_raisers_48 rfl
theorem bX12_raisers_72 : bL cX12_raisers 72 [180, 0, 34, 27, 92, 46, 4, 100, 79, 132, 3, 1, 167, 255, 195, 28, 172] := bL_of (by decide +kernel)
def dX12_raisers_72 := dk180 (k := 0) (x := 34) bX12_raisers_72 rfl rfl
def dX12_raisers_75 := dk27 (k := 3) bX12_raisers_72 rfl
def dX12_raisers_76 := dk92 (k := 4) bX12_raisers_72 rfl
def dX12_raisers_77 := dk46 (k := 5) bX12_raisers_72 rfl
def dX12_raisers_78 := dk4 (k := 6) bX12_raisers_72 rfl
def dX12_raisers_79 := dk100 (k := 7) bX12_raisers_72 rfl
def dX12_raisers_80 := dk79 (k := 8) bX12_raisers_72 rfl
theorem dX12_raisers_81 : decode cX12_raisers 81 = .ok (.iinc 3 1, 3) := dk132 (k := 9) bX12_raisers_72 rfl rfl (by decide)
def dX12_raisers_84 := dk167 (k := 12) (x := (-61)) bX12_raisers_72 rfl (by decide)
def dX12_raisers_87 := dk28 (k := 15) bX12_raisers_72 rfl
def dX12_raisers_88 := dk172 (k := 16) bX12_raisers_72 rfl
theorem bX12_goCourse_0 : bL cX12_goCourse 0 [42, 182, 0, 240, 3, 61, 28, 16, 60, 162, 0, 33, 42, 42, 42, 182, 1, 7, 3, 182, 1, 14, 182, 1, 4] := bL_of (by decide +kernel)
def dX12_goCourse_0 := dk42 (k := 0) bX12_goCourse_0 rfl
def dX12_goCourse_1 := dk182 (k := 1) (x := 240) bX12_goCourse_0 rfl rfl
def dX12_goCourse_4 := dk3 (k := 4) bX12_goCourse_0 rfl
def dX12_goCourse_5 := dk61 (k := 5) bX12_goCourse_0 rfl
def dX12_goCourse_6 := dk28 (k := 6) bX12_goCourse_0 rfl
def dX12_goCourse_7 := dk16 (k := 7) (x := 60) bX12_goCourse_0 rfl (by decide)
def dX12_goCourse_9 := dk162 (k := 9) (x := 33) bX12_goCourse_0 rfl (by decide)
def dX12_goCourse_12 := dk42 (k := 12) bX12_goCourse_0 rfl
def dX12_goCourse_13 := dk42 (k := 13) bX12_goCourse_0 rfl
def dX12_goCourse_14 := dk42 (k := 14) bX12_goCourse_0 rfl
def dX12_goCourse_15 := dk182 (k := 15) (x := 263) bX12_goCourse_0 rfl rfl
def dX12_goCourse_18 := dk3 (k := 18) bX12_goCourse_0 rfl
def dX12_goCourse_19 := dk182 (k := 19) (x := 270) bX12_goCourse_0 rfl rfl
def dX12_goCourse_22 := dk182 (k := 22) (x := 260) bX12_goCourse_0 rfl rfl
theorem bX12_goCourse_25 : bL cX12_goCourse 25 [27, 161, 0, 16, 42, 182, 0, 194, 153, 0, 9, 132, 2, 1, 167, 255, 223, 28, 172] := bL_of (by decide +kernel)
def dX12_goCourse_25 := dk27 (k := 0) bX12_goCourse_25 rfl
def dX12_goCourse_26 := dk161 (k := 1) (x := 16) bX12_goCourse_25 rfl (by decide)
def dX12_goCourse_29 := dk42 (k := 4) bX12_goCourse_25 rfl
def dX12_goCourse_30 := dk182 (k := 5) (x := 194) bX12_goCourse_25 rfl rfl
def dX12_goCourse_33 := dk153 (k := 8) (x := 9) bX12_goCourse_25 rfl (by decide)
theorem dX12_goCourse_36 : decode cX12_goCourse 36 = .ok (.iinc 2 1, 3) := dk132 (k := 11) bX12_goCourse_25 rfl rfl (by decide)
def dX12_goCourse_39 := dk167 (k := 14) (x := (-33)) bX12_goCourse_25 rfl (by decide)
def dX12_goCourse_42 := dk28 (k := 17) bX12_goCourse_25 rfl
def dX12_goCourse_43 := dk172 (k := 18) bX12_goCourse_25 rfl
theorem bX12_isLaw_0 : bL cX12_isLaw 0 [42, 182, 0, 73, 153, 0, 19, 27, 133, 10, 20, 1, 91, 184, 0, 65, 153, 0, 7, 4, 167, 0, 4, 3] := bL_of (by decide +kernel)
def dX12_isLaw_0 := dk42 (k := 0) bX12_isLaw_0 rfl
def dX12_isLaw_1 := dk182 (k := 1) (x := 73) bX12_isLaw_0 rfl rfl
def dX12_isLaw_4 := dk153 (k := 4) (x := 19) bX12_isLaw_0 rfl (by decide)
def dX12_isLaw_7 := dk27 (k := 7) bX12_isLaw_0 rfl
def dX12_isLaw_8 := dk133 (k := 8) bX12_isLaw_0 rfl
def dX12_isLaw_9 := dk10 (k := 9) bX12_isLaw_0 rfl
def dX12_isLaw_10 := dk20 (k := 10) (x := 347) bX12_isLaw_0 rfl rfl
def dX12_isLaw_13 := dk184 (k := 13) (x := 65) bX12_isLaw_0 rfl rfl
def dX12_isLaw_16 := dk153 (k := 16) (x := 7) bX12_isLaw_0 rfl (by decide)
def dX12_isLaw_19 := dk4 (k := 19) bX12_isLaw_0 rfl
def dX12_isLaw_20 := dk167 (k := 20) (x := 4) bX12_isLaw_0 rfl (by decide)
def dX12_isLaw_23 := dk3 (k := 23) bX12_isLaw_0 rfl
theorem bX12_isLaw_24 : bL cX12_isLaw 24 [172] := bL_of (by decide +kernel)
def dX12_isLaw_24 := dk172 (k := 0) bX12_isLaw_24 rfl
theorem bX12_course_0 : bL cX12_course 0 [42, 27, 182, 1, 93, 153, 0, 11, 42, 27, 182, 1, 96, 167, 0, 5, 16, 254, 172] := bL_of (by decide +kernel)
def dX12_course_0 := dk42 (k := 0) bX12_course_0 rfl
def dX12_course_1 := dk27 (k := 1) bX12_course_0 rfl
def dX12_course_2 := dk182 (k := 2) (x := 349) bX12_course_0 rfl rfl
def dX12_course_5 := dk153 (k := 5) (x := 11) bX12_course_0 rfl (by decide)
def dX12_course_8 := dk42 (k := 8) bX12_course_0 rfl
def dX12_course_9 := dk27 (k := 9) bX12_course_0 rfl
def dX12_course_10 := dk182 (k := 10) (x := 352) bX12_course_0 rfl rfl
def dX12_course_13 := dk167 (k := 13) (x := 5) bX12_course_0 rfl (by decide)
def dX12_course_16 := dk16 (k := 16) (x := (-2)) bX12_course_0 rfl (by decide)
def dX12_course_18 := dk172 (k := 18) bX12_course_0 rfl
theorem bX12_ends_0 : bL cX12_ends 0 [42, 27, 182, 1, 93, 154, 0, 6, 16, 254, 172, 42, 27, 182, 1, 96, 87, 42, 180, 0, 34, 42, 182, 0, 200] := bL_of (by decide +kernel)
def dX12_ends_0 := dk42 (k := 0) bX12_ends_0 rfl
def dX12_ends_1 := dk27 (k := 1) bX12_ends_0 rfl
def dX12_ends_2 := dk182 (k := 2) (x := 349) bX12_ends_0 rfl rfl
def dX12_ends_5 := dk154 (k := 5) (x := 6) bX12_ends_0 rfl (by decide)
def dX12_ends_8 := dk16 (k := 8) (x := (-2)) bX12_ends_0 rfl (by decide)
def dX12_ends_10 := dk172 (k := 10) bX12_ends_0 rfl
def dX12_ends_11 := dk42 (k := 11) bX12_ends_0 rfl
def dX12_ends_12 := dk27 (k := 12) bX12_ends_0 rfl
def dX12_ends_13 := dk182 (k := 13) (x := 352) bX12_ends_0 rfl rfl
def dX12_ends_16 := dk87 (k := 16) bX12_ends_0 rfl
def dX12_ends_17 := dk42 (k := 17) bX12_ends_0 rfl
def dX12_ends_18 := dk180 (k := 18) (x := 34) bX12_ends_0 rfl rfl
def dX12_ends_21 := dk42 (k := 21) bX12_ends_0 rfl
def dX12_ends_22 := dk182 (k := 22) (x := 200) bX12_ends_0 rfl rfl
theorem bX12_ends_25 : bL cX12_ends 25 [46, 172] := bL_of (by decide +kernel)
def dX12_ends_25 := dk46 (k := 0) bX12_ends_25 rfl
def dX12_ends_26 := dk172 (k := 1) bX12_ends_25 rfl
theorem bX12_left_0 : bL cX12_left 0 [42, 27, 182, 1, 93, 153, 0, 12, 42, 28, 133, 182, 0, 235, 154, 0, 7, 17, 252, 24, 172, 42, 27, 182, 1, 96] := bL_of (by decide +kernel)
def dX12_left_0 := dk42 (k := 0) bX12_left_0 rfl
def dX12_left_1 := dk27 (k := 1) bX12_left_0 rfl
def dX12_left_2 := dk182 (k := 2) (x := 349) bX12_left_0 rfl rfl
def dX12_left_5 := dk153 (k := 5) (x := 12) bX12_left_0 rfl (by decide)
def dX12_left_8 := dk42 (k := 8) bX12_left_0 rfl
def dX12_left_9 := dk28 (k := 9) bX12_left_0 rfl
def dX12_left_10 := dk133 (k := 10) bX12_left_0 rfl
def dX12_left_11 := dk182 (k := 11) (x := 235) bX12_left_0 rfl rfl
def dX12_left_14 := dk154 (k := 14) (x := 7) bX12_left_0 rfl (by decide)
def dX12_left_17 := dk17 (k := 17) (x := (-1000)) bX12_left_0 rfl (by decide)
def dX12_left_20 := dk172 (k := 20) bX12_left_0 rfl
def dX12_left_21 := dk42 (k := 21) bX12_left_0 rfl
def dX12_left_22 := dk27 (k := 22) bX12_left_0 rfl
def dX12_left_23 := dk182 (k := 23) (x := 352) bX12_left_0 rfl rfl
theorem bX12_left_26 : bL cX12_left 26 [87, 42, 28, 182, 0, 232, 172] := bL_of (by decide +kernel)
def dX12_left_26 := dk87 (k := 0) bX12_left_26 rfl
def dX12_left_27 := dk42 (k := 1) bX12_left_26 rfl
def dX12_left_28 := dk28 (k := 2) bX12_left_26 rfl
def dX12_left_29 := dk182 (k := 3) (x := 232) bX12_left_26 rfl rfl
def dX12_left_32 := dk172 (k := 6) bX12_left_26 rfl
theorem bX12_law_0 : bL cX12_law 0 [42, 182, 0, 73, 153, 0, 15, 27, 133, 10, 20, 1, 99, 184, 0, 65, 154, 0, 6, 16, 254, 172, 42, 182, 0, 240] := bL_of (by decide +kernel)
def dX12_law_0 := dk42 (k := 0) bX12_law_0 rfl
def dX12_law_1 := dk182 (k := 1) (x := 73) bX12_law_0 rfl rfl
def dX12_law_4 := dk153 (k := 4) (x := 15) bX12_law_0 rfl (by decide)
def dX12_law_7 := dk27 (k := 7) bX12_law_0 rfl
def dX12_law_8 := dk133 (k := 8) bX12_law_0 rfl
def dX12_law_9 := dk10 (k := 9) bX12_law_0 rfl
def dX12_law_10 := dk20 (k := 10) (x := 355) bX12_law_0 rfl rfl
def dX12_law_13 := dk184 (k := 13) (x := 65) bX12_law_0 rfl rfl
def dX12_law_16 := dk154 (k := 16) (x := 6) bX12_law_0 rfl (by decide)
def dX12_law_19 := dk16 (k := 19) (x := (-2)) bX12_law_0 rfl (by decide)
def dX12_law_21 := dk172 (k := 21) bX12_law_0 rfl
def dX12_law_22 := dk42 (k := 22) bX12_law_0 rfl
def dX12_law_23 := dk182 (k := 23) (x := 240) bX12_law_0 rfl rfl
theorem bX12_law_26 : bL cX12_law 26 [17, 3, 231, 61, 3, 62, 29, 27, 162, 0, 36, 28, 42, 42, 42, 182, 1, 7, 3, 182, 1, 14, 182, 1, 4] := bL_of (by decide +kernel)
def dX12_law_26 := dk17 (k := 0) (x := 999) bX12_law_26 rfl (by decide)
def dX12_law_29 := dk61 (k := 3) bX12_law_26 rfl
def dX12_law_30 := dk3 (k := 4) bX12_law_26 rfl
def dX12_law_31 := dk62 (k := 5) bX12_law_26 rfl
def dX12_law_32 := dk29 (k := 6) bX12_law_26 rfl
def dX12_law_33 := dk27 (k := 7) bX12_law_26 rfl
def dX12_law_34 := dk162 (k := 8) (x := 36) bX12_law_26 rfl (by decide)
def dX12_law_37 := dk28 (k := 11) bX12_law_26 rfl
def dX12_law_38 := dk42 (k := 12) bX12_law_26 rfl
def dX12_law_39 := dk42 (k := 13) bX12_law_26 rfl
def dX12_law_40 := dk42 (k := 14) bX12_law_26 rfl
def dX12_law_41 := dk182 (k := 15) (x := 263) bX12_law_26 rfl rfl
def dX12_law_44 := dk3 (k := 18) bX12_law_26 rfl
def dX12_law_45 := dk182 (k := 19) (x := 270) bX12_law_26 rfl rfl
def dX12_law_48 := dk182 (k := 22) (x := 260) bX12_law_26 rfl rfl
theorem bX12_law_51 : bL cX12_law 51 [184, 0, 112, 61, 42, 182, 0, 194, 154, 0, 5, 2, 172, 132, 3, 1, 167, 255, 221, 28, 154, 0, 7, 2] := bL_of (by decide +kernel)
def dX12_law_51 := dk184 (k := 0) (x := 112) bX12_law_51 rfl rfl
def dX12_law_54 := dk61 (k := 3) bX12_law_51 rfl
def dX12_law_55 := dk42 (k := 4) bX12_law_51 rfl
def dX12_law_56 := dk182 (k := 5) (x := 194) bX12_law_51 rfl rfl
def dX12_law_59 := dk154 (k := 8) (x := 5) bX12_law_51 rfl (by decide)
def dX12_law_62 := dk2 (k := 11) bX12_law_51 rfl
def dX12_law_63 := dk172 (k := 12) bX12_law_51 rfl
theorem dX12_law_64 : decode cX12_law 64 = .ok (.iinc 3 1, 3) := dk132 (k := 13) bX12_law_51 rfl rfl (by decide)
def dX12_law_67 := dk167 (k := 16) (x := (-35)) bX12_law_51 rfl (by decide)
def dX12_law_70 := dk28 (k := 19) bX12_law_51 rfl
def dX12_law_71 := dk154 (k := 20) (x := 7) bX12_law_51 rfl (by decide)
def dX12_law_74 := dk2 (k := 23) bX12_law_51 rfl
theorem bX12_law_75 : bL cX12_law 75 [167, 0, 4, 28, 172] := bL_of (by decide +kernel)
def dX12_law_75 := dk167 (k := 0) (x := 4) bX12_law_75 rfl (by decide)
def dX12_law_78 := dk28 (k := 3) bX12_law_75 rfl
def dX12_law_79 := dk172 (k := 4) bX12_law_75 rfl
theorem bX12_numberAt_0 : bL cX12_numberAt 0 [42, 180, 0, 53, 16, 60, 27, 104, 28, 96, 47, 173] := bL_of (by decide +kernel)
def dX12_numberAt_0 := dk42 (k := 0) bX12_numberAt_0 rfl
def dX12_numberAt_1 := dk180 (k := 1) (x := 53) bX12_numberAt_0 rfl rfl
def dX12_numberAt_4 := dk16 (k := 4) (x := 60) bX12_numberAt_0 rfl (by decide)
def dX12_numberAt_6 := dk27 (k := 6) bX12_numberAt_0 rfl
def dX12_numberAt_7 := dk104 (k := 7) bX12_numberAt_0 rfl
def dX12_numberAt_8 := dk28 (k := 8) bX12_numberAt_0 rfl
def dX12_numberAt_9 := dk96 (k := 9) bX12_numberAt_0 rfl
def dX12_numberAt_10 := dk47 (k := 10) bX12_numberAt_0 rfl
def dX12_numberAt_11 := dk173 (k := 11) bX12_numberAt_0 rfl
theorem bX12_asksOld_0 : bL cX12_asksOld 0 [27, 184, 1, 101, 153, 0, 10, 42, 182, 0, 73, 154, 0, 6, 16, 254, 172, 42, 180, 0, 47, 27, 46, 2] := bL_of (by decide +kernel)
def dX12_asksOld_0 := dk27 (k := 0) bX12_asksOld_0 rfl
def dX12_asksOld_1 := dk184 (k := 1) (x := 357) bX12_asksOld_0 rfl rfl
def dX12_asksOld_4 := dk153 (k := 4) (x := 10) bX12_asksOld_0 rfl (by decide)
def dX12_asksOld_7 := dk42 (k := 7) bX12_asksOld_0 rfl
def dX12_asksOld_8 := dk182 (k := 8) (x := 73) bX12_asksOld_0 rfl rfl
def dX12_asksOld_11 := dk154 (k := 11) (x := 6) bX12_asksOld_0 rfl (by decide)
def dX12_asksOld_14 := dk16 (k := 14) (x := (-2)) bX12_asksOld_0 rfl (by decide)
def dX12_asksOld_16 := dk172 (k := 16) bX12_asksOld_0 rfl
def dX12_asksOld_17 := dk42 (k := 17) bX12_asksOld_0 rfl
def dX12_asksOld_18 := dk180 (k := 18) (x := 47) bX12_asksOld_0 rfl rfl
def dX12_asksOld_21 := dk27 (k := 21) bX12_asksOld_0 rfl
def dX12_asksOld_22 := dk46 (k := 22) bX12_asksOld_0 rfl
def dX12_asksOld_23 := dk2 (k := 23) bX12_asksOld_0 rfl
theorem bX12_asksOld_24 : bL cX12_asksOld 24 [160, 0, 6, 16, 250, 172, 42, 180, 0, 47, 27, 46, 6, 112, 153, 0, 6, 16, 254, 172, 3, 61, 28, 42] := bL_of (by decide +kernel)
def dX12_asksOld_24 := dk160 (k := 0) (x := 6) bX12_asksOld_24 rfl (by decide)
def dX12_asksOld_27 := dk16 (k := 3) (x := (-6)) bX12_asksOld_24 rfl (by decide)
def dX12_asksOld_29 := dk172 (k := 5) bX12_asksOld_24 rfl
def dX12_asksOld_30 := dk42 (k := 6) bX12_asksOld_24 rfl
def dX12_asksOld_31 := dk180 (k := 7) (x := 47) bX12_asksOld_24 rfl rfl
def dX12_asksOld_34 := dk27 (k := 10) bX12_asksOld_24 rfl
def dX12_asksOld_35 := dk46 (k := 11) bX12_asksOld_24 rfl
def dX12_asksOld_36 := dk6 (k := 12) bX12_asksOld_24 rfl
def dX12_asksOld_37 := dk112 (k := 13) bX12_asksOld_24 rfl
def dX12_asksOld_38 := dk153 (k := 14) (x := 6) bX12_asksOld_24 rfl (by decide)
def dX12_asksOld_41 := dk16 (k := 17) (x := (-2)) bX12_asksOld_24 rfl (by decide)
def dX12_asksOld_43 := dk172 (k := 19) bX12_asksOld_24 rfl
def dX12_asksOld_44 := dk3 (k := 20) bX12_asksOld_24 rfl
def dX12_asksOld_45 := dk61 (k := 21) bX12_asksOld_24 rfl
def dX12_asksOld_46 := dk28 (k := 22) bX12_asksOld_24 rfl
def dX12_asksOld_47 := dk42 (k := 23) bX12_asksOld_24 rfl
theorem bX12_asksOld_48 : bL cX12_asksOld 48 [180, 0, 47, 27, 46, 162, 0, 55, 42, 42, 27, 28, 182, 1, 104, 182, 0, 203, 153, 0, 33, 42, 27, 28] := bL_of (by decide +kernel)
def dX12_asksOld_48 := dk180 (k := 0) (x := 47) bX12_asksOld_48 rfl rfl
def dX12_asksOld_51 := dk27 (k := 3) bX12_asksOld_48 rfl
def dX12_asksOld_52 := dk46 (k := 4) bX12_asksOld_48 rfl
def dX12_asksOld_53 := dk162 (k := 5) (x := 55) bX12_asksOld_48 rfl (by decide)
def dX12_asksOld_56 := dk42 (k := 8) bX12_asksOld_48 rfl
def dX12_asksOld_57 := dk42 (k := 9) bX12_asksOld_48 rfl
def dX12_asksOld_58 := dk27 (k := 10) bX12_asksOld_48 rfl
def dX12_asksOld_59 := dk28 (k := 11) bX12_asksOld_48 rfl
def dX12_asksOld_60 := dk182 (k := 12) (x := 360) bX12_asksOld_48 rfl rfl
def dX12_asksOld_63 := dk182 (k := 15) (x := 203) bX12_asksOld_48 rfl rfl
def dX12_asksOld_66 := dk153 (k := 18) (x := 33) bX12_asksOld_48 rfl (by decide)
def dX12_asksOld_69 := dk42 (k := 21) bX12_asksOld_48 rfl
def dX12_asksOld_70 := dk27 (k := 22) bX12_asksOld_48 rfl
def dX12_asksOld_71 := dk28 (k := 23) bX12_asksOld_48 rfl
theorem bX12_asksOld_72 : bL cX12_asksOld 72 [4, 96, 182, 1, 104, 184, 0, 243, 153, 0, 19, 42, 27, 28, 5, 96, 182, 1, 104, 9, 10, 184, 0, 65] := bL_of (by decide +kernel)
def dX12_asksOld_72 := dk4 (k := 0) bX12_asksOld_72 rfl
def dX12_asksOld_73 := dk96 (k := 1) bX12_asksOld_72 rfl
def dX12_asksOld_74 := dk182 (k := 2) (x := 360) bX12_asksOld_72 rfl rfl
def dX12_asksOld_77 := dk184 (k := 5) (x := 243) bX12_asksOld_72 rfl rfl
def dX12_asksOld_80 := dk153 (k := 8) (x := 19) bX12_asksOld_72 rfl (by decide)
def dX12_asksOld_83 := dk42 (k := 11) bX12_asksOld_72 rfl
def dX12_asksOld_84 := dk27 (k := 12) bX12_asksOld_72 rfl
def dX12_asksOld_85 := dk28 (k := 13) bX12_asksOld_72 rfl
def dX12_asksOld_86 := dk5 (k := 14) bX12_asksOld_72 rfl
def dX12_asksOld_87 := dk96 (k := 15) bX12_asksOld_72 rfl
def dX12_asksOld_88 := dk182 (k := 16) (x := 360) bX12_asksOld_72 rfl rfl
def dX12_asksOld_91 := dk9 (k := 19) bX12_asksOld_72 rfl
def dX12_asksOld_92 := dk10 (k := 20) bX12_asksOld_72 rfl
def dX12_asksOld_93 := dk184 (k := 21) (x := 65) bX12_asksOld_72 rfl rfl
theorem bX12_asksOld_96 : bL cX12_asksOld 96 [154, 0, 6, 16, 254, 172, 132, 2, 3, 167, 255, 197, 42, 182, 0, 240, 3, 172] := bL_of (by decide +kernel)
def dX12_asksOld_96 := dk154 (k := 0) (x := 6) bX12_asksOld_96 rfl (by decide)
def dX12_asksOld_99 := dk16 (k := 3) (x := (-2)) bX12_asksOld_96 rfl (by decide)
def dX12_asksOld_101 := dk172 (k := 5) bX12_asksOld_96 rfl
theorem dX12_asksOld_102 : decode cX12_asksOld 102 = .ok (.iinc 2 3, 3) := dk132 (k := 6) bX12_asksOld_96 rfl rfl (by decide)
def dX12_asksOld_105 := dk167 (k := 9) (x := (-59)) bX12_asksOld_96 rfl (by decide)
def dX12_asksOld_108 := dk42 (k := 12) bX12_asksOld_96 rfl
def dX12_asksOld_109 := dk182 (k := 13) (x := 240) bX12_asksOld_96 rfl rfl
def dX12_asksOld_112 := dk3 (k := 16) bX12_asksOld_96 rfl
def dX12_asksOld_113 := dk172 (k := 17) bX12_asksOld_96 rfl
theorem bX12_wasDark_0 : bL cX12_wasDark 0 [42, 182, 0, 200, 54, 4, 42, 180, 0, 34, 21, 4, 92, 46, 27, 96, 79, 42, 28, 29, 182, 0, 217, 54, 5] := bL_of (by decide +kernel)
def dX12_wasDark_0 := dk42 (k := 0) bX12_wasDark_0 rfl
def dX12_wasDark_1 := dk182 (k := 1) (x := 200) bX12_wasDark_0 rfl rfl
def dX12_wasDark_4 := dk54 (k := 4) (x := 4) bX12_wasDark_0 rfl rfl
def dX12_wasDark_6 := dk42 (k := 6) bX12_wasDark_0 rfl
def dX12_wasDark_7 := dk180 (k := 7) (x := 34) bX12_wasDark_0 rfl rfl
def dX12_wasDark_10 := dk21 (k := 10) (x := 4) bX12_wasDark_0 rfl rfl
def dX12_wasDark_12 := dk92 (k := 12) bX12_wasDark_0 rfl
def dX12_wasDark_13 := dk46 (k := 13) bX12_wasDark_0 rfl
def dX12_wasDark_14 := dk27 (k := 14) bX12_wasDark_0 rfl
def dX12_wasDark_15 := dk96 (k := 15) bX12_wasDark_0 rfl
def dX12_wasDark_16 := dk79 (k := 16) bX12_wasDark_0 rfl
def dX12_wasDark_17 := dk42 (k := 17) bX12_wasDark_0 rfl
def dX12_wasDark_18 := dk28 (k := 18) bX12_wasDark_0 rfl
def dX12_wasDark_19 := dk29 (k := 19) bX12_wasDark_0 rfl
def dX12_wasDark_20 := dk182 (k := 20) (x := 217) bX12_wasDark_0 rfl rfl
def dX12_wasDark_23 := dk54 (k := 23) (x := 5) bX12_wasDark_0 rfl rfl
theorem bX12_wasDark_25 : bL cX12_wasDark 25 [42, 180, 0, 34, 21, 4, 92, 46, 27, 100, 79, 21, 5, 172] := bL_of (by decide +kernel)
def dX12_wasDark_25 := dk42 (k := 0) bX12_wasDark_25 rfl
def dX12_wasDark_26 := dk180 (k := 1) (x := 34) bX12_wasDark_25 rfl rfl
def dX12_wasDark_29 := dk21 (k := 4) (x := 4) bX12_wasDark_25 rfl rfl
def dX12_wasDark_31 := dk92 (k := 6) bX12_wasDark_25 rfl
def dX12_wasDark_32 := dk46 (k := 7) bX12_wasDark_25 rfl
def dX12_wasDark_33 := dk27 (k := 8) bX12_wasDark_25 rfl
def dX12_wasDark_34 := dk100 (k := 9) bX12_wasDark_25 rfl
def dX12_wasDark_35 := dk79 (k := 10) bX12_wasDark_25 rfl
def dX12_wasDark_36 := dk21 (k := 11) (x := 5) bX12_wasDark_25 rfl rfl
def dX12_wasDark_38 := dk172 (k := 13) bX12_wasDark_25 rfl
theorem bX12_oldBy_0 : bL cX12_oldBy 0 [3, 62, 3, 54, 4, 21, 4, 16, 20, 163, 0, 112, 4, 54, 5, 3, 54, 6, 21, 6, 42, 180, 0, 47] := bL_of (by decide +kernel)
def dX12_oldBy_0 := dk3 (k := 0) bX12_oldBy_0 rfl
def dX12_oldBy_1 := dk62 (k := 1) bX12_oldBy_0 rfl
def dX12_oldBy_2 := dk3 (k := 2) bX12_oldBy_0 rfl
def dX12_oldBy_3 := dk54 (k := 3) (x := 4) bX12_oldBy_0 rfl rfl
def dX12_oldBy_5 := dk21 (k := 5) (x := 4) bX12_oldBy_0 rfl rfl
def dX12_oldBy_7 := dk16 (k := 7) (x := 20) bX12_oldBy_0 rfl (by decide)
def dX12_oldBy_9 := dk163 (k := 9) (x := 112) bX12_oldBy_0 rfl (by decide)
def dX12_oldBy_12 := dk4 (k := 12) bX12_oldBy_0 rfl
def dX12_oldBy_13 := dk54 (k := 13) (x := 5) bX12_oldBy_0 rfl rfl
def dX12_oldBy_15 := dk3 (k := 15) bX12_oldBy_0 rfl
def dX12_oldBy_16 := dk54 (k := 16) (x := 6) bX12_oldBy_0 rfl rfl
def dX12_oldBy_18 := dk21 (k := 18) (x := 6) bX12_oldBy_0 rfl rfl
def dX12_oldBy_20 := dk42 (k := 20) bX12_oldBy_0 rfl
def dX12_oldBy_21 := dk180 (k := 21) (x := 47) bX12_oldBy_0 rfl rfl
theorem bX12_oldBy_24 : bL cX12_oldBy 24 [27, 46, 162, 0, 73, 21, 5, 153, 0, 68, 21, 6, 28, 159, 0, 49, 42, 21, 4, 42, 27, 21, 6, 182, 1, 104] := bL_of (by decide +kernel)
def dX12_oldBy_24 := dk27 (k := 0) bX12_oldBy_24 rfl
def dX12_oldBy_25 := dk46 (k := 1) bX12_oldBy_24 rfl
def dX12_oldBy_26 := dk162 (k := 2) (x := 73) bX12_oldBy_24 rfl (by decide)
def dX12_oldBy_29 := dk21 (k := 5) (x := 5) bX12_oldBy_24 rfl rfl
def dX12_oldBy_31 := dk153 (k := 7) (x := 68) bX12_oldBy_24 rfl (by decide)
def dX12_oldBy_34 := dk21 (k := 10) (x := 6) bX12_oldBy_24 rfl rfl
def dX12_oldBy_36 := dk28 (k := 12) bX12_oldBy_24 rfl
def dX12_oldBy_37 := dk159 (k := 13) (x := 49) bX12_oldBy_24 rfl (by decide)
def dX12_oldBy_40 := dk42 (k := 16) bX12_oldBy_24 rfl
def dX12_oldBy_41 := dk21 (k := 17) (x := 4) bX12_oldBy_24 rfl rfl
def dX12_oldBy_43 := dk42 (k := 19) bX12_oldBy_24 rfl
def dX12_oldBy_44 := dk27 (k := 20) bX12_oldBy_24 rfl
def dX12_oldBy_45 := dk21 (k := 21) (x := 6) bX12_oldBy_24 rfl rfl
def dX12_oldBy_47 := dk182 (k := 23) (x := 360) bX12_oldBy_24 rfl rfl
theorem bX12_oldBy_50 : bL cX12_oldBy 50 [136, 42, 27, 21, 6, 4, 96, 182, 1, 104, 136, 182, 1, 108, 42, 27, 21, 6, 5, 96, 182, 1, 104, 10] := bL_of (by decide +kernel)
def dX12_oldBy_50 := dk136 (k := 0) bX12_oldBy_50 rfl
def dX12_oldBy_51 := dk42 (k := 1) bX12_oldBy_50 rfl
def dX12_oldBy_52 := dk27 (k := 2) bX12_oldBy_50 rfl
def dX12_oldBy_53 := dk21 (k := 3) (x := 6) bX12_oldBy_50 rfl rfl
def dX12_oldBy_55 := dk4 (k := 5) bX12_oldBy_50 rfl
def dX12_oldBy_56 := dk96 (k := 6) bX12_oldBy_50 rfl
def dX12_oldBy_57 := dk182 (k := 7) (x := 360) bX12_oldBy_50 rfl rfl
def dX12_oldBy_60 := dk136 (k := 10) bX12_oldBy_50 rfl
def dX12_oldBy_61 := dk182 (k := 11) (x := 364) bX12_oldBy_50 rfl rfl
def dX12_oldBy_64 := dk42 (k := 14) bX12_oldBy_50 rfl
def dX12_oldBy_65 := dk27 (k := 15) bX12_oldBy_50 rfl
def dX12_oldBy_66 := dk21 (k := 16) (x := 6) bX12_oldBy_50 rfl rfl
def dX12_oldBy_68 := dk5 (k := 18) bX12_oldBy_50 rfl
def dX12_oldBy_69 := dk96 (k := 19) bX12_oldBy_50 rfl
def dX12_oldBy_70 := dk182 (k := 20) (x := 360) bX12_oldBy_50 rfl rfl
def dX12_oldBy_73 := dk10 (k := 23) bX12_oldBy_50 rfl
theorem bX12_oldBy_74 : bL cX12_oldBy 74 [148, 154, 0, 7, 4, 167, 0, 4, 3, 160, 0, 7, 4, 167, 0, 4, 3, 54, 5, 132, 6, 3, 167, 255, 178] := bL_of (by decide +kernel)
def dX12_oldBy_74 := dk148 (k := 0) bX12_oldBy_74 rfl
def dX12_oldBy_75 := dk154 (k := 1) (x := 7) bX12_oldBy_74 rfl (by decide)
def dX12_oldBy_78 := dk4 (k := 4) bX12_oldBy_74 rfl
def dX12_oldBy_79 := dk167 (k := 5) (x := 4) bX12_oldBy_74 rfl (by decide)
def dX12_oldBy_82 := dk3 (k := 8) bX12_oldBy_74 rfl
def dX12_oldBy_83 := dk160 (k := 9) (x := 7) bX12_oldBy_74 rfl (by decide)
def dX12_oldBy_86 := dk4 (k := 12) bX12_oldBy_74 rfl
def dX12_oldBy_87 := dk167 (k := 13) (x := 4) bX12_oldBy_74 rfl (by decide)
def dX12_oldBy_90 := dk3 (k := 16) bX12_oldBy_74 rfl
def dX12_oldBy_91 := dk54 (k := 17) (x := 5) bX12_oldBy_74 rfl rfl
theorem dX12_oldBy_93 : decode cX12_oldBy 93 = .ok (.iinc 6 3, 3) := dk132 (k := 19) bX12_oldBy_74 rfl rfl (by decide)
def dX12_oldBy_96 := dk167 (k := 22) (x := (-78)) bX12_oldBy_74 rfl (by decide)
theorem bX12_oldBy_99 : bL cX12_oldBy 99 [29, 21, 5, 153, 0, 10, 4, 21, 4, 120, 167, 0, 4, 3, 128, 62, 132, 4, 1, 167, 255, 143, 29, 172] := bL_of (by decide +kernel)
def dX12_oldBy_99 := dk29 (k := 0) bX12_oldBy_99 rfl
def dX12_oldBy_100 := dk21 (k := 1) (x := 5) bX12_oldBy_99 rfl rfl
def dX12_oldBy_102 := dk153 (k := 3) (x := 10) bX12_oldBy_99 rfl (by decide)
def dX12_oldBy_105 := dk4 (k := 6) bX12_oldBy_99 rfl
def dX12_oldBy_106 := dk21 (k := 7) (x := 4) bX12_oldBy_99 rfl rfl
def dX12_oldBy_108 := dk120 (k := 9) bX12_oldBy_99 rfl
def dX12_oldBy_109 := dk167 (k := 10) (x := 4) bX12_oldBy_99 rfl (by decide)
def dX12_oldBy_112 := dk3 (k := 13) bX12_oldBy_99 rfl
def dX12_oldBy_113 := dk128 (k := 14) bX12_oldBy_99 rfl
def dX12_oldBy_114 := dk62 (k := 15) bX12_oldBy_99 rfl
theorem dX12_oldBy_115 : decode cX12_oldBy 115 = .ok (.iinc 4 1, 3) := dk132 (k := 16) bX12_oldBy_99 rfl rfl (by decide)
def dX12_oldBy_118 := dk167 (k := 19) (x := (-113)) bX12_oldBy_99 rfl (by decide)
def dX12_oldBy_121 := dk29 (k := 22) bX12_oldBy_99 rfl
def dX12_oldBy_122 := dk172 (k := 23) bX12_oldBy_99 rfl
theorem bX12_old_0 : bL cX12_old 0 [42, 27, 182, 1, 112, 61, 28, 156, 0, 7, 28, 167, 0, 9, 42, 27, 2, 182, 1, 115, 172] := bL_of (by decide +kernel)
def dX12_old_0 := dk42 (k := 0) bX12_old_0 rfl
def dX12_old_1 := dk27 (k := 1) bX12_old_0 rfl
def dX12_old_2 := dk182 (k := 2) (x := 368) bX12_old_0 rfl rfl
def dX12_old_5 := dk61 (k := 5) bX12_old_0 rfl
def dX12_old_6 := dk28 (k := 6) bX12_old_0 rfl
def dX12_old_7 := dk156 (k := 7) (x := 7) bX12_old_0 rfl (by decide)
def dX12_old_10 := dk28 (k := 10) bX12_old_0 rfl
def dX12_old_11 := dk167 (k := 11) (x := 9) bX12_old_0 rfl (by decide)
def dX12_old_14 := dk42 (k := 14) bX12_old_0 rfl
def dX12_old_15 := dk27 (k := 15) bX12_old_0 rfl
def dX12_old_16 := dk2 (k := 16) bX12_old_0 rfl
def dX12_old_17 := dk182 (k := 17) (x := 371) bX12_old_0 rfl rfl
def dX12_old_20 := dk172 (k := 20) bX12_old_0 rfl
theorem bX12_askOf_0 : bL cX12_askOf 0 [42, 27, 2, 182, 1, 115, 62, 42, 29, 184, 0, 229, 181, 1, 118, 3, 54, 4, 4, 54, 5, 21, 5, 16, 18] := bL_of (by decide +kernel)
def dX12_askOf_0 := dk42 (k := 0) bX12_askOf_0 rfl
def dX12_askOf_1 := dk27 (k := 1) bX12_askOf_0 rfl
def dX12_askOf_2 := dk2 (k := 2) bX12_askOf_0 rfl
def dX12_askOf_3 := dk182 (k := 3) (x := 371) bX12_askOf_0 rfl rfl
def dX12_askOf_6 := dk62 (k := 6) bX12_askOf_0 rfl
def dX12_askOf_7 := dk42 (k := 7) bX12_askOf_0 rfl
def dX12_askOf_8 := dk29 (k := 8) bX12_askOf_0 rfl
def dX12_askOf_9 := dk184 (k := 9) (x := 229) bX12_askOf_0 rfl rfl
def dX12_askOf_12 := dk181 (k := 12) (x := 374) bX12_askOf_0 rfl rfl
def dX12_askOf_15 := dk3 (k := 15) bX12_askOf_0 rfl
def dX12_askOf_16 := dk54 (k := 16) (x := 4) bX12_askOf_0 rfl rfl
def dX12_askOf_18 := dk4 (k := 18) bX12_askOf_0 rfl
def dX12_askOf_19 := dk54 (k := 19) (x := 5) bX12_askOf_0 rfl rfl
def dX12_askOf_21 := dk21 (k := 21) (x := 5) bX12_askOf_0 rfl rfl
def dX12_askOf_23 := dk16 (k := 23) (x := 18) bX12_askOf_0 rfl (by decide)
theorem bX12_askOf_25 : bL cX12_askOf 25 [163, 0, 111, 3, 54, 6, 3, 54, 7, 21, 7, 16, 20, 163, 0, 56, 21, 6, 29, 21, 7, 184, 1, 1] := bL_of (by decide +kernel)
def dX12_askOf_25 := dk163 (k := 0) (x := 111) bX12_askOf_25 rfl (by decide)
def dX12_askOf_28 := dk3 (k := 3) bX12_askOf_25 rfl
def dX12_askOf_29 := dk54 (k := 4) (x := 6) bX12_askOf_25 rfl rfl
def dX12_askOf_31 := dk3 (k := 6) bX12_askOf_25 rfl
def dX12_askOf_32 := dk54 (k := 7) (x := 7) bX12_askOf_25 rfl rfl
def dX12_askOf_34 := dk21 (k := 9) (x := 7) bX12_askOf_25 rfl rfl
def dX12_askOf_36 := dk16 (k := 11) (x := 20) bX12_askOf_25 rfl (by decide)
def dX12_askOf_38 := dk163 (k := 13) (x := 56) bX12_askOf_25 rfl (by decide)
def dX12_askOf_41 := dk21 (k := 16) (x := 6) bX12_askOf_25 rfl rfl
def dX12_askOf_43 := dk29 (k := 18) bX12_askOf_25 rfl
def dX12_askOf_44 := dk21 (k := 19) (x := 7) bX12_askOf_25 rfl rfl
def dX12_askOf_46 := dk184 (k := 21) (x := 257) bX12_askOf_25 rfl rfl
theorem bX12_askOf_49 : bL cX12_askOf 49 [4, 160, 0, 34, 42, 21, 7, 28, 21, 5, 16, 9, 163, 0, 8, 21, 5, 167, 0, 8, 16, 9, 21, 5] := bL_of (by decide +kernel)
def dX12_askOf_49 := dk4 (k := 0) bX12_askOf_49 rfl
def dX12_askOf_50 := dk160 (k := 1) (x := 34) bX12_askOf_49 rfl (by decide)
def dX12_askOf_53 := dk42 (k := 4) bX12_askOf_49 rfl
def dX12_askOf_54 := dk21 (k := 5) (x := 7) bX12_askOf_49 rfl rfl
def dX12_askOf_56 := dk28 (k := 7) bX12_askOf_49 rfl
def dX12_askOf_57 := dk21 (k := 8) (x := 5) bX12_askOf_49 rfl rfl
def dX12_askOf_59 := dk16 (k := 10) (x := 9) bX12_askOf_49 rfl (by decide)
def dX12_askOf_61 := dk163 (k := 12) (x := 8) bX12_askOf_49 rfl (by decide)
def dX12_askOf_64 := dk21 (k := 15) (x := 5) bX12_askOf_49 rfl rfl
def dX12_askOf_66 := dk167 (k := 17) (x := 8) bX12_askOf_49 rfl (by decide)
def dX12_askOf_69 := dk16 (k := 20) (x := 9) bX12_askOf_49 rfl (by decide)
def dX12_askOf_71 := dk21 (k := 22) (x := 5) bX12_askOf_49 rfl rfl
theorem bX12_askOf_73 : bL cX12_askOf 73 [100, 182, 1, 108, 153, 0, 7, 4, 167, 0, 4, 3, 96, 54, 6, 132, 7, 1, 167, 255, 199, 21, 6, 29] := bL_of (by decide +kernel)
def dX12_askOf_73 := dk100 (k := 0) bX12_askOf_73 rfl
def dX12_askOf_74 := dk182 (k := 1) (x := 364) bX12_askOf_73 rfl rfl
def dX12_askOf_77 := dk153 (k := 4) (x := 7) bX12_askOf_73 rfl (by decide)
def dX12_askOf_80 := dk4 (k := 7) bX12_askOf_73 rfl
def dX12_askOf_81 := dk167 (k := 8) (x := 4) bX12_askOf_73 rfl (by decide)
def dX12_askOf_84 := dk3 (k := 11) bX12_askOf_73 rfl
def dX12_askOf_85 := dk96 (k := 12) bX12_askOf_73 rfl
def dX12_askOf_86 := dk54 (k := 13) (x := 6) bX12_askOf_73 rfl rfl
theorem dX12_askOf_88 : decode cX12_askOf 88 = .ok (.iinc 7 1, 3) := dk132 (k := 15) bX12_askOf_73 rfl rfl (by decide)
def dX12_askOf_91 := dk167 (k := 18) (x := (-57)) bX12_askOf_73 rfl (by decide)
def dX12_askOf_94 := dk21 (k := 21) (x := 6) bX12_askOf_73 rfl rfl
def dX12_askOf_96 := dk29 (k := 23) bX12_askOf_73 rfl
theorem bX12_askOf_97 : bL cX12_askOf 97 [184, 0, 229, 21, 6, 100, 184, 1, 61, 54, 7, 21, 7, 42, 180, 1, 118, 161, 0, 6, 167, 0, 13, 42] := bL_of (by decide +kernel)
def dX12_askOf_97 := dk184 (k := 0) (x := 229) bX12_askOf_97 rfl rfl
def dX12_askOf_100 := dk21 (k := 3) (x := 6) bX12_askOf_97 rfl rfl
def dX12_askOf_102 := dk100 (k := 5) bX12_askOf_97 rfl
def dX12_askOf_103 := dk184 (k := 6) (x := 317) bX12_askOf_97 rfl rfl
def dX12_askOf_106 := dk54 (k := 9) (x := 7) bX12_askOf_97 rfl rfl
def dX12_askOf_108 := dk21 (k := 11) (x := 7) bX12_askOf_97 rfl rfl
def dX12_askOf_110 := dk42 (k := 13) bX12_askOf_97 rfl
def dX12_askOf_111 := dk180 (k := 14) (x := 374) bX12_askOf_97 rfl rfl
def dX12_askOf_114 := dk161 (k := 17) (x := 6) bX12_askOf_97 rfl (by decide)
def dX12_askOf_117 := dk167 (k := 20) (x := 13) bX12_askOf_97 rfl (by decide)
def dX12_askOf_120 := dk42 (k := 23) bX12_askOf_97 rfl
theorem bX12_askOf_121 : bL cX12_askOf 121 [21, 7, 181, 1, 118, 21, 5, 54, 4, 132, 5, 1, 167, 255, 144, 21, 4, 172] := bL_of (by decide +kernel)
def dX12_askOf_121 := dk21 (k := 0) (x := 7) bX12_askOf_121 rfl rfl
def dX12_askOf_123 := dk181 (k := 2) (x := 374) bX12_askOf_121 rfl rfl
def dX12_askOf_126 := dk21 (k := 5) (x := 5) bX12_askOf_121 rfl rfl
def dX12_askOf_128 := dk54 (k := 7) (x := 4) bX12_askOf_121 rfl rfl
theorem dX12_askOf_130 : decode cX12_askOf 130 = .ok (.iinc 5 1, 3) := dk132 (k := 9) bX12_askOf_121 rfl rfl (by decide)
def dX12_askOf_133 := dk167 (k := 12) (x := (-112)) bX12_askOf_121 rfl (by decide)
def dX12_askOf_136 := dk21 (k := 15) (x := 4) bX12_askOf_121 rfl rfl
def dX12_askOf_138 := dk172 (k := 17) bX12_askOf_121 rfl
theorem bX12_ask_0 : bL cX12_ask 0 [42, 27, 182, 1, 112, 62, 29, 16, 250, 160, 0, 17, 42, 28, 133, 182, 0, 203, 154, 0, 8, 16, 254, 167, 0, 31] := bL_of (by decide +kernel)
def dX12_ask_0 := dk42 (k := 0) bX12_ask_0 rfl
def dX12_ask_1 := dk27 (k := 1) bX12_ask_0 rfl
def dX12_ask_2 := dk182 (k := 2) (x := 368) bX12_ask_0 rfl rfl
def dX12_ask_5 := dk62 (k := 5) bX12_ask_0 rfl
def dX12_ask_6 := dk29 (k := 6) bX12_ask_0 rfl
def dX12_ask_7 := dk16 (k := 7) (x := (-6)) bX12_ask_0 rfl (by decide)
def dX12_ask_9 := dk160 (k := 9) (x := 17) bX12_ask_0 rfl (by decide)
def dX12_ask_12 := dk42 (k := 12) bX12_ask_0 rfl
def dX12_ask_13 := dk28 (k := 13) bX12_ask_0 rfl
def dX12_ask_14 := dk133 (k := 14) bX12_ask_0 rfl
def dX12_ask_15 := dk182 (k := 15) (x := 203) bX12_ask_0 rfl rfl
def dX12_ask_18 := dk154 (k := 18) (x := 8) bX12_ask_0 rfl (by decide)
def dX12_ask_21 := dk16 (k := 21) (x := (-2)) bX12_ask_0 rfl (by decide)
def dX12_ask_23 := dk167 (k := 23) (x := 31) bX12_ask_0 rfl (by decide)
theorem bX12_ask_26 : bL cX12_ask 26 [29, 156, 0, 7, 29, 167, 0, 23, 42, 28, 133, 182, 0, 203, 153, 0, 12, 42, 27, 28, 182, 1, 121, 167, 0, 5] := bL_of (by decide +kernel)
def dX12_ask_26 := dk29 (k := 0) bX12_ask_26 rfl
def dX12_ask_27 := dk156 (k := 1) (x := 7) bX12_ask_26 rfl (by decide)
def dX12_ask_30 := dk29 (k := 4) bX12_ask_26 rfl
def dX12_ask_31 := dk167 (k := 5) (x := 23) bX12_ask_26 rfl (by decide)
def dX12_ask_34 := dk42 (k := 8) bX12_ask_26 rfl
def dX12_ask_35 := dk28 (k := 9) bX12_ask_26 rfl
def dX12_ask_36 := dk133 (k := 10) bX12_ask_26 rfl
def dX12_ask_37 := dk182 (k := 11) (x := 203) bX12_ask_26 rfl rfl
def dX12_ask_40 := dk153 (k := 14) (x := 12) bX12_ask_26 rfl (by decide)
def dX12_ask_43 := dk42 (k := 17) bX12_ask_26 rfl
def dX12_ask_44 := dk27 (k := 18) bX12_ask_26 rfl
def dX12_ask_45 := dk28 (k := 19) bX12_ask_26 rfl
def dX12_ask_46 := dk182 (k := 20) (x := 377) bX12_ask_26 rfl rfl
def dX12_ask_49 := dk167 (k := 23) (x := 5) bX12_ask_26 rfl (by decide)
theorem bX12_ask_52 : bL cX12_ask 52 [16, 254, 172] := bL_of (by decide +kernel)
def dX12_ask_52 := dk16 (k := 0) (x := (-2)) bX12_ask_52 rfl (by decide)
def dX12_ask_54 := dk172 (k := 2) bX12_ask_52 rfl
theorem bX12_leaves_0 : bL cX12_leaves 0 [42, 27, 182, 1, 112, 62, 29, 155, 0, 12, 42, 28, 133, 182, 0, 203, 154, 0, 26, 29, 16, 250, 160, 0, 17] := bL_of (by decide +kernel)
def dX12_leaves_0 := dk42 (k := 0) bX12_leaves_0 rfl
def dX12_leaves_1 := dk27 (k := 1) bX12_leaves_0 rfl
def dX12_leaves_2 := dk182 (k := 2) (x := 368) bX12_leaves_0 rfl rfl
def dX12_leaves_5 := dk62 (k := 5) bX12_leaves_0 rfl
def dX12_leaves_6 := dk29 (k := 6) bX12_leaves_0 rfl
def dX12_leaves_7 := dk155 (k := 7) (x := 12) bX12_leaves_0 rfl (by decide)
def dX12_leaves_10 := dk42 (k := 10) bX12_leaves_0 rfl
def dX12_leaves_11 := dk28 (k := 11) bX12_leaves_0 rfl
def dX12_leaves_12 := dk133 (k := 12) bX12_leaves_0 rfl
def dX12_leaves_13 := dk182 (k := 13) (x := 203) bX12_leaves_0 rfl rfl
def dX12_leaves_16 := dk154 (k := 16) (x := 26) bX12_leaves_0 rfl (by decide)
def dX12_leaves_19 := dk29 (k := 19) bX12_leaves_0 rfl
def dX12_leaves_20 := dk16 (k := 20) (x := (-6)) bX12_leaves_0 rfl (by decide)
def dX12_leaves_22 := dk160 (k := 22) (x := 17) bX12_leaves_0 rfl (by decide)
theorem bX12_leaves_25 : bL cX12_leaves 25 [42, 28, 133, 182, 0, 203, 153, 0, 8, 16, 250, 167, 0, 5, 16, 254, 172, 42, 27, 28, 182, 1, 121, 87] := bL_of (by decide +kernel)
def dX12_leaves_25 := dk42 (k := 0) bX12_leaves_25 rfl
def dX12_leaves_26 := dk28 (k := 1) bX12_leaves_25 rfl
def dX12_leaves_27 := dk133 (k := 2) bX12_leaves_25 rfl
def dX12_leaves_28 := dk182 (k := 3) (x := 203) bX12_leaves_25 rfl rfl
def dX12_leaves_31 := dk153 (k := 6) (x := 8) bX12_leaves_25 rfl (by decide)
def dX12_leaves_34 := dk16 (k := 9) (x := (-6)) bX12_leaves_25 rfl (by decide)
def dX12_leaves_36 := dk167 (k := 11) (x := 5) bX12_leaves_25 rfl (by decide)
def dX12_leaves_39 := dk16 (k := 14) (x := (-2)) bX12_leaves_25 rfl (by decide)
def dX12_leaves_41 := dk172 (k := 16) bX12_leaves_25 rfl
def dX12_leaves_42 := dk42 (k := 17) bX12_leaves_25 rfl
def dX12_leaves_43 := dk27 (k := 18) bX12_leaves_25 rfl
def dX12_leaves_44 := dk28 (k := 19) bX12_leaves_25 rfl
def dX12_leaves_45 := dk182 (k := 20) (x := 377) bX12_leaves_25 rfl rfl
def dX12_leaves_48 := dk87 (k := 23) bX12_leaves_25 rfl
theorem bX12_leaves_49 : bL cX12_leaves 49 [42, 180, 1, 118, 172] := bL_of (by decide +kernel)
def dX12_leaves_49 := dk42 (k := 0) bX12_leaves_49 rfl
def dX12_leaves_50 := dk180 (k := 1) (x := 374) bX12_leaves_49 rfl rfl
def dX12_leaves_53 := dk172 (k := 4) bX12_leaves_49 rfl
theorem bX12_doubts_0 : bL cX12_doubts 0 [42, 27, 182, 1, 112, 61, 28, 156, 0, 5, 28, 172, 3, 62, 3, 54, 4, 21, 4, 42, 180, 0, 47, 27] := bL_of (by decide +kernel)
def dX12_doubts_0 := dk42 (k := 0) bX12_doubts_0 rfl
def dX12_doubts_1 := dk27 (k := 1) bX12_doubts_0 rfl
def dX12_doubts_2 := dk182 (k := 2) (x := 368) bX12_doubts_0 rfl rfl
def dX12_doubts_5 := dk61 (k := 5) bX12_doubts_0 rfl
def dX12_doubts_6 := dk28 (k := 6) bX12_doubts_0 rfl
def dX12_doubts_7 := dk156 (k := 7) (x := 5) bX12_doubts_0 rfl (by decide)
def dX12_doubts_10 := dk28 (k := 10) bX12_doubts_0 rfl
def dX12_doubts_11 := dk172 (k := 11) bX12_doubts_0 rfl
def dX12_doubts_12 := dk3 (k := 12) bX12_doubts_0 rfl
def dX12_doubts_13 := dk62 (k := 13) bX12_doubts_0 rfl
def dX12_doubts_14 := dk3 (k := 14) bX12_doubts_0 rfl
def dX12_doubts_15 := dk54 (k := 15) (x := 4) bX12_doubts_0 rfl rfl
def dX12_doubts_17 := dk21 (k := 17) (x := 4) bX12_doubts_0 rfl rfl
def dX12_doubts_19 := dk42 (k := 19) bX12_doubts_0 rfl
def dX12_doubts_20 := dk180 (k := 20) (x := 47) bX12_doubts_0 rfl rfl
def dX12_doubts_23 := dk27 (k := 23) bX12_doubts_0 rfl
theorem bX12_doubts_24 : bL cX12_doubts 24 [46, 162, 0, 27, 29, 42, 27, 21, 4, 182, 1, 115, 153, 0, 7, 4, 167, 0, 4, 3, 96, 62, 132, 4, 3] := bL_of (by decide +kernel)
def dX12_doubts_24 := dk46 (k := 0) bX12_doubts_24 rfl
def dX12_doubts_25 := dk162 (k := 1) (x := 27) bX12_doubts_24 rfl (by decide)
def dX12_doubts_28 := dk29 (k := 4) bX12_doubts_24 rfl
def dX12_doubts_29 := dk42 (k := 5) bX12_doubts_24 rfl
def dX12_doubts_30 := dk27 (k := 6) bX12_doubts_24 rfl
def dX12_doubts_31 := dk21 (k := 7) (x := 4) bX12_doubts_24 rfl rfl
def dX12_doubts_33 := dk182 (k := 9) (x := 371) bX12_doubts_24 rfl rfl
def dX12_doubts_36 := dk153 (k := 12) (x := 7) bX12_doubts_24 rfl (by decide)
def dX12_doubts_39 := dk4 (k := 15) bX12_doubts_24 rfl
def dX12_doubts_40 := dk167 (k := 16) (x := 4) bX12_doubts_24 rfl (by decide)
def dX12_doubts_43 := dk3 (k := 19) bX12_doubts_24 rfl
def dX12_doubts_44 := dk96 (k := 20) bX12_doubts_24 rfl
def dX12_doubts_45 := dk62 (k := 21) bX12_doubts_24 rfl
theorem dX12_doubts_46 : decode cX12_doubts 46 = .ok (.iinc 4 3, 3) := dk132 (k := 22) bX12_doubts_24 rfl rfl (by decide)
theorem bX12_doubts_49 : bL cX12_doubts 49 [167, 255, 224, 29, 172] := bL_of (by decide +kernel)
def dX12_doubts_49 := dk167 (k := 0) (x := (-32)) bX12_doubts_49 rfl (by decide)
def dX12_doubts_52 := dk29 (k := 3) bX12_doubts_49 rfl
def dX12_doubts_53 := dk172 (k := 4) bX12_doubts_49 rfl
theorem bX12_asksNames_0 : bL cX12_asksNames 0 [27, 184, 1, 101, 153, 0, 14, 42, 182, 0, 73, 153, 0, 7, 28, 154, 0, 6, 16, 254, 172, 42, 180, 0, 47] := bL_of (by decide +kernel)
def dX12_asksNames_0 := dk27 (k := 0) bX12_asksNames_0 rfl
def dX12_asksNames_1 := dk184 (k := 1) (x := 357) bX12_asksNames_0 rfl rfl
def dX12_asksNames_4 := dk153 (k := 4) (x := 14) bX12_asksNames_0 rfl (by decide)
def dX12_asksNames_7 := dk42 (k := 7) bX12_asksNames_0 rfl
def dX12_asksNames_8 := dk182 (k := 8) (x := 73) bX12_asksNames_0 rfl rfl
def dX12_asksNames_11 := dk153 (k := 11) (x := 7) bX12_asksNames_0 rfl (by decide)
def dX12_asksNames_14 := dk28 (k := 14) bX12_asksNames_0 rfl
def dX12_asksNames_15 := dk154 (k := 15) (x := 6) bX12_asksNames_0 rfl (by decide)
def dX12_asksNames_18 := dk16 (k := 18) (x := (-2)) bX12_asksNames_0 rfl (by decide)
def dX12_asksNames_20 := dk172 (k := 20) bX12_asksNames_0 rfl
def dX12_asksNames_21 := dk42 (k := 21) bX12_asksNames_0 rfl
def dX12_asksNames_22 := dk180 (k := 22) (x := 47) bX12_asksNames_0 rfl rfl
theorem bX12_asksNames_25 : bL cX12_asksNames 25 [27, 46, 2, 160, 0, 6, 16, 250, 172, 42, 180, 0, 47, 27, 46, 5, 112, 153, 0, 6, 16, 254, 172, 3] := bL_of (by decide +kernel)
def dX12_asksNames_25 := dk27 (k := 0) bX12_asksNames_25 rfl
def dX12_asksNames_26 := dk46 (k := 1) bX12_asksNames_25 rfl
def dX12_asksNames_27 := dk2 (k := 2) bX12_asksNames_25 rfl
def dX12_asksNames_28 := dk160 (k := 3) (x := 6) bX12_asksNames_25 rfl (by decide)
def dX12_asksNames_31 := dk16 (k := 6) (x := (-6)) bX12_asksNames_25 rfl (by decide)
def dX12_asksNames_33 := dk172 (k := 8) bX12_asksNames_25 rfl
def dX12_asksNames_34 := dk42 (k := 9) bX12_asksNames_25 rfl
def dX12_asksNames_35 := dk180 (k := 10) (x := 47) bX12_asksNames_25 rfl rfl
def dX12_asksNames_38 := dk27 (k := 13) bX12_asksNames_25 rfl
def dX12_asksNames_39 := dk46 (k := 14) bX12_asksNames_25 rfl
def dX12_asksNames_40 := dk5 (k := 15) bX12_asksNames_25 rfl
def dX12_asksNames_41 := dk112 (k := 16) bX12_asksNames_25 rfl
def dX12_asksNames_42 := dk153 (k := 17) (x := 6) bX12_asksNames_25 rfl (by decide)
def dX12_asksNames_45 := dk16 (k := 20) (x := (-2)) bX12_asksNames_25 rfl (by decide)
def dX12_asksNames_47 := dk172 (k := 22) bX12_asksNames_25 rfl
def dX12_asksNames_48 := dk3 (k := 23) bX12_asksNames_25 rfl
theorem bX12_asksNames_49 : bL cX12_asksNames 49 [62, 29, 42, 180, 0, 47, 27, 46, 162, 0, 43, 42, 42, 27, 29, 182, 1, 104, 182, 0, 235, 153, 0, 21] := bL_of (by decide +kernel)
def dX12_asksNames_49 := dk62 (k := 0) bX12_asksNames_49 rfl
def dX12_asksNames_50 := dk29 (k := 1) bX12_asksNames_49 rfl
def dX12_asksNames_51 := dk42 (k := 2) bX12_asksNames_49 rfl
def dX12_asksNames_52 := dk180 (k := 3) (x := 47) bX12_asksNames_49 rfl rfl
def dX12_asksNames_55 := dk27 (k := 6) bX12_asksNames_49 rfl
def dX12_asksNames_56 := dk46 (k := 7) bX12_asksNames_49 rfl
def dX12_asksNames_57 := dk162 (k := 8) (x := 43) bX12_asksNames_49 rfl (by decide)
def dX12_asksNames_60 := dk42 (k := 11) bX12_asksNames_49 rfl
def dX12_asksNames_61 := dk42 (k := 12) bX12_asksNames_49 rfl
def dX12_asksNames_62 := dk27 (k := 13) bX12_asksNames_49 rfl
def dX12_asksNames_63 := dk29 (k := 14) bX12_asksNames_49 rfl
def dX12_asksNames_64 := dk182 (k := 15) (x := 360) bX12_asksNames_49 rfl rfl
def dX12_asksNames_67 := dk182 (k := 18) (x := 235) bX12_asksNames_49 rfl rfl
def dX12_asksNames_70 := dk153 (k := 21) (x := 21) bX12_asksNames_49 rfl (by decide)
theorem bX12_asksNames_73 : bL cX12_asksNames 73 [42, 27, 29, 4, 96, 182, 1, 104, 9, 20, 1, 91, 184, 0, 65, 154, 0, 6, 16, 254, 172, 132, 3, 2] := bL_of (by decide +kernel)
def dX12_asksNames_73 := dk42 (k := 0) bX12_asksNames_73 rfl
def dX12_asksNames_74 := dk27 (k := 1) bX12_asksNames_73 rfl
def dX12_asksNames_75 := dk29 (k := 2) bX12_asksNames_73 rfl
def dX12_asksNames_76 := dk4 (k := 3) bX12_asksNames_73 rfl
def dX12_asksNames_77 := dk96 (k := 4) bX12_asksNames_73 rfl
def dX12_asksNames_78 := dk182 (k := 5) (x := 360) bX12_asksNames_73 rfl rfl
def dX12_asksNames_81 := dk9 (k := 8) bX12_asksNames_73 rfl
def dX12_asksNames_82 := dk20 (k := 9) (x := 347) bX12_asksNames_73 rfl rfl
def dX12_asksNames_85 := dk184 (k := 12) (x := 65) bX12_asksNames_73 rfl rfl
def dX12_asksNames_88 := dk154 (k := 15) (x := 6) bX12_asksNames_73 rfl (by decide)
def dX12_asksNames_91 := dk16 (k := 18) (x := (-2)) bX12_asksNames_73 rfl (by decide)
def dX12_asksNames_93 := dk172 (k := 20) bX12_asksNames_73 rfl
theorem dX12_asksNames_94 : decode cX12_asksNames 94 = .ok (.iinc 3 2, 3) := dk132 (k := 21) bX12_asksNames_73 rfl rfl (by decide)
theorem bX12_asksNames_97 : bL cX12_asksNames 97 [167, 255, 209, 3, 172] := bL_of (by decide +kernel)
def dX12_asksNames_97 := dk167 (k := 0) (x := (-47)) bX12_asksNames_97 rfl (by decide)
def dX12_asksNames_100 := dk3 (k := 3) bX12_asksNames_97 rfl
def dX12_asksNames_101 := dk172 (k := 4) bX12_asksNames_97 rfl
theorem bX12_hasName_0 : bL cX12_hasName 0 [42, 27, 28, 4, 96, 182, 1, 104, 42, 42, 27, 28, 182, 1, 104, 136, 4, 182, 0, 220, 133, 148, 156, 0, 7] := bL_of (by decide +kernel)
def dX12_hasName_0 := dk42 (k := 0) bX12_hasName_0 rfl
def dX12_hasName_1 := dk27 (k := 1) bX12_hasName_0 rfl
def dX12_hasName_2 := dk28 (k := 2) bX12_hasName_0 rfl
def dX12_hasName_3 := dk4 (k := 3) bX12_hasName_0 rfl
def dX12_hasName_4 := dk96 (k := 4) bX12_hasName_0 rfl
def dX12_hasName_5 := dk182 (k := 5) (x := 360) bX12_hasName_0 rfl rfl
def dX12_hasName_8 := dk42 (k := 8) bX12_hasName_0 rfl
def dX12_hasName_9 := dk42 (k := 9) bX12_hasName_0 rfl
def dX12_hasName_10 := dk27 (k := 10) bX12_hasName_0 rfl
def dX12_hasName_11 := dk28 (k := 11) bX12_hasName_0 rfl
def dX12_hasName_12 := dk182 (k := 12) (x := 360) bX12_hasName_0 rfl rfl
def dX12_hasName_15 := dk136 (k := 15) bX12_hasName_0 rfl
def dX12_hasName_16 := dk4 (k := 16) bX12_hasName_0 rfl
def dX12_hasName_17 := dk182 (k := 17) (x := 220) bX12_hasName_0 rfl rfl
def dX12_hasName_20 := dk133 (k := 20) bX12_hasName_0 rfl
def dX12_hasName_21 := dk148 (k := 21) bX12_hasName_0 rfl
def dX12_hasName_22 := dk156 (k := 22) (x := 7) bX12_hasName_0 rfl (by decide)
theorem bX12_hasName_25 : bL cX12_hasName 25 [4, 167, 0, 4, 3, 172] := bL_of (by decide +kernel)
def dX12_hasName_25 := dk4 (k := 0) bX12_hasName_25 rfl
def dX12_hasName_26 := dk167 (k := 1) (x := 4) bX12_hasName_25 rfl (by decide)
def dX12_hasName_29 := dk3 (k := 4) bX12_hasName_25 rfl
def dX12_hasName_30 := dk172 (k := 5) bX12_hasName_25 rfl
theorem bX12_isThere_0 : bL cX12_isThere 0 [3, 62, 29, 28, 162, 0, 47, 42, 27, 29, 182, 1, 104, 42, 27, 28, 182, 1, 104, 148, 154, 0, 25, 42] := bL_of (by decide +kernel)
def dX12_isThere_0 := dk3 (k := 0) bX12_isThere_0 rfl
def dX12_isThere_1 := dk62 (k := 1) bX12_isThere_0 rfl
def dX12_isThere_2 := dk29 (k := 2) bX12_isThere_0 rfl
def dX12_isThere_3 := dk28 (k := 3) bX12_isThere_0 rfl
def dX12_isThere_4 := dk162 (k := 4) (x := 47) bX12_isThere_0 rfl (by decide)
def dX12_isThere_7 := dk42 (k := 7) bX12_isThere_0 rfl
def dX12_isThere_8 := dk27 (k := 8) bX12_isThere_0 rfl
def dX12_isThere_9 := dk29 (k := 9) bX12_isThere_0 rfl
def dX12_isThere_10 := dk182 (k := 10) (x := 360) bX12_isThere_0 rfl rfl
def dX12_isThere_13 := dk42 (k := 13) bX12_isThere_0 rfl
def dX12_isThere_14 := dk27 (k := 14) bX12_isThere_0 rfl
def dX12_isThere_15 := dk28 (k := 15) bX12_isThere_0 rfl
def dX12_isThere_16 := dk182 (k := 16) (x := 360) bX12_isThere_0 rfl rfl
def dX12_isThere_19 := dk148 (k := 19) bX12_isThere_0 rfl
def dX12_isThere_20 := dk154 (k := 20) (x := 25) bX12_isThere_0 rfl (by decide)
def dX12_isThere_23 := dk42 (k := 23) bX12_isThere_0 rfl
theorem bX12_isThere_24 : bL cX12_isThere 24 [27, 29, 4, 96, 182, 1, 104, 42, 27, 28, 4, 96, 182, 1, 104, 148, 154, 0, 5, 4, 172, 132, 3, 2] := bL_of (by decide +kernel)
def dX12_isThere_24 := dk27 (k := 0) bX12_isThere_24 rfl
def dX12_isThere_25 := dk29 (k := 1) bX12_isThere_24 rfl
def dX12_isThere_26 := dk4 (k := 2) bX12_isThere_24 rfl
def dX12_isThere_27 := dk96 (k := 3) bX12_isThere_24 rfl
def dX12_isThere_28 := dk182 (k := 4) (x := 360) bX12_isThere_24 rfl rfl
def dX12_isThere_31 := dk42 (k := 7) bX12_isThere_24 rfl
def dX12_isThere_32 := dk27 (k := 8) bX12_isThere_24 rfl
def dX12_isThere_33 := dk28 (k := 9) bX12_isThere_24 rfl
def dX12_isThere_34 := dk4 (k := 10) bX12_isThere_24 rfl
def dX12_isThere_35 := dk96 (k := 11) bX12_isThere_24 rfl
def dX12_isThere_36 := dk182 (k := 12) (x := 360) bX12_isThere_24 rfl rfl
def dX12_isThere_39 := dk148 (k := 15) bX12_isThere_24 rfl
def dX12_isThere_40 := dk154 (k := 16) (x := 5) bX12_isThere_24 rfl (by decide)
def dX12_isThere_43 := dk4 (k := 19) bX12_isThere_24 rfl
def dX12_isThere_44 := dk172 (k := 20) bX12_isThere_24 rfl
theorem dX12_isThere_45 : decode cX12_isThere 45 = .ok (.iinc 3 2, 3) := dk132 (k := 21) bX12_isThere_24 rfl rfl (by decide)
theorem bX12_isThere_48 : bL cX12_isThere 48 [167, 255, 210, 3, 172] := bL_of (by decide +kernel)
def dX12_isThere_48 := dk167 (k := 0) (x := (-46)) bX12_isThere_48 rfl (by decide)
def dX12_isThere_51 := dk3 (k := 3) bX12_isThere_48 rfl
def dX12_isThere_52 := dk172 (k := 4) bX12_isThere_48 rfl
theorem bX12_stands_0 : bL cX12_stands 0 [42, 27, 4, 182, 1, 124, 61, 28, 156, 0, 5, 28, 172, 3, 62, 3, 54, 4, 21, 4, 42, 180, 0, 47] := bL_of (by decide +kernel)
def dX12_stands_0 := dk42 (k := 0) bX12_stands_0 rfl
def dX12_stands_1 := dk27 (k := 1) bX12_stands_0 rfl
def dX12_stands_2 := dk4 (k := 2) bX12_stands_0 rfl
def dX12_stands_3 := dk182 (k := 3) (x := 380) bX12_stands_0 rfl rfl
def dX12_stands_6 := dk61 (k := 6) bX12_stands_0 rfl
def dX12_stands_7 := dk28 (k := 7) bX12_stands_0 rfl
def dX12_stands_8 := dk156 (k := 8) (x := 5) bX12_stands_0 rfl (by decide)
def dX12_stands_11 := dk28 (k := 11) bX12_stands_0 rfl
def dX12_stands_12 := dk172 (k := 12) bX12_stands_0 rfl
def dX12_stands_13 := dk3 (k := 13) bX12_stands_0 rfl
def dX12_stands_14 := dk62 (k := 14) bX12_stands_0 rfl
def dX12_stands_15 := dk3 (k := 15) bX12_stands_0 rfl
def dX12_stands_16 := dk54 (k := 16) (x := 4) bX12_stands_0 rfl rfl
def dX12_stands_18 := dk21 (k := 18) (x := 4) bX12_stands_0 rfl rfl
def dX12_stands_20 := dk42 (k := 20) bX12_stands_0 rfl
def dX12_stands_21 := dk180 (k := 21) (x := 47) bX12_stands_0 rfl rfl
theorem bX12_stands_24 : bL cX12_stands 24 [27, 46, 162, 0, 37, 29, 42, 27, 21, 4, 182, 1, 128, 153, 0, 17, 42, 27, 21, 4, 182, 1, 131, 154, 0, 7] := bL_of (by decide +kernel)
def dX12_stands_24 := dk27 (k := 0) bX12_stands_24 rfl
def dX12_stands_25 := dk46 (k := 1) bX12_stands_24 rfl
def dX12_stands_26 := dk162 (k := 2) (x := 37) bX12_stands_24 rfl (by decide)
def dX12_stands_29 := dk29 (k := 5) bX12_stands_24 rfl
def dX12_stands_30 := dk42 (k := 6) bX12_stands_24 rfl
def dX12_stands_31 := dk27 (k := 7) bX12_stands_24 rfl
def dX12_stands_32 := dk21 (k := 8) (x := 4) bX12_stands_24 rfl rfl
def dX12_stands_34 := dk182 (k := 10) (x := 384) bX12_stands_24 rfl rfl
def dX12_stands_37 := dk153 (k := 13) (x := 17) bX12_stands_24 rfl (by decide)
def dX12_stands_40 := dk42 (k := 16) bX12_stands_24 rfl
def dX12_stands_41 := dk27 (k := 17) bX12_stands_24 rfl
def dX12_stands_42 := dk21 (k := 18) (x := 4) bX12_stands_24 rfl rfl
def dX12_stands_44 := dk182 (k := 20) (x := 387) bX12_stands_24 rfl rfl
def dX12_stands_47 := dk154 (k := 23) (x := 7) bX12_stands_24 rfl (by decide)
theorem bX12_stands_50 : bL cX12_stands 50 [4, 167, 0, 4, 3, 96, 62, 132, 4, 2, 167, 255, 214, 29, 172] := bL_of (by decide +kernel)
def dX12_stands_50 := dk4 (k := 0) bX12_stands_50 rfl
def dX12_stands_51 := dk167 (k := 1) (x := 4) bX12_stands_50 rfl (by decide)
def dX12_stands_54 := dk3 (k := 4) bX12_stands_50 rfl
def dX12_stands_55 := dk96 (k := 5) bX12_stands_50 rfl
def dX12_stands_56 := dk62 (k := 6) bX12_stands_50 rfl
theorem dX12_stands_57 : decode cX12_stands 57 = .ok (.iinc 4 2, 3) := dk132 (k := 7) bX12_stands_50 rfl rfl (by decide)
def dX12_stands_60 := dk167 (k := 10) (x := (-42)) bX12_stands_50 rfl (by decide)
def dX12_stands_63 := dk29 (k := 13) bX12_stands_50 rfl
def dX12_stands_64 := dk172 (k := 14) bX12_stands_50 rfl
theorem bX12_struck_0 : bL cX12_struck 0 [42, 27, 28, 133, 9, 10, 184, 0, 65, 182, 1, 124, 62, 29, 156, 0, 5, 29, 172, 3, 54, 4, 3, 54, 5] := bL_of (by decide +kernel)
def dX12_struck_0 := dk42 (k := 0) bX12_struck_0 rfl
def dX12_struck_1 := dk27 (k := 1) bX12_struck_0 rfl
def dX12_struck_2 := dk28 (k := 2) bX12_struck_0 rfl
def dX12_struck_3 := dk133 (k := 3) bX12_struck_0 rfl
def dX12_struck_4 := dk9 (k := 4) bX12_struck_0 rfl
def dX12_struck_5 := dk10 (k := 5) bX12_struck_0 rfl
def dX12_struck_6 := dk184 (k := 6) (x := 65) bX12_struck_0 rfl rfl
def dX12_struck_9 := dk182 (k := 9) (x := 380) bX12_struck_0 rfl rfl
def dX12_struck_12 := dk62 (k := 12) bX12_struck_0 rfl
def dX12_struck_13 := dk29 (k := 13) bX12_struck_0 rfl
def dX12_struck_14 := dk156 (k := 14) (x := 5) bX12_struck_0 rfl (by decide)
def dX12_struck_17 := dk29 (k := 17) bX12_struck_0 rfl
def dX12_struck_18 := dk172 (k := 18) bX12_struck_0 rfl
def dX12_struck_19 := dk3 (k := 19) bX12_struck_0 rfl
def dX12_struck_20 := dk54 (k := 20) (x := 4) bX12_struck_0 rfl rfl
def dX12_struck_22 := dk3 (k := 22) bX12_struck_0 rfl
def dX12_struck_23 := dk54 (k := 23) (x := 5) bX12_struck_0 rfl rfl
theorem bX12_struck_25 : bL cX12_struck 25 [21, 5, 42, 180, 0, 47, 27, 46, 162, 0, 62, 21, 4, 28, 4, 160, 0, 21, 42, 27, 21, 5, 182, 1, 128] := bL_of (by decide +kernel)
def dX12_struck_25 := dk21 (k := 0) (x := 5) bX12_struck_25 rfl rfl
def dX12_struck_27 := dk42 (k := 2) bX12_struck_25 rfl
def dX12_struck_28 := dk180 (k := 3) (x := 47) bX12_struck_25 rfl rfl
def dX12_struck_31 := dk27 (k := 6) bX12_struck_25 rfl
def dX12_struck_32 := dk46 (k := 7) bX12_struck_25 rfl
def dX12_struck_33 := dk162 (k := 8) (x := 62) bX12_struck_25 rfl (by decide)
def dX12_struck_36 := dk21 (k := 11) (x := 4) bX12_struck_25 rfl rfl
def dX12_struck_38 := dk28 (k := 13) bX12_struck_25 rfl
def dX12_struck_39 := dk4 (k := 14) bX12_struck_25 rfl
def dX12_struck_40 := dk160 (k := 15) (x := 21) bX12_struck_25 rfl (by decide)
def dX12_struck_43 := dk42 (k := 18) bX12_struck_25 rfl
def dX12_struck_44 := dk27 (k := 19) bX12_struck_25 rfl
def dX12_struck_45 := dk21 (k := 20) (x := 5) bX12_struck_25 rfl rfl
def dX12_struck_47 := dk182 (k := 22) (x := 384) bX12_struck_25 rfl rfl
theorem bX12_struck_50 : bL cX12_struck 50 [153, 0, 7, 3, 167, 0, 32, 4, 167, 0, 28, 42, 27, 21, 5, 182, 1, 128, 153, 0, 17, 42, 27, 21, 5] := bL_of (by decide +kernel)
def dX12_struck_50 := dk153 (k := 0) (x := 7) bX12_struck_50 rfl (by decide)
def dX12_struck_53 := dk3 (k := 3) bX12_struck_50 rfl
def dX12_struck_54 := dk167 (k := 4) (x := 32) bX12_struck_50 rfl (by decide)
def dX12_struck_57 := dk4 (k := 7) bX12_struck_50 rfl
def dX12_struck_58 := dk167 (k := 8) (x := 28) bX12_struck_50 rfl (by decide)
def dX12_struck_61 := dk42 (k := 11) bX12_struck_50 rfl
def dX12_struck_62 := dk27 (k := 12) bX12_struck_50 rfl
def dX12_struck_63 := dk21 (k := 13) (x := 5) bX12_struck_50 rfl rfl
def dX12_struck_65 := dk182 (k := 15) (x := 384) bX12_struck_50 rfl rfl
def dX12_struck_68 := dk153 (k := 18) (x := 17) bX12_struck_50 rfl (by decide)
def dX12_struck_71 := dk42 (k := 21) bX12_struck_50 rfl
def dX12_struck_72 := dk27 (k := 22) bX12_struck_50 rfl
def dX12_struck_73 := dk21 (k := 23) (x := 5) bX12_struck_50 rfl rfl
theorem bX12_struck_75 : bL cX12_struck 75 [182, 1, 131, 153, 0, 7, 4, 167, 0, 4, 3, 96, 54, 4, 132, 5, 2, 167, 255, 189, 21, 4, 172] := bL_of (by decide +kernel)
def dX12_struck_75 := dk182 (k := 0) (x := 387) bX12_struck_75 rfl rfl
def dX12_struck_78 := dk153 (k := 3) (x := 7) bX12_struck_75 rfl (by decide)
def dX12_struck_81 := dk4 (k := 6) bX12_struck_75 rfl
def dX12_struck_82 := dk167 (k := 7) (x := 4) bX12_struck_75 rfl (by decide)
def dX12_struck_85 := dk3 (k := 10) bX12_struck_75 rfl
def dX12_struck_86 := dk96 (k := 11) bX12_struck_75 rfl
def dX12_struck_87 := dk54 (k := 12) (x := 4) bX12_struck_75 rfl rfl
theorem dX12_struck_89 : decode cX12_struck 89 = .ok (.iinc 5 2, 3) := dk132 (k := 14) bX12_struck_75 rfl rfl (by decide)
def dX12_struck_92 := dk167 (k := 17) (x := (-67)) bX12_struck_75 rfl (by decide)
def dX12_struck_95 := dk21 (k := 20) (x := 4) bX12_struck_75 rfl rfl
def dX12_struck_97 := dk172 (k := 22) bX12_struck_75 rfl
theorem bX12_goMonths_0 : bL cX12_goMonths 0 [42, 182, 0, 240, 31, 55, 4, 3, 54, 6, 3, 54, 7, 21, 7, 29, 162, 0, 101, 3, 54, 8, 42, 180, 0, 9] := bL_of (by decide +kernel)
def dX12_goMonths_0 := dk42 (k := 0) bX12_goMonths_0 rfl
def dX12_goMonths_1 := dk182 (k := 1) (x := 240) bX12_goMonths_0 rfl rfl
def dX12_goMonths_4 := dk31 (k := 4) bX12_goMonths_0 rfl
def dX12_goMonths_5 := dk55 (k := 5) (x := 4) bX12_goMonths_0 rfl rfl
def dX12_goMonths_7 := dk3 (k := 7) bX12_goMonths_0 rfl
def dX12_goMonths_8 := dk54 (k := 8) (x := 6) bX12_goMonths_0 rfl rfl
def dX12_goMonths_10 := dk3 (k := 10) bX12_goMonths_0 rfl
def dX12_goMonths_11 := dk54 (k := 11) (x := 7) bX12_goMonths_0 rfl rfl
def dX12_goMonths_13 := dk21 (k := 13) (x := 7) bX12_goMonths_0 rfl rfl
def dX12_goMonths_15 := dk29 (k := 15) bX12_goMonths_0 rfl
def dX12_goMonths_16 := dk162 (k := 16) (x := 101) bX12_goMonths_0 rfl (by decide)
def dX12_goMonths_19 := dk3 (k := 19) bX12_goMonths_0 rfl
def dX12_goMonths_20 := dk54 (k := 20) (x := 8) bX12_goMonths_0 rfl rfl
def dX12_goMonths_22 := dk42 (k := 22) bX12_goMonths_0 rfl
def dX12_goMonths_23 := dk180 (k := 23) (x := 9) bX12_goMonths_0 rfl rfl
theorem bX12_goMonths_26 : bL cX12_goMonths 26 [16, 6, 46, 158, 0, 39, 20, 1, 134, 22, 4, 105, 20, 1, 136, 97, 20, 1, 138, 113, 55, 4, 4, 22, 4] := bL_of (by decide +kernel)
def dX12_goMonths_26 := dk16 (k := 0) (x := 6) bX12_goMonths_26 rfl (by decide)
def dX12_goMonths_28 := dk46 (k := 2) bX12_goMonths_26 rfl
def dX12_goMonths_29 := dk158 (k := 3) (x := 39) bX12_goMonths_26 rfl (by decide)
def dX12_goMonths_32 := dk20 (k := 6) (x := 390) bX12_goMonths_26 rfl rfl
def dX12_goMonths_35 := dk22 (k := 9) (x := 4) bX12_goMonths_26 rfl rfl
def dX12_goMonths_37 := dk105 (k := 11) bX12_goMonths_26 rfl
def dX12_goMonths_38 := dk20 (k := 12) (x := 392) bX12_goMonths_26 rfl rfl
def dX12_goMonths_41 := dk97 (k := 15) bX12_goMonths_26 rfl
def dX12_goMonths_42 := dk20 (k := 16) (x := 394) bX12_goMonths_26 rfl rfl
def dX12_goMonths_45 := dk113 (k := 19) bX12_goMonths_26 rfl
def dX12_goMonths_46 := dk55 (k := 20) (x := 4) bX12_goMonths_26 rfl rfl
def dX12_goMonths_48 := dk4 (k := 22) bX12_goMonths_26 rfl
def dX12_goMonths_49 := dk22 (k := 23) (x := 4) bX12_goMonths_26 rfl rfl
theorem bX12_goMonths_51 : bL cX12_goMonths 51 [20, 1, 140, 109, 42, 180, 0, 9, 16, 6, 46, 133, 113, 136, 120, 54, 8, 42, 42, 42, 182, 1, 7, 21, 8] := bL_of (by decide +kernel)
def dX12_goMonths_51 := dk20 (k := 0) (x := 396) bX12_goMonths_51 rfl rfl
def dX12_goMonths_54 := dk109 (k := 3) bX12_goMonths_51 rfl
def dX12_goMonths_55 := dk42 (k := 4) bX12_goMonths_51 rfl
def dX12_goMonths_56 := dk180 (k := 5) (x := 9) bX12_goMonths_51 rfl rfl
def dX12_goMonths_59 := dk16 (k := 8) (x := 6) bX12_goMonths_51 rfl (by decide)
def dX12_goMonths_61 := dk46 (k := 10) bX12_goMonths_51 rfl
def dX12_goMonths_62 := dk133 (k := 11) bX12_goMonths_51 rfl
def dX12_goMonths_63 := dk113 (k := 12) bX12_goMonths_51 rfl
def dX12_goMonths_64 := dk136 (k := 13) bX12_goMonths_51 rfl
def dX12_goMonths_65 := dk120 (k := 14) bX12_goMonths_51 rfl
def dX12_goMonths_66 := dk54 (k := 15) (x := 8) bX12_goMonths_51 rfl rfl
def dX12_goMonths_68 := dk42 (k := 17) bX12_goMonths_51 rfl
def dX12_goMonths_69 := dk42 (k := 18) bX12_goMonths_51 rfl
def dX12_goMonths_70 := dk42 (k := 19) bX12_goMonths_51 rfl
def dX12_goMonths_71 := dk182 (k := 20) (x := 263) bX12_goMonths_51 rfl rfl
def dX12_goMonths_74 := dk21 (k := 23) (x := 8) bX12_goMonths_51 rfl rfl
theorem bX12_goMonths_76 : bL cX12_goMonths 76 [128, 3, 182, 1, 14, 182, 1, 17, 153, 0, 27, 42, 182, 0, 194, 154, 0, 6, 167, 0, 17, 132, 6, 1] := bL_of (by decide +kernel)
def dX12_goMonths_76 := dk128 (k := 0) bX12_goMonths_76 rfl
def dX12_goMonths_77 := dk3 (k := 1) bX12_goMonths_76 rfl
def dX12_goMonths_78 := dk182 (k := 2) (x := 270) bX12_goMonths_76 rfl rfl
def dX12_goMonths_81 := dk182 (k := 5) (x := 273) bX12_goMonths_76 rfl rfl
def dX12_goMonths_84 := dk153 (k := 8) (x := 27) bX12_goMonths_76 rfl (by decide)
def dX12_goMonths_87 := dk42 (k := 11) bX12_goMonths_76 rfl
def dX12_goMonths_88 := dk182 (k := 12) (x := 194) bX12_goMonths_76 rfl rfl
def dX12_goMonths_91 := dk154 (k := 15) (x := 6) bX12_goMonths_76 rfl (by decide)
def dX12_goMonths_94 := dk167 (k := 18) (x := 17) bX12_goMonths_76 rfl (by decide)
theorem dX12_goMonths_97 : decode cX12_goMonths 97 = .ok (.iinc 6 1, 3) := dk132 (k := 21) bX12_goMonths_76 rfl rfl (by decide)
theorem bX12_goMonths_100 : bL cX12_goMonths 100 [42, 42, 180, 0, 9, 8, 46, 182, 0, 197, 87, 132, 7, 1, 167, 255, 155, 21, 6, 172] := bL_of (by decide +kernel)
def dX12_goMonths_100 := dk42 (k := 0) bX12_goMonths_100 rfl
def dX12_goMonths_101 := dk42 (k := 1) bX12_goMonths_100 rfl
def dX12_goMonths_102 := dk180 (k := 2) (x := 9) bX12_goMonths_100 rfl rfl
def dX12_goMonths_105 := dk8 (k := 5) bX12_goMonths_100 rfl
def dX12_goMonths_106 := dk46 (k := 6) bX12_goMonths_100 rfl
def dX12_goMonths_107 := dk182 (k := 7) (x := 197) bX12_goMonths_100 rfl rfl
def dX12_goMonths_110 := dk87 (k := 10) bX12_goMonths_100 rfl
theorem dX12_goMonths_111 : decode cX12_goMonths 111 = .ok (.iinc 7 1, 3) := dk132 (k := 11) bX12_goMonths_100 rfl rfl (by decide)
def dX12_goMonths_114 := dk167 (k := 14) (x := (-101)) bX12_goMonths_100 rfl (by decide)
def dX12_goMonths_117 := dk21 (k := 17) (x := 6) bX12_goMonths_100 rfl rfl
def dX12_goMonths_119 := dk172 (k := 19) bX12_goMonths_100 rfl
theorem bX12_areMonths_0 : bL cX12_areMonths 0 [42, 182, 0, 73, 153, 0, 31, 27, 133, 9, 20, 1, 142, 184, 0, 65, 153, 0, 19, 28, 133, 9, 20, 0, 156] := bL_of (by decide +kernel)
def dX12_areMonths_0 := dk42 (k := 0) bX12_areMonths_0 rfl
def dX12_areMonths_1 := dk182 (k := 1) (x := 73) bX12_areMonths_0 rfl rfl
def dX12_areMonths_4 := dk153 (k := 4) (x := 31) bX12_areMonths_0 rfl (by decide)
def dX12_areMonths_7 := dk27 (k := 7) bX12_areMonths_0 rfl
def dX12_areMonths_8 := dk133 (k := 8) bX12_areMonths_0 rfl
def dX12_areMonths_9 := dk9 (k := 9) bX12_areMonths_0 rfl
def dX12_areMonths_10 := dk20 (k := 10) (x := 398) bX12_areMonths_0 rfl rfl
def dX12_areMonths_13 := dk184 (k := 13) (x := 65) bX12_areMonths_0 rfl rfl
def dX12_areMonths_16 := dk153 (k := 16) (x := 19) bX12_areMonths_0 rfl (by decide)
def dX12_areMonths_19 := dk28 (k := 19) bX12_areMonths_0 rfl
def dX12_areMonths_20 := dk133 (k := 20) bX12_areMonths_0 rfl
def dX12_areMonths_21 := dk9 (k := 21) bX12_areMonths_0 rfl
def dX12_areMonths_22 := dk20 (k := 22) (x := 156) bX12_areMonths_0 rfl rfl
theorem bX12_areMonths_25 : bL cX12_areMonths 25 [184, 0, 65, 153, 0, 7, 4, 167, 0, 4, 3, 172] := bL_of (by decide +kernel)
def dX12_areMonths_25 := dk184 (k := 0) (x := 65) bX12_areMonths_25 rfl rfl
def dX12_areMonths_28 := dk153 (k := 3) (x := 7) bX12_areMonths_25 rfl (by decide)
def dX12_areMonths_31 := dk4 (k := 6) bX12_areMonths_25 rfl
def dX12_areMonths_32 := dk167 (k := 7) (x := 4) bX12_areMonths_25 rfl (by decide)
def dX12_areMonths_35 := dk3 (k := 10) bX12_areMonths_25 rfl
def dX12_areMonths_36 := dk172 (k := 11) bX12_areMonths_25 rfl
theorem bX12_drawn_0 : bL cX12_drawn 0 [42, 27, 28, 182, 1, 144, 153, 0, 15, 29, 133, 9, 20, 0, 63, 184, 0, 65, 154, 0, 6, 16, 254, 172] := bL_of (by decide +kernel)
def dX12_drawn_0 := dk42 (k := 0) bX12_drawn_0 rfl
def dX12_drawn_1 := dk27 (k := 1) bX12_drawn_0 rfl
def dX12_drawn_2 := dk28 (k := 2) bX12_drawn_0 rfl
def dX12_drawn_3 := dk182 (k := 3) (x := 400) bX12_drawn_0 rfl rfl
def dX12_drawn_6 := dk153 (k := 6) (x := 15) bX12_drawn_0 rfl (by decide)
def dX12_drawn_9 := dk29 (k := 9) bX12_drawn_0 rfl
def dX12_drawn_10 := dk133 (k := 10) bX12_drawn_0 rfl
def dX12_drawn_11 := dk9 (k := 11) bX12_drawn_0 rfl
def dX12_drawn_12 := dk20 (k := 12) (x := 63) bX12_drawn_0 rfl rfl
def dX12_drawn_15 := dk184 (k := 15) (x := 65) bX12_drawn_0 rfl rfl
def dX12_drawn_18 := dk154 (k := 18) (x := 6) bX12_drawn_0 rfl (by decide)
def dX12_drawn_21 := dk16 (k := 21) (x := (-2)) bX12_drawn_0 rfl (by decide)
def dX12_drawn_23 := dk172 (k := 23) bX12_drawn_0 rfl
theorem bX12_drawn_24 : bL cX12_drawn 24 [42, 27, 133, 28, 182, 1, 147, 54, 4, 29, 154, 0, 8, 21, 4, 167, 0, 24, 29, 4, 160, 0, 15, 42] := bL_of (by decide +kernel)
def dX12_drawn_24 := dk42 (k := 0) bX12_drawn_24 rfl
def dX12_drawn_25 := dk27 (k := 1) bX12_drawn_24 rfl
def dX12_drawn_26 := dk133 (k := 2) bX12_drawn_24 rfl
def dX12_drawn_27 := dk28 (k := 3) bX12_drawn_24 rfl
def dX12_drawn_28 := dk182 (k := 4) (x := 403) bX12_drawn_24 rfl rfl
def dX12_drawn_31 := dk54 (k := 7) (x := 4) bX12_drawn_24 rfl rfl
def dX12_drawn_33 := dk29 (k := 9) bX12_drawn_24 rfl
def dX12_drawn_34 := dk154 (k := 10) (x := 8) bX12_drawn_24 rfl (by decide)
def dX12_drawn_37 := dk21 (k := 13) (x := 4) bX12_drawn_24 rfl rfl
def dX12_drawn_39 := dk167 (k := 15) (x := 24) bX12_drawn_24 rfl (by decide)
def dX12_drawn_42 := dk29 (k := 18) bX12_drawn_24 rfl
def dX12_drawn_43 := dk4 (k := 19) bX12_drawn_24 rfl
def dX12_drawn_44 := dk160 (k := 20) (x := 15) bX12_drawn_24 rfl (by decide)
def dX12_drawn_47 := dk42 (k := 23) bX12_drawn_24 rfl
theorem bX12_drawn_48 : bL cX12_drawn 48 [180, 0, 34, 42, 182, 0, 200, 46, 167, 0, 7, 42, 182, 0, 251, 172] := bL_of (by decide +kernel)
def dX12_drawn_48 := dk180 (k := 0) (x := 34) bX12_drawn_48 rfl rfl
def dX12_drawn_51 := dk42 (k := 3) bX12_drawn_48 rfl
def dX12_drawn_52 := dk182 (k := 4) (x := 200) bX12_drawn_48 rfl rfl
def dX12_drawn_55 := dk46 (k := 7) bX12_drawn_48 rfl
def dX12_drawn_56 := dk167 (k := 8) (x := 7) bX12_drawn_48 rfl (by decide)
def dX12_drawn_59 := dk42 (k := 11) bX12_drawn_48 rfl
def dX12_drawn_60 := dk182 (k := 12) (x := 251) bX12_drawn_48 rfl rfl
def dX12_drawn_63 := dk172 (k := 15) bX12_drawn_48 rfl
theorem bX12_luck_0 : bL cX12_luck 0 [42, 27, 29, 182, 1, 144, 153, 0, 15, 28, 133, 10, 20, 0, 246, 184, 0, 65, 154, 0, 6, 16, 254, 172] := bL_of (by decide +kernel)
def dX12_luck_0 := dk42 (k := 0) bX12_luck_0 rfl
def dX12_luck_1 := dk27 (k := 1) bX12_luck_0 rfl
def dX12_luck_2 := dk29 (k := 2) bX12_luck_0 rfl
def dX12_luck_3 := dk182 (k := 3) (x := 400) bX12_luck_0 rfl rfl
def dX12_luck_6 := dk153 (k := 6) (x := 15) bX12_luck_0 rfl (by decide)
def dX12_luck_9 := dk28 (k := 9) bX12_luck_0 rfl
def dX12_luck_10 := dk133 (k := 10) bX12_luck_0 rfl
def dX12_luck_11 := dk10 (k := 11) bX12_luck_0 rfl
def dX12_luck_12 := dk20 (k := 12) (x := 246) bX12_luck_0 rfl rfl
def dX12_luck_15 := dk184 (k := 15) (x := 65) bX12_luck_0 rfl rfl
def dX12_luck_18 := dk154 (k := 18) (x := 6) bX12_luck_0 rfl (by decide)
def dX12_luck_21 := dk16 (k := 21) (x := (-2)) bX12_luck_0 rfl (by decide)
def dX12_luck_23 := dk172 (k := 23) bX12_luck_0 rfl
theorem bX12_luck_24 : bL cX12_luck 24 [3, 54, 4, 3, 54, 5, 21, 5, 28, 162, 0, 33, 21, 4, 42, 27, 133, 21, 5, 133, 97, 29, 182, 1, 147] := bL_of (by decide +kernel)
def dX12_luck_24 := dk3 (k := 0) bX12_luck_24 rfl
def dX12_luck_25 := dk54 (k := 1) (x := 4) bX12_luck_24 rfl rfl
def dX12_luck_27 := dk3 (k := 3) bX12_luck_24 rfl
def dX12_luck_28 := dk54 (k := 4) (x := 5) bX12_luck_24 rfl rfl
def dX12_luck_30 := dk21 (k := 6) (x := 5) bX12_luck_24 rfl rfl
def dX12_luck_32 := dk28 (k := 8) bX12_luck_24 rfl
def dX12_luck_33 := dk162 (k := 9) (x := 33) bX12_luck_24 rfl (by decide)
def dX12_luck_36 := dk21 (k := 12) (x := 4) bX12_luck_24 rfl rfl
def dX12_luck_38 := dk42 (k := 14) bX12_luck_24 rfl
def dX12_luck_39 := dk27 (k := 15) bX12_luck_24 rfl
def dX12_luck_40 := dk133 (k := 16) bX12_luck_24 rfl
def dX12_luck_41 := dk21 (k := 17) (x := 5) bX12_luck_24 rfl rfl
def dX12_luck_43 := dk133 (k := 19) bX12_luck_24 rfl
def dX12_luck_44 := dk97 (k := 20) bX12_luck_24 rfl
def dX12_luck_45 := dk29 (k := 21) bX12_luck_24 rfl
def dX12_luck_46 := dk182 (k := 22) (x := 403) bX12_luck_24 rfl rfl
theorem bX12_luck_49 : bL cX12_luck 49 [158, 0, 7, 4, 167, 0, 4, 3, 96, 54, 4, 132, 5, 1, 167, 255, 223, 21, 4, 172] := bL_of (by decide +kernel)
def dX12_luck_49 := dk158 (k := 0) (x := 7) bX12_luck_49 rfl (by decide)
def dX12_luck_52 := dk4 (k := 3) bX12_luck_49 rfl
def dX12_luck_53 := dk167 (k := 4) (x := 4) bX12_luck_49 rfl (by decide)
def dX12_luck_56 := dk3 (k := 7) bX12_luck_49 rfl
def dX12_luck_57 := dk96 (k := 8) bX12_luck_49 rfl
def dX12_luck_58 := dk54 (k := 9) (x := 4) bX12_luck_49 rfl rfl
theorem dX12_luck_60 : decode cX12_luck 60 = .ok (.iinc 5 1, 3) := dk132 (k := 11) bX12_luck_49 rfl rfl (by decide)
def dX12_luck_63 := dk167 (k := 14) (x := (-33)) bX12_luck_49 rfl (by decide)
def dX12_luck_66 := dk21 (k := 17) (x := 4) bX12_luck_49 rfl rfl
def dX12_luck_68 := dk172 (k := 19) bX12_luck_49 rfl
theorem bX12_tell_0 : bL cX12_tell 0 [42, 27, 182, 1, 93, 154, 0, 6, 16, 254, 172, 42, 180, 0, 9, 16, 8, 46, 158, 0, 6, 16, 251, 172] := bL_of (by decide +kernel)
def dX12_tell_0 := dk42 (k := 0) bX12_tell_0 rfl
def dX12_tell_1 := dk27 (k := 1) bX12_tell_0 rfl
def dX12_tell_2 := dk182 (k := 2) (x := 349) bX12_tell_0 rfl rfl
def dX12_tell_5 := dk154 (k := 5) (x := 6) bX12_tell_0 rfl (by decide)
def dX12_tell_8 := dk16 (k := 8) (x := (-2)) bX12_tell_0 rfl (by decide)
def dX12_tell_10 := dk172 (k := 10) bX12_tell_0 rfl
def dX12_tell_11 := dk42 (k := 11) bX12_tell_0 rfl
def dX12_tell_12 := dk180 (k := 12) (x := 9) bX12_tell_0 rfl rfl
def dX12_tell_15 := dk16 (k := 15) (x := 8) bX12_tell_0 rfl (by decide)
def dX12_tell_17 := dk46 (k := 17) bX12_tell_0 rfl
def dX12_tell_18 := dk158 (k := 18) (x := 6) bX12_tell_0 rfl (by decide)
def dX12_tell_21 := dk16 (k := 21) (x := (-5)) bX12_tell_0 rfl (by decide)
def dX12_tell_23 := dk172 (k := 23) bX12_tell_0 rfl
theorem bX12_tell_24 : bL cX12_tell 24 [42, 180, 0, 9, 6, 46, 61, 42, 180, 0, 9, 6, 27, 79, 28, 172] := bL_of (by decide +kernel)
def dX12_tell_24 := dk42 (k := 0) bX12_tell_24 rfl
def dX12_tell_25 := dk180 (k := 1) (x := 9) bX12_tell_24 rfl rfl
def dX12_tell_28 := dk6 (k := 4) bX12_tell_24 rfl
def dX12_tell_29 := dk46 (k := 5) bX12_tell_24 rfl
def dX12_tell_30 := dk61 (k := 6) bX12_tell_24 rfl
def dX12_tell_31 := dk42 (k := 7) bX12_tell_24 rfl
def dX12_tell_32 := dk180 (k := 8) (x := 9) bX12_tell_24 rfl rfl
def dX12_tell_35 := dk6 (k := 11) bX12_tell_24 rfl
def dX12_tell_36 := dk27 (k := 12) bX12_tell_24 rfl
def dX12_tell_37 := dk79 (k := 13) bX12_tell_24 rfl
def dX12_tell_38 := dk28 (k := 14) bX12_tell_24 rfl
def dX12_tell_39 := dk172 (k := 15) bX12_tell_24 rfl
theorem bX12_likes_0 : bL cX12_likes 0 [42, 27, 133, 182, 0, 235, 153, 0, 27, 28, 133, 9, 20, 0, 63, 184, 0, 65, 153, 0, 15, 29, 133, 9] := bL_of (by decide +kernel)
def dX12_likes_0 := dk42 (k := 0) bX12_likes_0 rfl
def dX12_likes_1 := dk27 (k := 1) bX12_likes_0 rfl
def dX12_likes_2 := dk133 (k := 2) bX12_likes_0 rfl
def dX12_likes_3 := dk182 (k := 3) (x := 235) bX12_likes_0 rfl rfl
def dX12_likes_6 := dk153 (k := 6) (x := 27) bX12_likes_0 rfl (by decide)
def dX12_likes_9 := dk28 (k := 9) bX12_likes_0 rfl
def dX12_likes_10 := dk133 (k := 10) bX12_likes_0 rfl
def dX12_likes_11 := dk9 (k := 11) bX12_likes_0 rfl
def dX12_likes_12 := dk20 (k := 12) (x := 63) bX12_likes_0 rfl rfl
def dX12_likes_15 := dk184 (k := 15) (x := 65) bX12_likes_0 rfl rfl
def dX12_likes_18 := dk153 (k := 18) (x := 15) bX12_likes_0 rfl (by decide)
def dX12_likes_21 := dk29 (k := 21) bX12_likes_0 rfl
def dX12_likes_22 := dk133 (k := 22) bX12_likes_0 rfl
def dX12_likes_23 := dk9 (k := 23) bX12_likes_0 rfl
theorem bX12_likes_24 : bL cX12_likes 24 [20, 0, 71, 184, 0, 65, 154, 0, 6, 16, 254, 172, 42, 180, 0, 9, 16, 8, 46, 158, 0, 6, 16, 251] := bL_of (by decide +kernel)
def dX12_likes_24 := dk20 (k := 0) (x := 71) bX12_likes_24 rfl rfl
def dX12_likes_27 := dk184 (k := 3) (x := 65) bX12_likes_24 rfl rfl
def dX12_likes_30 := dk154 (k := 6) (x := 6) bX12_likes_24 rfl (by decide)
def dX12_likes_33 := dk16 (k := 9) (x := (-2)) bX12_likes_24 rfl (by decide)
def dX12_likes_35 := dk172 (k := 11) bX12_likes_24 rfl
def dX12_likes_36 := dk42 (k := 12) bX12_likes_24 rfl
def dX12_likes_37 := dk180 (k := 13) (x := 9) bX12_likes_24 rfl rfl
def dX12_likes_40 := dk16 (k := 16) (x := 8) bX12_likes_24 rfl (by decide)
def dX12_likes_42 := dk46 (k := 18) bX12_likes_24 rfl
def dX12_likes_43 := dk158 (k := 19) (x := 6) bX12_likes_24 rfl (by decide)
def dX12_likes_46 := dk16 (k := 22) (x := (-5)) bX12_likes_24 rfl (by decide)
theorem bX12_likes_48 : bL cX12_likes 48 [172, 16, 19, 16, 7, 27, 104, 96, 5, 96, 28, 96, 54, 4, 42, 180, 0, 9, 21, 4, 46, 54, 5, 42] := bL_of (by decide +kernel)
def dX12_likes_48 := dk172 (k := 0) bX12_likes_48 rfl
def dX12_likes_49 := dk16 (k := 1) (x := 19) bX12_likes_48 rfl (by decide)
def dX12_likes_51 := dk16 (k := 3) (x := 7) bX12_likes_48 rfl (by decide)
def dX12_likes_53 := dk27 (k := 5) bX12_likes_48 rfl
def dX12_likes_54 := dk104 (k := 6) bX12_likes_48 rfl
def dX12_likes_55 := dk96 (k := 7) bX12_likes_48 rfl
def dX12_likes_56 := dk5 (k := 8) bX12_likes_48 rfl
def dX12_likes_57 := dk96 (k := 9) bX12_likes_48 rfl
def dX12_likes_58 := dk28 (k := 10) bX12_likes_48 rfl
def dX12_likes_59 := dk96 (k := 11) bX12_likes_48 rfl
def dX12_likes_60 := dk54 (k := 12) (x := 4) bX12_likes_48 rfl rfl
def dX12_likes_62 := dk42 (k := 14) bX12_likes_48 rfl
def dX12_likes_63 := dk180 (k := 15) (x := 9) bX12_likes_48 rfl rfl
def dX12_likes_66 := dk21 (k := 18) (x := 4) bX12_likes_48 rfl rfl
def dX12_likes_68 := dk46 (k := 20) bX12_likes_48 rfl
def dX12_likes_69 := dk54 (k := 21) (x := 5) bX12_likes_48 rfl rfl
def dX12_likes_71 := dk42 (k := 23) bX12_likes_48 rfl
theorem bX12_likes_72 : bL cX12_likes 72 [180, 0, 9, 21, 4, 29, 79, 21, 5, 172] := bL_of (by decide +kernel)
def dX12_likes_72 := dk180 (k := 0) (x := 9) bX12_likes_72 rfl rfl
def dX12_likes_75 := dk21 (k := 3) (x := 4) bX12_likes_72 rfl rfl
def dX12_likes_77 := dk29 (k := 5) bX12_likes_72 rfl
def dX12_likes_78 := dk79 (k := 6) bX12_likes_72 rfl
def dX12_likes_79 := dk21 (k := 7) (x := 5) bX12_likes_72 rfl rfl
def dX12_likes_81 := dk172 (k := 9) bX12_likes_72 rfl
theorem bX12_count_0 : bL cX12_count 0 [3, 61, 27] := bL_of (by decide +kernel)
def dX12_count_0 := dk3 (k := 0) bX12_count_0 rfl
def dX12_count_1 := dk61 (k := 1) bX12_count_0 rfl
def dX12_count_2 := dk27 (k := 2) bX12_count_0 rfl
theorem dX12_count_3 : decode cX12_count 3 = .ok (.tableswitch 150 0 9 #[53, 60, 68, 75, 82, 89, 96, 104, 109, 117], 53) := by decide +kernel
theorem bX12_count_56 : bL cX12_count 56 [42, 180, 0, 9, 3, 46, 172, 42, 180, 0, 9, 16, 6, 46, 172, 42, 180, 0, 9, 4, 46, 172, 42, 180, 0, 9] := bL_of (by decide +kernel)
def dX12_count_56 := dk42 (k := 0) bX12_count_56 rfl
def dX12_count_57 := dk180 (k := 1) (x := 9) bX12_count_56 rfl rfl
def dX12_count_60 := dk3 (k := 4) bX12_count_56 rfl
def dX12_count_61 := dk46 (k := 5) bX12_count_56 rfl
def dX12_count_62 := dk172 (k := 6) bX12_count_56 rfl
def dX12_count_63 := dk42 (k := 7) bX12_count_56 rfl
def dX12_count_64 := dk180 (k := 8) (x := 9) bX12_count_56 rfl rfl
def dX12_count_67 := dk16 (k := 11) (x := 6) bX12_count_56 rfl (by decide)
def dX12_count_69 := dk46 (k := 13) bX12_count_56 rfl
def dX12_count_70 := dk172 (k := 14) bX12_count_56 rfl
def dX12_count_71 := dk42 (k := 15) bX12_count_56 rfl
def dX12_count_72 := dk180 (k := 16) (x := 9) bX12_count_56 rfl rfl
def dX12_count_75 := dk4 (k := 19) bX12_count_56 rfl
def dX12_count_76 := dk46 (k := 20) bX12_count_56 rfl
def dX12_count_77 := dk172 (k := 21) bX12_count_56 rfl
def dX12_count_78 := dk42 (k := 22) bX12_count_56 rfl
def dX12_count_79 := dk180 (k := 23) (x := 9) bX12_count_56 rfl rfl
theorem bX12_count_82 : bL cX12_count 82 [5, 46, 172, 42, 180, 0, 9, 6, 46, 172, 42, 180, 0, 9, 8, 46, 172, 42, 180, 0, 9, 16, 7, 46] := bL_of (by decide +kernel)
def dX12_count_82 := dk5 (k := 0) bX12_count_82 rfl
def dX12_count_83 := dk46 (k := 1) bX12_count_82 rfl
def dX12_count_84 := dk172 (k := 2) bX12_count_82 rfl
def dX12_count_85 := dk42 (k := 3) bX12_count_82 rfl
def dX12_count_86 := dk180 (k := 4) (x := 9) bX12_count_82 rfl rfl
def dX12_count_89 := dk6 (k := 7) bX12_count_82 rfl
def dX12_count_90 := dk46 (k := 8) bX12_count_82 rfl
def dX12_count_91 := dk172 (k := 9) bX12_count_82 rfl
def dX12_count_92 := dk42 (k := 10) bX12_count_82 rfl
def dX12_count_93 := dk180 (k := 11) (x := 9) bX12_count_82 rfl rfl
def dX12_count_96 := dk8 (k := 14) bX12_count_82 rfl
def dX12_count_97 := dk46 (k := 15) bX12_count_82 rfl
def dX12_count_98 := dk172 (k := 16) bX12_count_82 rfl
def dX12_count_99 := dk42 (k := 17) bX12_count_82 rfl
def dX12_count_100 := dk180 (k := 18) (x := 9) bX12_count_82 rfl rfl
def dX12_count_103 := dk16 (k := 21) (x := 7) bX12_count_82 rfl (by decide)
def dX12_count_105 := dk46 (k := 23) bX12_count_82 rfl
theorem bX12_count_106 : bL cX12_count 106 [172, 42, 180, 0, 81, 172, 42, 180, 0, 9, 16, 8, 46, 172, 3, 62, 29, 7, 162, 0, 27, 28, 42, 180, 0, 47] := bL_of (by decide +kernel)
def dX12_count_106 := dk172 (k := 0) bX12_count_106 rfl
def dX12_count_107 := dk42 (k := 1) bX12_count_106 rfl
def dX12_count_108 := dk180 (k := 2) (x := 81) bX12_count_106 rfl rfl
def dX12_count_111 := dk172 (k := 5) bX12_count_106 rfl
def dX12_count_112 := dk42 (k := 6) bX12_count_106 rfl
def dX12_count_113 := dk180 (k := 7) (x := 9) bX12_count_106 rfl rfl
def dX12_count_116 := dk16 (k := 10) (x := 8) bX12_count_106 rfl (by decide)
def dX12_count_118 := dk46 (k := 12) bX12_count_106 rfl
def dX12_count_119 := dk172 (k := 13) bX12_count_106 rfl
def dX12_count_120 := dk3 (k := 14) bX12_count_106 rfl
def dX12_count_121 := dk62 (k := 15) bX12_count_106 rfl
def dX12_count_122 := dk29 (k := 16) bX12_count_106 rfl
def dX12_count_123 := dk7 (k := 17) bX12_count_106 rfl
def dX12_count_124 := dk162 (k := 18) (x := 27) bX12_count_106 rfl (by decide)
def dX12_count_127 := dk28 (k := 21) bX12_count_106 rfl
def dX12_count_128 := dk42 (k := 22) bX12_count_106 rfl
def dX12_count_129 := dk180 (k := 23) (x := 47) bX12_count_106 rfl rfl
theorem bX12_count_132 : bL cX12_count 132 [29, 46, 2, 160, 0, 7, 3, 167, 0, 4, 4, 96, 61, 132, 3, 1, 167, 255, 230, 28, 172, 2, 172] := bL_of (by decide +kernel)
def dX12_count_132 := dk29 (k := 0) bX12_count_132 rfl
def dX12_count_133 := dk46 (k := 1) bX12_count_132 rfl
def dX12_count_134 := dk2 (k := 2) bX12_count_132 rfl
def dX12_count_135 := dk160 (k := 3) (x := 7) bX12_count_132 rfl (by decide)
def dX12_count_138 := dk3 (k := 6) bX12_count_132 rfl
def dX12_count_139 := dk167 (k := 7) (x := 4) bX12_count_132 rfl (by decide)
def dX12_count_142 := dk4 (k := 10) bX12_count_132 rfl
def dX12_count_143 := dk96 (k := 11) bX12_count_132 rfl
def dX12_count_144 := dk61 (k := 12) bX12_count_132 rfl
theorem dX12_count_145 : decode cX12_count 145 = .ok (.iinc 3 1, 3) := dk132 (k := 13) bX12_count_132 rfl rfl (by decide)
def dX12_count_148 := dk167 (k := 16) (x := (-26)) bX12_count_132 rfl (by decide)
def dX12_count_151 := dk28 (k := 19) bX12_count_132 rfl
def dX12_count_152 := dk172 (k := 20) bX12_count_132 rfl
def dX12_count_153 := dk2 (k := 21) bX12_count_132 rfl
def dX12_count_154 := dk172 (k := 22) bX12_count_132 rfl
theorem bX12_isSlot_0 : bL cX12_isSlot 0 [26, 133, 9, 20, 1, 86, 184, 0, 65, 172] := bL_of (by decide +kernel)
def dX12_isSlot_0 := dk26 (k := 0) bX12_isSlot_0 rfl
def dX12_isSlot_1 := dk133 (k := 1) bX12_isSlot_0 rfl
def dX12_isSlot_2 := dk9 (k := 2) bX12_isSlot_0 rfl
def dX12_isSlot_3 := dk20 (k := 3) (x := 342) bX12_isSlot_0 rfl rfl
def dX12_isSlot_6 := dk184 (k := 6) (x := 65) bX12_isSlot_0 rfl rfl
def dX12_isSlot_9 := dk172 (k := 9) bX12_isSlot_0 rfl
theorem bX12_cut_0 : bL cX12_cut 0 [16, 64, 16, 8, 28, 120, 100, 62, 30, 29, 121, 29, 123, 173] := bL_of (by decide +kernel)
def dX12_cut_0 := dk16 (k := 0) (x := 64) bX12_cut_0 rfl (by decide)
def dX12_cut_2 := dk16 (k := 2) (x := 8) bX12_cut_0 rfl (by decide)
def dX12_cut_4 := dk28 (k := 4) bX12_cut_0 rfl
def dX12_cut_5 := dk120 (k := 5) bX12_cut_0 rfl
def dX12_cut_6 := dk100 (k := 6) bX12_cut_0 rfl
def dX12_cut_7 := dk62 (k := 7) bX12_cut_0 rfl
def dX12_cut_8 := dk30 (k := 8) bX12_cut_0 rfl
def dX12_cut_9 := dk29 (k := 9) bX12_cut_0 rfl
def dX12_cut_10 := dk121 (k := 10) bX12_cut_0 rfl
def dX12_cut_11 := dk29 (k := 11) bX12_cut_0 rfl
def dX12_cut_12 := dk123 (k := 12) bX12_cut_0 rfl
def dX12_cut_13 := dk173 (k := 13) bX12_cut_0 rfl
theorem bX12_row_0 : bL cX12_row 0 [27, 184, 1, 101, 153, 0, 21, 28, 133, 9, 20, 1, 86, 184, 0, 65, 153, 0, 9, 29, 16, 60, 164, 0, 6] := bL_of (by decide +kernel)
def dX12_row_0 := dk27 (k := 0) bX12_row_0 rfl
def dX12_row_1 := dk184 (k := 1) (x := 357) bX12_row_0 rfl rfl
def dX12_row_4 := dk153 (k := 4) (x := 21) bX12_row_0 rfl (by decide)
def dX12_row_7 := dk28 (k := 7) bX12_row_0 rfl
def dX12_row_8 := dk133 (k := 8) bX12_row_0 rfl
def dX12_row_9 := dk9 (k := 9) bX12_row_0 rfl
def dX12_row_10 := dk20 (k := 10) (x := 342) bX12_row_0 rfl rfl
def dX12_row_13 := dk184 (k := 13) (x := 65) bX12_row_0 rfl rfl
def dX12_row_16 := dk153 (k := 16) (x := 9) bX12_row_0 rfl (by decide)
def dX12_row_19 := dk29 (k := 19) bX12_row_0 rfl
def dX12_row_20 := dk16 (k := 20) (x := 60) bX12_row_0 rfl (by decide)
def dX12_row_22 := dk164 (k := 22) (x := 6) bX12_row_0 rfl (by decide)
theorem bX12_row_25 : bL cX12_row 25 [16, 254, 172, 29, 156, 0, 6, 16, 253, 172, 42, 180, 0, 47, 27, 29, 79, 42, 180, 0, 50, 27, 28, 79] := bL_of (by decide +kernel)
def dX12_row_25 := dk16 (k := 0) (x := (-2)) bX12_row_25 rfl (by decide)
def dX12_row_27 := dk172 (k := 2) bX12_row_25 rfl
def dX12_row_28 := dk29 (k := 3) bX12_row_25 rfl
def dX12_row_29 := dk156 (k := 4) (x := 6) bX12_row_25 rfl (by decide)
def dX12_row_32 := dk16 (k := 7) (x := (-3)) bX12_row_25 rfl (by decide)
def dX12_row_34 := dk172 (k := 9) bX12_row_25 rfl
def dX12_row_35 := dk42 (k := 10) bX12_row_25 rfl
def dX12_row_36 := dk180 (k := 11) (x := 47) bX12_row_25 rfl rfl
def dX12_row_39 := dk27 (k := 14) bX12_row_25 rfl
def dX12_row_40 := dk29 (k := 15) bX12_row_25 rfl
def dX12_row_41 := dk79 (k := 16) bX12_row_25 rfl
def dX12_row_42 := dk42 (k := 17) bX12_row_25 rfl
def dX12_row_43 := dk180 (k := 18) (x := 50) bX12_row_25 rfl rfl
def dX12_row_46 := dk27 (k := 21) bX12_row_25 rfl
def dX12_row_47 := dk28 (k := 22) bX12_row_25 rfl
def dX12_row_48 := dk79 (k := 23) bX12_row_25 rfl
theorem bX12_row_49 : bL cX12_row 49 [3, 54, 4, 21, 4, 16, 60, 162, 0, 22, 42, 180, 0, 53, 16, 60, 27, 104, 21, 4, 96, 9, 80, 132, 4, 1] := bL_of (by decide +kernel)
def dX12_row_49 := dk3 (k := 0) bX12_row_49 rfl
def dX12_row_50 := dk54 (k := 1) (x := 4) bX12_row_49 rfl rfl
def dX12_row_52 := dk21 (k := 3) (x := 4) bX12_row_49 rfl rfl
def dX12_row_54 := dk16 (k := 5) (x := 60) bX12_row_49 rfl (by decide)
def dX12_row_56 := dk162 (k := 7) (x := 22) bX12_row_49 rfl (by decide)
def dX12_row_59 := dk42 (k := 10) bX12_row_49 rfl
def dX12_row_60 := dk180 (k := 11) (x := 53) bX12_row_49 rfl rfl
def dX12_row_63 := dk16 (k := 14) (x := 60) bX12_row_49 rfl (by decide)
def dX12_row_65 := dk27 (k := 16) bX12_row_49 rfl
def dX12_row_66 := dk104 (k := 17) bX12_row_49 rfl
def dX12_row_67 := dk21 (k := 18) (x := 4) bX12_row_49 rfl rfl
def dX12_row_69 := dk96 (k := 20) bX12_row_49 rfl
def dX12_row_70 := dk9 (k := 21) bX12_row_49 rfl
def dX12_row_71 := dk80 (k := 22) bX12_row_49 rfl
theorem dX12_row_72 : decode cX12_row 72 = .ok (.iinc 4 1, 3) := dk132 (k := 23) bX12_row_49 rfl rfl (by decide)
theorem bX12_row_75 : bL cX12_row 75 [167, 255, 233, 3, 172] := bL_of (by decide +kernel)
def dX12_row_75 := dk167 (k := 0) (x := (-23)) bX12_row_75 rfl (by decide)
def dX12_row_78 := dk3 (k := 3) bX12_row_75 rfl
def dX12_row_79 := dk172 (k := 4) bX12_row_75 rfl
theorem bX12_write_0 : bL cX12_write 0 [27, 184, 1, 101, 154, 0, 6, 16, 254, 172, 42, 180, 0, 47, 27, 46, 2, 160, 0, 6, 16, 250, 172, 28] := bL_of (by decide +kernel)
def dX12_write_0 := dk27 (k := 0) bX12_write_0 rfl
def dX12_write_1 := dk184 (k := 1) (x := 357) bX12_write_0 rfl rfl
def dX12_write_4 := dk154 (k := 4) (x := 6) bX12_write_0 rfl (by decide)
def dX12_write_7 := dk16 (k := 7) (x := (-2)) bX12_write_0 rfl (by decide)
def dX12_write_9 := dk172 (k := 9) bX12_write_0 rfl
def dX12_write_10 := dk42 (k := 10) bX12_write_0 rfl
def dX12_write_11 := dk180 (k := 11) (x := 47) bX12_write_0 rfl rfl
def dX12_write_14 := dk27 (k := 14) bX12_write_0 rfl
def dX12_write_15 := dk46 (k := 15) bX12_write_0 rfl
def dX12_write_16 := dk2 (k := 16) bX12_write_0 rfl
def dX12_write_17 := dk160 (k := 17) (x := 6) bX12_write_0 rfl (by decide)
def dX12_write_20 := dk16 (k := 20) (x := (-6)) bX12_write_0 rfl (by decide)
def dX12_write_22 := dk172 (k := 22) bX12_write_0 rfl
def dX12_write_23 := dk28 (k := 23) bX12_write_0 rfl
theorem bX12_write_24 : bL cX12_write 24 [133, 9, 42, 180, 0, 47, 27, 46, 4, 100, 133, 184, 0, 65, 154, 0, 6, 16, 249, 172, 42, 180, 0, 53] := bL_of (by decide +kernel)
def dX12_write_24 := dk133 (k := 0) bX12_write_24 rfl
def dX12_write_25 := dk9 (k := 1) bX12_write_24 rfl
def dX12_write_26 := dk42 (k := 2) bX12_write_24 rfl
def dX12_write_27 := dk180 (k := 3) (x := 47) bX12_write_24 rfl rfl
def dX12_write_30 := dk27 (k := 6) bX12_write_24 rfl
def dX12_write_31 := dk46 (k := 7) bX12_write_24 rfl
def dX12_write_32 := dk4 (k := 8) bX12_write_24 rfl
def dX12_write_33 := dk100 (k := 9) bX12_write_24 rfl
def dX12_write_34 := dk133 (k := 10) bX12_write_24 rfl
def dX12_write_35 := dk184 (k := 11) (x := 65) bX12_write_24 rfl rfl
def dX12_write_38 := dk154 (k := 14) (x := 6) bX12_write_24 rfl (by decide)
def dX12_write_41 := dk16 (k := 17) (x := (-7)) bX12_write_24 rfl (by decide)
def dX12_write_43 := dk172 (k := 19) bX12_write_24 rfl
def dX12_write_44 := dk42 (k := 20) bX12_write_24 rfl
def dX12_write_45 := dk180 (k := 21) (x := 53) bX12_write_24 rfl rfl
theorem bX12_write_48 : bL cX12_write 48 [16, 60, 27, 104, 28, 96, 33, 42, 180, 0, 50, 27, 46, 184, 1, 151, 80, 3, 172] := bL_of (by decide +kernel)
def dX12_write_48 := dk16 (k := 0) (x := 60) bX12_write_48 rfl (by decide)
def dX12_write_50 := dk27 (k := 2) bX12_write_48 rfl
def dX12_write_51 := dk104 (k := 3) bX12_write_48 rfl
def dX12_write_52 := dk28 (k := 4) bX12_write_48 rfl
def dX12_write_53 := dk96 (k := 5) bX12_write_48 rfl
def dX12_write_54 := dk33 (k := 6) bX12_write_48 rfl
def dX12_write_55 := dk42 (k := 7) bX12_write_48 rfl
def dX12_write_56 := dk180 (k := 8) (x := 50) bX12_write_48 rfl rfl
def dX12_write_59 := dk27 (k := 11) bX12_write_48 rfl
def dX12_write_60 := dk46 (k := 12) bX12_write_48 rfl
def dX12_write_61 := dk184 (k := 13) (x := 407) bX12_write_48 rfl rfl
def dX12_write_64 := dk80 (k := 16) bX12_write_48 rfl
def dX12_write_65 := dk3 (k := 17) bX12_write_48 rfl
def dX12_write_66 := dk172 (k := 18) bX12_write_48 rfl
theorem bX12_paste_0 : bL cX12_paste 0 [27, 184, 1, 101, 153, 0, 10, 29, 184, 1, 101, 154, 0, 6, 16, 254, 172, 42, 180, 0, 47, 27, 46, 2] := bL_of (by decide +kernel)
def dX12_paste_0 := dk27 (k := 0) bX12_paste_0 rfl
def dX12_paste_1 := dk184 (k := 1) (x := 357) bX12_paste_0 rfl rfl
def dX12_paste_4 := dk153 (k := 4) (x := 10) bX12_paste_0 rfl (by decide)
def dX12_paste_7 := dk29 (k := 7) bX12_paste_0 rfl
def dX12_paste_8 := dk184 (k := 8) (x := 357) bX12_paste_0 rfl rfl
def dX12_paste_11 := dk154 (k := 11) (x := 6) bX12_paste_0 rfl (by decide)
def dX12_paste_14 := dk16 (k := 14) (x := (-2)) bX12_paste_0 rfl (by decide)
def dX12_paste_16 := dk172 (k := 16) bX12_paste_0 rfl
def dX12_paste_17 := dk42 (k := 17) bX12_paste_0 rfl
def dX12_paste_18 := dk180 (k := 18) (x := 47) bX12_paste_0 rfl rfl
def dX12_paste_21 := dk27 (k := 21) bX12_paste_0 rfl
def dX12_paste_22 := dk46 (k := 22) bX12_paste_0 rfl
def dX12_paste_23 := dk2 (k := 23) bX12_paste_0 rfl
theorem bX12_paste_24 : bL cX12_paste 24 [159, 0, 13, 42, 180, 0, 47, 29, 46, 2, 160, 0, 6, 16, 250, 172, 42, 180, 0, 50, 27, 46, 42, 180, 0, 50] := bL_of (by decide +kernel)
def dX12_paste_24 := dk159 (k := 0) (x := 13) bX12_paste_24 rfl (by decide)
def dX12_paste_27 := dk42 (k := 3) bX12_paste_24 rfl
def dX12_paste_28 := dk180 (k := 4) (x := 47) bX12_paste_24 rfl rfl
def dX12_paste_31 := dk29 (k := 7) bX12_paste_24 rfl
def dX12_paste_32 := dk46 (k := 8) bX12_paste_24 rfl
def dX12_paste_33 := dk2 (k := 9) bX12_paste_24 rfl
def dX12_paste_34 := dk160 (k := 10) (x := 6) bX12_paste_24 rfl (by decide)
def dX12_paste_37 := dk16 (k := 13) (x := (-6)) bX12_paste_24 rfl (by decide)
def dX12_paste_39 := dk172 (k := 15) bX12_paste_24 rfl
def dX12_paste_40 := dk42 (k := 16) bX12_paste_24 rfl
def dX12_paste_41 := dk180 (k := 17) (x := 50) bX12_paste_24 rfl rfl
def dX12_paste_44 := dk27 (k := 20) bX12_paste_24 rfl
def dX12_paste_45 := dk46 (k := 21) bX12_paste_24 rfl
def dX12_paste_46 := dk42 (k := 22) bX12_paste_24 rfl
def dX12_paste_47 := dk180 (k := 23) (x := 50) bX12_paste_24 rfl rfl
theorem bX12_paste_50 : bL cX12_paste 50 [29, 46, 159, 0, 6, 16, 248, 172, 28, 155, 0, 48, 21, 4, 155, 0, 43, 21, 5, 155, 0, 38, 28, 133] := bL_of (by decide +kernel)
def dX12_paste_50 := dk29 (k := 0) bX12_paste_50 rfl
def dX12_paste_51 := dk46 (k := 1) bX12_paste_50 rfl
def dX12_paste_52 := dk159 (k := 2) (x := 6) bX12_paste_50 rfl (by decide)
def dX12_paste_55 := dk16 (k := 5) (x := (-8)) bX12_paste_50 rfl (by decide)
def dX12_paste_57 := dk172 (k := 7) bX12_paste_50 rfl
def dX12_paste_58 := dk28 (k := 8) bX12_paste_50 rfl
def dX12_paste_59 := dk155 (k := 9) (x := 48) bX12_paste_50 rfl (by decide)
def dX12_paste_62 := dk21 (k := 12) (x := 4) bX12_paste_50 rfl rfl
def dX12_paste_64 := dk155 (k := 14) (x := 43) bX12_paste_50 rfl (by decide)
def dX12_paste_67 := dk21 (k := 17) (x := 5) bX12_paste_50 rfl rfl
def dX12_paste_69 := dk155 (k := 19) (x := 38) bX12_paste_50 rfl (by decide)
def dX12_paste_72 := dk28 (k := 22) bX12_paste_50 rfl
def dX12_paste_73 := dk133 (k := 23) bX12_paste_50 rfl
theorem bX12_paste_74 : bL cX12_paste 74 [21, 5, 133, 97, 42, 180, 0, 47, 27, 46, 133, 148, 157, 0, 21, 21, 4, 133, 21, 5, 133, 97, 42, 180, 0, 47] := bL_of (by decide +kernel)
def dX12_paste_74 := dk21 (k := 0) (x := 5) bX12_paste_74 rfl rfl
def dX12_paste_76 := dk133 (k := 2) bX12_paste_74 rfl
def dX12_paste_77 := dk97 (k := 3) bX12_paste_74 rfl
def dX12_paste_78 := dk42 (k := 4) bX12_paste_74 rfl
def dX12_paste_79 := dk180 (k := 5) (x := 47) bX12_paste_74 rfl rfl
def dX12_paste_82 := dk27 (k := 8) bX12_paste_74 rfl
def dX12_paste_83 := dk46 (k := 9) bX12_paste_74 rfl
def dX12_paste_84 := dk133 (k := 10) bX12_paste_74 rfl
def dX12_paste_85 := dk148 (k := 11) bX12_paste_74 rfl
def dX12_paste_86 := dk157 (k := 12) (x := 21) bX12_paste_74 rfl (by decide)
def dX12_paste_89 := dk21 (k := 15) (x := 4) bX12_paste_74 rfl rfl
def dX12_paste_91 := dk133 (k := 17) bX12_paste_74 rfl
def dX12_paste_92 := dk21 (k := 18) (x := 5) bX12_paste_74 rfl rfl
def dX12_paste_94 := dk133 (k := 20) bX12_paste_74 rfl
def dX12_paste_95 := dk97 (k := 21) bX12_paste_74 rfl
def dX12_paste_96 := dk42 (k := 22) bX12_paste_74 rfl
def dX12_paste_97 := dk180 (k := 23) (x := 47) bX12_paste_74 rfl rfl
theorem bX12_paste_100 : bL cX12_paste 100 [29, 46, 133, 148, 158, 0, 6, 16, 249, 172, 3, 54, 6, 21, 6, 21, 5, 162, 0, 30, 42, 180, 0, 57] := bL_of (by decide +kernel)
def dX12_paste_100 := dk29 (k := 0) bX12_paste_100 rfl
def dX12_paste_101 := dk46 (k := 1) bX12_paste_100 rfl
def dX12_paste_102 := dk133 (k := 2) bX12_paste_100 rfl
def dX12_paste_103 := dk148 (k := 3) bX12_paste_100 rfl
def dX12_paste_104 := dk158 (k := 4) (x := 6) bX12_paste_100 rfl (by decide)
def dX12_paste_107 := dk16 (k := 7) (x := (-7)) bX12_paste_100 rfl (by decide)
def dX12_paste_109 := dk172 (k := 9) bX12_paste_100 rfl
def dX12_paste_110 := dk3 (k := 10) bX12_paste_100 rfl
def dX12_paste_111 := dk54 (k := 11) (x := 6) bX12_paste_100 rfl rfl
def dX12_paste_113 := dk21 (k := 13) (x := 6) bX12_paste_100 rfl rfl
def dX12_paste_115 := dk21 (k := 15) (x := 5) bX12_paste_100 rfl rfl
def dX12_paste_117 := dk162 (k := 17) (x := 30) bX12_paste_100 rfl (by decide)
def dX12_paste_120 := dk42 (k := 20) bX12_paste_100 rfl
def dX12_paste_121 := dk180 (k := 21) (x := 57) bX12_paste_100 rfl rfl
theorem bX12_paste_124 : bL cX12_paste 124 [21, 6, 42, 180, 0, 53, 16, 60, 27, 104, 28, 96, 21, 6, 96, 47, 80, 132, 6, 1, 167, 255, 225, 3] := bL_of (by decide +kernel)
def dX12_paste_124 := dk21 (k := 0) (x := 6) bX12_paste_124 rfl rfl
def dX12_paste_126 := dk42 (k := 2) bX12_paste_124 rfl
def dX12_paste_127 := dk180 (k := 3) (x := 53) bX12_paste_124 rfl rfl
def dX12_paste_130 := dk16 (k := 6) (x := 60) bX12_paste_124 rfl (by decide)
def dX12_paste_132 := dk27 (k := 8) bX12_paste_124 rfl
def dX12_paste_133 := dk104 (k := 9) bX12_paste_124 rfl
def dX12_paste_134 := dk28 (k := 10) bX12_paste_124 rfl
def dX12_paste_135 := dk96 (k := 11) bX12_paste_124 rfl
def dX12_paste_136 := dk21 (k := 12) (x := 6) bX12_paste_124 rfl rfl
def dX12_paste_138 := dk96 (k := 14) bX12_paste_124 rfl
def dX12_paste_139 := dk47 (k := 15) bX12_paste_124 rfl
def dX12_paste_140 := dk80 (k := 16) bX12_paste_124 rfl
theorem dX12_paste_141 : decode cX12_paste 141 = .ok (.iinc 6 1, 3) := dk132 (k := 17) bX12_paste_124 rfl rfl (by decide)
def dX12_paste_144 := dk167 (k := 20) (x := (-31)) bX12_paste_124 rfl (by decide)
def dX12_paste_147 := dk3 (k := 23) bX12_paste_124 rfl
theorem bX12_paste_148 : bL cX12_paste 148 [54, 6, 21, 6, 21, 5, 162, 0, 31, 42, 180, 0, 53, 16, 60, 29, 104, 21, 4, 96, 21, 6, 96, 42] := bL_of (by decide +kernel)
def dX12_paste_148 := dk54 (k := 0) (x := 6) bX12_paste_148 rfl rfl
def dX12_paste_150 := dk21 (k := 2) (x := 6) bX12_paste_148 rfl rfl
def dX12_paste_152 := dk21 (k := 4) (x := 5) bX12_paste_148 rfl rfl
def dX12_paste_154 := dk162 (k := 6) (x := 31) bX12_paste_148 rfl (by decide)
def dX12_paste_157 := dk42 (k := 9) bX12_paste_148 rfl
def dX12_paste_158 := dk180 (k := 10) (x := 53) bX12_paste_148 rfl rfl
def dX12_paste_161 := dk16 (k := 13) (x := 60) bX12_paste_148 rfl (by decide)
def dX12_paste_163 := dk29 (k := 15) bX12_paste_148 rfl
def dX12_paste_164 := dk104 (k := 16) bX12_paste_148 rfl
def dX12_paste_165 := dk21 (k := 17) (x := 4) bX12_paste_148 rfl rfl
def dX12_paste_167 := dk96 (k := 19) bX12_paste_148 rfl
def dX12_paste_168 := dk21 (k := 20) (x := 6) bX12_paste_148 rfl rfl
def dX12_paste_170 := dk96 (k := 22) bX12_paste_148 rfl
def dX12_paste_171 := dk42 (k := 23) bX12_paste_148 rfl
theorem bX12_paste_172 : bL cX12_paste 172 [180, 0, 57, 21, 6, 47, 80, 132, 6, 1, 167, 255, 224, 3, 172] := bL_of (by decide +kernel)
def dX12_paste_172 := dk180 (k := 0) (x := 57) bX12_paste_172 rfl rfl
def dX12_paste_175 := dk21 (k := 3) (x := 6) bX12_paste_172 rfl rfl
def dX12_paste_177 := dk47 (k := 5) bX12_paste_172 rfl
def dX12_paste_178 := dk80 (k := 6) bX12_paste_172 rfl
theorem dX12_paste_179 : decode cX12_paste 179 = .ok (.iinc 6 1, 3) := dk132 (k := 7) bX12_paste_172 rfl rfl (by decide)
def dX12_paste_182 := dk167 (k := 10) (x := (-32)) bX12_paste_172 rfl (by decide)
def dX12_paste_185 := dk3 (k := 13) bX12_paste_172 rfl
def dX12_paste_186 := dk172 (k := 14) bX12_paste_172 rfl
theorem bJ6_bitCount_0f7a4_0 : bL cJ6_bitCount_0f7a4 0 [26, 26, 4, 124, 19, 1, 9, 126, 100, 59, 26, 19, 1, 10, 126, 26, 5, 124, 19, 1, 10, 126, 96, 59] := bL_of (by decide +kernel)
def dJ6_bitCount_0f7a4_0 := dk26 (k := 0) bJ6_bitCount_0f7a4_0 rfl
def dJ6_bitCount_0f7a4_1 := dk26 (k := 1) bJ6_bitCount_0f7a4_0 rfl
def dJ6_bitCount_0f7a4_2 := dk4 (k := 2) bJ6_bitCount_0f7a4_0 rfl
def dJ6_bitCount_0f7a4_3 := dk124 (k := 3) bJ6_bitCount_0f7a4_0 rfl
def dJ6_bitCount_0f7a4_4 := dk19 (k := 4) (x := 265) bJ6_bitCount_0f7a4_0 rfl rfl
def dJ6_bitCount_0f7a4_7 := dk126 (k := 7) bJ6_bitCount_0f7a4_0 rfl
def dJ6_bitCount_0f7a4_8 := dk100 (k := 8) bJ6_bitCount_0f7a4_0 rfl
def dJ6_bitCount_0f7a4_9 := dk59 (k := 9) bJ6_bitCount_0f7a4_0 rfl
def dJ6_bitCount_0f7a4_10 := dk26 (k := 10) bJ6_bitCount_0f7a4_0 rfl
def dJ6_bitCount_0f7a4_11 := dk19 (k := 11) (x := 266) bJ6_bitCount_0f7a4_0 rfl rfl
def dJ6_bitCount_0f7a4_14 := dk126 (k := 14) bJ6_bitCount_0f7a4_0 rfl
def dJ6_bitCount_0f7a4_15 := dk26 (k := 15) bJ6_bitCount_0f7a4_0 rfl
def dJ6_bitCount_0f7a4_16 := dk5 (k := 16) bJ6_bitCount_0f7a4_0 rfl
def dJ6_bitCount_0f7a4_17 := dk124 (k := 17) bJ6_bitCount_0f7a4_0 rfl
def dJ6_bitCount_0f7a4_18 := dk19 (k := 18) (x := 266) bJ6_bitCount_0f7a4_0 rfl rfl
def dJ6_bitCount_0f7a4_21 := dk126 (k := 21) bJ6_bitCount_0f7a4_0 rfl
def dJ6_bitCount_0f7a4_22 := dk96 (k := 22) bJ6_bitCount_0f7a4_0 rfl
def dJ6_bitCount_0f7a4_23 := dk59 (k := 23) bJ6_bitCount_0f7a4_0 rfl
theorem bJ6_bitCount_0f7a4_24 : bL cJ6_bitCount_0f7a4 24 [26, 26, 7, 124, 96, 19, 1, 11, 126, 59, 26, 26, 16, 8, 124, 96, 59, 26, 26, 16, 16, 124, 96, 59] := bL_of (by decide +kernel)
def dJ6_bitCount_0f7a4_24 := dk26 (k := 0) bJ6_bitCount_0f7a4_24 rfl
def dJ6_bitCount_0f7a4_25 := dk26 (k := 1) bJ6_bitCount_0f7a4_24 rfl
def dJ6_bitCount_0f7a4_26 := dk7 (k := 2) bJ6_bitCount_0f7a4_24 rfl
def dJ6_bitCount_0f7a4_27 := dk124 (k := 3) bJ6_bitCount_0f7a4_24 rfl
def dJ6_bitCount_0f7a4_28 := dk96 (k := 4) bJ6_bitCount_0f7a4_24 rfl
def dJ6_bitCount_0f7a4_29 := dk19 (k := 5) (x := 267) bJ6_bitCount_0f7a4_24 rfl rfl
def dJ6_bitCount_0f7a4_32 := dk126 (k := 8) bJ6_bitCount_0f7a4_24 rfl
def dJ6_bitCount_0f7a4_33 := dk59 (k := 9) bJ6_bitCount_0f7a4_24 rfl
def dJ6_bitCount_0f7a4_34 := dk26 (k := 10) bJ6_bitCount_0f7a4_24 rfl
def dJ6_bitCount_0f7a4_35 := dk26 (k := 11) bJ6_bitCount_0f7a4_24 rfl
def dJ6_bitCount_0f7a4_36 := dk16 (k := 12) (x := 8) bJ6_bitCount_0f7a4_24 rfl (by decide)
def dJ6_bitCount_0f7a4_38 := dk124 (k := 14) bJ6_bitCount_0f7a4_24 rfl
def dJ6_bitCount_0f7a4_39 := dk96 (k := 15) bJ6_bitCount_0f7a4_24 rfl
def dJ6_bitCount_0f7a4_40 := dk59 (k := 16) bJ6_bitCount_0f7a4_24 rfl
def dJ6_bitCount_0f7a4_41 := dk26 (k := 17) bJ6_bitCount_0f7a4_24 rfl
def dJ6_bitCount_0f7a4_42 := dk26 (k := 18) bJ6_bitCount_0f7a4_24 rfl
def dJ6_bitCount_0f7a4_43 := dk16 (k := 19) (x := 16) bJ6_bitCount_0f7a4_24 rfl (by decide)
def dJ6_bitCount_0f7a4_45 := dk124 (k := 21) bJ6_bitCount_0f7a4_24 rfl
def dJ6_bitCount_0f7a4_46 := dk96 (k := 22) bJ6_bitCount_0f7a4_24 rfl
def dJ6_bitCount_0f7a4_47 := dk59 (k := 23) bJ6_bitCount_0f7a4_24 rfl
theorem bJ6_bitCount_0f7a4_48 : bL cJ6_bitCount_0f7a4 48 [26, 16, 63, 126, 172] := bL_of (by decide +kernel)
def dJ6_bitCount_0f7a4_48 := dk26 (k := 0) bJ6_bitCount_0f7a4_48 rfl
def dJ6_bitCount_0f7a4_49 := dk16 (k := 1) (x := 63) bJ6_bitCount_0f7a4_48 rfl (by decide)
def dJ6_bitCount_0f7a4_51 := dk126 (k := 3) bJ6_bitCount_0f7a4_48 rfl
def dJ6_bitCount_0f7a4_52 := dk172 (k := 4) bJ6_bitCount_0f7a4_48 rfl
theorem bJ9_abs_0f7a4_0 : bL cJ9_abs_0f7a4 0 [26, 156, 0, 8, 26, 116, 167, 0, 4, 26, 172] := bL_of (by decide +kernel)
def dJ9_abs_0f7a4_0 := dk26 (k := 0) bJ9_abs_0f7a4_0 rfl
def dJ9_abs_0f7a4_1 := dk156 (k := 1) (x := 8) bJ9_abs_0f7a4_0 rfl (by decide)
def dJ9_abs_0f7a4_4 := dk26 (k := 4) bJ9_abs_0f7a4_0 rfl
def dJ9_abs_0f7a4_5 := dk116 (k := 5) bJ9_abs_0f7a4_0 rfl
def dJ9_abs_0f7a4_6 := dk167 (k := 6) (x := 4) bJ9_abs_0f7a4_0 rfl (by decide)
def dJ9_abs_0f7a4_9 := dk26 (k := 9) bJ9_abs_0f7a4_0 rfl
def dJ9_abs_0f7a4_10 := dk172 (k := 10) bJ9_abs_0f7a4_0 rfl
theorem bJ9_max_7cf53_0 : bL cJ9_max_7cf53 0 [26, 27, 161, 0, 7, 26, 167, 0, 4, 27, 172] := bL_of (by decide +kernel)
def dJ9_max_7cf53_0 := dk26 (k := 0) bJ9_max_7cf53_0 rfl
def dJ9_max_7cf53_1 := dk27 (k := 1) bJ9_max_7cf53_0 rfl
def dJ9_max_7cf53_2 := dk161 (k := 2) (x := 7) bJ9_max_7cf53_0 rfl (by decide)
def dJ9_max_7cf53_5 := dk26 (k := 5) bJ9_max_7cf53_0 rfl
def dJ9_max_7cf53_6 := dk167 (k := 6) (x := 4) bJ9_max_7cf53_0 rfl (by decide)
def dJ9_max_7cf53_9 := dk27 (k := 9) bJ9_max_7cf53_0 rfl
def dJ9_max_7cf53_10 := dk172 (k := 10) bJ9_max_7cf53_0 rfl
theorem bJ9_min_7cf53_0 : bL cJ9_min_7cf53 0 [26, 27, 163, 0, 7, 26, 167, 0, 4, 27, 172] := bL_of (by decide +kernel)
def dJ9_min_7cf53_0 := dk26 (k := 0) bJ9_min_7cf53_0 rfl
def dJ9_min_7cf53_1 := dk27 (k := 1) bJ9_min_7cf53_0 rfl
def dJ9_min_7cf53_2 := dk163 (k := 2) (x := 7) bJ9_min_7cf53_0 rfl (by decide)
def dJ9_min_7cf53_5 := dk26 (k := 5) bJ9_min_7cf53_0 rfl
def dJ9_min_7cf53_6 := dk167 (k := 6) (x := 4) bJ9_min_7cf53_0 rfl (by decide)
def dJ9_min_7cf53_9 := dk27 (k := 9) bJ9_min_7cf53_0 rfl
def dJ9_min_7cf53_10 := dk172 (k := 10) bJ9_min_7cf53_0 rfl
theorem bJ0_length_8abf5_0 : bL cJ0_length_8abf5 0 [42, 180, 0, 9, 190, 42, 182, 1, 79, 122, 172] := bL_of (by decide +kernel)
def dJ0_length_8abf5_0 := dk42 (k := 0) bJ0_length_8abf5_0 rfl
def dJ0_length_8abf5_1 := dk180 (k := 1) (x := 9) bJ0_length_8abf5_0 rfl rfl
def dJ0_length_8abf5_4 := dk190 (k := 4) bJ0_length_8abf5_0 rfl
def dJ0_length_8abf5_5 := dk42 (k := 5) bJ0_length_8abf5_0 rfl
def dJ0_length_8abf5_6 := dk182 (k := 6) (x := 335) bJ0_length_8abf5_0 rfl rfl
def dJ0_length_8abf5_9 := dk122 (k := 9) bJ0_length_8abf5_0 rfl
def dJ0_length_8abf5_10 := dk172 (k := 10) bJ0_length_8abf5_0 rfl
theorem bJ0_charAt_5068e_0 : bL cJ0_charAt_5068e 0 [42, 182, 1, 236, 153, 0, 12, 42, 180, 0, 9, 27, 184, 1, 239, 172, 42, 180, 0, 9, 27, 184, 1, 242] := bL_of (by decide +kernel)
def dJ0_charAt_5068e_0 := dk42 (k := 0) bJ0_charAt_5068e_0 rfl
def dJ0_charAt_5068e_1 := dk182 (k := 1) (x := 492) bJ0_charAt_5068e_0 rfl rfl
def dJ0_charAt_5068e_4 := dk153 (k := 4) (x := 12) bJ0_charAt_5068e_0 rfl (by decide)
def dJ0_charAt_5068e_7 := dk42 (k := 7) bJ0_charAt_5068e_0 rfl
def dJ0_charAt_5068e_8 := dk180 (k := 8) (x := 9) bJ0_charAt_5068e_0 rfl rfl
def dJ0_charAt_5068e_11 := dk27 (k := 11) bJ0_charAt_5068e_0 rfl
def dJ0_charAt_5068e_12 := dk184 (k := 12) (x := 495) bJ0_charAt_5068e_0 rfl rfl
def dJ0_charAt_5068e_15 := dk172 (k := 15) bJ0_charAt_5068e_0 rfl
def dJ0_charAt_5068e_16 := dk42 (k := 16) bJ0_charAt_5068e_0 rfl
def dJ0_charAt_5068e_17 := dk180 (k := 17) (x := 9) bJ0_charAt_5068e_0 rfl rfl
def dJ0_charAt_5068e_20 := dk27 (k := 20) bJ0_charAt_5068e_0 rfl
def dJ0_charAt_5068e_21 := dk184 (k := 21) (x := 498) bJ0_charAt_5068e_0 rfl rfl
theorem bJ0_charAt_5068e_24 : bL cJ0_charAt_5068e 24 [172] := bL_of (by decide +kernel)
def dJ0_charAt_5068e_24 := dk172 (k := 0) bJ0_charAt_5068e_24 rfl
theorem bJ0_coder_7d493_0 : bL cJ0_coder_7d493 0 [178, 0, 38, 153, 0, 10, 42, 180, 0, 15, 167, 0, 4, 4, 172] := bL_of (by decide +kernel)
def dJ0_coder_7d493_0 := dk178 (k := 0) (x := 38) bJ0_coder_7d493_0 rfl rfl
def dJ0_coder_7d493_3 := dk153 (k := 3) (x := 10) bJ0_coder_7d493_0 rfl (by decide)
def dJ0_coder_7d493_6 := dk42 (k := 6) bJ0_coder_7d493_0 rfl
def dJ0_coder_7d493_7 := dk180 (k := 7) (x := 15) bJ0_coder_7d493_0 rfl rfl
def dJ0_coder_7d493_10 := dk167 (k := 10) (x := 4) bJ0_coder_7d493_0 rfl (by decide)
def dJ0_coder_7d493_13 := dk4 (k := 13) bJ0_coder_7d493_0 rfl
def dJ0_coder_7d493_14 := dk172 (k := 14) bJ0_coder_7d493_0 rfl
theorem bJ0_isLatin1_aae02_0 : bL cJ0_isLatin1_aae02 0 [178, 0, 38, 153, 0, 14, 42, 180, 0, 15, 154, 0, 7, 4, 167, 0, 4, 3, 172] := bL_of (by decide +kernel)
def dJ0_isLatin1_aae02_0 := dk178 (k := 0) (x := 38) bJ0_isLatin1_aae02_0 rfl rfl
def dJ0_isLatin1_aae02_3 := dk153 (k := 3) (x := 14) bJ0_isLatin1_aae02_0 rfl (by decide)
def dJ0_isLatin1_aae02_6 := dk42 (k := 6) bJ0_isLatin1_aae02_0 rfl
def dJ0_isLatin1_aae02_7 := dk180 (k := 7) (x := 15) bJ0_isLatin1_aae02_0 rfl rfl
def dJ0_isLatin1_aae02_10 := dk154 (k := 10) (x := 7) bJ0_isLatin1_aae02_0 rfl (by decide)
def dJ0_isLatin1_aae02_13 := dk4 (k := 13) bJ0_isLatin1_aae02_0 rfl
def dJ0_isLatin1_aae02_14 := dk167 (k := 14) (x := 4) bJ0_isLatin1_aae02_0 rfl (by decide)
def dJ0_isLatin1_aae02_17 := dk3 (k := 17) bJ0_isLatin1_aae02_0 rfl
def dJ0_isLatin1_aae02_18 := dk172 (k := 18) bJ0_isLatin1_aae02_0 rfl
theorem bJ0_checkIndex_df160_0 : bL cJ0_checkIndex_df160 0 [26, 27, 178, 4, 29, 184, 4, 35, 87, 177] := bL_of (by decide +kernel)
def dJ0_checkIndex_df160_0 := dk26 (k := 0) bJ0_checkIndex_df160_0 rfl
def dJ0_checkIndex_df160_1 := dk27 (k := 1) bJ0_checkIndex_df160_0 rfl
def dJ0_checkIndex_df160_2 := dk178 (k := 2) (x := 1053) bJ0_checkIndex_df160_0 rfl rfl
def dJ0_checkIndex_df160_5 := dk184 (k := 5) (x := 1059) bJ0_checkIndex_df160_0 rfl rfl
def dJ0_checkIndex_df160_8 := dk87 (k := 8) bJ0_checkIndex_df160_0 rfl
def dJ0_checkIndex_df160_9 := dk177 (k := 9) bJ0_checkIndex_df160_0 rfl
theorem bJ1_charAt_3b067_0 : bL cJ1_charAt_3b067 0 [27, 42, 190, 184, 0, 9, 42, 27, 51, 17, 0, 255, 126, 146, 172] := bL_of (by decide +kernel)
def dJ1_charAt_3b067_0 := dk27 (k := 0) bJ1_charAt_3b067_0 rfl
def dJ1_charAt_3b067_1 := dk42 (k := 1) bJ1_charAt_3b067_0 rfl
def dJ1_charAt_3b067_2 := dk190 (k := 2) bJ1_charAt_3b067_0 rfl
def dJ1_charAt_3b067_3 := dk184 (k := 3) (x := 9) bJ1_charAt_3b067_0 rfl rfl
def dJ1_charAt_3b067_6 := dk42 (k := 6) bJ1_charAt_3b067_0 rfl
def dJ1_charAt_3b067_7 := dk27 (k := 7) bJ1_charAt_3b067_0 rfl
def dJ1_charAt_3b067_8 := dk51 (k := 8) bJ1_charAt_3b067_0 rfl
def dJ1_charAt_3b067_9 := dk17 (k := 9) (x := 255) bJ1_charAt_3b067_0 rfl (by decide)
def dJ1_charAt_3b067_12 := dk126 (k := 12) bJ1_charAt_3b067_0 rfl
def dJ1_charAt_3b067_13 := dk146 (k := 13) bJ1_charAt_3b067_0 rfl
def dJ1_charAt_3b067_14 := dk172 (k := 14) bJ1_charAt_3b067_0 rfl
theorem bJ2_getChar_3b067_0 : bL cJ2_getChar_3b067 0 [178, 0, 44, 154, 0, 25, 27, 155, 0, 11, 27, 42, 184, 0, 48, 161, 0, 13, 187, 0, 52, 89, 18, 54] := bL_of (by decide +kernel)
def dJ2_getChar_3b067_0 := dk178 (k := 0) (x := 44) bJ2_getChar_3b067_0 rfl rfl
def dJ2_getChar_3b067_3 := dk154 (k := 3) (x := 25) bJ2_getChar_3b067_0 rfl (by decide)
def dJ2_getChar_3b067_6 := dk27 (k := 6) bJ2_getChar_3b067_0 rfl
def dJ2_getChar_3b067_7 := dk155 (k := 7) (x := 11) bJ2_getChar_3b067_0 rfl (by decide)
def dJ2_getChar_3b067_10 := dk27 (k := 10) bJ2_getChar_3b067_0 rfl
def dJ2_getChar_3b067_11 := dk42 (k := 11) bJ2_getChar_3b067_0 rfl
def dJ2_getChar_3b067_12 := dk184 (k := 12) (x := 48) bJ2_getChar_3b067_0 rfl rfl
def dJ2_getChar_3b067_15 := dk161 (k := 15) (x := 13) bJ2_getChar_3b067_0 rfl (by decide)
def dJ2_getChar_3b067_18 := dk187 (k := 18) (x := 52) bJ2_getChar_3b067_0 rfl rfl
def dJ2_getChar_3b067_21 := dk89 (k := 21) bJ2_getChar_3b067_0 rfl
def dJ2_getChar_3b067_22 := dk18 (k := 22) (x := 54) bJ2_getChar_3b067_0 rfl rfl
theorem bJ2_getChar_3b067_24 : bL cJ2_getChar_3b067 24 [183, 0, 56, 191, 27, 4, 120, 60, 42, 27, 132, 1, 1, 51, 17, 0, 255, 126, 178, 0, 59, 120, 42, 27] := bL_of (by decide +kernel)
def dJ2_getChar_3b067_24 := dk183 (k := 0) (x := 56) bJ2_getChar_3b067_24 rfl rfl
def dJ2_getChar_3b067_27 := dk191 (k := 3) bJ2_getChar_3b067_24 rfl
def dJ2_getChar_3b067_28 := dk27 (k := 4) bJ2_getChar_3b067_24 rfl
def dJ2_getChar_3b067_29 := dk4 (k := 5) bJ2_getChar_3b067_24 rfl
def dJ2_getChar_3b067_30 := dk120 (k := 6) bJ2_getChar_3b067_24 rfl
def dJ2_getChar_3b067_31 := dk60 (k := 7) bJ2_getChar_3b067_24 rfl
def dJ2_getChar_3b067_32 := dk42 (k := 8) bJ2_getChar_3b067_24 rfl
def dJ2_getChar_3b067_33 := dk27 (k := 9) bJ2_getChar_3b067_24 rfl
theorem dJ2_getChar_3b067_34 : decode cJ2_getChar_3b067 34 = .ok (.iinc 1 1, 3) := dk132 (k := 10) bJ2_getChar_3b067_24 rfl rfl (by decide)
def dJ2_getChar_3b067_37 := dk51 (k := 13) bJ2_getChar_3b067_24 rfl
def dJ2_getChar_3b067_38 := dk17 (k := 14) (x := 255) bJ2_getChar_3b067_24 rfl (by decide)
def dJ2_getChar_3b067_41 := dk126 (k := 17) bJ2_getChar_3b067_24 rfl
def dJ2_getChar_3b067_42 := dk178 (k := 18) (x := 59) bJ2_getChar_3b067_24 rfl rfl
def dJ2_getChar_3b067_45 := dk120 (k := 21) bJ2_getChar_3b067_24 rfl
def dJ2_getChar_3b067_46 := dk42 (k := 22) bJ2_getChar_3b067_24 rfl
def dJ2_getChar_3b067_47 := dk27 (k := 23) bJ2_getChar_3b067_24 rfl
theorem bJ2_getChar_3b067_48 : bL cJ2_getChar_3b067 48 [51, 17, 0, 255, 126, 178, 0, 63, 120, 128, 146, 172] := bL_of (by decide +kernel)
def dJ2_getChar_3b067_48 := dk51 (k := 0) bJ2_getChar_3b067_48 rfl
def dJ2_getChar_3b067_49 := dk17 (k := 1) (x := 255) bJ2_getChar_3b067_48 rfl (by decide)
def dJ2_getChar_3b067_52 := dk126 (k := 4) bJ2_getChar_3b067_48 rfl
def dJ2_getChar_3b067_53 := dk178 (k := 5) (x := 63) bJ2_getChar_3b067_48 rfl rfl
def dJ2_getChar_3b067_56 := dk120 (k := 8) bJ2_getChar_3b067_48 rfl
def dJ2_getChar_3b067_57 := dk128 (k := 9) bJ2_getChar_3b067_48 rfl
def dJ2_getChar_3b067_58 := dk146 (k := 10) bJ2_getChar_3b067_48 rfl
def dJ2_getChar_3b067_59 := dk172 (k := 11) bJ2_getChar_3b067_48 rfl
theorem bJ2_length_9d52b_0 : bL cJ2_length_9d52b 0 [42, 190, 4, 122, 172] := bL_of (by decide +kernel)
def dJ2_length_9d52b_0 := dk42 (k := 0) bJ2_length_9d52b_0 rfl
def dJ2_length_9d52b_1 := dk190 (k := 1) bJ2_length_9d52b_0 rfl
def dJ2_length_9d52b_2 := dk4 (k := 2) bJ2_length_9d52b_0 rfl
def dJ2_length_9d52b_3 := dk122 (k := 3) bJ2_length_9d52b_0 rfl
def dJ2_length_9d52b_4 := dk172 (k := 4) bJ2_length_9d52b_0 rfl
theorem bJ2_charAt_3b067_0 : bL cJ2_charAt_3b067 0 [27, 42, 184, 0, 67, 42, 27, 184, 0, 71, 172] := bL_of (by decide +kernel)
def dJ2_charAt_3b067_0 := dk27 (k := 0) bJ2_charAt_3b067_0 rfl
def dJ2_charAt_3b067_1 := dk42 (k := 1) bJ2_charAt_3b067_0 rfl
def dJ2_charAt_3b067_2 := dk184 (k := 2) (x := 67) bJ2_charAt_3b067_0 rfl rfl
def dJ2_charAt_3b067_5 := dk42 (k := 5) bJ2_charAt_3b067_0 rfl
def dJ2_charAt_3b067_6 := dk27 (k := 6) bJ2_charAt_3b067_0 rfl
def dJ2_charAt_3b067_7 := dk184 (k := 7) (x := 71) bJ2_charAt_3b067_0 rfl rfl
def dJ2_charAt_3b067_10 := dk172 (k := 10) bJ2_charAt_3b067_0 rfl
theorem bJ2_checkIndex_2214a_0 : bL cJ2_checkIndex_2214a 0 [26, 43, 184, 0, 48, 184, 1, 158, 177] := bL_of (by decide +kernel)
def dJ2_checkIndex_2214a_0 := dk26 (k := 0) bJ2_checkIndex_2214a_0 rfl
def dJ2_checkIndex_2214a_1 := dk43 (k := 1) bJ2_checkIndex_2214a_0 rfl
def dJ2_checkIndex_2214a_2 := dk184 (k := 2) (x := 48) bJ2_checkIndex_2214a_0 rfl rfl
def dJ2_checkIndex_2214a_5 := dk184 (k := 5) (x := 414) bJ2_checkIndex_2214a_0 rfl rfl
def dJ2_checkIndex_2214a_8 := dk177 (k := 8) bJ2_checkIndex_2214a_0 rfl
theorem bJ3_checkIndex_8e157_0 : bL cJ3_checkIndex_8e157 0 [26, 155, 0, 8, 26, 27, 161, 0, 10, 44, 26, 27, 184, 0, 95, 191, 26, 172] := bL_of (by decide +kernel)
def dJ3_checkIndex_8e157_0 := dk26 (k := 0) bJ3_checkIndex_8e157_0 rfl
def dJ3_checkIndex_8e157_1 := dk155 (k := 1) (x := 8) bJ3_checkIndex_8e157_0 rfl (by decide)
def dJ3_checkIndex_8e157_4 := dk26 (k := 4) bJ3_checkIndex_8e157_0 rfl
def dJ3_checkIndex_8e157_5 := dk27 (k := 5) bJ3_checkIndex_8e157_0 rfl
def dJ3_checkIndex_8e157_6 := dk161 (k := 6) (x := 10) bJ3_checkIndex_8e157_0 rfl (by decide)
def dJ3_checkIndex_8e157_9 := dk44 (k := 9) bJ3_checkIndex_8e157_0 rfl
def dJ3_checkIndex_8e157_10 := dk26 (k := 10) bJ3_checkIndex_8e157_0 rfl
def dJ3_checkIndex_8e157_11 := dk27 (k := 11) bJ3_checkIndex_8e157_0 rfl
def dJ3_checkIndex_8e157_12 := dk184 (k := 12) (x := 95) bJ3_checkIndex_8e157_0 rfl rfl
def dJ3_checkIndex_8e157_15 := dk191 (k := 15) bJ3_checkIndex_8e157_0 rfl
def dJ3_checkIndex_8e157_16 := dk26 (k := 16) bJ3_checkIndex_8e157_0 rfl
def dJ3_checkIndex_8e157_17 := dk172 (k := 17) bJ3_checkIndex_8e157_0 rfl
