theorem bX7_weighCells_38 : bL cX7_weighCells 38 [42, 180, 0, 25, 27, 2, 182, 0, 48, 42, 180, 0, 21, 180, 0, 52, 42, 180, 0, 25, 42, 180, 0, 9] := bL_of (by decide +kernel)
def dX7_weighCells_38 := dk42 (k := 0) bX7_weighCells_38 rfl
def dX7_weighCells_39 := dk180 (k := 1) (x := 25) bX7_weighCells_38 rfl rfl
def dX7_weighCells_42 := dk27 (k := 4) bX7_weighCells_38 rfl
def dX7_weighCells_43 := dk2 (k := 5) bX7_weighCells_38 rfl
def dX7_weighCells_44 := dk182 (k := 6) (x := 48) bX7_weighCells_38 rfl rfl
def dX7_weighCells_47 := dk42 (k := 9) bX7_weighCells_38 rfl
def dX7_weighCells_48 := dk180 (k := 10) (x := 21) bX7_weighCells_38 rfl rfl
def dX7_weighCells_51 := dk180 (k := 13) (x := 52) bX7_weighCells_38 rfl rfl
def dX7_weighCells_54 := dk42 (k := 16) bX7_weighCells_38 rfl
def dX7_weighCells_55 := dk180 (k := 17) (x := 25) bX7_weighCells_38 rfl rfl
def dX7_weighCells_58 := dk42 (k := 20) bX7_weighCells_38 rfl
def dX7_weighCells_59 := dk180 (k := 21) (x := 9) bX7_weighCells_38 rfl rfl
theorem bX7_weighCells_62 : bL cX7_weighCells 62 [27, 16, 8, 104, 182, 0, 56, 42, 180, 0, 25, 27, 4, 182, 0, 48, 132, 1, 1, 167, 255, 191, 177] := bL_of (by decide +kernel)
def dX7_weighCells_62 := dk27 (k := 0) bX7_weighCells_62 rfl
def dX7_weighCells_63 := dk16 (k := 1) (x := 8) bX7_weighCells_62 rfl (by decide)
def dX7_weighCells_65 := dk104 (k := 3) bX7_weighCells_62 rfl
def dX7_weighCells_66 := dk182 (k := 4) (x := 56) bX7_weighCells_62 rfl rfl
def dX7_weighCells_69 := dk42 (k := 7) bX7_weighCells_62 rfl
def dX7_weighCells_70 := dk180 (k := 8) (x := 25) bX7_weighCells_62 rfl rfl
def dX7_weighCells_73 := dk27 (k := 11) bX7_weighCells_62 rfl
def dX7_weighCells_74 := dk4 (k := 12) bX7_weighCells_62 rfl
def dX7_weighCells_75 := dk182 (k := 13) (x := 48) bX7_weighCells_62 rfl rfl
theorem dX7_weighCells_78 : decode cX7_weighCells 78 = .ok (.iinc 1 1, 3) := dk132 (k := 16) bX7_weighCells_62 rfl rfl (by decide)
def dX7_weighCells_81 := dk167 (k := 19) (x := (-65)) bX7_weighCells_62 rfl (by decide)
def dX7_weighCells_84 := dk177 (k := 22) bX7_weighCells_62 rfl
theorem bX7_weightOf_0 : bL cX7_weightOf 0 [27, 16, 8, 104, 28, 96, 62, 29, 155, 0, 21, 29, 42, 180, 0, 9, 190, 162, 0, 12, 42, 180, 0, 9] := bL_of (by decide +kernel)
def dX7_weightOf_0 := dk27 (k := 0) bX7_weightOf_0 rfl
def dX7_weightOf_1 := dk16 (k := 1) (x := 8) bX7_weightOf_0 rfl (by decide)
def dX7_weightOf_3 := dk104 (k := 3) bX7_weightOf_0 rfl
def dX7_weightOf_4 := dk28 (k := 4) bX7_weightOf_0 rfl
def dX7_weightOf_5 := dk96 (k := 5) bX7_weightOf_0 rfl
def dX7_weightOf_6 := dk62 (k := 6) bX7_weightOf_0 rfl
def dX7_weightOf_7 := dk29 (k := 7) bX7_weightOf_0 rfl
def dX7_weightOf_8 := dk155 (k := 8) (x := 21) bX7_weightOf_0 rfl (by decide)
def dX7_weightOf_11 := dk29 (k := 11) bX7_weightOf_0 rfl
def dX7_weightOf_12 := dk42 (k := 12) bX7_weightOf_0 rfl
def dX7_weightOf_13 := dk180 (k := 13) (x := 9) bX7_weightOf_0 rfl rfl
def dX7_weightOf_16 := dk190 (k := 16) bX7_weightOf_0 rfl
def dX7_weightOf_17 := dk162 (k := 17) (x := 12) bX7_weightOf_0 rfl (by decide)
def dX7_weightOf_20 := dk42 (k := 20) bX7_weightOf_0 rfl
def dX7_weightOf_21 := dk180 (k := 21) (x := 9) bX7_weightOf_0 rfl rfl
theorem bX7_weightOf_24 : bL cX7_weightOf 24 [29, 46, 167, 0, 4, 3, 172] := bL_of (by decide +kernel)
def dX7_weightOf_24 := dk29 (k := 0) bX7_weightOf_24 rfl
def dX7_weightOf_25 := dk46 (k := 1) bX7_weightOf_24 rfl
def dX7_weightOf_26 := dk167 (k := 2) (x := 4) bX7_weightOf_24 rfl (by decide)
def dX7_weightOf_29 := dk3 (k := 5) bX7_weightOf_24 rfl
def dX7_weightOf_30 := dk172 (k := 6) bX7_weightOf_24 rfl
theorem bX7_votersFor_0 : bL cX7_votersFor 0 [3, 62, 3, 54, 4, 21, 4, 42, 180, 0, 21, 180, 0, 52, 180, 0, 62, 162, 0, 33, 42, 27, 21, 4] := bL_of (by decide +kernel)
def dX7_votersFor_0 := dk3 (k := 0) bX7_votersFor_0 rfl
def dX7_votersFor_1 := dk62 (k := 1) bX7_votersFor_0 rfl
def dX7_votersFor_2 := dk3 (k := 2) bX7_votersFor_0 rfl
def dX7_votersFor_3 := dk54 (k := 3) (x := 4) bX7_votersFor_0 rfl rfl
def dX7_votersFor_5 := dk21 (k := 5) (x := 4) bX7_votersFor_0 rfl rfl
def dX7_votersFor_7 := dk42 (k := 7) bX7_votersFor_0 rfl
def dX7_votersFor_8 := dk180 (k := 8) (x := 21) bX7_votersFor_0 rfl rfl
def dX7_votersFor_11 := dk180 (k := 11) (x := 52) bX7_votersFor_0 rfl rfl
def dX7_votersFor_14 := dk180 (k := 14) (x := 62) bX7_votersFor_0 rfl rfl
def dX7_votersFor_17 := dk162 (k := 17) (x := 33) bX7_votersFor_0 rfl (by decide)
def dX7_votersFor_20 := dk42 (k := 20) bX7_votersFor_0 rfl
def dX7_votersFor_21 := dk27 (k := 21) bX7_votersFor_0 rfl
def dX7_votersFor_22 := dk21 (k := 22) (x := 4) bX7_votersFor_0 rfl rfl
theorem bX7_votersFor_24 : bL cX7_votersFor 24 [182, 0, 65, 42, 28, 21, 4, 182, 0, 65, 164, 0, 10, 29, 4, 21, 4, 120, 128, 62, 132, 4, 1, 167, 255, 214] := bL_of (by decide +kernel)
def dX7_votersFor_24 := dk182 (k := 0) (x := 65) bX7_votersFor_24 rfl rfl
def dX7_votersFor_27 := dk42 (k := 3) bX7_votersFor_24 rfl
def dX7_votersFor_28 := dk28 (k := 4) bX7_votersFor_24 rfl
def dX7_votersFor_29 := dk21 (k := 5) (x := 4) bX7_votersFor_24 rfl rfl
def dX7_votersFor_31 := dk182 (k := 7) (x := 65) bX7_votersFor_24 rfl rfl
def dX7_votersFor_34 := dk164 (k := 10) (x := 10) bX7_votersFor_24 rfl (by decide)
def dX7_votersFor_37 := dk29 (k := 13) bX7_votersFor_24 rfl
def dX7_votersFor_38 := dk4 (k := 14) bX7_votersFor_24 rfl
def dX7_votersFor_39 := dk21 (k := 15) (x := 4) bX7_votersFor_24 rfl rfl
def dX7_votersFor_41 := dk120 (k := 17) bX7_votersFor_24 rfl
def dX7_votersFor_42 := dk128 (k := 18) bX7_votersFor_24 rfl
def dX7_votersFor_43 := dk62 (k := 19) bX7_votersFor_24 rfl
theorem dX7_votersFor_44 : decode cX7_votersFor 44 = .ok (.iinc 4 1, 3) := dk132 (k := 20) bX7_votersFor_24 rfl rfl (by decide)
def dX7_votersFor_47 := dk167 (k := 23) (x := (-42)) bX7_votersFor_24 rfl (by decide)
theorem bX7_votersFor_50 : bL cX7_votersFor 50 [29, 172] := bL_of (by decide +kernel)
def dX7_votersFor_50 := dk29 (k := 0) bX7_votersFor_50 rfl
def dX7_votersFor_51 := dk172 (k := 1) bX7_votersFor_50 rfl
theorem bX7_electedCell_0 : bL cX7_electedCell 0 [42, 182, 0, 69, 3, 60, 27, 42, 180, 0, 21, 180, 0, 29, 180, 0, 40, 162, 0, 33, 42, 180, 0, 21] := bL_of (by decide +kernel)
def dX7_electedCell_0 := dk42 (k := 0) bX7_electedCell_0 rfl
def dX7_electedCell_1 := dk182 (k := 1) (x := 69) bX7_electedCell_0 rfl rfl
def dX7_electedCell_4 := dk3 (k := 4) bX7_electedCell_0 rfl
def dX7_electedCell_5 := dk60 (k := 5) bX7_electedCell_0 rfl
def dX7_electedCell_6 := dk27 (k := 6) bX7_electedCell_0 rfl
def dX7_electedCell_7 := dk42 (k := 7) bX7_electedCell_0 rfl
def dX7_electedCell_8 := dk180 (k := 8) (x := 21) bX7_electedCell_0 rfl rfl
def dX7_electedCell_11 := dk180 (k := 11) (x := 29) bX7_electedCell_0 rfl rfl
def dX7_electedCell_14 := dk180 (k := 14) (x := 40) bX7_electedCell_0 rfl rfl
def dX7_electedCell_17 := dk162 (k := 17) (x := 33) bX7_electedCell_0 rfl (by decide)
def dX7_electedCell_20 := dk42 (k := 20) bX7_electedCell_0 rfl
def dX7_electedCell_21 := dk180 (k := 21) (x := 21) bX7_electedCell_0 rfl rfl
theorem bX7_electedCell_24 : bL cX7_electedCell 24 [180, 0, 29, 27, 182, 0, 44, 158, 0, 13, 42, 27, 182, 0, 72, 153, 0, 5, 27, 172, 132, 1, 1, 167, 255, 215] := bL_of (by decide +kernel)
def dX7_electedCell_24 := dk180 (k := 0) (x := 29) bX7_electedCell_24 rfl rfl
def dX7_electedCell_27 := dk27 (k := 3) bX7_electedCell_24 rfl
def dX7_electedCell_28 := dk182 (k := 4) (x := 44) bX7_electedCell_24 rfl rfl
def dX7_electedCell_31 := dk158 (k := 7) (x := 13) bX7_electedCell_24 rfl (by decide)
def dX7_electedCell_34 := dk42 (k := 10) bX7_electedCell_24 rfl
def dX7_electedCell_35 := dk27 (k := 11) bX7_electedCell_24 rfl
def dX7_electedCell_36 := dk182 (k := 12) (x := 72) bX7_electedCell_24 rfl rfl
def dX7_electedCell_39 := dk153 (k := 15) (x := 5) bX7_electedCell_24 rfl (by decide)
def dX7_electedCell_42 := dk27 (k := 18) bX7_electedCell_24 rfl
def dX7_electedCell_43 := dk172 (k := 19) bX7_electedCell_24 rfl
theorem dX7_electedCell_44 : decode cX7_electedCell 44 = .ok (.iinc 1 1, 3) := dk132 (k := 20) bX7_electedCell_24 rfl rfl (by decide)
def dX7_electedCell_47 := dk167 (k := 23) (x := (-41)) bX7_electedCell_24 rfl (by decide)
theorem bX7_electedCell_50 : bL cX7_electedCell 50 [2, 172] := bL_of (by decide +kernel)
def dX7_electedCell_50 := dk2 (k := 0) bX7_electedCell_50 rfl
def dX7_electedCell_51 := dk172 (k := 1) bX7_electedCell_50 rfl
theorem bX7_isUnbeaten_0 : bL cX7_isUnbeaten 0 [3, 61, 28, 42, 180, 0, 21, 180, 0, 29, 180, 0, 40, 162, 0, 62, 42, 180, 0, 21, 180, 0, 29, 28] := bL_of (by decide +kernel)
def dX7_isUnbeaten_0 := dk3 (k := 0) bX7_isUnbeaten_0 rfl
def dX7_isUnbeaten_1 := dk61 (k := 1) bX7_isUnbeaten_0 rfl
def dX7_isUnbeaten_2 := dk28 (k := 2) bX7_isUnbeaten_0 rfl
def dX7_isUnbeaten_3 := dk42 (k := 3) bX7_isUnbeaten_0 rfl
def dX7_isUnbeaten_4 := dk180 (k := 4) (x := 21) bX7_isUnbeaten_0 rfl rfl
def dX7_isUnbeaten_7 := dk180 (k := 7) (x := 29) bX7_isUnbeaten_0 rfl rfl
def dX7_isUnbeaten_10 := dk180 (k := 10) (x := 40) bX7_isUnbeaten_0 rfl rfl
def dX7_isUnbeaten_13 := dk162 (k := 13) (x := 62) bX7_isUnbeaten_0 rfl (by decide)
def dX7_isUnbeaten_16 := dk42 (k := 16) bX7_isUnbeaten_0 rfl
def dX7_isUnbeaten_17 := dk180 (k := 17) (x := 21) bX7_isUnbeaten_0 rfl rfl
def dX7_isUnbeaten_20 := dk180 (k := 20) (x := 29) bX7_isUnbeaten_0 rfl rfl
def dX7_isUnbeaten_23 := dk28 (k := 23) bX7_isUnbeaten_0 rfl
theorem bX7_isUnbeaten_24 : bL cX7_isUnbeaten 24 [182, 0, 44, 158, 0, 42, 42, 180, 0, 21, 180, 0, 52, 42, 27, 28, 182, 0, 76, 182, 0, 79, 62, 29] := bL_of (by decide +kernel)
def dX7_isUnbeaten_24 := dk182 (k := 0) (x := 44) bX7_isUnbeaten_24 rfl rfl
def dX7_isUnbeaten_27 := dk158 (k := 3) (x := 42) bX7_isUnbeaten_24 rfl (by decide)
def dX7_isUnbeaten_30 := dk42 (k := 6) bX7_isUnbeaten_24 rfl
def dX7_isUnbeaten_31 := dk180 (k := 7) (x := 21) bX7_isUnbeaten_24 rfl rfl
def dX7_isUnbeaten_34 := dk180 (k := 10) (x := 52) bX7_isUnbeaten_24 rfl rfl
def dX7_isUnbeaten_37 := dk42 (k := 13) bX7_isUnbeaten_24 rfl
def dX7_isUnbeaten_38 := dk27 (k := 14) bX7_isUnbeaten_24 rfl
def dX7_isUnbeaten_39 := dk28 (k := 15) bX7_isUnbeaten_24 rfl
def dX7_isUnbeaten_40 := dk182 (k := 16) (x := 76) bX7_isUnbeaten_24 rfl rfl
def dX7_isUnbeaten_43 := dk182 (k := 19) (x := 79) bX7_isUnbeaten_24 rfl rfl
def dX7_isUnbeaten_46 := dk62 (k := 22) bX7_isUnbeaten_24 rfl
def dX7_isUnbeaten_47 := dk29 (k := 23) bX7_isUnbeaten_24 rfl
theorem bX7_isUnbeaten_48 : bL cX7_isUnbeaten 48 [42, 180, 0, 21, 180, 0, 52, 42, 28, 27, 182, 0, 76, 182, 0, 79, 162, 0, 5, 3, 172, 132, 2, 1] := bL_of (by decide +kernel)
def dX7_isUnbeaten_48 := dk42 (k := 0) bX7_isUnbeaten_48 rfl
def dX7_isUnbeaten_49 := dk180 (k := 1) (x := 21) bX7_isUnbeaten_48 rfl rfl
def dX7_isUnbeaten_52 := dk180 (k := 4) (x := 52) bX7_isUnbeaten_48 rfl rfl
def dX7_isUnbeaten_55 := dk42 (k := 7) bX7_isUnbeaten_48 rfl
def dX7_isUnbeaten_56 := dk28 (k := 8) bX7_isUnbeaten_48 rfl
def dX7_isUnbeaten_57 := dk27 (k := 9) bX7_isUnbeaten_48 rfl
def dX7_isUnbeaten_58 := dk182 (k := 10) (x := 76) bX7_isUnbeaten_48 rfl rfl
def dX7_isUnbeaten_61 := dk182 (k := 13) (x := 79) bX7_isUnbeaten_48 rfl rfl
def dX7_isUnbeaten_64 := dk162 (k := 16) (x := 5) bX7_isUnbeaten_48 rfl (by decide)
def dX7_isUnbeaten_67 := dk3 (k := 19) bX7_isUnbeaten_48 rfl
def dX7_isUnbeaten_68 := dk172 (k := 20) bX7_isUnbeaten_48 rfl
theorem dX7_isUnbeaten_69 : decode cX7_isUnbeaten 69 = .ok (.iinc 2 1, 3) := dk132 (k := 21) bX7_isUnbeaten_48 rfl rfl (by decide)
theorem bX7_isUnbeaten_72 : bL cX7_isUnbeaten 72 [167, 255, 186, 4, 172] := bL_of (by decide +kernel)
def dX7_isUnbeaten_72 := dk167 (k := 0) (x := (-70)) bX7_isUnbeaten_72 rfl (by decide)
def dX7_isUnbeaten_75 := dk4 (k := 3) bX7_isUnbeaten_72 rfl
def dX7_isUnbeaten_76 := dk172 (k := 4) bX7_isUnbeaten_72 rfl
theorem bX7_canShape_0 : bL cX7_canShape 0 [42, 180, 0, 21, 182, 0, 82, 153, 0, 30, 27, 155, 0, 26, 27, 6, 163, 0, 21, 42, 180, 0, 21, 180, 0, 29] := bL_of (by decide +kernel)
def dX7_canShape_0 := dk42 (k := 0) bX7_canShape_0 rfl
def dX7_canShape_1 := dk180 (k := 1) (x := 21) bX7_canShape_0 rfl rfl
def dX7_canShape_4 := dk182 (k := 4) (x := 82) bX7_canShape_0 rfl rfl
def dX7_canShape_7 := dk153 (k := 7) (x := 30) bX7_canShape_0 rfl (by decide)
def dX7_canShape_10 := dk27 (k := 10) bX7_canShape_0 rfl
def dX7_canShape_11 := dk155 (k := 11) (x := 26) bX7_canShape_0 rfl (by decide)
def dX7_canShape_14 := dk27 (k := 14) bX7_canShape_0 rfl
def dX7_canShape_15 := dk6 (k := 15) bX7_canShape_0 rfl
def dX7_canShape_16 := dk163 (k := 16) (x := 21) bX7_canShape_0 rfl (by decide)
def dX7_canShape_19 := dk42 (k := 19) bX7_canShape_0 rfl
def dX7_canShape_20 := dk180 (k := 20) (x := 21) bX7_canShape_0 rfl rfl
def dX7_canShape_23 := dk180 (k := 23) (x := 29) bX7_canShape_0 rfl rfl
theorem bX7_canShape_26 : bL cX7_canShape 26 [182, 0, 86, 27, 161, 0, 7, 4, 167, 0, 4, 3, 172] := bL_of (by decide +kernel)
def dX7_canShape_26 := dk182 (k := 0) (x := 86) bX7_canShape_26 rfl rfl
def dX7_canShape_29 := dk27 (k := 3) bX7_canShape_26 rfl
def dX7_canShape_30 := dk161 (k := 4) (x := 7) bX7_canShape_26 rfl (by decide)
def dX7_canShape_33 := dk4 (k := 7) bX7_canShape_26 rfl
def dX7_canShape_34 := dk167 (k := 8) (x := 4) bX7_canShape_26 rfl (by decide)
def dX7_canShape_37 := dk3 (k := 11) bX7_canShape_26 rfl
def dX7_canShape_38 := dk172 (k := 12) bX7_canShape_26 rfl
theorem bX7_shapeBy_0 : bL cX7_shapeBy 0 [42, 180, 0, 25, 42, 180, 0, 21, 180, 0, 29, 182, 0, 34, 42, 3, 181, 0, 90, 42, 27, 3, 3, 182, 0, 94] := bL_of (by decide +kernel)
def dX7_shapeBy_0 := dk42 (k := 0) bX7_shapeBy_0 rfl
def dX7_shapeBy_1 := dk180 (k := 1) (x := 25) bX7_shapeBy_0 rfl rfl
def dX7_shapeBy_4 := dk42 (k := 4) bX7_shapeBy_0 rfl
def dX7_shapeBy_5 := dk180 (k := 5) (x := 21) bX7_shapeBy_0 rfl rfl
def dX7_shapeBy_8 := dk180 (k := 8) (x := 29) bX7_shapeBy_0 rfl rfl
def dX7_shapeBy_11 := dk182 (k := 11) (x := 34) bX7_shapeBy_0 rfl rfl
def dX7_shapeBy_14 := dk42 (k := 14) bX7_shapeBy_0 rfl
def dX7_shapeBy_15 := dk3 (k := 15) bX7_shapeBy_0 rfl
def dX7_shapeBy_16 := dk181 (k := 16) (x := 90) bX7_shapeBy_0 rfl rfl
def dX7_shapeBy_19 := dk42 (k := 19) bX7_shapeBy_0 rfl
def dX7_shapeBy_20 := dk27 (k := 20) bX7_shapeBy_0 rfl
def dX7_shapeBy_21 := dk3 (k := 21) bX7_shapeBy_0 rfl
def dX7_shapeBy_22 := dk3 (k := 22) bX7_shapeBy_0 rfl
def dX7_shapeBy_23 := dk182 (k := 23) (x := 94) bX7_shapeBy_0 rfl rfl
theorem bX7_shapeBy_26 : bL cX7_shapeBy 26 [42, 180, 0, 98, 172] := bL_of (by decide +kernel)
def dX7_shapeBy_26 := dk42 (k := 0) bX7_shapeBy_26 rfl
def dX7_shapeBy_27 := dk180 (k := 1) (x := 98) bX7_shapeBy_26 rfl rfl
def dX7_shapeBy_30 := dk172 (k := 4) bX7_shapeBy_26 rfl
theorem bX7_shapedCell_0 : bL cX7_shapedCell 0 [27, 155, 0, 21, 27, 42, 180, 0, 18, 190, 162, 0, 12, 42, 180, 0, 18, 27, 46, 167, 0, 4, 2, 172] := bL_of (by decide +kernel)
def dX7_shapedCell_0 := dk27 (k := 0) bX7_shapedCell_0 rfl
def dX7_shapedCell_1 := dk155 (k := 1) (x := 21) bX7_shapedCell_0 rfl (by decide)
def dX7_shapedCell_4 := dk27 (k := 4) bX7_shapedCell_0 rfl
def dX7_shapedCell_5 := dk42 (k := 5) bX7_shapedCell_0 rfl
def dX7_shapedCell_6 := dk180 (k := 6) (x := 18) bX7_shapedCell_0 rfl rfl
def dX7_shapedCell_9 := dk190 (k := 9) bX7_shapedCell_0 rfl
def dX7_shapedCell_10 := dk162 (k := 10) (x := 12) bX7_shapedCell_0 rfl (by decide)
def dX7_shapedCell_13 := dk42 (k := 13) bX7_shapedCell_0 rfl
def dX7_shapedCell_14 := dk180 (k := 14) (x := 18) bX7_shapedCell_0 rfl rfl
def dX7_shapedCell_17 := dk27 (k := 17) bX7_shapedCell_0 rfl
def dX7_shapedCell_18 := dk46 (k := 18) bX7_shapedCell_0 rfl
def dX7_shapedCell_19 := dk167 (k := 19) (x := 4) bX7_shapedCell_0 rfl (by decide)
def dX7_shapedCell_22 := dk2 (k := 22) bX7_shapedCell_0 rfl
def dX7_shapedCell_23 := dk172 (k := 23) bX7_shapedCell_0 rfl
theorem bX7_search_0 : bL cX7_search 0 [28, 27, 162, 0, 8, 28, 6, 161, 0, 8, 42, 182, 0, 101, 177, 29, 54, 4, 21, 4, 42, 180, 0, 25] := bL_of (by decide +kernel)
def dX7_search_0 := dk28 (k := 0) bX7_search_0 rfl
def dX7_search_1 := dk27 (k := 1) bX7_search_0 rfl
def dX7_search_2 := dk162 (k := 2) (x := 8) bX7_search_0 rfl (by decide)
def dX7_search_5 := dk28 (k := 5) bX7_search_0 rfl
def dX7_search_6 := dk6 (k := 6) bX7_search_0 rfl
def dX7_search_7 := dk161 (k := 7) (x := 8) bX7_search_0 rfl (by decide)
def dX7_search_10 := dk42 (k := 10) bX7_search_0 rfl
def dX7_search_11 := dk182 (k := 11) (x := 101) bX7_search_0 rfl rfl
def dX7_search_14 := dk177 (k := 14) bX7_search_0 rfl
def dX7_search_15 := dk29 (k := 15) bX7_search_0 rfl
def dX7_search_16 := dk54 (k := 16) (x := 4) bX7_search_0 rfl rfl
def dX7_search_18 := dk21 (k := 18) (x := 4) bX7_search_0 rfl rfl
def dX7_search_20 := dk42 (k := 20) bX7_search_0 rfl
def dX7_search_21 := dk180 (k := 21) (x := 25) bX7_search_0 rfl rfl
theorem bX7_search_24 : bL cX7_search 24 [180, 0, 40, 162, 0, 59, 42, 180, 0, 25, 21, 4, 182, 0, 44, 158, 0, 41, 42, 180, 0, 25, 21, 4] := bL_of (by decide +kernel)
def dX7_search_24 := dk180 (k := 0) (x := 40) bX7_search_24 rfl rfl
def dX7_search_27 := dk162 (k := 3) (x := 59) bX7_search_24 rfl (by decide)
def dX7_search_30 := dk42 (k := 6) bX7_search_24 rfl
def dX7_search_31 := dk180 (k := 7) (x := 25) bX7_search_24 rfl rfl
def dX7_search_34 := dk21 (k := 10) (x := 4) bX7_search_24 rfl rfl
def dX7_search_36 := dk182 (k := 12) (x := 44) bX7_search_24 rfl rfl
def dX7_search_39 := dk158 (k := 15) (x := 41) bX7_search_24 rfl (by decide)
def dX7_search_42 := dk42 (k := 18) bX7_search_24 rfl
def dX7_search_43 := dk180 (k := 19) (x := 25) bX7_search_24 rfl rfl
def dX7_search_46 := dk21 (k := 22) (x := 4) bX7_search_24 rfl rfl
theorem bX7_search_48 : bL cX7_search 48 [2, 182, 0, 48, 42, 180, 0, 15, 28, 21, 4, 79, 42, 27, 28, 4, 96, 21, 4, 182, 0, 94, 42, 180, 0, 25] := bL_of (by decide +kernel)
def dX7_search_48 := dk2 (k := 0) bX7_search_48 rfl
def dX7_search_49 := dk182 (k := 1) (x := 48) bX7_search_48 rfl rfl
def dX7_search_52 := dk42 (k := 4) bX7_search_48 rfl
def dX7_search_53 := dk180 (k := 5) (x := 15) bX7_search_48 rfl rfl
def dX7_search_56 := dk28 (k := 8) bX7_search_48 rfl
def dX7_search_57 := dk21 (k := 9) (x := 4) bX7_search_48 rfl rfl
def dX7_search_59 := dk79 (k := 11) bX7_search_48 rfl
def dX7_search_60 := dk42 (k := 12) bX7_search_48 rfl
def dX7_search_61 := dk27 (k := 13) bX7_search_48 rfl
def dX7_search_62 := dk28 (k := 14) bX7_search_48 rfl
def dX7_search_63 := dk4 (k := 15) bX7_search_48 rfl
def dX7_search_64 := dk96 (k := 16) bX7_search_48 rfl
def dX7_search_65 := dk21 (k := 17) (x := 4) bX7_search_48 rfl rfl
def dX7_search_67 := dk182 (k := 19) (x := 94) bX7_search_48 rfl rfl
def dX7_search_70 := dk42 (k := 22) bX7_search_48 rfl
def dX7_search_71 := dk180 (k := 23) (x := 25) bX7_search_48 rfl rfl
theorem bX7_search_74 : bL cX7_search 74 [21, 4, 4, 182, 0, 48, 132, 4, 1, 167, 255, 191, 177] := bL_of (by decide +kernel)
def dX7_search_74 := dk21 (k := 0) (x := 4) bX7_search_74 rfl rfl
def dX7_search_76 := dk4 (k := 2) bX7_search_74 rfl
def dX7_search_77 := dk182 (k := 3) (x := 48) bX7_search_74 rfl rfl
theorem dX7_search_80 : decode cX7_search 80 = .ok (.iinc 4 1, 3) := dk132 (k := 6) bX7_search_74 rfl rfl (by decide)
def dX7_search_83 := dk167 (k := 9) (x := (-65)) bX7_search_74 rfl (by decide)
def dX7_search_86 := dk177 (k := 12) bX7_search_74 rfl
theorem bX7_keepIfBetter_0 : bL cX7_keepIfBetter 0 [42, 180, 0, 21, 180, 0, 52, 42, 180, 0, 25, 182, 0, 104, 60, 42, 180, 0, 90, 153, 0, 12, 27, 42] := bL_of (by decide +kernel)
def dX7_keepIfBetter_0 := dk42 (k := 0) bX7_keepIfBetter_0 rfl
def dX7_keepIfBetter_1 := dk180 (k := 1) (x := 21) bX7_keepIfBetter_0 rfl rfl
def dX7_keepIfBetter_4 := dk180 (k := 4) (x := 52) bX7_keepIfBetter_0 rfl rfl
def dX7_keepIfBetter_7 := dk42 (k := 7) bX7_keepIfBetter_0 rfl
def dX7_keepIfBetter_8 := dk180 (k := 8) (x := 25) bX7_keepIfBetter_0 rfl rfl
def dX7_keepIfBetter_11 := dk182 (k := 11) (x := 104) bX7_keepIfBetter_0 rfl rfl
def dX7_keepIfBetter_14 := dk60 (k := 14) bX7_keepIfBetter_0 rfl
def dX7_keepIfBetter_15 := dk42 (k := 15) bX7_keepIfBetter_0 rfl
def dX7_keepIfBetter_16 := dk180 (k := 16) (x := 90) bX7_keepIfBetter_0 rfl rfl
def dX7_keepIfBetter_19 := dk153 (k := 19) (x := 12) bX7_keepIfBetter_0 rfl (by decide)
def dX7_keepIfBetter_22 := dk27 (k := 22) bX7_keepIfBetter_0 rfl
def dX7_keepIfBetter_23 := dk42 (k := 23) bX7_keepIfBetter_0 rfl
theorem bX7_keepIfBetter_24 : bL cX7_keepIfBetter 24 [180, 0, 98, 163, 0, 4, 177, 42, 4, 181, 0, 90, 42, 27, 181, 0, 98, 3, 61, 28, 6, 162, 0, 21] := bL_of (by decide +kernel)
def dX7_keepIfBetter_24 := dk180 (k := 0) (x := 98) bX7_keepIfBetter_24 rfl rfl
def dX7_keepIfBetter_27 := dk163 (k := 3) (x := 4) bX7_keepIfBetter_24 rfl (by decide)
def dX7_keepIfBetter_30 := dk177 (k := 6) bX7_keepIfBetter_24 rfl
def dX7_keepIfBetter_31 := dk42 (k := 7) bX7_keepIfBetter_24 rfl
def dX7_keepIfBetter_32 := dk4 (k := 8) bX7_keepIfBetter_24 rfl
def dX7_keepIfBetter_33 := dk181 (k := 9) (x := 90) bX7_keepIfBetter_24 rfl rfl
def dX7_keepIfBetter_36 := dk42 (k := 12) bX7_keepIfBetter_24 rfl
def dX7_keepIfBetter_37 := dk27 (k := 13) bX7_keepIfBetter_24 rfl
def dX7_keepIfBetter_38 := dk181 (k := 14) (x := 98) bX7_keepIfBetter_24 rfl rfl
def dX7_keepIfBetter_41 := dk3 (k := 17) bX7_keepIfBetter_24 rfl
def dX7_keepIfBetter_42 := dk61 (k := 18) bX7_keepIfBetter_24 rfl
def dX7_keepIfBetter_43 := dk28 (k := 19) bX7_keepIfBetter_24 rfl
def dX7_keepIfBetter_44 := dk6 (k := 20) bX7_keepIfBetter_24 rfl
def dX7_keepIfBetter_45 := dk162 (k := 21) (x := 21) bX7_keepIfBetter_24 rfl (by decide)
theorem bX7_keepIfBetter_48 : bL cX7_keepIfBetter 48 [42, 180, 0, 18, 28, 42, 180, 0, 15, 28, 46, 79, 132, 2, 1, 167, 255, 236, 177] := bL_of (by decide +kernel)
def dX7_keepIfBetter_48 := dk42 (k := 0) bX7_keepIfBetter_48 rfl
def dX7_keepIfBetter_49 := dk180 (k := 1) (x := 18) bX7_keepIfBetter_48 rfl rfl
def dX7_keepIfBetter_52 := dk28 (k := 4) bX7_keepIfBetter_48 rfl
def dX7_keepIfBetter_53 := dk42 (k := 5) bX7_keepIfBetter_48 rfl
def dX7_keepIfBetter_54 := dk180 (k := 6) (x := 15) bX7_keepIfBetter_48 rfl rfl
def dX7_keepIfBetter_57 := dk28 (k := 9) bX7_keepIfBetter_48 rfl
def dX7_keepIfBetter_58 := dk46 (k := 10) bX7_keepIfBetter_48 rfl
def dX7_keepIfBetter_59 := dk79 (k := 11) bX7_keepIfBetter_48 rfl
theorem dX7_keepIfBetter_60 : decode cX7_keepIfBetter 60 = .ok (.iinc 2 1, 3) := dk132 (k := 12) bX7_keepIfBetter_48 rfl rfl (by decide)
def dX7_keepIfBetter_63 := dk167 (k := 15) (x := (-20)) bX7_keepIfBetter_48 rfl (by decide)
def dX7_keepIfBetter_66 := dk177 (k := 18) bX7_keepIfBetter_48 rfl
theorem bX7_spoilCell_0 : bL cX7_spoilCell 0 [42, 180, 0, 25, 42, 180, 0, 21, 180, 0, 29, 182, 0, 34, 2, 60, 3, 61, 3, 62, 29, 42, 180, 0, 25] := bL_of (by decide +kernel)
def dX7_spoilCell_0 := dk42 (k := 0) bX7_spoilCell_0 rfl
def dX7_spoilCell_1 := dk180 (k := 1) (x := 25) bX7_spoilCell_0 rfl rfl
def dX7_spoilCell_4 := dk42 (k := 4) bX7_spoilCell_0 rfl
def dX7_spoilCell_5 := dk180 (k := 5) (x := 21) bX7_spoilCell_0 rfl rfl
def dX7_spoilCell_8 := dk180 (k := 8) (x := 29) bX7_spoilCell_0 rfl rfl
def dX7_spoilCell_11 := dk182 (k := 11) (x := 34) bX7_spoilCell_0 rfl rfl
def dX7_spoilCell_14 := dk2 (k := 14) bX7_spoilCell_0 rfl
def dX7_spoilCell_15 := dk60 (k := 15) bX7_spoilCell_0 rfl
def dX7_spoilCell_16 := dk3 (k := 16) bX7_spoilCell_0 rfl
def dX7_spoilCell_17 := dk61 (k := 17) bX7_spoilCell_0 rfl
def dX7_spoilCell_18 := dk3 (k := 18) bX7_spoilCell_0 rfl
def dX7_spoilCell_19 := dk62 (k := 19) bX7_spoilCell_0 rfl
def dX7_spoilCell_20 := dk29 (k := 20) bX7_spoilCell_0 rfl
def dX7_spoilCell_21 := dk42 (k := 21) bX7_spoilCell_0 rfl
def dX7_spoilCell_22 := dk180 (k := 22) (x := 25) bX7_spoilCell_0 rfl rfl
theorem bX7_spoilCell_25 : bL cX7_spoilCell 25 [180, 0, 40, 162, 0, 77, 42, 180, 0, 25, 29, 182, 0, 108, 54, 4, 21, 4, 2, 159, 0, 55, 42, 180, 0, 25] := bL_of (by decide +kernel)
def dX7_spoilCell_25 := dk180 (k := 0) (x := 40) bX7_spoilCell_25 rfl rfl
def dX7_spoilCell_28 := dk162 (k := 3) (x := 77) bX7_spoilCell_25 rfl (by decide)
def dX7_spoilCell_31 := dk42 (k := 6) bX7_spoilCell_25 rfl
def dX7_spoilCell_32 := dk180 (k := 7) (x := 25) bX7_spoilCell_25 rfl rfl
def dX7_spoilCell_35 := dk29 (k := 10) bX7_spoilCell_25 rfl
def dX7_spoilCell_36 := dk182 (k := 11) (x := 108) bX7_spoilCell_25 rfl rfl
def dX7_spoilCell_39 := dk54 (k := 14) (x := 4) bX7_spoilCell_25 rfl rfl
def dX7_spoilCell_41 := dk21 (k := 16) (x := 4) bX7_spoilCell_25 rfl rfl
def dX7_spoilCell_43 := dk2 (k := 18) bX7_spoilCell_25 rfl
def dX7_spoilCell_44 := dk159 (k := 19) (x := 55) bX7_spoilCell_25 rfl (by decide)
def dX7_spoilCell_47 := dk42 (k := 22) bX7_spoilCell_25 rfl
def dX7_spoilCell_48 := dk180 (k := 23) (x := 25) bX7_spoilCell_25 rfl rfl
theorem bX7_spoilCell_51 : bL cX7_spoilCell 51 [21, 4, 4, 182, 0, 48, 42, 180, 0, 21, 180, 0, 52, 42, 180, 0, 25, 182, 0, 104, 54, 5, 42, 180, 0, 25] := bL_of (by decide +kernel)
def dX7_spoilCell_51 := dk21 (k := 0) (x := 4) bX7_spoilCell_51 rfl rfl
def dX7_spoilCell_53 := dk4 (k := 2) bX7_spoilCell_51 rfl
def dX7_spoilCell_54 := dk182 (k := 3) (x := 48) bX7_spoilCell_51 rfl rfl
def dX7_spoilCell_57 := dk42 (k := 6) bX7_spoilCell_51 rfl
def dX7_spoilCell_58 := dk180 (k := 7) (x := 21) bX7_spoilCell_51 rfl rfl
def dX7_spoilCell_61 := dk180 (k := 10) (x := 52) bX7_spoilCell_51 rfl rfl
def dX7_spoilCell_64 := dk42 (k := 13) bX7_spoilCell_51 rfl
def dX7_spoilCell_65 := dk180 (k := 14) (x := 25) bX7_spoilCell_51 rfl rfl
def dX7_spoilCell_68 := dk182 (k := 17) (x := 104) bX7_spoilCell_51 rfl rfl
def dX7_spoilCell_71 := dk54 (k := 20) (x := 5) bX7_spoilCell_51 rfl rfl
def dX7_spoilCell_73 := dk42 (k := 22) bX7_spoilCell_51 rfl
def dX7_spoilCell_74 := dk180 (k := 23) (x := 25) bX7_spoilCell_51 rfl rfl
theorem bX7_spoilCell_77 : bL cX7_spoilCell 77 [21, 4, 2, 182, 0, 48, 27, 2, 159, 0, 9, 21, 5, 28, 164, 0, 8, 29, 60, 21, 5, 61, 132, 3, 1] := bL_of (by decide +kernel)
def dX7_spoilCell_77 := dk21 (k := 0) (x := 4) bX7_spoilCell_77 rfl rfl
def dX7_spoilCell_79 := dk2 (k := 2) bX7_spoilCell_77 rfl
def dX7_spoilCell_80 := dk182 (k := 3) (x := 48) bX7_spoilCell_77 rfl rfl
def dX7_spoilCell_83 := dk27 (k := 6) bX7_spoilCell_77 rfl
def dX7_spoilCell_84 := dk2 (k := 7) bX7_spoilCell_77 rfl
def dX7_spoilCell_85 := dk159 (k := 8) (x := 9) bX7_spoilCell_77 rfl (by decide)
def dX7_spoilCell_88 := dk21 (k := 11) (x := 5) bX7_spoilCell_77 rfl rfl
def dX7_spoilCell_90 := dk28 (k := 13) bX7_spoilCell_77 rfl
def dX7_spoilCell_91 := dk164 (k := 14) (x := 8) bX7_spoilCell_77 rfl (by decide)
def dX7_spoilCell_94 := dk29 (k := 17) bX7_spoilCell_77 rfl
def dX7_spoilCell_95 := dk60 (k := 18) bX7_spoilCell_77 rfl
def dX7_spoilCell_96 := dk21 (k := 19) (x := 5) bX7_spoilCell_77 rfl rfl
def dX7_spoilCell_98 := dk61 (k := 21) bX7_spoilCell_77 rfl
theorem dX7_spoilCell_99 : decode cX7_spoilCell 99 = .ok (.iinc 3 1, 3) := dk132 (k := 22) bX7_spoilCell_77 rfl rfl (by decide)
theorem bX7_spoilCell_102 : bL cX7_spoilCell 102 [167, 255, 174, 27, 172] := bL_of (by decide +kernel)
def dX7_spoilCell_102 := dk167 (k := 0) (x := (-82)) bX7_spoilCell_102 rfl (by decide)
def dX7_spoilCell_105 := dk27 (k := 3) bX7_spoilCell_102 rfl
def dX7_spoilCell_106 := dk172 (k := 4) bX7_spoilCell_102 rfl
theorem bX8_init_0 : bL cX8_init 0 [42, 183, 0, 3, 42, 7, 16, 60] := bL_of (by decide +kernel)
def dX8_init_0 := dk42 (k := 0) bX8_init_0 rfl
def dX8_init_1 := dk183 (k := 1) (x := 3) bX8_init_0 rfl rfl
def dX8_init_4 := dk42 (k := 4) bX8_init_0 rfl
def dX8_init_5 := dk7 (k := 5) bX8_init_0 rfl
def dX8_init_6 := dk16 (k := 6) (x := 60) bX8_init_0 rfl (by decide)
theorem dX8_init_8 : decode cX8_init 8 = .ok (.multianewarray 9 2, 4) := by decide +kernel
theorem bX8_init_12 : bL cX8_init 12 [181, 0, 11, 42, 7] := bL_of (by decide +kernel)
def dX8_init_12 := dk181 (k := 0) (x := 11) bX8_init_12 rfl rfl
def dX8_init_15 := dk42 (k := 3) bX8_init_12 rfl
def dX8_init_16 := dk7 (k := 4) bX8_init_12 rfl
theorem dX8_init_17 : decode cX8_init 17 = .ok (.newarray .int, 2) := by decide +kernel
theorem bX8_init_19 : bL cX8_init 19 [181, 0, 16, 42, 7] := bL_of (by decide +kernel)
def dX8_init_19 := dk181 (k := 0) (x := 16) bX8_init_19 rfl rfl
def dX8_init_22 := dk42 (k := 3) bX8_init_19 rfl
def dX8_init_23 := dk7 (k := 4) bX8_init_19 rfl
theorem dX8_init_24 : decode cX8_init 24 = .ok (.newarray .int, 2) := by decide +kernel
theorem bX8_init_26 : bL cX8_init 26 [89, 3, 2, 79, 89, 4, 2, 79, 89, 5, 2, 79, 89, 6, 2, 79, 181, 0, 20, 177] := bL_of (by decide +kernel)
def dX8_init_26 := dk89 (k := 0) bX8_init_26 rfl
def dX8_init_27 := dk3 (k := 1) bX8_init_26 rfl
def dX8_init_28 := dk2 (k := 2) bX8_init_26 rfl
def dX8_init_29 := dk79 (k := 3) bX8_init_26 rfl
def dX8_init_30 := dk89 (k := 4) bX8_init_26 rfl
def dX8_init_31 := dk4 (k := 5) bX8_init_26 rfl
def dX8_init_32 := dk2 (k := 6) bX8_init_26 rfl
def dX8_init_33 := dk79 (k := 7) bX8_init_26 rfl
def dX8_init_34 := dk89 (k := 8) bX8_init_26 rfl
def dX8_init_35 := dk5 (k := 9) bX8_init_26 rfl
def dX8_init_36 := dk2 (k := 10) bX8_init_26 rfl
def dX8_init_37 := dk79 (k := 11) bX8_init_26 rfl
def dX8_init_38 := dk89 (k := 12) bX8_init_26 rfl
def dX8_init_39 := dk6 (k := 13) bX8_init_26 rfl
def dX8_init_40 := dk2 (k := 14) bX8_init_26 rfl
def dX8_init_41 := dk79 (k := 15) bX8_init_26 rfl
def dX8_init_42 := dk181 (k := 16) (x := 20) bX8_init_26 rfl rfl
def dX8_init_45 := dk177 (k := 19) bX8_init_26 rfl
theorem bX8_has_0 : bL cX8_has 0 [27, 155, 0, 12, 27, 7, 162, 0, 7, 4, 167, 0, 4, 3, 172] := bL_of (by decide +kernel)
def dX8_has_0 := dk27 (k := 0) bX8_has_0 rfl
def dX8_has_1 := dk155 (k := 1) (x := 12) bX8_has_0 rfl (by decide)
def dX8_has_4 := dk27 (k := 4) bX8_has_0 rfl
def dX8_has_5 := dk7 (k := 5) bX8_has_0 rfl
def dX8_has_6 := dk162 (k := 6) (x := 7) bX8_has_0 rfl (by decide)
def dX8_has_9 := dk4 (k := 9) bX8_has_0 rfl
def dX8_has_10 := dk167 (k := 10) (x := 4) bX8_has_0 rfl (by decide)
def dX8_has_13 := dk3 (k := 13) bX8_has_0 rfl
def dX8_has_14 := dk172 (k := 14) bX8_has_0 rfl
theorem bX8_sizeOf_0 : bL cX8_sizeOf 0 [27, 155, 0, 17, 27, 7, 162, 0, 12, 42, 180, 0, 20, 27, 46, 167, 0, 4, 2, 172] := bL_of (by decide +kernel)
def dX8_sizeOf_0 := dk27 (k := 0) bX8_sizeOf_0 rfl
def dX8_sizeOf_1 := dk155 (k := 1) (x := 17) bX8_sizeOf_0 rfl (by decide)
def dX8_sizeOf_4 := dk27 (k := 4) bX8_sizeOf_0 rfl
def dX8_sizeOf_5 := dk7 (k := 5) bX8_sizeOf_0 rfl
def dX8_sizeOf_6 := dk162 (k := 6) (x := 12) bX8_sizeOf_0 rfl (by decide)
def dX8_sizeOf_9 := dk42 (k := 9) bX8_sizeOf_0 rfl
def dX8_sizeOf_10 := dk180 (k := 10) (x := 20) bX8_sizeOf_0 rfl rfl
def dX8_sizeOf_13 := dk27 (k := 13) bX8_sizeOf_0 rfl
def dX8_sizeOf_14 := dk46 (k := 14) bX8_sizeOf_0 rfl
def dX8_sizeOf_15 := dk167 (k := 15) (x := 4) bX8_sizeOf_0 rfl (by decide)
def dX8_sizeOf_18 := dk2 (k := 18) bX8_sizeOf_0 rfl
def dX8_sizeOf_19 := dk172 (k := 19) bX8_sizeOf_0 rfl
theorem bX8_isLaid_0 : bL cX8_isLaid 0 [42, 27, 182, 0, 23, 2, 159, 0, 7, 4, 167, 0, 4, 3, 172] := bL_of (by decide +kernel)
def dX8_isLaid_0 := dk42 (k := 0) bX8_isLaid_0 rfl
def dX8_isLaid_1 := dk27 (k := 1) bX8_isLaid_0 rfl
def dX8_isLaid_2 := dk182 (k := 2) (x := 23) bX8_isLaid_0 rfl rfl
def dX8_isLaid_5 := dk2 (k := 5) bX8_isLaid_0 rfl
def dX8_isLaid_6 := dk159 (k := 6) (x := 7) bX8_isLaid_0 rfl (by decide)
def dX8_isLaid_9 := dk4 (k := 9) bX8_isLaid_0 rfl
def dX8_isLaid_10 := dk167 (k := 10) (x := 4) bX8_isLaid_0 rfl (by decide)
def dX8_isLaid_13 := dk3 (k := 13) bX8_isLaid_0 rfl
def dX8_isLaid_14 := dk172 (k := 14) bX8_isLaid_0 rfl
theorem bX8_widthOf_0 : bL cX8_widthOf 0 [42, 27, 182, 0, 27, 153, 0, 12, 42, 180, 0, 16, 27, 46, 167, 0, 4, 2, 172] := bL_of (by decide +kernel)
def dX8_widthOf_0 := dk42 (k := 0) bX8_widthOf_0 rfl
def dX8_widthOf_1 := dk27 (k := 1) bX8_widthOf_0 rfl
def dX8_widthOf_2 := dk182 (k := 2) (x := 27) bX8_widthOf_0 rfl rfl
def dX8_widthOf_5 := dk153 (k := 5) (x := 12) bX8_widthOf_0 rfl (by decide)
def dX8_widthOf_8 := dk42 (k := 8) bX8_widthOf_0 rfl
def dX8_widthOf_9 := dk180 (k := 9) (x := 16) bX8_widthOf_0 rfl rfl
def dX8_widthOf_12 := dk27 (k := 12) bX8_widthOf_0 rfl
def dX8_widthOf_13 := dk46 (k := 13) bX8_widthOf_0 rfl
def dX8_widthOf_14 := dk167 (k := 14) (x := 4) bX8_widthOf_0 rfl (by decide)
def dX8_widthOf_17 := dk2 (k := 17) bX8_widthOf_0 rfl
def dX8_widthOf_18 := dk172 (k := 18) bX8_widthOf_0 rfl
theorem bX8_rows_0 : bL cX8_rows 0 [3, 60, 3, 61, 28, 7, 162, 0, 20, 42, 28, 182, 0, 31, 153, 0, 6, 132, 1, 1, 132, 2, 1, 167, 255, 237] := bL_of (by decide +kernel)
def dX8_rows_0 := dk3 (k := 0) bX8_rows_0 rfl
def dX8_rows_1 := dk60 (k := 1) bX8_rows_0 rfl
def dX8_rows_2 := dk3 (k := 2) bX8_rows_0 rfl
def dX8_rows_3 := dk61 (k := 3) bX8_rows_0 rfl
def dX8_rows_4 := dk28 (k := 4) bX8_rows_0 rfl
def dX8_rows_5 := dk7 (k := 5) bX8_rows_0 rfl
def dX8_rows_6 := dk162 (k := 6) (x := 20) bX8_rows_0 rfl (by decide)
def dX8_rows_9 := dk42 (k := 9) bX8_rows_0 rfl
def dX8_rows_10 := dk28 (k := 10) bX8_rows_0 rfl
def dX8_rows_11 := dk182 (k := 11) (x := 31) bX8_rows_0 rfl rfl
def dX8_rows_14 := dk153 (k := 14) (x := 6) bX8_rows_0 rfl (by decide)
theorem dX8_rows_17 : decode cX8_rows 17 = .ok (.iinc 1 1, 3) := dk132 (k := 17) bX8_rows_0 rfl rfl (by decide)
theorem dX8_rows_20 : decode cX8_rows 20 = .ok (.iinc 2 1, 3) := dk132 (k := 20) bX8_rows_0 rfl rfl (by decide)
def dX8_rows_23 := dk167 (k := 23) (x := (-19)) bX8_rows_0 rfl (by decide)
theorem bX8_rows_26 : bL cX8_rows 26 [27, 172] := bL_of (by decide +kernel)
def dX8_rows_26 := dk27 (k := 0) bX8_rows_26 rfl
def dX8_rows_27 := dk172 (k := 1) bX8_rows_26 rfl
theorem bX8_spans_0 : bL cX8_spans 0 [28, 155, 0, 31, 29, 155, 0, 27, 29, 42, 27, 182, 0, 23, 163, 0, 18, 28, 42, 27, 182, 0, 23, 29] := bL_of (by decide +kernel)
def dX8_spans_0 := dk28 (k := 0) bX8_spans_0 rfl
def dX8_spans_1 := dk155 (k := 1) (x := 31) bX8_spans_0 rfl (by decide)
def dX8_spans_4 := dk29 (k := 4) bX8_spans_0 rfl
def dX8_spans_5 := dk155 (k := 5) (x := 27) bX8_spans_0 rfl (by decide)
def dX8_spans_8 := dk29 (k := 8) bX8_spans_0 rfl
def dX8_spans_9 := dk42 (k := 9) bX8_spans_0 rfl
def dX8_spans_10 := dk27 (k := 10) bX8_spans_0 rfl
def dX8_spans_11 := dk182 (k := 11) (x := 23) bX8_spans_0 rfl rfl
def dX8_spans_14 := dk163 (k := 14) (x := 18) bX8_spans_0 rfl (by decide)
def dX8_spans_17 := dk28 (k := 17) bX8_spans_0 rfl
def dX8_spans_18 := dk42 (k := 18) bX8_spans_0 rfl
def dX8_spans_19 := dk27 (k := 19) bX8_spans_0 rfl
def dX8_spans_20 := dk182 (k := 20) (x := 23) bX8_spans_0 rfl rfl
def dX8_spans_23 := dk29 (k := 23) bX8_spans_0 rfl
theorem bX8_spans_24 : bL cX8_spans 24 [100, 163, 0, 7, 4, 167, 0, 4, 3, 172] := bL_of (by decide +kernel)
def dX8_spans_24 := dk100 (k := 0) bX8_spans_24 rfl
def dX8_spans_25 := dk163 (k := 1) (x := 7) bX8_spans_24 rfl (by decide)
def dX8_spans_28 := dk4 (k := 4) bX8_spans_24 rfl
def dX8_spans_29 := dk167 (k := 5) (x := 4) bX8_spans_24 rfl (by decide)
def dX8_spans_32 := dk3 (k := 8) bX8_spans_24 rfl
def dX8_spans_33 := dk172 (k := 9) bX8_spans_24 rfl
theorem bX8_numberAt_0 : bL cX8_numberAt 0 [42, 27, 182, 0, 27, 153, 0, 24, 28, 155, 0, 20, 28, 16, 60, 162, 0, 14, 42, 180, 0, 11, 27, 50] := bL_of (by decide +kernel)
def dX8_numberAt_0 := dk42 (k := 0) bX8_numberAt_0 rfl
def dX8_numberAt_1 := dk27 (k := 1) bX8_numberAt_0 rfl
def dX8_numberAt_2 := dk182 (k := 2) (x := 27) bX8_numberAt_0 rfl rfl
def dX8_numberAt_5 := dk153 (k := 5) (x := 24) bX8_numberAt_0 rfl (by decide)
def dX8_numberAt_8 := dk28 (k := 8) bX8_numberAt_0 rfl
def dX8_numberAt_9 := dk155 (k := 9) (x := 20) bX8_numberAt_0 rfl (by decide)
def dX8_numberAt_12 := dk28 (k := 12) bX8_numberAt_0 rfl
def dX8_numberAt_13 := dk16 (k := 13) (x := 60) bX8_numberAt_0 rfl (by decide)
def dX8_numberAt_15 := dk162 (k := 15) (x := 14) bX8_numberAt_0 rfl (by decide)
def dX8_numberAt_18 := dk42 (k := 18) bX8_numberAt_0 rfl
def dX8_numberAt_19 := dk180 (k := 19) (x := 11) bX8_numberAt_0 rfl rfl
def dX8_numberAt_22 := dk27 (k := 22) bX8_numberAt_0 rfl
def dX8_numberAt_23 := dk50 (k := 23) bX8_numberAt_0 rfl
theorem bX8_numberAt_24 : bL cX8_numberAt 24 [28, 47, 167, 0, 4, 9, 173] := bL_of (by decide +kernel)
def dX8_numberAt_24 := dk28 (k := 0) bX8_numberAt_24 rfl
def dX8_numberAt_25 := dk47 (k := 1) bX8_numberAt_24 rfl
def dX8_numberAt_26 := dk167 (k := 2) (x := 4) bX8_numberAt_24 rfl (by decide)
def dX8_numberAt_29 := dk9 (k := 5) bX8_numberAt_24 rfl
def dX8_numberAt_30 := dk173 (k := 6) bX8_numberAt_24 rfl
theorem bX8_lay_0 : bL cX8_lay 0 [42, 27, 182, 0, 27, 153, 0, 13, 29, 155, 0, 9, 29, 16, 60, 164, 0, 4, 177, 42, 180, 0, 16, 27] := bL_of (by decide +kernel)
def dX8_lay_0 := dk42 (k := 0) bX8_lay_0 rfl
def dX8_lay_1 := dk27 (k := 1) bX8_lay_0 rfl
def dX8_lay_2 := dk182 (k := 2) (x := 27) bX8_lay_0 rfl rfl
def dX8_lay_5 := dk153 (k := 5) (x := 13) bX8_lay_0 rfl (by decide)
def dX8_lay_8 := dk29 (k := 8) bX8_lay_0 rfl
def dX8_lay_9 := dk155 (k := 9) (x := 9) bX8_lay_0 rfl (by decide)
def dX8_lay_12 := dk29 (k := 12) bX8_lay_0 rfl
def dX8_lay_13 := dk16 (k := 13) (x := 60) bX8_lay_0 rfl (by decide)
def dX8_lay_15 := dk164 (k := 15) (x := 4) bX8_lay_0 rfl (by decide)
def dX8_lay_18 := dk177 (k := 18) bX8_lay_0 rfl
def dX8_lay_19 := dk42 (k := 19) bX8_lay_0 rfl
def dX8_lay_20 := dk180 (k := 20) (x := 16) bX8_lay_0 rfl rfl
def dX8_lay_23 := dk27 (k := 23) bX8_lay_0 rfl
theorem bX8_lay_24 : bL cX8_lay 24 [28, 79, 42, 180, 0, 20, 27, 29, 79, 3, 54, 4, 21, 4, 16, 60, 162, 0, 19, 42, 180, 0, 11, 27] := bL_of (by decide +kernel)
def dX8_lay_24 := dk28 (k := 0) bX8_lay_24 rfl
def dX8_lay_25 := dk79 (k := 1) bX8_lay_24 rfl
def dX8_lay_26 := dk42 (k := 2) bX8_lay_24 rfl
def dX8_lay_27 := dk180 (k := 3) (x := 20) bX8_lay_24 rfl rfl
def dX8_lay_30 := dk27 (k := 6) bX8_lay_24 rfl
def dX8_lay_31 := dk29 (k := 7) bX8_lay_24 rfl
def dX8_lay_32 := dk79 (k := 8) bX8_lay_24 rfl
def dX8_lay_33 := dk3 (k := 9) bX8_lay_24 rfl
def dX8_lay_34 := dk54 (k := 10) (x := 4) bX8_lay_24 rfl rfl
def dX8_lay_36 := dk21 (k := 12) (x := 4) bX8_lay_24 rfl rfl
def dX8_lay_38 := dk16 (k := 14) (x := 60) bX8_lay_24 rfl (by decide)
def dX8_lay_40 := dk162 (k := 16) (x := 19) bX8_lay_24 rfl (by decide)
def dX8_lay_43 := dk42 (k := 19) bX8_lay_24 rfl
def dX8_lay_44 := dk180 (k := 20) (x := 11) bX8_lay_24 rfl rfl
def dX8_lay_47 := dk27 (k := 23) bX8_lay_24 rfl
theorem bX8_lay_48 : bL cX8_lay 48 [50, 21, 4, 9, 80, 132, 4, 1, 167, 255, 236, 177] := bL_of (by decide +kernel)
def dX8_lay_48 := dk50 (k := 0) bX8_lay_48 rfl
def dX8_lay_49 := dk21 (k := 1) (x := 4) bX8_lay_48 rfl rfl
def dX8_lay_51 := dk9 (k := 3) bX8_lay_48 rfl
def dX8_lay_52 := dk80 (k := 4) bX8_lay_48 rfl
theorem dX8_lay_53 : decode cX8_lay 53 = .ok (.iinc 4 1, 3) := dk132 (k := 5) bX8_lay_48 rfl rfl (by decide)
def dX8_lay_56 := dk167 (k := 8) (x := (-20)) bX8_lay_48 rfl (by decide)
def dX8_lay_59 := dk177 (k := 11) bX8_lay_48 rfl
theorem bX8_put_0 : bL cX8_put 0 [42, 27, 182, 0, 27, 153, 0, 31, 28, 155, 0, 27, 28, 16, 60, 162, 0, 21, 42, 180, 0, 11, 27, 50] := bL_of (by decide +kernel)
def dX8_put_0 := dk42 (k := 0) bX8_put_0 rfl
def dX8_put_1 := dk27 (k := 1) bX8_put_0 rfl
def dX8_put_2 := dk182 (k := 2) (x := 27) bX8_put_0 rfl rfl
def dX8_put_5 := dk153 (k := 5) (x := 31) bX8_put_0 rfl (by decide)
def dX8_put_8 := dk28 (k := 8) bX8_put_0 rfl
def dX8_put_9 := dk155 (k := 9) (x := 27) bX8_put_0 rfl (by decide)
def dX8_put_12 := dk28 (k := 12) bX8_put_0 rfl
def dX8_put_13 := dk16 (k := 13) (x := 60) bX8_put_0 rfl (by decide)
def dX8_put_15 := dk162 (k := 15) (x := 21) bX8_put_0 rfl (by decide)
def dX8_put_18 := dk42 (k := 18) bX8_put_0 rfl
def dX8_put_19 := dk180 (k := 19) (x := 11) bX8_put_0 rfl rfl
def dX8_put_22 := dk27 (k := 22) bX8_put_0 rfl
def dX8_put_23 := dk50 (k := 23) bX8_put_0 rfl
theorem bX8_put_24 : bL cX8_put 24 [28, 33, 42, 180, 0, 16, 27, 46, 184, 0, 34, 80, 177] := bL_of (by decide +kernel)
def dX8_put_24 := dk28 (k := 0) bX8_put_24 rfl
def dX8_put_25 := dk33 (k := 1) bX8_put_24 rfl
def dX8_put_26 := dk42 (k := 2) bX8_put_24 rfl
def dX8_put_27 := dk180 (k := 3) (x := 16) bX8_put_24 rfl rfl
def dX8_put_30 := dk27 (k := 6) bX8_put_24 rfl
def dX8_put_31 := dk46 (k := 7) bX8_put_24 rfl
def dX8_put_32 := dk184 (k := 8) (x := 34) bX8_put_24 rfl rfl
def dX8_put_35 := dk80 (k := 11) bX8_put_24 rfl
def dX8_put_36 := dk177 (k := 12) bX8_put_24 rfl
theorem bX8_cut_0 : bL cX8_cut 0 [28] := bL_of (by decide +kernel)
def dX8_cut_0 := dk28 (k := 0) bX8_cut_0 rfl
theorem dX8_cut_1 : decode cX8_cut 1 = .ok (.tableswitch 41 0 2 #[27, 32, 37], 27) := by decide +kernel
theorem bX8_cut_28 : bL cX8_cut 28 [30, 136, 145, 133, 173, 30, 136, 147, 133, 173, 30, 136, 133, 173, 30, 173] := bL_of (by decide +kernel)
def dX8_cut_28 := dk30 (k := 0) bX8_cut_28 rfl
def dX8_cut_29 := dk136 (k := 1) bX8_cut_28 rfl
def dX8_cut_30 := dk145 (k := 2) bX8_cut_28 rfl
def dX8_cut_31 := dk133 (k := 3) bX8_cut_28 rfl
def dX8_cut_32 := dk173 (k := 4) bX8_cut_28 rfl
def dX8_cut_33 := dk30 (k := 5) bX8_cut_28 rfl
def dX8_cut_34 := dk136 (k := 6) bX8_cut_28 rfl
def dX8_cut_35 := dk147 (k := 7) bX8_cut_28 rfl
def dX8_cut_36 := dk133 (k := 8) bX8_cut_28 rfl
def dX8_cut_37 := dk173 (k := 9) bX8_cut_28 rfl
def dX8_cut_38 := dk30 (k := 10) bX8_cut_28 rfl
def dX8_cut_39 := dk136 (k := 11) bX8_cut_28 rfl
def dX8_cut_40 := dk133 (k := 12) bX8_cut_28 rfl
def dX8_cut_41 := dk173 (k := 13) bX8_cut_28 rfl
def dX8_cut_42 := dk30 (k := 14) bX8_cut_28 rfl
def dX8_cut_43 := dk173 (k := 15) bX8_cut_28 rfl
theorem bX8_move_0 : bL cX8_move 0 [42, 27, 182, 0, 27, 153, 0, 54, 42, 29, 182, 0, 27, 153, 0, 46, 42, 27, 28, 21, 5, 182, 0, 38] := bL_of (by decide +kernel)
def dX8_move_0 := dk42 (k := 0) bX8_move_0 rfl
def dX8_move_1 := dk27 (k := 1) bX8_move_0 rfl
def dX8_move_2 := dk182 (k := 2) (x := 27) bX8_move_0 rfl rfl
def dX8_move_5 := dk153 (k := 5) (x := 54) bX8_move_0 rfl (by decide)
def dX8_move_8 := dk42 (k := 8) bX8_move_0 rfl
def dX8_move_9 := dk29 (k := 9) bX8_move_0 rfl
def dX8_move_10 := dk182 (k := 10) (x := 27) bX8_move_0 rfl rfl
def dX8_move_13 := dk153 (k := 13) (x := 46) bX8_move_0 rfl (by decide)
def dX8_move_16 := dk42 (k := 16) bX8_move_0 rfl
def dX8_move_17 := dk27 (k := 17) bX8_move_0 rfl
def dX8_move_18 := dk28 (k := 18) bX8_move_0 rfl
def dX8_move_19 := dk21 (k := 19) (x := 5) bX8_move_0 rfl rfl
def dX8_move_21 := dk182 (k := 21) (x := 38) bX8_move_0 rfl rfl
theorem bX8_move_24 : bL cX8_move 24 [153, 0, 35, 42, 29, 21, 4, 21, 5, 182, 0, 38, 153, 0, 23, 42, 180, 0, 11, 27, 50, 28, 42, 180, 0, 11] := bL_of (by decide +kernel)
def dX8_move_24 := dk153 (k := 0) (x := 35) bX8_move_24 rfl (by decide)
def dX8_move_27 := dk42 (k := 3) bX8_move_24 rfl
def dX8_move_28 := dk29 (k := 4) bX8_move_24 rfl
def dX8_move_29 := dk21 (k := 5) (x := 4) bX8_move_24 rfl rfl
def dX8_move_31 := dk21 (k := 7) (x := 5) bX8_move_24 rfl rfl
def dX8_move_33 := dk182 (k := 9) (x := 38) bX8_move_24 rfl rfl
def dX8_move_36 := dk153 (k := 12) (x := 23) bX8_move_24 rfl (by decide)
def dX8_move_39 := dk42 (k := 15) bX8_move_24 rfl
def dX8_move_40 := dk180 (k := 16) (x := 11) bX8_move_24 rfl rfl
def dX8_move_43 := dk27 (k := 19) bX8_move_24 rfl
def dX8_move_44 := dk50 (k := 20) bX8_move_24 rfl
def dX8_move_45 := dk28 (k := 21) bX8_move_24 rfl
def dX8_move_46 := dk42 (k := 22) bX8_move_24 rfl
def dX8_move_47 := dk180 (k := 23) (x := 11) bX8_move_24 rfl rfl
theorem bX8_move_50 : bL cX8_move 50 [29, 50, 21, 4, 21, 5, 184, 0, 42, 177] := bL_of (by decide +kernel)
def dX8_move_50 := dk29 (k := 0) bX8_move_50 rfl
def dX8_move_51 := dk50 (k := 1) bX8_move_50 rfl
def dX8_move_52 := dk21 (k := 2) (x := 4) bX8_move_50 rfl rfl
def dX8_move_54 := dk21 (k := 4) (x := 5) bX8_move_50 rfl rfl
def dX8_move_56 := dk184 (k := 6) (x := 42) bX8_move_50 rfl rfl
def dX8_move_59 := dk177 (k := 9) bX8_move_50 rfl
theorem bX9_init_0 : bL cX9_init 0 [42, 183, 0, 3, 42, 17, 3, 132] := bL_of (by decide +kernel)
def dX9_init_0 := dk42 (k := 0) bX9_init_0 rfl
def dX9_init_1 := dk183 (k := 1) (x := 3) bX9_init_0 rfl rfl
def dX9_init_4 := dk42 (k := 4) bX9_init_0 rfl
def dX9_init_5 := dk17 (k := 5) (x := 900) bX9_init_0 rfl (by decide)
theorem dX9_init_8 : decode cX9_init 8 = .ok (.newarray .byte, 2) := by decide +kernel
theorem bX9_init_10 : bL cX9_init 10 [181, 0, 9, 42, 17, 3, 133] := bL_of (by decide +kernel)
def dX9_init_10 := dk181 (k := 0) (x := 9) bX9_init_10 rfl rfl
def dX9_init_13 := dk42 (k := 3) bX9_init_10 rfl
def dX9_init_14 := dk17 (k := 4) (x := 901) bX9_init_10 rfl (by decide)
theorem dX9_init_17 : decode cX9_init 17 = .ok (.newarray .int, 2) := by decide +kernel
theorem bX9_init_19 : bL cX9_init 19 [181, 0, 15, 42, 17, 3, 133] := bL_of (by decide +kernel)
def dX9_init_19 := dk181 (k := 0) (x := 15) bX9_init_19 rfl rfl
def dX9_init_22 := dk42 (k := 3) bX9_init_19 rfl
def dX9_init_23 := dk17 (k := 4) (x := 901) bX9_init_19 rfl (by decide)
theorem dX9_init_26 : decode cX9_init 26 = .ok (.newarray .int, 2) := by decide +kernel
theorem bX9_init_28 : bL cX9_init 28 [181, 0, 19, 42, 17, 3, 133] := bL_of (by decide +kernel)
def dX9_init_28 := dk181 (k := 0) (x := 19) bX9_init_28 rfl rfl
def dX9_init_31 := dk42 (k := 3) bX9_init_28 rfl
def dX9_init_32 := dk17 (k := 4) (x := 901) bX9_init_28 rfl (by decide)
theorem dX9_init_35 : decode cX9_init 35 = .ok (.newarray .int, 2) := by decide +kernel
theorem bX9_init_37 : bL cX9_init 37 [181, 0, 22, 177] := bL_of (by decide +kernel)
def dX9_init_37 := dk181 (k := 0) (x := 22) bX9_init_37 rfl rfl
def dX9_init_40 := dk177 (k := 3) bX9_init_37 rfl
theorem bX9_hasRoomFor_0 : bL cX9_hasRoomFor 0 [42, 180, 0, 25, 27, 96, 17, 3, 132, 163, 0, 7, 4, 167, 0, 4, 3, 172] := bL_of (by decide +kernel)
def dX9_hasRoomFor_0 := dk42 (k := 0) bX9_hasRoomFor_0 rfl
def dX9_hasRoomFor_1 := dk180 (k := 1) (x := 25) bX9_hasRoomFor_0 rfl rfl
def dX9_hasRoomFor_4 := dk27 (k := 4) bX9_hasRoomFor_0 rfl
def dX9_hasRoomFor_5 := dk96 (k := 5) bX9_hasRoomFor_0 rfl
def dX9_hasRoomFor_6 := dk17 (k := 6) (x := 900) bX9_hasRoomFor_0 rfl (by decide)
def dX9_hasRoomFor_9 := dk163 (k := 9) (x := 7) bX9_hasRoomFor_0 rfl (by decide)
def dX9_hasRoomFor_12 := dk4 (k := 12) bX9_hasRoomFor_0 rfl
def dX9_hasRoomFor_13 := dk167 (k := 13) (x := 4) bX9_hasRoomFor_0 rfl (by decide)
def dX9_hasRoomFor_16 := dk3 (k := 16) bX9_hasRoomFor_0 rfl
def dX9_hasRoomFor_17 := dk172 (k := 17) bX9_hasRoomFor_0 rfl
theorem bX9_addNumber_0 : bL cX9_addNumber 0 [16, 24, 61, 28, 155, 0, 51, 42, 180, 0, 25, 155, 0, 38, 42, 180, 0, 25, 42, 180, 0, 9, 190, 162, 0, 26] := bL_of (by decide +kernel)
def dX9_addNumber_0 := dk16 (k := 0) (x := 24) bX9_addNumber_0 rfl (by decide)
def dX9_addNumber_2 := dk61 (k := 2) bX9_addNumber_0 rfl
def dX9_addNumber_3 := dk28 (k := 3) bX9_addNumber_0 rfl
def dX9_addNumber_4 := dk155 (k := 4) (x := 51) bX9_addNumber_0 rfl (by decide)
def dX9_addNumber_7 := dk42 (k := 7) bX9_addNumber_0 rfl
def dX9_addNumber_8 := dk180 (k := 8) (x := 25) bX9_addNumber_0 rfl rfl
def dX9_addNumber_11 := dk155 (k := 11) (x := 38) bX9_addNumber_0 rfl (by decide)
def dX9_addNumber_14 := dk42 (k := 14) bX9_addNumber_0 rfl
def dX9_addNumber_15 := dk180 (k := 15) (x := 25) bX9_addNumber_0 rfl rfl
def dX9_addNumber_18 := dk42 (k := 18) bX9_addNumber_0 rfl
def dX9_addNumber_19 := dk180 (k := 19) (x := 9) bX9_addNumber_0 rfl rfl
def dX9_addNumber_22 := dk190 (k := 22) bX9_addNumber_0 rfl
def dX9_addNumber_23 := dk162 (k := 23) (x := 26) bX9_addNumber_0 rfl (by decide)
theorem bX9_addNumber_26 : bL cX9_addNumber 26 [42, 180, 0, 9, 42, 180, 0, 25, 27, 28, 122, 145, 84, 42, 89, 180, 0, 25, 4, 96, 181, 0, 25, 132, 2, 248] := bL_of (by decide +kernel)
def dX9_addNumber_26 := dk42 (k := 0) bX9_addNumber_26 rfl
def dX9_addNumber_27 := dk180 (k := 1) (x := 9) bX9_addNumber_26 rfl rfl
def dX9_addNumber_30 := dk42 (k := 4) bX9_addNumber_26 rfl
def dX9_addNumber_31 := dk180 (k := 5) (x := 25) bX9_addNumber_26 rfl rfl
def dX9_addNumber_34 := dk27 (k := 8) bX9_addNumber_26 rfl
def dX9_addNumber_35 := dk28 (k := 9) bX9_addNumber_26 rfl
def dX9_addNumber_36 := dk122 (k := 10) bX9_addNumber_26 rfl
def dX9_addNumber_37 := dk145 (k := 11) bX9_addNumber_26 rfl
def dX9_addNumber_38 := dk84 (k := 12) bX9_addNumber_26 rfl
def dX9_addNumber_39 := dk42 (k := 13) bX9_addNumber_26 rfl
def dX9_addNumber_40 := dk89 (k := 14) bX9_addNumber_26 rfl
def dX9_addNumber_41 := dk180 (k := 15) (x := 25) bX9_addNumber_26 rfl rfl
def dX9_addNumber_44 := dk4 (k := 18) bX9_addNumber_26 rfl
def dX9_addNumber_45 := dk96 (k := 19) bX9_addNumber_26 rfl
def dX9_addNumber_46 := dk181 (k := 20) (x := 25) bX9_addNumber_26 rfl rfl
theorem dX9_addNumber_49 : decode cX9_addNumber 49 = .ok (.iinc 2 (-8), 3) := dk132 (k := 23) bX9_addNumber_26 rfl rfl (by decide)
theorem bX9_addNumber_52 : bL cX9_addNumber 52 [167, 255, 207, 177] := bL_of (by decide +kernel)
def dX9_addNumber_52 := dk167 (k := 0) (x := (-49)) bX9_addNumber_52 rfl (by decide)
def dX9_addNumber_55 := dk177 (k := 3) bX9_addNumber_52 rfl
theorem bX9_byteAt_0 : bL cX9_byteAt 0 [27, 155, 0, 33, 27, 42, 180, 0, 25, 162, 0, 25, 27, 42, 180, 0, 9, 190, 162, 0, 16, 42, 180, 0, 9] := bL_of (by decide +kernel)
def dX9_byteAt_0 := dk27 (k := 0) bX9_byteAt_0 rfl
def dX9_byteAt_1 := dk155 (k := 1) (x := 33) bX9_byteAt_0 rfl (by decide)
def dX9_byteAt_4 := dk27 (k := 4) bX9_byteAt_0 rfl
def dX9_byteAt_5 := dk42 (k := 5) bX9_byteAt_0 rfl
def dX9_byteAt_6 := dk180 (k := 6) (x := 25) bX9_byteAt_0 rfl rfl
def dX9_byteAt_9 := dk162 (k := 9) (x := 25) bX9_byteAt_0 rfl (by decide)
def dX9_byteAt_12 := dk27 (k := 12) bX9_byteAt_0 rfl
def dX9_byteAt_13 := dk42 (k := 13) bX9_byteAt_0 rfl
def dX9_byteAt_14 := dk180 (k := 14) (x := 9) bX9_byteAt_0 rfl rfl
def dX9_byteAt_17 := dk190 (k := 17) bX9_byteAt_0 rfl
def dX9_byteAt_18 := dk162 (k := 18) (x := 16) bX9_byteAt_0 rfl (by decide)
def dX9_byteAt_21 := dk42 (k := 21) bX9_byteAt_0 rfl
def dX9_byteAt_22 := dk180 (k := 22) (x := 9) bX9_byteAt_0 rfl rfl
theorem bX9_byteAt_25 : bL cX9_byteAt 25 [27, 51, 17, 0, 255, 126, 167, 0, 4, 2, 172] := bL_of (by decide +kernel)
def dX9_byteAt_25 := dk27 (k := 0) bX9_byteAt_25 rfl
def dX9_byteAt_26 := dk51 (k := 1) bX9_byteAt_25 rfl
def dX9_byteAt_27 := dk17 (k := 2) (x := 255) bX9_byteAt_25 rfl (by decide)
def dX9_byteAt_30 := dk126 (k := 5) bX9_byteAt_25 rfl
def dX9_byteAt_31 := dk167 (k := 6) (x := 4) bX9_byteAt_25 rfl (by decide)
def dX9_byteAt_34 := dk2 (k := 9) bX9_byteAt_25 rfl
def dX9_byteAt_35 := dk172 (k := 10) bX9_byteAt_25 rfl
theorem bX9_cutTokens_0 : bL cX9_cutTokens 0 [42, 3, 181, 0, 29, 3, 60, 3, 61, 28, 17, 3, 132, 162, 0, 120, 27, 42, 180, 0, 25, 162, 0, 112] := bL_of (by decide +kernel)
def dX9_cutTokens_0 := dk42 (k := 0) bX9_cutTokens_0 rfl
def dX9_cutTokens_1 := dk3 (k := 1) bX9_cutTokens_0 rfl
def dX9_cutTokens_2 := dk181 (k := 2) (x := 29) bX9_cutTokens_0 rfl rfl
def dX9_cutTokens_5 := dk3 (k := 5) bX9_cutTokens_0 rfl
def dX9_cutTokens_6 := dk60 (k := 6) bX9_cutTokens_0 rfl
def dX9_cutTokens_7 := dk3 (k := 7) bX9_cutTokens_0 rfl
def dX9_cutTokens_8 := dk61 (k := 8) bX9_cutTokens_0 rfl
def dX9_cutTokens_9 := dk28 (k := 9) bX9_cutTokens_0 rfl
def dX9_cutTokens_10 := dk17 (k := 10) (x := 900) bX9_cutTokens_0 rfl (by decide)
def dX9_cutTokens_13 := dk162 (k := 13) (x := 120) bX9_cutTokens_0 rfl (by decide)
def dX9_cutTokens_16 := dk27 (k := 16) bX9_cutTokens_0 rfl
def dX9_cutTokens_17 := dk42 (k := 17) bX9_cutTokens_0 rfl
def dX9_cutTokens_18 := dk180 (k := 18) (x := 25) bX9_cutTokens_0 rfl rfl
def dX9_cutTokens_21 := dk162 (k := 21) (x := 112) bX9_cutTokens_0 rfl (by decide)
theorem bX9_cutTokens_24 : bL cX9_cutTokens 24 [42, 27, 182, 0, 32, 62, 27, 4, 96, 54, 4, 29, 184, 0, 36, 153, 0, 26, 42, 27, 182, 0, 40, 54, 4] := bL_of (by decide +kernel)
def dX9_cutTokens_24 := dk42 (k := 0) bX9_cutTokens_24 rfl
def dX9_cutTokens_25 := dk27 (k := 1) bX9_cutTokens_24 rfl
def dX9_cutTokens_26 := dk182 (k := 2) (x := 32) bX9_cutTokens_24 rfl rfl
def dX9_cutTokens_29 := dk62 (k := 5) bX9_cutTokens_24 rfl
def dX9_cutTokens_30 := dk27 (k := 6) bX9_cutTokens_24 rfl
def dX9_cutTokens_31 := dk4 (k := 7) bX9_cutTokens_24 rfl
def dX9_cutTokens_32 := dk96 (k := 8) bX9_cutTokens_24 rfl
def dX9_cutTokens_33 := dk54 (k := 9) (x := 4) bX9_cutTokens_24 rfl rfl
def dX9_cutTokens_35 := dk29 (k := 11) bX9_cutTokens_24 rfl
def dX9_cutTokens_36 := dk184 (k := 12) (x := 36) bX9_cutTokens_24 rfl rfl
def dX9_cutTokens_39 := dk153 (k := 15) (x := 26) bX9_cutTokens_24 rfl (by decide)
def dX9_cutTokens_42 := dk42 (k := 18) bX9_cutTokens_24 rfl
def dX9_cutTokens_43 := dk27 (k := 19) bX9_cutTokens_24 rfl
def dX9_cutTokens_44 := dk182 (k := 20) (x := 40) bX9_cutTokens_24 rfl rfl
def dX9_cutTokens_47 := dk54 (k := 23) (x := 4) bX9_cutTokens_24 rfl rfl
theorem bX9_cutTokens_49 : bL cX9_cutTokens 49 [42, 42, 27, 21, 4, 182, 0, 43, 27, 3, 182, 0, 47, 167, 0, 62, 29, 184, 0, 51, 153, 0, 26, 42] := bL_of (by decide +kernel)
def dX9_cutTokens_49 := dk42 (k := 0) bX9_cutTokens_49 rfl
def dX9_cutTokens_50 := dk42 (k := 1) bX9_cutTokens_49 rfl
def dX9_cutTokens_51 := dk27 (k := 2) bX9_cutTokens_49 rfl
def dX9_cutTokens_52 := dk21 (k := 3) (x := 4) bX9_cutTokens_49 rfl rfl
def dX9_cutTokens_54 := dk182 (k := 5) (x := 43) bX9_cutTokens_49 rfl rfl
def dX9_cutTokens_57 := dk27 (k := 8) bX9_cutTokens_49 rfl
def dX9_cutTokens_58 := dk3 (k := 9) bX9_cutTokens_49 rfl
def dX9_cutTokens_59 := dk182 (k := 10) (x := 47) bX9_cutTokens_49 rfl rfl
def dX9_cutTokens_62 := dk167 (k := 13) (x := 62) bX9_cutTokens_49 rfl (by decide)
def dX9_cutTokens_65 := dk29 (k := 16) bX9_cutTokens_49 rfl
def dX9_cutTokens_66 := dk184 (k := 17) (x := 51) bX9_cutTokens_49 rfl rfl
def dX9_cutTokens_69 := dk153 (k := 20) (x := 26) bX9_cutTokens_49 rfl (by decide)
def dX9_cutTokens_72 := dk42 (k := 23) bX9_cutTokens_49 rfl
theorem bX9_cutTokens_73 : bL cX9_cutTokens 73 [27, 182, 0, 54, 54, 4, 42, 6, 27, 42, 27, 21, 4, 182, 0, 57, 182, 0, 47, 167, 0, 32, 29, 16, 32] := bL_of (by decide +kernel)
def dX9_cutTokens_73 := dk27 (k := 0) bX9_cutTokens_73 rfl
def dX9_cutTokens_74 := dk182 (k := 1) (x := 54) bX9_cutTokens_73 rfl rfl
def dX9_cutTokens_77 := dk54 (k := 4) (x := 4) bX9_cutTokens_73 rfl rfl
def dX9_cutTokens_79 := dk42 (k := 6) bX9_cutTokens_73 rfl
def dX9_cutTokens_80 := dk6 (k := 7) bX9_cutTokens_73 rfl
def dX9_cutTokens_81 := dk27 (k := 8) bX9_cutTokens_73 rfl
def dX9_cutTokens_82 := dk42 (k := 9) bX9_cutTokens_73 rfl
def dX9_cutTokens_83 := dk27 (k := 10) bX9_cutTokens_73 rfl
def dX9_cutTokens_84 := dk21 (k := 11) (x := 4) bX9_cutTokens_73 rfl rfl
def dX9_cutTokens_86 := dk182 (k := 13) (x := 57) bX9_cutTokens_73 rfl rfl
def dX9_cutTokens_89 := dk182 (k := 16) (x := 47) bX9_cutTokens_73 rfl rfl
def dX9_cutTokens_92 := dk167 (k := 19) (x := 32) bX9_cutTokens_73 rfl (by decide)
def dX9_cutTokens_95 := dk29 (k := 22) bX9_cutTokens_73 rfl
def dX9_cutTokens_96 := dk16 (k := 23) (x := 32) bX9_cutTokens_73 rfl (by decide)
theorem bX9_cutTokens_98 : bL cX9_cutTokens 98 [159, 0, 26, 29, 16, 10, 159, 0, 20, 42, 29, 16, 59, 160, 0, 7, 5, 167, 0, 4, 4, 27, 3, 182, 0, 47] := bL_of (by decide +kernel)
def dX9_cutTokens_98 := dk159 (k := 0) (x := 26) bX9_cutTokens_98 rfl (by decide)
def dX9_cutTokens_101 := dk29 (k := 3) bX9_cutTokens_98 rfl
def dX9_cutTokens_102 := dk16 (k := 4) (x := 10) bX9_cutTokens_98 rfl (by decide)
def dX9_cutTokens_104 := dk159 (k := 6) (x := 20) bX9_cutTokens_98 rfl (by decide)
def dX9_cutTokens_107 := dk42 (k := 9) bX9_cutTokens_98 rfl
def dX9_cutTokens_108 := dk29 (k := 10) bX9_cutTokens_98 rfl
def dX9_cutTokens_109 := dk16 (k := 11) (x := 59) bX9_cutTokens_98 rfl (by decide)
def dX9_cutTokens_111 := dk160 (k := 13) (x := 7) bX9_cutTokens_98 rfl (by decide)
def dX9_cutTokens_114 := dk5 (k := 16) bX9_cutTokens_98 rfl
def dX9_cutTokens_115 := dk167 (k := 17) (x := 4) bX9_cutTokens_98 rfl (by decide)
def dX9_cutTokens_118 := dk4 (k := 20) bX9_cutTokens_98 rfl
def dX9_cutTokens_119 := dk27 (k := 21) bX9_cutTokens_98 rfl
def dX9_cutTokens_120 := dk3 (k := 22) bX9_cutTokens_98 rfl
def dX9_cutTokens_121 := dk182 (k := 23) (x := 47) bX9_cutTokens_98 rfl rfl
theorem bX9_cutTokens_124 : bL cX9_cutTokens 124 [21, 4, 60, 132, 2, 1, 167, 255, 135, 42, 3, 42, 180, 0, 25, 3, 182, 0, 47, 177] := bL_of (by decide +kernel)
def dX9_cutTokens_124 := dk21 (k := 0) (x := 4) bX9_cutTokens_124 rfl rfl
def dX9_cutTokens_126 := dk60 (k := 2) bX9_cutTokens_124 rfl
theorem dX9_cutTokens_127 : decode cX9_cutTokens 127 = .ok (.iinc 2 1, 3) := dk132 (k := 3) bX9_cutTokens_124 rfl rfl (by decide)
def dX9_cutTokens_130 := dk167 (k := 6) (x := (-121)) bX9_cutTokens_124 rfl (by decide)
def dX9_cutTokens_133 := dk42 (k := 9) bX9_cutTokens_124 rfl
def dX9_cutTokens_134 := dk3 (k := 10) bX9_cutTokens_124 rfl
def dX9_cutTokens_135 := dk42 (k := 11) bX9_cutTokens_124 rfl
def dX9_cutTokens_136 := dk180 (k := 12) (x := 25) bX9_cutTokens_124 rfl rfl
def dX9_cutTokens_139 := dk3 (k := 15) bX9_cutTokens_124 rfl
def dX9_cutTokens_140 := dk182 (k := 16) (x := 47) bX9_cutTokens_124 rfl rfl
def dX9_cutTokens_143 := dk177 (k := 19) bX9_cutTokens_124 rfl
theorem bX9_addToken_0 : bL cX9_addToken 0 [42, 180, 0, 29, 155, 0, 55, 42, 180, 0, 29, 42, 180, 0, 15, 190, 162, 0, 43, 42, 180, 0, 15, 42] := bL_of (by decide +kernel)
def dX9_addToken_0 := dk42 (k := 0) bX9_addToken_0 rfl
def dX9_addToken_1 := dk180 (k := 1) (x := 29) bX9_addToken_0 rfl rfl
def dX9_addToken_4 := dk155 (k := 4) (x := 55) bX9_addToken_0 rfl (by decide)
def dX9_addToken_7 := dk42 (k := 7) bX9_addToken_0 rfl
def dX9_addToken_8 := dk180 (k := 8) (x := 29) bX9_addToken_0 rfl rfl
def dX9_addToken_11 := dk42 (k := 11) bX9_addToken_0 rfl
def dX9_addToken_12 := dk180 (k := 12) (x := 15) bX9_addToken_0 rfl rfl
def dX9_addToken_15 := dk190 (k := 15) bX9_addToken_0 rfl
def dX9_addToken_16 := dk162 (k := 16) (x := 43) bX9_addToken_0 rfl (by decide)
def dX9_addToken_19 := dk42 (k := 19) bX9_addToken_0 rfl
def dX9_addToken_20 := dk180 (k := 20) (x := 15) bX9_addToken_0 rfl rfl
def dX9_addToken_23 := dk42 (k := 23) bX9_addToken_0 rfl
theorem bX9_addToken_24 : bL cX9_addToken 24 [180, 0, 29, 27, 79, 42, 180, 0, 19, 42, 180, 0, 29, 28, 79, 42, 180, 0, 22, 42, 180, 0, 29, 29] := bL_of (by decide +kernel)
def dX9_addToken_24 := dk180 (k := 0) (x := 29) bX9_addToken_24 rfl rfl
def dX9_addToken_27 := dk27 (k := 3) bX9_addToken_24 rfl
def dX9_addToken_28 := dk79 (k := 4) bX9_addToken_24 rfl
def dX9_addToken_29 := dk42 (k := 5) bX9_addToken_24 rfl
def dX9_addToken_30 := dk180 (k := 6) (x := 19) bX9_addToken_24 rfl rfl
def dX9_addToken_33 := dk42 (k := 9) bX9_addToken_24 rfl
def dX9_addToken_34 := dk180 (k := 10) (x := 29) bX9_addToken_24 rfl rfl
def dX9_addToken_37 := dk28 (k := 13) bX9_addToken_24 rfl
def dX9_addToken_38 := dk79 (k := 14) bX9_addToken_24 rfl
def dX9_addToken_39 := dk42 (k := 15) bX9_addToken_24 rfl
def dX9_addToken_40 := dk180 (k := 16) (x := 22) bX9_addToken_24 rfl rfl
def dX9_addToken_43 := dk42 (k := 19) bX9_addToken_24 rfl
def dX9_addToken_44 := dk180 (k := 20) (x := 29) bX9_addToken_24 rfl rfl
def dX9_addToken_47 := dk29 (k := 23) bX9_addToken_24 rfl
theorem bX9_addToken_48 : bL cX9_addToken 48 [79, 42, 89, 180, 0, 29, 4, 96, 181, 0, 29, 177] := bL_of (by decide +kernel)
def dX9_addToken_48 := dk79 (k := 0) bX9_addToken_48 rfl
def dX9_addToken_49 := dk42 (k := 1) bX9_addToken_48 rfl
def dX9_addToken_50 := dk89 (k := 2) bX9_addToken_48 rfl
def dX9_addToken_51 := dk180 (k := 3) (x := 29) bX9_addToken_48 rfl rfl
def dX9_addToken_54 := dk4 (k := 6) bX9_addToken_48 rfl
def dX9_addToken_55 := dk96 (k := 7) bX9_addToken_48 rfl
def dX9_addToken_56 := dk181 (k := 8) (x := 29) bX9_addToken_48 rfl rfl
def dX9_addToken_59 := dk177 (k := 11) bX9_addToken_48 rfl
theorem bX9_wordEnd_0 : bL cX9_wordEnd 0 [27, 61, 3, 62, 29, 17, 3, 132, 162, 0, 23, 42, 28, 182, 0, 32, 184, 0, 36, 153, 0, 12, 132, 2, 1] := bL_of (by decide +kernel)
def dX9_wordEnd_0 := dk27 (k := 0) bX9_wordEnd_0 rfl
def dX9_wordEnd_1 := dk61 (k := 1) bX9_wordEnd_0 rfl
def dX9_wordEnd_2 := dk3 (k := 2) bX9_wordEnd_0 rfl
def dX9_wordEnd_3 := dk62 (k := 3) bX9_wordEnd_0 rfl
def dX9_wordEnd_4 := dk29 (k := 4) bX9_wordEnd_0 rfl
def dX9_wordEnd_5 := dk17 (k := 5) (x := 900) bX9_wordEnd_0 rfl (by decide)
def dX9_wordEnd_8 := dk162 (k := 8) (x := 23) bX9_wordEnd_0 rfl (by decide)
def dX9_wordEnd_11 := dk42 (k := 11) bX9_wordEnd_0 rfl
def dX9_wordEnd_12 := dk28 (k := 12) bX9_wordEnd_0 rfl
def dX9_wordEnd_13 := dk182 (k := 13) (x := 32) bX9_wordEnd_0 rfl rfl
def dX9_wordEnd_16 := dk184 (k := 16) (x := 36) bX9_wordEnd_0 rfl rfl
def dX9_wordEnd_19 := dk153 (k := 19) (x := 12) bX9_wordEnd_0 rfl (by decide)
theorem dX9_wordEnd_22 : decode cX9_wordEnd 22 = .ok (.iinc 2 1, 3) := dk132 (k := 22) bX9_wordEnd_0 rfl rfl (by decide)
theorem bX9_wordEnd_25 : bL cX9_wordEnd 25 [132, 3, 1, 167, 255, 232, 28, 172] := bL_of (by decide +kernel)
theorem dX9_wordEnd_25 : decode cX9_wordEnd 25 = .ok (.iinc 3 1, 3) := dk132 (k := 0) bX9_wordEnd_25 rfl rfl (by decide)
def dX9_wordEnd_28 := dk167 (k := 3) (x := (-24)) bX9_wordEnd_25 rfl (by decide)
def dX9_wordEnd_31 := dk28 (k := 6) bX9_wordEnd_25 rfl
def dX9_wordEnd_32 := dk172 (k := 7) bX9_wordEnd_25 rfl
theorem bX9_numberEnd_0 : bL cX9_numberEnd 0 [27, 61, 3, 62, 29, 17, 3, 132, 162, 0, 23, 42, 28, 182, 0, 32, 184, 0, 51, 153, 0, 12, 132, 2, 1] := bL_of (by decide +kernel)
def dX9_numberEnd_0 := dk27 (k := 0) bX9_numberEnd_0 rfl
def dX9_numberEnd_1 := dk61 (k := 1) bX9_numberEnd_0 rfl
def dX9_numberEnd_2 := dk3 (k := 2) bX9_numberEnd_0 rfl
def dX9_numberEnd_3 := dk62 (k := 3) bX9_numberEnd_0 rfl
def dX9_numberEnd_4 := dk29 (k := 4) bX9_numberEnd_0 rfl
def dX9_numberEnd_5 := dk17 (k := 5) (x := 900) bX9_numberEnd_0 rfl (by decide)
def dX9_numberEnd_8 := dk162 (k := 8) (x := 23) bX9_numberEnd_0 rfl (by decide)
def dX9_numberEnd_11 := dk42 (k := 11) bX9_numberEnd_0 rfl
def dX9_numberEnd_12 := dk28 (k := 12) bX9_numberEnd_0 rfl
def dX9_numberEnd_13 := dk182 (k := 13) (x := 32) bX9_numberEnd_0 rfl rfl
def dX9_numberEnd_16 := dk184 (k := 16) (x := 51) bX9_numberEnd_0 rfl rfl
def dX9_numberEnd_19 := dk153 (k := 19) (x := 12) bX9_numberEnd_0 rfl (by decide)
theorem dX9_numberEnd_22 : decode cX9_numberEnd 22 = .ok (.iinc 2 1, 3) := dk132 (k := 22) bX9_numberEnd_0 rfl rfl (by decide)
theorem bX9_numberEnd_25 : bL cX9_numberEnd 25 [132, 3, 1, 167, 255, 232, 28, 172] := bL_of (by decide +kernel)
theorem dX9_numberEnd_25 : decode cX9_numberEnd 25 = .ok (.iinc 3 1, 3) := dk132 (k := 0) bX9_numberEnd_25 rfl rfl (by decide)
def dX9_numberEnd_28 := dk167 (k := 3) (x := (-24)) bX9_numberEnd_25 rfl (by decide)
def dX9_numberEnd_31 := dk28 (k := 6) bX9_numberEnd_25 rfl
def dX9_numberEnd_32 := dk172 (k := 7) bX9_numberEnd_25 rfl
theorem bX9_numberOf_0 : bL cX9_numberOf 0 [3, 62, 27, 54, 4, 21, 4, 28, 162, 0, 30, 29, 18, 60, 162, 0, 18, 29, 16, 10, 104, 42, 21, 4] := bL_of (by decide +kernel)
def dX9_numberOf_0 := dk3 (k := 0) bX9_numberOf_0 rfl
def dX9_numberOf_1 := dk62 (k := 1) bX9_numberOf_0 rfl
def dX9_numberOf_2 := dk27 (k := 2) bX9_numberOf_0 rfl
def dX9_numberOf_3 := dk54 (k := 3) (x := 4) bX9_numberOf_0 rfl rfl
def dX9_numberOf_5 := dk21 (k := 5) (x := 4) bX9_numberOf_0 rfl rfl
def dX9_numberOf_7 := dk28 (k := 7) bX9_numberOf_0 rfl
def dX9_numberOf_8 := dk162 (k := 8) (x := 30) bX9_numberOf_0 rfl (by decide)
def dX9_numberOf_11 := dk29 (k := 11) bX9_numberOf_0 rfl
def dX9_numberOf_12 := dk18 (k := 12) (x := 60) bX9_numberOf_0 rfl rfl
def dX9_numberOf_14 := dk162 (k := 14) (x := 18) bX9_numberOf_0 rfl (by decide)
def dX9_numberOf_17 := dk29 (k := 17) bX9_numberOf_0 rfl
def dX9_numberOf_18 := dk16 (k := 18) (x := 10) bX9_numberOf_0 rfl (by decide)
def dX9_numberOf_20 := dk104 (k := 20) bX9_numberOf_0 rfl
def dX9_numberOf_21 := dk42 (k := 21) bX9_numberOf_0 rfl
def dX9_numberOf_22 := dk21 (k := 22) (x := 4) bX9_numberOf_0 rfl rfl
theorem bX9_numberOf_24 : bL cX9_numberOf 24 [182, 0, 32, 96, 16, 48, 100, 62, 132, 4, 1, 167, 255, 226, 29, 172] := bL_of (by decide +kernel)
def dX9_numberOf_24 := dk182 (k := 0) (x := 32) bX9_numberOf_24 rfl rfl
def dX9_numberOf_27 := dk96 (k := 3) bX9_numberOf_24 rfl
def dX9_numberOf_28 := dk16 (k := 4) (x := 48) bX9_numberOf_24 rfl (by decide)
def dX9_numberOf_30 := dk100 (k := 6) bX9_numberOf_24 rfl
def dX9_numberOf_31 := dk62 (k := 7) bX9_numberOf_24 rfl
theorem dX9_numberOf_32 : decode cX9_numberOf 32 = .ok (.iinc 4 1, 3) := dk132 (k := 8) bX9_numberOf_24 rfl rfl (by decide)
def dX9_numberOf_35 := dk167 (k := 11) (x := (-30)) bX9_numberOf_24 rfl (by decide)
def dX9_numberOf_38 := dk29 (k := 14) bX9_numberOf_24 rfl
def dX9_numberOf_39 := dk172 (k := 15) bX9_numberOf_24 rfl
theorem bX9_wordKind_0 : bL cX9_wordKind 0 [7, 62, 29, 16, 16, 163, 0, 24, 42, 27, 28, 29, 184, 0, 61, 182, 0, 65, 153, 0, 5, 29, 172, 132, 3, 1] := bL_of (by decide +kernel)
def dX9_wordKind_0 := dk7 (k := 0) bX9_wordKind_0 rfl
def dX9_wordKind_1 := dk62 (k := 1) bX9_wordKind_0 rfl
def dX9_wordKind_2 := dk29 (k := 2) bX9_wordKind_0 rfl
def dX9_wordKind_3 := dk16 (k := 3) (x := 16) bX9_wordKind_0 rfl (by decide)
def dX9_wordKind_5 := dk163 (k := 5) (x := 24) bX9_wordKind_0 rfl (by decide)
def dX9_wordKind_8 := dk42 (k := 8) bX9_wordKind_0 rfl
def dX9_wordKind_9 := dk27 (k := 9) bX9_wordKind_0 rfl
def dX9_wordKind_10 := dk28 (k := 10) bX9_wordKind_0 rfl
def dX9_wordKind_11 := dk29 (k := 11) bX9_wordKind_0 rfl
def dX9_wordKind_12 := dk184 (k := 12) (x := 61) bX9_wordKind_0 rfl rfl
def dX9_wordKind_15 := dk182 (k := 15) (x := 65) bX9_wordKind_0 rfl rfl
def dX9_wordKind_18 := dk153 (k := 18) (x := 5) bX9_wordKind_0 rfl (by decide)
def dX9_wordKind_21 := dk29 (k := 21) bX9_wordKind_0 rfl
def dX9_wordKind_22 := dk172 (k := 22) bX9_wordKind_0 rfl
theorem dX9_wordKind_23 : decode cX9_wordKind 23 = .ok (.iinc 3 1, 3) := dk132 (k := 23) bX9_wordKind_0 rfl rfl (by decide)
theorem bX9_wordKind_26 : bL cX9_wordKind 26 [167, 255, 232, 4, 172] := bL_of (by decide +kernel)
def dX9_wordKind_26 := dk167 (k := 0) (x := (-24)) bX9_wordKind_26 rfl (by decide)
def dX9_wordKind_29 := dk4 (k := 3) bX9_wordKind_26 rfl
def dX9_wordKind_30 := dk172 (k := 4) bX9_wordKind_26 rfl
theorem bX9_isText_0 : bL cX9_isText 0 [28, 27, 100, 45, 182, 0, 69, 159, 0, 5, 3, 172, 3, 54, 4, 21, 4, 45, 182, 0, 69, 162, 0, 28] := bL_of (by decide +kernel)
def dX9_isText_0 := dk28 (k := 0) bX9_isText_0 rfl
def dX9_isText_1 := dk27 (k := 1) bX9_isText_0 rfl
def dX9_isText_2 := dk100 (k := 2) bX9_isText_0 rfl
def dX9_isText_3 := dk45 (k := 3) bX9_isText_0 rfl
def dX9_isText_4 := dk182 (k := 4) (x := 69) bX9_isText_0 rfl rfl
def dX9_isText_7 := dk159 (k := 7) (x := 5) bX9_isText_0 rfl (by decide)
def dX9_isText_10 := dk3 (k := 10) bX9_isText_0 rfl
def dX9_isText_11 := dk172 (k := 11) bX9_isText_0 rfl
def dX9_isText_12 := dk3 (k := 12) bX9_isText_0 rfl
def dX9_isText_13 := dk54 (k := 13) (x := 4) bX9_isText_0 rfl rfl
def dX9_isText_15 := dk21 (k := 15) (x := 4) bX9_isText_0 rfl rfl
def dX9_isText_17 := dk45 (k := 17) bX9_isText_0 rfl
def dX9_isText_18 := dk182 (k := 18) (x := 69) bX9_isText_0 rfl rfl
def dX9_isText_21 := dk162 (k := 21) (x := 28) bX9_isText_0 rfl (by decide)
theorem bX9_isText_24 : bL cX9_isText 24 [42, 27, 21, 4, 96, 182, 0, 32, 45, 21, 4, 182, 0, 75, 159, 0, 5, 3, 172, 132, 4, 1, 167, 255, 225] := bL_of (by decide +kernel)
def dX9_isText_24 := dk42 (k := 0) bX9_isText_24 rfl
def dX9_isText_25 := dk27 (k := 1) bX9_isText_24 rfl
def dX9_isText_26 := dk21 (k := 2) (x := 4) bX9_isText_24 rfl rfl
def dX9_isText_28 := dk96 (k := 4) bX9_isText_24 rfl
def dX9_isText_29 := dk182 (k := 5) (x := 32) bX9_isText_24 rfl rfl
def dX9_isText_32 := dk45 (k := 8) bX9_isText_24 rfl
def dX9_isText_33 := dk21 (k := 9) (x := 4) bX9_isText_24 rfl rfl
def dX9_isText_35 := dk182 (k := 11) (x := 75) bX9_isText_24 rfl rfl
def dX9_isText_38 := dk159 (k := 14) (x := 5) bX9_isText_24 rfl (by decide)
def dX9_isText_41 := dk3 (k := 17) bX9_isText_24 rfl
def dX9_isText_42 := dk172 (k := 18) bX9_isText_24 rfl
theorem dX9_isText_43 : decode cX9_isText 43 = .ok (.iinc 4 1, 3) := dk132 (k := 19) bX9_isText_24 rfl rfl (by decide)
def dX9_isText_46 := dk167 (k := 22) (x := (-31)) bX9_isText_24 rfl (by decide)
theorem bX9_isText_49 : bL cX9_isText 49 [4, 172] := bL_of (by decide +kernel)
def dX9_isText_49 := dk4 (k := 0) bX9_isText_49 rfl
def dX9_isText_50 := dk172 (k := 1) bX9_isText_49 rfl
theorem bX9_textOf_0 : bL cX9_textOf 0 [26] := bL_of (by decide +kernel)
def dX9_textOf_0 := dk26 (k := 0) bX9_textOf_0 rfl
theorem dX9_textOf_1 : decode cX9_textOf 1 = .ok (.tableswitch 99 4 15 #[63, 66, 69, 72, 75, 78, 81, 84, 87, 90, 93, 96], 63) := by decide +kernel
theorem bX9_textOf_64 : bL cX9_textOf 64 [18, 79, 176, 18, 81, 176, 18, 83, 176, 18, 85, 176, 18, 87, 176, 18, 89, 176, 18, 91, 176, 18, 93, 176] := bL_of (by decide +kernel)
def dX9_textOf_64 := dk18 (k := 0) (x := 79) bX9_textOf_64 rfl rfl
def dX9_textOf_66 := dk176 (k := 2) bX9_textOf_64 rfl
def dX9_textOf_67 := dk18 (k := 3) (x := 81) bX9_textOf_64 rfl rfl
def dX9_textOf_69 := dk176 (k := 5) bX9_textOf_64 rfl
def dX9_textOf_70 := dk18 (k := 6) (x := 83) bX9_textOf_64 rfl rfl
def dX9_textOf_72 := dk176 (k := 8) bX9_textOf_64 rfl
def dX9_textOf_73 := dk18 (k := 9) (x := 85) bX9_textOf_64 rfl rfl
def dX9_textOf_75 := dk176 (k := 11) bX9_textOf_64 rfl
def dX9_textOf_76 := dk18 (k := 12) (x := 87) bX9_textOf_64 rfl rfl
def dX9_textOf_78 := dk176 (k := 14) bX9_textOf_64 rfl
def dX9_textOf_79 := dk18 (k := 15) (x := 89) bX9_textOf_64 rfl rfl
def dX9_textOf_81 := dk176 (k := 17) bX9_textOf_64 rfl
def dX9_textOf_82 := dk18 (k := 18) (x := 91) bX9_textOf_64 rfl rfl
def dX9_textOf_84 := dk176 (k := 20) bX9_textOf_64 rfl
def dX9_textOf_85 := dk18 (k := 21) (x := 93) bX9_textOf_64 rfl rfl
def dX9_textOf_87 := dk176 (k := 23) bX9_textOf_64 rfl
theorem bX9_textOf_88 : bL cX9_textOf 88 [18, 95, 176, 18, 97, 176, 18, 99, 176, 18, 101, 176, 18, 103, 176] := bL_of (by decide +kernel)
def dX9_textOf_88 := dk18 (k := 0) (x := 95) bX9_textOf_88 rfl rfl
def dX9_textOf_90 := dk176 (k := 2) bX9_textOf_88 rfl
def dX9_textOf_91 := dk18 (k := 3) (x := 97) bX9_textOf_88 rfl rfl
def dX9_textOf_93 := dk176 (k := 5) bX9_textOf_88 rfl
def dX9_textOf_94 := dk18 (k := 6) (x := 99) bX9_textOf_88 rfl rfl
def dX9_textOf_96 := dk176 (k := 8) bX9_textOf_88 rfl
def dX9_textOf_97 := dk18 (k := 9) (x := 101) bX9_textOf_88 rfl rfl
def dX9_textOf_99 := dk176 (k := 11) bX9_textOf_88 rfl
def dX9_textOf_100 := dk18 (k := 12) (x := 103) bX9_textOf_88 rfl rfl
def dX9_textOf_102 := dk176 (k := 14) bX9_textOf_88 rfl
theorem bX9_isLetter_0 : bL cX9_isLetter 0 [26, 16, 97, 161, 0, 13, 26, 16, 122, 163, 0, 7, 4, 167, 0, 4, 3, 172] := bL_of (by decide +kernel)
def dX9_isLetter_0 := dk26 (k := 0) bX9_isLetter_0 rfl
def dX9_isLetter_1 := dk16 (k := 1) (x := 97) bX9_isLetter_0 rfl (by decide)
def dX9_isLetter_3 := dk161 (k := 3) (x := 13) bX9_isLetter_0 rfl (by decide)
def dX9_isLetter_6 := dk26 (k := 6) bX9_isLetter_0 rfl
def dX9_isLetter_7 := dk16 (k := 7) (x := 122) bX9_isLetter_0 rfl (by decide)
def dX9_isLetter_9 := dk163 (k := 9) (x := 7) bX9_isLetter_0 rfl (by decide)
def dX9_isLetter_12 := dk4 (k := 12) bX9_isLetter_0 rfl
def dX9_isLetter_13 := dk167 (k := 13) (x := 4) bX9_isLetter_0 rfl (by decide)
def dX9_isLetter_16 := dk3 (k := 16) bX9_isLetter_0 rfl
def dX9_isLetter_17 := dk172 (k := 17) bX9_isLetter_0 rfl
theorem bX9_isDigit_0 : bL cX9_isDigit 0 [26, 16, 48, 161, 0, 13, 26, 16, 57, 163, 0, 7, 4, 167, 0, 4, 3, 172] := bL_of (by decide +kernel)
def dX9_isDigit_0 := dk26 (k := 0) bX9_isDigit_0 rfl
def dX9_isDigit_1 := dk16 (k := 1) (x := 48) bX9_isDigit_0 rfl (by decide)
def dX9_isDigit_3 := dk161 (k := 3) (x := 13) bX9_isDigit_0 rfl (by decide)
def dX9_isDigit_6 := dk26 (k := 6) bX9_isDigit_0 rfl
def dX9_isDigit_7 := dk16 (k := 7) (x := 57) bX9_isDigit_0 rfl (by decide)
def dX9_isDigit_9 := dk163 (k := 9) (x := 7) bX9_isDigit_0 rfl (by decide)
def dX9_isDigit_12 := dk4 (k := 12) bX9_isDigit_0 rfl
def dX9_isDigit_13 := dk167 (k := 13) (x := 4) bX9_isDigit_0 rfl (by decide)
def dX9_isDigit_16 := dk3 (k := 16) bX9_isDigit_0 rfl
def dX9_isDigit_17 := dk172 (k := 17) bX9_isDigit_0 rfl
theorem bX10_init_0 : bL cX10_init 0 [42, 183, 0, 3, 42, 16, 11] := bL_of (by decide +kernel)
def dX10_init_0 := dk42 (k := 0) bX10_init_0 rfl
def dX10_init_1 := dk183 (k := 1) (x := 3) bX10_init_0 rfl rfl
def dX10_init_4 := dk42 (k := 4) bX10_init_0 rfl
def dX10_init_5 := dk16 (k := 5) (x := 11) bX10_init_0 rfl (by decide)
theorem dX10_init_7 : decode cX10_init 7 = .ok (.newarray .int, 2) := by decide +kernel
theorem bX10_init_9 : bL cX10_init 9 [181, 0, 9, 42, 43, 181, 0, 15, 177] := bL_of (by decide +kernel)
def dX10_init_9 := dk181 (k := 0) (x := 9) bX10_init_9 rfl rfl
def dX10_init_12 := dk42 (k := 3) bX10_init_9 rfl
def dX10_init_13 := dk43 (k := 4) bX10_init_9 rfl
def dX10_init_14 := dk181 (k := 5) (x := 15) bX10_init_9 rfl rfl
def dX10_init_17 := dk177 (k := 8) bX10_init_9 rfl
theorem bX10_gatherNames_0 : bL cX10_gatherNames 0 [42, 180, 0, 15, 180, 0, 19, 42, 180, 0, 15, 180, 0, 25, 2, 182, 0, 29, 60, 3, 61, 28, 16, 10] := bL_of (by decide +kernel)
def dX10_gatherNames_0 := dk42 (k := 0) bX10_gatherNames_0 rfl
def dX10_gatherNames_1 := dk180 (k := 1) (x := 15) bX10_gatherNames_0 rfl rfl
def dX10_gatherNames_4 := dk180 (k := 4) (x := 19) bX10_gatherNames_0 rfl rfl
def dX10_gatherNames_7 := dk42 (k := 7) bX10_gatherNames_0 rfl
def dX10_gatherNames_8 := dk180 (k := 8) (x := 15) bX10_gatherNames_0 rfl rfl
def dX10_gatherNames_11 := dk180 (k := 11) (x := 25) bX10_gatherNames_0 rfl rfl
def dX10_gatherNames_14 := dk2 (k := 14) bX10_gatherNames_0 rfl
def dX10_gatherNames_15 := dk182 (k := 15) (x := 29) bX10_gatherNames_0 rfl rfl
def dX10_gatherNames_18 := dk60 (k := 18) bX10_gatherNames_0 rfl
def dX10_gatherNames_19 := dk3 (k := 19) bX10_gatherNames_0 rfl
def dX10_gatherNames_20 := dk61 (k := 20) bX10_gatherNames_0 rfl
def dX10_gatherNames_21 := dk28 (k := 21) bX10_gatherNames_0 rfl
def dX10_gatherNames_22 := dk16 (k := 22) (x := 10) bX10_gatherNames_0 rfl (by decide)
theorem bX10_gatherNames_24 : bL cX10_gatherNames 24 [162, 0, 94, 3, 62, 3, 54, 4, 21, 4, 42, 180, 0, 15, 180, 0, 19, 180, 0, 35, 162, 0, 52, 27] := bL_of (by decide +kernel)
def dX10_gatherNames_24 := dk162 (k := 0) (x := 94) bX10_gatherNames_24 rfl (by decide)
def dX10_gatherNames_27 := dk3 (k := 3) bX10_gatherNames_24 rfl
def dX10_gatherNames_28 := dk62 (k := 4) bX10_gatherNames_24 rfl
def dX10_gatherNames_29 := dk3 (k := 5) bX10_gatherNames_24 rfl
def dX10_gatherNames_30 := dk54 (k := 6) (x := 4) bX10_gatherNames_24 rfl rfl
def dX10_gatherNames_32 := dk21 (k := 8) (x := 4) bX10_gatherNames_24 rfl rfl
def dX10_gatherNames_34 := dk42 (k := 10) bX10_gatherNames_24 rfl
def dX10_gatherNames_35 := dk180 (k := 11) (x := 15) bX10_gatherNames_24 rfl rfl
def dX10_gatherNames_38 := dk180 (k := 14) (x := 19) bX10_gatherNames_24 rfl rfl
def dX10_gatherNames_41 := dk180 (k := 17) (x := 35) bX10_gatherNames_24 rfl rfl
def dX10_gatherNames_44 := dk162 (k := 20) (x := 52) bX10_gatherNames_24 rfl (by decide)
def dX10_gatherNames_47 := dk27 (k := 23) bX10_gatherNames_24 rfl
theorem bX10_gatherNames_48 : bL cX10_gatherNames 48 [21, 4, 122, 4, 126, 4, 160, 0, 36, 42, 180, 0, 15, 180, 0, 19, 21, 4, 3, 182, 0, 39, 28, 160, 0, 19] := bL_of (by decide +kernel)
def dX10_gatherNames_48 := dk21 (k := 0) (x := 4) bX10_gatherNames_48 rfl rfl
def dX10_gatherNames_50 := dk122 (k := 2) bX10_gatherNames_48 rfl
def dX10_gatherNames_51 := dk4 (k := 3) bX10_gatherNames_48 rfl
def dX10_gatherNames_52 := dk126 (k := 4) bX10_gatherNames_48 rfl
def dX10_gatherNames_53 := dk4 (k := 5) bX10_gatherNames_48 rfl
def dX10_gatherNames_54 := dk160 (k := 6) (x := 36) bX10_gatherNames_48 rfl (by decide)
def dX10_gatherNames_57 := dk42 (k := 9) bX10_gatherNames_48 rfl
def dX10_gatherNames_58 := dk180 (k := 10) (x := 15) bX10_gatherNames_48 rfl rfl
def dX10_gatherNames_61 := dk180 (k := 13) (x := 19) bX10_gatherNames_48 rfl rfl
def dX10_gatherNames_64 := dk21 (k := 16) (x := 4) bX10_gatherNames_48 rfl rfl
def dX10_gatherNames_66 := dk3 (k := 18) bX10_gatherNames_48 rfl
def dX10_gatherNames_67 := dk182 (k := 19) (x := 39) bX10_gatherNames_48 rfl rfl
def dX10_gatherNames_70 := dk28 (k := 22) bX10_gatherNames_48 rfl
def dX10_gatherNames_71 := dk160 (k := 23) (x := 19) bX10_gatherNames_48 rfl (by decide)
theorem bX10_gatherNames_74 : bL cX10_gatherNames 74 [29, 42, 180, 0, 15, 180, 0, 19, 21, 4, 4, 182, 0, 39, 96, 62, 132, 4, 1, 167, 255, 195, 42, 180, 0, 9] := bL_of (by decide +kernel)
def dX10_gatherNames_74 := dk29 (k := 0) bX10_gatherNames_74 rfl
def dX10_gatherNames_75 := dk42 (k := 1) bX10_gatherNames_74 rfl
def dX10_gatherNames_76 := dk180 (k := 2) (x := 15) bX10_gatherNames_74 rfl rfl
def dX10_gatherNames_79 := dk180 (k := 5) (x := 19) bX10_gatherNames_74 rfl rfl
def dX10_gatherNames_82 := dk21 (k := 8) (x := 4) bX10_gatherNames_74 rfl rfl
def dX10_gatherNames_84 := dk4 (k := 10) bX10_gatherNames_74 rfl
def dX10_gatherNames_85 := dk182 (k := 11) (x := 39) bX10_gatherNames_74 rfl rfl
def dX10_gatherNames_88 := dk96 (k := 14) bX10_gatherNames_74 rfl
def dX10_gatherNames_89 := dk62 (k := 15) bX10_gatherNames_74 rfl
theorem dX10_gatherNames_90 : decode cX10_gatherNames 90 = .ok (.iinc 4 1, 3) := dk132 (k := 16) bX10_gatherNames_74 rfl rfl (by decide)
def dX10_gatherNames_93 := dk167 (k := 19) (x := (-61)) bX10_gatherNames_74 rfl (by decide)
def dX10_gatherNames_96 := dk42 (k := 22) bX10_gatherNames_74 rfl
def dX10_gatherNames_97 := dk180 (k := 23) (x := 9) bX10_gatherNames_74 rfl rfl
theorem bX10_gatherNames_100 : bL cX10_gatherNames 100 [28, 4, 96, 42, 180, 0, 9, 28, 46, 29, 96, 79, 132, 2, 1, 167, 255, 162, 177] := bL_of (by decide +kernel)
def dX10_gatherNames_100 := dk28 (k := 0) bX10_gatherNames_100 rfl
def dX10_gatherNames_101 := dk4 (k := 1) bX10_gatherNames_100 rfl
def dX10_gatherNames_102 := dk96 (k := 2) bX10_gatherNames_100 rfl
def dX10_gatherNames_103 := dk42 (k := 3) bX10_gatherNames_100 rfl
def dX10_gatherNames_104 := dk180 (k := 4) (x := 9) bX10_gatherNames_100 rfl rfl
def dX10_gatherNames_107 := dk28 (k := 7) bX10_gatherNames_100 rfl
def dX10_gatherNames_108 := dk46 (k := 8) bX10_gatherNames_100 rfl
def dX10_gatherNames_109 := dk29 (k := 9) bX10_gatherNames_100 rfl
def dX10_gatherNames_110 := dk96 (k := 10) bX10_gatherNames_100 rfl
def dX10_gatherNames_111 := dk79 (k := 11) bX10_gatherNames_100 rfl
theorem dX10_gatherNames_112 : decode cX10_gatherNames 112 = .ok (.iinc 2 1, 3) := dk132 (k := 12) bX10_gatherNames_100 rfl rfl (by decide)
def dX10_gatherNames_115 := dk167 (k := 15) (x := (-94)) bX10_gatherNames_100 rfl (by decide)
def dX10_gatherNames_118 := dk177 (k := 18) bX10_gatherNames_100 rfl
theorem bX10_namesWithin_0 : bL cX10_namesWithin 0 [27, 28, 163, 0, 18, 27, 155, 0, 14, 28, 4, 96, 42, 180, 0, 9, 190, 161, 0, 5, 3, 172, 42, 180, 0, 9] := bL_of (by decide +kernel)
def dX10_namesWithin_0 := dk27 (k := 0) bX10_namesWithin_0 rfl
def dX10_namesWithin_1 := dk28 (k := 1) bX10_namesWithin_0 rfl
def dX10_namesWithin_2 := dk163 (k := 2) (x := 18) bX10_namesWithin_0 rfl (by decide)
def dX10_namesWithin_5 := dk27 (k := 5) bX10_namesWithin_0 rfl
def dX10_namesWithin_6 := dk155 (k := 6) (x := 14) bX10_namesWithin_0 rfl (by decide)
def dX10_namesWithin_9 := dk28 (k := 9) bX10_namesWithin_0 rfl
def dX10_namesWithin_10 := dk4 (k := 10) bX10_namesWithin_0 rfl
def dX10_namesWithin_11 := dk96 (k := 11) bX10_namesWithin_0 rfl
def dX10_namesWithin_12 := dk42 (k := 12) bX10_namesWithin_0 rfl
def dX10_namesWithin_13 := dk180 (k := 13) (x := 9) bX10_namesWithin_0 rfl rfl
def dX10_namesWithin_16 := dk190 (k := 16) bX10_namesWithin_0 rfl
def dX10_namesWithin_17 := dk161 (k := 17) (x := 5) bX10_namesWithin_0 rfl (by decide)
def dX10_namesWithin_20 := dk3 (k := 20) bX10_namesWithin_0 rfl
def dX10_namesWithin_21 := dk172 (k := 21) bX10_namesWithin_0 rfl
def dX10_namesWithin_22 := dk42 (k := 22) bX10_namesWithin_0 rfl
def dX10_namesWithin_23 := dk180 (k := 23) (x := 9) bX10_namesWithin_0 rfl rfl
theorem bX10_namesWithin_26 : bL cX10_namesWithin 26 [28, 4, 96, 46, 42, 180, 0, 9, 27, 46, 100, 172] := bL_of (by decide +kernel)
def dX10_namesWithin_26 := dk28 (k := 0) bX10_namesWithin_26 rfl
def dX10_namesWithin_27 := dk4 (k := 1) bX10_namesWithin_26 rfl
def dX10_namesWithin_28 := dk96 (k := 2) bX10_namesWithin_26 rfl
def dX10_namesWithin_29 := dk46 (k := 3) bX10_namesWithin_26 rfl
def dX10_namesWithin_30 := dk42 (k := 4) bX10_namesWithin_26 rfl
def dX10_namesWithin_31 := dk180 (k := 5) (x := 9) bX10_namesWithin_26 rfl rfl
def dX10_namesWithin_34 := dk27 (k := 8) bX10_namesWithin_26 rfl
def dX10_namesWithin_35 := dk46 (k := 9) bX10_namesWithin_26 rfl
def dX10_namesWithin_36 := dk100 (k := 10) bX10_namesWithin_26 rfl
def dX10_namesWithin_37 := dk172 (k := 11) bX10_namesWithin_26 rfl
theorem bX10_namesOfBoth_0 : bL cX10_namesOfBoth 0 [42, 27, 29, 184, 0, 43, 28, 21, 4, 184, 0, 48, 182, 0, 51, 54, 5, 42, 27, 28, 182, 0, 51, 42] := bL_of (by decide +kernel)
def dX10_namesOfBoth_0 := dk42 (k := 0) bX10_namesOfBoth_0 rfl
def dX10_namesOfBoth_1 := dk27 (k := 1) bX10_namesOfBoth_0 rfl
def dX10_namesOfBoth_2 := dk29 (k := 2) bX10_namesOfBoth_0 rfl
def dX10_namesOfBoth_3 := dk184 (k := 3) (x := 43) bX10_namesOfBoth_0 rfl rfl
def dX10_namesOfBoth_6 := dk28 (k := 6) bX10_namesOfBoth_0 rfl
def dX10_namesOfBoth_7 := dk21 (k := 7) (x := 4) bX10_namesOfBoth_0 rfl rfl
def dX10_namesOfBoth_9 := dk184 (k := 9) (x := 48) bX10_namesOfBoth_0 rfl rfl
def dX10_namesOfBoth_12 := dk182 (k := 12) (x := 51) bX10_namesOfBoth_0 rfl rfl
def dX10_namesOfBoth_15 := dk54 (k := 15) (x := 5) bX10_namesOfBoth_0 rfl rfl
def dX10_namesOfBoth_17 := dk42 (k := 17) bX10_namesOfBoth_0 rfl
def dX10_namesOfBoth_18 := dk27 (k := 18) bX10_namesOfBoth_0 rfl
def dX10_namesOfBoth_19 := dk28 (k := 19) bX10_namesOfBoth_0 rfl
def dX10_namesOfBoth_20 := dk182 (k := 20) (x := 51) bX10_namesOfBoth_0 rfl rfl
def dX10_namesOfBoth_23 := dk42 (k := 23) bX10_namesOfBoth_0 rfl
theorem bX10_namesOfBoth_24 : bL cX10_namesOfBoth 24 [29, 21, 4, 182, 0, 51, 96, 21, 5, 100, 172] := bL_of (by decide +kernel)
def dX10_namesOfBoth_24 := dk29 (k := 0) bX10_namesOfBoth_24 rfl
def dX10_namesOfBoth_25 := dk21 (k := 1) (x := 4) bX10_namesOfBoth_24 rfl rfl
def dX10_namesOfBoth_27 := dk182 (k := 3) (x := 51) bX10_namesOfBoth_24 rfl rfl
def dX10_namesOfBoth_30 := dk96 (k := 6) bX10_namesOfBoth_24 rfl
def dX10_namesOfBoth_31 := dk21 (k := 7) (x := 5) bX10_namesOfBoth_24 rfl rfl
def dX10_namesOfBoth_33 := dk100 (k := 9) bX10_namesOfBoth_24 rfl
def dX10_namesOfBoth_34 := dk172 (k := 10) bX10_namesOfBoth_24 rfl
theorem bX10_stepsOf_0 : bL cX10_stepsOf 0 [28, 27, 100, 26, 27, 100, 28, 26, 100, 184, 0, 48, 96, 172] := bL_of (by decide +kernel)
def dX10_stepsOf_0 := dk28 (k := 0) bX10_stepsOf_0 rfl
def dX10_stepsOf_1 := dk27 (k := 1) bX10_stepsOf_0 rfl
def dX10_stepsOf_2 := dk100 (k := 2) bX10_stepsOf_0 rfl
def dX10_stepsOf_3 := dk26 (k := 3) bX10_stepsOf_0 rfl
def dX10_stepsOf_4 := dk27 (k := 4) bX10_stepsOf_0 rfl
def dX10_stepsOf_5 := dk100 (k := 5) bX10_stepsOf_0 rfl
def dX10_stepsOf_6 := dk28 (k := 6) bX10_stepsOf_0 rfl
def dX10_stepsOf_7 := dk26 (k := 7) bX10_stepsOf_0 rfl
def dX10_stepsOf_8 := dk100 (k := 8) bX10_stepsOf_0 rfl
def dX10_stepsOf_9 := dk184 (k := 9) (x := 48) bX10_stepsOf_0 rfl rfl
def dX10_stepsOf_12 := dk96 (k := 12) bX10_stepsOf_0 rfl
def dX10_stepsOf_13 := dk172 (k := 13) bX10_stepsOf_0 rfl
theorem bX10_walkOne_0 : bL cX10_walkOne 0 [42, 182, 0, 54, 2, 62, 3, 54, 4, 21, 4, 27, 163, 0, 81, 27, 54, 5, 21, 5, 42, 180, 0, 15] := bL_of (by decide +kernel)
def dX10_walkOne_0 := dk42 (k := 0) bX10_walkOne_0 rfl
def dX10_walkOne_1 := dk182 (k := 1) (x := 54) bX10_walkOne_0 rfl rfl
def dX10_walkOne_4 := dk2 (k := 4) bX10_walkOne_0 rfl
def dX10_walkOne_5 := dk62 (k := 5) bX10_walkOne_0 rfl
def dX10_walkOne_6 := dk3 (k := 6) bX10_walkOne_0 rfl
def dX10_walkOne_7 := dk54 (k := 7) (x := 4) bX10_walkOne_0 rfl rfl
def dX10_walkOne_9 := dk21 (k := 9) (x := 4) bX10_walkOne_0 rfl rfl
def dX10_walkOne_11 := dk27 (k := 11) bX10_walkOne_0 rfl
def dX10_walkOne_12 := dk163 (k := 12) (x := 81) bX10_walkOne_0 rfl (by decide)
def dX10_walkOne_15 := dk27 (k := 15) bX10_walkOne_0 rfl
def dX10_walkOne_16 := dk54 (k := 16) (x := 5) bX10_walkOne_0 rfl rfl
def dX10_walkOne_18 := dk21 (k := 18) (x := 5) bX10_walkOne_0 rfl rfl
def dX10_walkOne_20 := dk42 (k := 20) bX10_walkOne_0 rfl
def dX10_walkOne_21 := dk180 (k := 21) (x := 15) bX10_walkOne_0 rfl rfl
theorem bX10_walkOne_24 : bL cX10_walkOne 24 [180, 0, 25, 180, 0, 57, 162, 0, 57, 27, 21, 4, 21, 5, 184, 0, 62, 54, 6, 29, 2, 159, 0, 9] := bL_of (by decide +kernel)
def dX10_walkOne_24 := dk180 (k := 0) (x := 25) bX10_walkOne_24 rfl rfl
def dX10_walkOne_27 := dk180 (k := 3) (x := 57) bX10_walkOne_24 rfl rfl
def dX10_walkOne_30 := dk162 (k := 6) (x := 57) bX10_walkOne_24 rfl (by decide)
def dX10_walkOne_33 := dk27 (k := 9) bX10_walkOne_24 rfl
def dX10_walkOne_34 := dk21 (k := 10) (x := 4) bX10_walkOne_24 rfl rfl
def dX10_walkOne_36 := dk21 (k := 12) (x := 5) bX10_walkOne_24 rfl rfl
def dX10_walkOne_38 := dk184 (k := 14) (x := 62) bX10_walkOne_24 rfl rfl
def dX10_walkOne_41 := dk54 (k := 17) (x := 6) bX10_walkOne_24 rfl rfl
def dX10_walkOne_43 := dk29 (k := 19) bX10_walkOne_24 rfl
def dX10_walkOne_44 := dk2 (k := 20) bX10_walkOne_24 rfl
def dX10_walkOne_45 := dk159 (k := 21) (x := 9) bX10_walkOne_24 rfl (by decide)
theorem bX10_walkOne_48 : bL cX10_walkOne 48 [21, 6, 29, 162, 0, 30, 42, 21, 4, 21, 5, 182, 0, 51, 28, 161, 0, 18, 21, 6, 62, 42, 21, 4] := bL_of (by decide +kernel)
def dX10_walkOne_48 := dk21 (k := 0) (x := 6) bX10_walkOne_48 rfl rfl
def dX10_walkOne_50 := dk29 (k := 2) bX10_walkOne_48 rfl
def dX10_walkOne_51 := dk162 (k := 3) (x := 30) bX10_walkOne_48 rfl (by decide)
def dX10_walkOne_54 := dk42 (k := 6) bX10_walkOne_48 rfl
def dX10_walkOne_55 := dk21 (k := 7) (x := 4) bX10_walkOne_48 rfl rfl
def dX10_walkOne_57 := dk21 (k := 9) (x := 5) bX10_walkOne_48 rfl rfl
def dX10_walkOne_59 := dk182 (k := 11) (x := 51) bX10_walkOne_48 rfl rfl
def dX10_walkOne_62 := dk28 (k := 14) bX10_walkOne_48 rfl
def dX10_walkOne_63 := dk161 (k := 15) (x := 18) bX10_walkOne_48 rfl (by decide)
def dX10_walkOne_66 := dk21 (k := 18) (x := 6) bX10_walkOne_48 rfl rfl
def dX10_walkOne_68 := dk62 (k := 20) bX10_walkOne_48 rfl
def dX10_walkOne_69 := dk42 (k := 21) bX10_walkOne_48 rfl
def dX10_walkOne_70 := dk21 (k := 22) (x := 4) bX10_walkOne_48 rfl rfl
theorem bX10_walkOne_72 : bL cX10_walkOne 72 [181, 0, 66, 42, 21, 5, 181, 0, 69, 132, 5, 1, 167, 255, 190, 132, 4, 1, 167, 255, 175, 29, 172] := bL_of (by decide +kernel)
def dX10_walkOne_72 := dk181 (k := 0) (x := 66) bX10_walkOne_72 rfl rfl
def dX10_walkOne_75 := dk42 (k := 3) bX10_walkOne_72 rfl
def dX10_walkOne_76 := dk21 (k := 4) (x := 5) bX10_walkOne_72 rfl rfl
def dX10_walkOne_78 := dk181 (k := 6) (x := 69) bX10_walkOne_72 rfl rfl
theorem dX10_walkOne_81 : decode cX10_walkOne 81 = .ok (.iinc 5 1, 3) := dk132 (k := 9) bX10_walkOne_72 rfl rfl (by decide)
def dX10_walkOne_84 := dk167 (k := 12) (x := (-66)) bX10_walkOne_72 rfl (by decide)
theorem dX10_walkOne_87 : decode cX10_walkOne 87 = .ok (.iinc 4 1, 3) := dk132 (k := 15) bX10_walkOne_72 rfl rfl (by decide)
def dX10_walkOne_90 := dk167 (k := 18) (x := (-81)) bX10_walkOne_72 rfl (by decide)
def dX10_walkOne_93 := dk29 (k := 21) bX10_walkOne_72 rfl
def dX10_walkOne_94 := dk172 (k := 22) bX10_walkOne_72 rfl
theorem bX10_walkTwo_0 : bL cX10_walkTwo 0 [42, 182, 0, 54, 2, 54, 4, 3, 54, 5, 21, 5, 27, 163, 0, 86, 27, 54, 6, 21, 6, 42, 180, 0, 15] := bL_of (by decide +kernel)
def dX10_walkTwo_0 := dk42 (k := 0) bX10_walkTwo_0 rfl
def dX10_walkTwo_1 := dk182 (k := 1) (x := 54) bX10_walkTwo_0 rfl rfl
def dX10_walkTwo_4 := dk2 (k := 4) bX10_walkTwo_0 rfl
def dX10_walkTwo_5 := dk54 (k := 5) (x := 4) bX10_walkTwo_0 rfl rfl
def dX10_walkTwo_7 := dk3 (k := 7) bX10_walkTwo_0 rfl
def dX10_walkTwo_8 := dk54 (k := 8) (x := 5) bX10_walkTwo_0 rfl rfl
def dX10_walkTwo_10 := dk21 (k := 10) (x := 5) bX10_walkTwo_0 rfl rfl
def dX10_walkTwo_12 := dk27 (k := 12) bX10_walkTwo_0 rfl
def dX10_walkTwo_13 := dk163 (k := 13) (x := 86) bX10_walkTwo_0 rfl (by decide)
def dX10_walkTwo_16 := dk27 (k := 16) bX10_walkTwo_0 rfl
def dX10_walkTwo_17 := dk54 (k := 17) (x := 6) bX10_walkTwo_0 rfl rfl
def dX10_walkTwo_19 := dk21 (k := 19) (x := 6) bX10_walkTwo_0 rfl rfl
def dX10_walkTwo_21 := dk42 (k := 21) bX10_walkTwo_0 rfl
def dX10_walkTwo_22 := dk180 (k := 22) (x := 15) bX10_walkTwo_0 rfl rfl
theorem bX10_walkTwo_25 : bL cX10_walkTwo 25 [180, 0, 25, 180, 0, 57, 162, 0, 62, 42, 28, 29, 21, 5, 21, 6, 182, 0, 72, 54, 7, 21, 7, 2] := bL_of (by decide +kernel)
def dX10_walkTwo_25 := dk180 (k := 0) (x := 25) bX10_walkTwo_25 rfl rfl
def dX10_walkTwo_28 := dk180 (k := 3) (x := 57) bX10_walkTwo_25 rfl rfl
def dX10_walkTwo_31 := dk162 (k := 6) (x := 62) bX10_walkTwo_25 rfl (by decide)
def dX10_walkTwo_34 := dk42 (k := 9) bX10_walkTwo_25 rfl
def dX10_walkTwo_35 := dk28 (k := 10) bX10_walkTwo_25 rfl
def dX10_walkTwo_36 := dk29 (k := 11) bX10_walkTwo_25 rfl
def dX10_walkTwo_37 := dk21 (k := 12) (x := 5) bX10_walkTwo_25 rfl rfl
def dX10_walkTwo_39 := dk21 (k := 14) (x := 6) bX10_walkTwo_25 rfl rfl
def dX10_walkTwo_41 := dk182 (k := 16) (x := 72) bX10_walkTwo_25 rfl rfl
def dX10_walkTwo_44 := dk54 (k := 19) (x := 7) bX10_walkTwo_25 rfl rfl
def dX10_walkTwo_46 := dk21 (k := 21) (x := 7) bX10_walkTwo_25 rfl rfl
def dX10_walkTwo_48 := dk2 (k := 23) bX10_walkTwo_25 rfl
theorem bX10_walkTwo_49 : bL cX10_walkTwo 49 [159, 0, 38, 21, 7, 27, 21, 5, 21, 6, 184, 0, 62, 184, 0, 43, 54, 7, 21, 4, 2, 160, 0, 8] := bL_of (by decide +kernel)
def dX10_walkTwo_49 := dk159 (k := 0) (x := 38) bX10_walkTwo_49 rfl (by decide)
def dX10_walkTwo_52 := dk21 (k := 3) (x := 7) bX10_walkTwo_49 rfl rfl
def dX10_walkTwo_54 := dk27 (k := 5) bX10_walkTwo_49 rfl
def dX10_walkTwo_55 := dk21 (k := 6) (x := 5) bX10_walkTwo_49 rfl rfl
def dX10_walkTwo_57 := dk21 (k := 8) (x := 6) bX10_walkTwo_49 rfl rfl
def dX10_walkTwo_59 := dk184 (k := 10) (x := 62) bX10_walkTwo_49 rfl rfl
def dX10_walkTwo_62 := dk184 (k := 13) (x := 43) bX10_walkTwo_49 rfl rfl
def dX10_walkTwo_65 := dk54 (k := 16) (x := 7) bX10_walkTwo_49 rfl rfl
def dX10_walkTwo_67 := dk21 (k := 18) (x := 4) bX10_walkTwo_49 rfl rfl
def dX10_walkTwo_69 := dk2 (k := 20) bX10_walkTwo_49 rfl
def dX10_walkTwo_70 := dk160 (k := 21) (x := 8) bX10_walkTwo_49 rfl (by decide)
theorem bX10_walkTwo_73 : bL cX10_walkTwo 73 [21, 7, 167, 0, 10, 21, 4, 21, 7, 184, 0, 48, 54, 4, 132, 6, 1, 167, 255, 185, 132, 5, 1, 167, 255, 170] := bL_of (by decide +kernel)
def dX10_walkTwo_73 := dk21 (k := 0) (x := 7) bX10_walkTwo_73 rfl rfl
def dX10_walkTwo_75 := dk167 (k := 2) (x := 10) bX10_walkTwo_73 rfl (by decide)
def dX10_walkTwo_78 := dk21 (k := 5) (x := 4) bX10_walkTwo_73 rfl rfl
def dX10_walkTwo_80 := dk21 (k := 7) (x := 7) bX10_walkTwo_73 rfl rfl
def dX10_walkTwo_82 := dk184 (k := 9) (x := 48) bX10_walkTwo_73 rfl rfl
def dX10_walkTwo_85 := dk54 (k := 12) (x := 4) bX10_walkTwo_73 rfl rfl
theorem dX10_walkTwo_87 : decode cX10_walkTwo 87 = .ok (.iinc 6 1, 3) := dk132 (k := 14) bX10_walkTwo_73 rfl rfl (by decide)
def dX10_walkTwo_90 := dk167 (k := 17) (x := (-71)) bX10_walkTwo_73 rfl (by decide)
theorem dX10_walkTwo_93 : decode cX10_walkTwo 93 = .ok (.iinc 5 1, 3) := dk132 (k := 20) bX10_walkTwo_73 rfl rfl (by decide)
def dX10_walkTwo_96 := dk167 (k := 23) (x := (-86)) bX10_walkTwo_73 rfl (by decide)
theorem bX10_walkTwo_99 : bL cX10_walkTwo 99 [21, 4, 172] := bL_of (by decide +kernel)
def dX10_walkTwo_99 := dk21 (k := 0) (x := 4) bX10_walkTwo_99 rfl rfl
def dX10_walkTwo_101 := dk172 (k := 2) bX10_walkTwo_99 rfl
theorem bX10_besides_0 : bL cX10_besides 0 [2, 54, 5, 3, 54, 6, 21, 6, 27, 163, 0, 75, 27, 54, 7, 21, 7, 42, 180, 0, 15, 180, 0, 25] := bL_of (by decide +kernel)
def dX10_besides_0 := dk2 (k := 0) bX10_besides_0 rfl
def dX10_besides_1 := dk54 (k := 1) (x := 5) bX10_besides_0 rfl rfl
def dX10_besides_3 := dk3 (k := 3) bX10_besides_0 rfl
def dX10_besides_4 := dk54 (k := 4) (x := 6) bX10_besides_0 rfl rfl
def dX10_besides_6 := dk21 (k := 6) (x := 6) bX10_besides_0 rfl rfl
def dX10_besides_8 := dk27 (k := 8) bX10_besides_0 rfl
def dX10_besides_9 := dk163 (k := 9) (x := 75) bX10_besides_0 rfl (by decide)
def dX10_besides_12 := dk27 (k := 12) bX10_besides_0 rfl
def dX10_besides_13 := dk54 (k := 13) (x := 7) bX10_besides_0 rfl rfl
def dX10_besides_15 := dk21 (k := 15) (x := 7) bX10_besides_0 rfl rfl
def dX10_besides_17 := dk42 (k := 17) bX10_besides_0 rfl
def dX10_besides_18 := dk180 (k := 18) (x := 15) bX10_besides_0 rfl rfl
def dX10_besides_21 := dk180 (k := 21) (x := 25) bX10_besides_0 rfl rfl
theorem bX10_besides_24 : bL cX10_besides 24 [180, 0, 57, 162, 0, 51, 27, 21, 6, 21, 7, 184, 0, 62, 54, 8, 21, 5, 2, 159, 0, 10, 21, 8] := bL_of (by decide +kernel)
def dX10_besides_24 := dk180 (k := 0) (x := 57) bX10_besides_24 rfl rfl
def dX10_besides_27 := dk162 (k := 3) (x := 51) bX10_besides_24 rfl (by decide)
def dX10_besides_30 := dk27 (k := 6) bX10_besides_24 rfl
def dX10_besides_31 := dk21 (k := 7) (x := 6) bX10_besides_24 rfl rfl
def dX10_besides_33 := dk21 (k := 9) (x := 7) bX10_besides_24 rfl rfl
def dX10_besides_35 := dk184 (k := 11) (x := 62) bX10_besides_24 rfl rfl
def dX10_besides_38 := dk54 (k := 14) (x := 8) bX10_besides_24 rfl rfl
def dX10_besides_40 := dk21 (k := 16) (x := 5) bX10_besides_24 rfl rfl
def dX10_besides_42 := dk2 (k := 18) bX10_besides_24 rfl
def dX10_besides_43 := dk159 (k := 19) (x := 10) bX10_besides_24 rfl (by decide)
def dX10_besides_46 := dk21 (k := 22) (x := 8) bX10_besides_24 rfl rfl
theorem bX10_besides_48 : bL cX10_besides 48 [21, 5, 162, 0, 22, 42, 29, 21, 4, 21, 6, 21, 7, 182, 0, 76, 28, 161, 0, 7, 21, 8, 54, 5] := bL_of (by decide +kernel)
def dX10_besides_48 := dk21 (k := 0) (x := 5) bX10_besides_48 rfl rfl
def dX10_besides_50 := dk162 (k := 2) (x := 22) bX10_besides_48 rfl (by decide)
def dX10_besides_53 := dk42 (k := 5) bX10_besides_48 rfl
def dX10_besides_54 := dk29 (k := 6) bX10_besides_48 rfl
def dX10_besides_55 := dk21 (k := 7) (x := 4) bX10_besides_48 rfl rfl
def dX10_besides_57 := dk21 (k := 9) (x := 6) bX10_besides_48 rfl rfl
def dX10_besides_59 := dk21 (k := 11) (x := 7) bX10_besides_48 rfl rfl
def dX10_besides_61 := dk182 (k := 13) (x := 76) bX10_besides_48 rfl rfl
def dX10_besides_64 := dk28 (k := 16) bX10_besides_48 rfl
def dX10_besides_65 := dk161 (k := 17) (x := 7) bX10_besides_48 rfl (by decide)
def dX10_besides_68 := dk21 (k := 20) (x := 8) bX10_besides_48 rfl rfl
def dX10_besides_70 := dk54 (k := 22) (x := 5) bX10_besides_48 rfl rfl
theorem bX10_besides_72 : bL cX10_besides 72 [132, 7, 1, 167, 255, 196, 132, 6, 1, 167, 255, 181, 21, 5, 172] := bL_of (by decide +kernel)
theorem dX10_besides_72 : decode cX10_besides 72 = .ok (.iinc 7 1, 3) := dk132 (k := 0) bX10_besides_72 rfl rfl (by decide)
def dX10_besides_75 := dk167 (k := 3) (x := (-60)) bX10_besides_72 rfl (by decide)
theorem dX10_besides_78 : decode cX10_besides 78 = .ok (.iinc 6 1, 3) := dk132 (k := 6) bX10_besides_72 rfl rfl (by decide)
def dX10_besides_81 := dk167 (k := 9) (x := (-75)) bX10_besides_72 rfl (by decide)
def dX10_besides_84 := dk21 (k := 12) (x := 5) bX10_besides_72 rfl rfl
def dX10_besides_86 := dk172 (k := 14) bX10_besides_72 rfl
theorem bX11_init_0 : bL cX11_init 0 [42, 183, 0, 1, 42, 187, 0, 7, 89, 183, 0, 9, 181, 0, 10, 42, 187, 0, 16, 89, 42, 180, 0, 10] := bL_of (by decide +kernel)
def dX11_init_0 := dk42 (k := 0) bX11_init_0 rfl
def dX11_init_1 := dk183 (k := 1) (x := 1) bX11_init_0 rfl rfl
def dX11_init_4 := dk42 (k := 4) bX11_init_0 rfl
def dX11_init_5 := dk187 (k := 5) (x := 7) bX11_init_0 rfl rfl
def dX11_init_8 := dk89 (k := 8) bX11_init_0 rfl
def dX11_init_9 := dk183 (k := 9) (x := 9) bX11_init_0 rfl rfl
def dX11_init_12 := dk181 (k := 12) (x := 10) bX11_init_0 rfl rfl
def dX11_init_15 := dk42 (k := 15) bX11_init_0 rfl
def dX11_init_16 := dk187 (k := 16) (x := 16) bX11_init_0 rfl rfl
def dX11_init_19 := dk89 (k := 19) bX11_init_0 rfl
def dX11_init_20 := dk42 (k := 20) bX11_init_0 rfl
def dX11_init_21 := dk180 (k := 21) (x := 10) bX11_init_0 rfl rfl
theorem bX11_init_24 : bL cX11_init 24 [183, 0, 18, 181, 0, 21, 42, 187, 0, 25, 89, 183, 0, 27, 181, 0, 28, 42, 6, 189, 0, 25, 181, 0, 32] := bL_of (by decide +kernel)
def dX11_init_24 := dk183 (k := 0) (x := 18) bX11_init_24 rfl rfl
def dX11_init_27 := dk181 (k := 3) (x := 21) bX11_init_24 rfl rfl
def dX11_init_30 := dk42 (k := 6) bX11_init_24 rfl
def dX11_init_31 := dk187 (k := 7) (x := 25) bX11_init_24 rfl rfl
def dX11_init_34 := dk89 (k := 10) bX11_init_24 rfl
def dX11_init_35 := dk183 (k := 11) (x := 27) bX11_init_24 rfl rfl
def dX11_init_38 := dk181 (k := 14) (x := 28) bX11_init_24 rfl rfl
def dX11_init_41 := dk42 (k := 17) bX11_init_24 rfl
def dX11_init_42 := dk6 (k := 18) bX11_init_24 rfl
def dX11_init_43 := dk189 (k := 19) (x := 25) bX11_init_24 rfl rfl
def dX11_init_46 := dk181 (k := 22) (x := 32) bX11_init_24 rfl rfl
theorem bX11_init_49 : bL cX11_init 49 [3, 60, 27, 6, 162, 0, 22, 42, 180, 0, 32, 27, 187, 0, 25, 89, 183, 0, 27, 83, 132, 1, 1, 167, 255, 235] := bL_of (by decide +kernel)
def dX11_init_49 := dk3 (k := 0) bX11_init_49 rfl
def dX11_init_50 := dk60 (k := 1) bX11_init_49 rfl
def dX11_init_51 := dk27 (k := 2) bX11_init_49 rfl
def dX11_init_52 := dk6 (k := 3) bX11_init_49 rfl
def dX11_init_53 := dk162 (k := 4) (x := 22) bX11_init_49 rfl (by decide)
def dX11_init_56 := dk42 (k := 7) bX11_init_49 rfl
def dX11_init_57 := dk180 (k := 8) (x := 32) bX11_init_49 rfl rfl
def dX11_init_60 := dk27 (k := 11) bX11_init_49 rfl
def dX11_init_61 := dk187 (k := 12) (x := 25) bX11_init_49 rfl rfl
def dX11_init_64 := dk89 (k := 15) bX11_init_49 rfl
def dX11_init_65 := dk183 (k := 16) (x := 27) bX11_init_49 rfl rfl
def dX11_init_68 := dk83 (k := 19) bX11_init_49 rfl
theorem dX11_init_69 : decode cX11_init 69 = .ok (.iinc 1 1, 3) := dk132 (k := 20) bX11_init_49 rfl rfl (by decide)
def dX11_init_72 := dk167 (k := 23) (x := (-21)) bX11_init_49 rfl (by decide)
theorem bX11_init_75 : bL cX11_init 75 [42, 6] := bL_of (by decide +kernel)
def dX11_init_75 := dk42 (k := 0) bX11_init_75 rfl
def dX11_init_76 := dk6 (k := 1) bX11_init_75 rfl
theorem dX11_init_77 : decode cX11_init 77 = .ok (.newarray .boolean, 2) := by decide +kernel
theorem bX11_init_79 : bL cX11_init 79 [181, 0, 36, 42, 187, 0, 40, 89, 183, 0, 42, 181, 0, 43, 42, 187, 0, 47, 89, 183, 0, 49, 181, 0, 50] := bL_of (by decide +kernel)
def dX11_init_79 := dk181 (k := 0) (x := 36) bX11_init_79 rfl rfl
def dX11_init_82 := dk42 (k := 3) bX11_init_79 rfl
def dX11_init_83 := dk187 (k := 4) (x := 40) bX11_init_79 rfl rfl
def dX11_init_86 := dk89 (k := 7) bX11_init_79 rfl
def dX11_init_87 := dk183 (k := 8) (x := 42) bX11_init_79 rfl rfl
def dX11_init_90 := dk181 (k := 11) (x := 43) bX11_init_79 rfl rfl
def dX11_init_93 := dk42 (k := 14) bX11_init_79 rfl
def dX11_init_94 := dk187 (k := 15) (x := 47) bX11_init_79 rfl rfl
def dX11_init_97 := dk89 (k := 18) bX11_init_79 rfl
def dX11_init_98 := dk183 (k := 19) (x := 49) bX11_init_79 rfl rfl
def dX11_init_101 := dk181 (k := 22) (x := 50) bX11_init_79 rfl rfl
theorem bX11_init_104 : bL cX11_init 104 [42, 187, 0, 54, 89, 42, 180, 0, 28, 183, 0, 56, 181, 0, 59, 42, 187, 0, 63, 89, 42, 180, 0, 28] := bL_of (by decide +kernel)
def dX11_init_104 := dk42 (k := 0) bX11_init_104 rfl
def dX11_init_105 := dk187 (k := 1) (x := 54) bX11_init_104 rfl rfl
def dX11_init_108 := dk89 (k := 4) bX11_init_104 rfl
def dX11_init_109 := dk42 (k := 5) bX11_init_104 rfl
def dX11_init_110 := dk180 (k := 6) (x := 28) bX11_init_104 rfl rfl
def dX11_init_113 := dk183 (k := 9) (x := 56) bX11_init_104 rfl rfl
def dX11_init_116 := dk181 (k := 12) (x := 59) bX11_init_104 rfl rfl
def dX11_init_119 := dk42 (k := 15) bX11_init_104 rfl
def dX11_init_120 := dk187 (k := 16) (x := 63) bX11_init_104 rfl rfl
def dX11_init_123 := dk89 (k := 19) bX11_init_104 rfl
def dX11_init_124 := dk42 (k := 20) bX11_init_104 rfl
def dX11_init_125 := dk180 (k := 21) (x := 28) bX11_init_104 rfl rfl
theorem bX11_init_128 : bL cX11_init 128 [183, 0, 65, 181, 0, 66, 42, 187, 0, 70, 89, 42, 180, 0, 28, 42, 180, 0, 50, 183, 0, 72, 181, 0, 75] := bL_of (by decide +kernel)
def dX11_init_128 := dk183 (k := 0) (x := 65) bX11_init_128 rfl rfl
def dX11_init_131 := dk181 (k := 3) (x := 66) bX11_init_128 rfl rfl
def dX11_init_134 := dk42 (k := 6) bX11_init_128 rfl
def dX11_init_135 := dk187 (k := 7) (x := 70) bX11_init_128 rfl rfl
def dX11_init_138 := dk89 (k := 10) bX11_init_128 rfl
def dX11_init_139 := dk42 (k := 11) bX11_init_128 rfl
def dX11_init_140 := dk180 (k := 12) (x := 28) bX11_init_128 rfl rfl
def dX11_init_143 := dk42 (k := 15) bX11_init_128 rfl
def dX11_init_144 := dk180 (k := 16) (x := 50) bX11_init_128 rfl rfl
def dX11_init_147 := dk183 (k := 19) (x := 72) bX11_init_128 rfl rfl
def dX11_init_150 := dk181 (k := 22) (x := 75) bX11_init_128 rfl rfl
theorem bX11_init_153 : bL cX11_init 153 [42, 187, 0, 79, 89, 42, 180, 0, 28, 42, 180, 0, 50, 183, 0, 81, 181, 0, 82, 42, 187, 0, 86, 89] := bL_of (by decide +kernel)
def dX11_init_153 := dk42 (k := 0) bX11_init_153 rfl
def dX11_init_154 := dk187 (k := 1) (x := 79) bX11_init_153 rfl rfl
def dX11_init_157 := dk89 (k := 4) bX11_init_153 rfl
def dX11_init_158 := dk42 (k := 5) bX11_init_153 rfl
def dX11_init_159 := dk180 (k := 6) (x := 28) bX11_init_153 rfl rfl
def dX11_init_162 := dk42 (k := 9) bX11_init_153 rfl
def dX11_init_163 := dk180 (k := 10) (x := 50) bX11_init_153 rfl rfl
def dX11_init_166 := dk183 (k := 13) (x := 81) bX11_init_153 rfl rfl
def dX11_init_169 := dk181 (k := 16) (x := 82) bX11_init_153 rfl rfl
def dX11_init_172 := dk42 (k := 19) bX11_init_153 rfl
def dX11_init_173 := dk187 (k := 20) (x := 86) bX11_init_153 rfl rfl
def dX11_init_176 := dk89 (k := 23) bX11_init_153 rfl
theorem bX11_init_177 : bL cX11_init 177 [42, 180, 0, 28, 42, 180, 0, 43, 42, 180, 0, 50, 183, 0, 88, 181, 0, 91, 177] := bL_of (by decide +kernel)
def dX11_init_177 := dk42 (k := 0) bX11_init_177 rfl
def dX11_init_178 := dk180 (k := 1) (x := 28) bX11_init_177 rfl rfl
def dX11_init_181 := dk42 (k := 4) bX11_init_177 rfl
def dX11_init_182 := dk180 (k := 5) (x := 43) bX11_init_177 rfl rfl
def dX11_init_185 := dk42 (k := 8) bX11_init_177 rfl
def dX11_init_186 := dk180 (k := 9) (x := 50) bX11_init_177 rfl rfl
def dX11_init_189 := dk183 (k := 12) (x := 88) bX11_init_177 rfl rfl
def dX11_init_192 := dk181 (k := 15) (x := 91) bX11_init_177 rfl rfl
def dX11_init_195 := dk177 (k := 18) bX11_init_177 rfl
theorem bX11_feed_0 : bL cX11_feed 0 [42, 180, 0, 10, 16, 20, 182, 0, 95, 154, 0, 5, 2, 172, 42, 180, 0, 10, 27, 182, 0, 99, 42, 180, 0, 10] := bL_of (by decide +kernel)
def dX11_feed_0 := dk42 (k := 0) bX11_feed_0 rfl
def dX11_feed_1 := dk180 (k := 1) (x := 10) bX11_feed_0 rfl rfl
def dX11_feed_4 := dk16 (k := 4) (x := 20) bX11_feed_0 rfl (by decide)
def dX11_feed_6 := dk182 (k := 6) (x := 95) bX11_feed_0 rfl rfl
def dX11_feed_9 := dk154 (k := 9) (x := 5) bX11_feed_0 rfl (by decide)
def dX11_feed_12 := dk2 (k := 12) bX11_feed_0 rfl
def dX11_feed_13 := dk172 (k := 13) bX11_feed_0 rfl
def dX11_feed_14 := dk42 (k := 14) bX11_feed_0 rfl
def dX11_feed_15 := dk180 (k := 15) (x := 10) bX11_feed_0 rfl rfl
def dX11_feed_18 := dk27 (k := 18) bX11_feed_0 rfl
def dX11_feed_19 := dk182 (k := 19) (x := 99) bX11_feed_0 rfl rfl
def dX11_feed_22 := dk42 (k := 22) bX11_feed_0 rfl
def dX11_feed_23 := dk180 (k := 23) (x := 10) bX11_feed_0 rfl rfl
theorem bX11_feed_26 : bL cX11_feed 26 [28, 182, 0, 99, 42, 180, 0, 10, 29, 182, 0, 99, 42, 180, 0, 10, 21, 4, 182, 0, 99, 42, 180, 0, 10] := bL_of (by decide +kernel)
def dX11_feed_26 := dk28 (k := 0) bX11_feed_26 rfl
def dX11_feed_27 := dk182 (k := 1) (x := 99) bX11_feed_26 rfl rfl
def dX11_feed_30 := dk42 (k := 4) bX11_feed_26 rfl
def dX11_feed_31 := dk180 (k := 5) (x := 10) bX11_feed_26 rfl rfl
def dX11_feed_34 := dk29 (k := 8) bX11_feed_26 rfl
def dX11_feed_35 := dk182 (k := 9) (x := 99) bX11_feed_26 rfl rfl
def dX11_feed_38 := dk42 (k := 12) bX11_feed_26 rfl
def dX11_feed_39 := dk180 (k := 13) (x := 10) bX11_feed_26 rfl rfl
def dX11_feed_42 := dk21 (k := 16) (x := 4) bX11_feed_26 rfl rfl
def dX11_feed_44 := dk182 (k := 18) (x := 99) bX11_feed_26 rfl rfl
def dX11_feed_47 := dk42 (k := 21) bX11_feed_26 rfl
def dX11_feed_48 := dk180 (k := 22) (x := 10) bX11_feed_26 rfl rfl
theorem bX11_feed_51 : bL cX11_feed 51 [21, 5, 182, 0, 99, 42, 180, 0, 10, 180, 0, 103, 172] := bL_of (by decide +kernel)
def dX11_feed_51 := dk21 (k := 0) (x := 5) bX11_feed_51 rfl rfl
def dX11_feed_53 := dk182 (k := 2) (x := 99) bX11_feed_51 rfl rfl
def dX11_feed_56 := dk42 (k := 5) bX11_feed_51 rfl
def dX11_feed_57 := dk180 (k := 6) (x := 10) bX11_feed_51 rfl rfl
def dX11_feed_60 := dk180 (k := 9) (x := 103) bX11_feed_51 rfl rfl
def dX11_feed_63 := dk172 (k := 12) bX11_feed_51 rfl
theorem bX11_end_0 : bL cX11_end 0 [27, 155, 0, 14, 27, 42, 180, 0, 10, 180, 0, 103, 164, 0, 5, 2, 172, 42, 180, 0, 10, 27, 181, 0, 103] := bL_of (by decide +kernel)
def dX11_end_0 := dk27 (k := 0) bX11_end_0 rfl
def dX11_end_1 := dk155 (k := 1) (x := 14) bX11_end_0 rfl (by decide)
def dX11_end_4 := dk27 (k := 4) bX11_end_0 rfl
def dX11_end_5 := dk42 (k := 5) bX11_end_0 rfl
def dX11_end_6 := dk180 (k := 6) (x := 10) bX11_end_0 rfl rfl
def dX11_end_9 := dk180 (k := 9) (x := 103) bX11_end_0 rfl rfl
def dX11_end_12 := dk164 (k := 12) (x := 5) bX11_end_0 rfl (by decide)
def dX11_end_15 := dk2 (k := 15) bX11_end_0 rfl
def dX11_end_16 := dk172 (k := 16) bX11_end_0 rfl
def dX11_end_17 := dk42 (k := 17) bX11_end_0 rfl
def dX11_end_18 := dk180 (k := 18) (x := 10) bX11_end_0 rfl rfl
def dX11_end_21 := dk27 (k := 21) bX11_end_0 rfl
def dX11_end_22 := dk181 (k := 22) (x := 103) bX11_end_0 rfl rfl
theorem bX11_end_25 : bL cX11_end 25 [27, 172] := bL_of (by decide +kernel)
def dX11_end_25 := dk27 (k := 0) bX11_end_25 rfl
def dX11_end_26 := dk172 (k := 1) bX11_end_25 rfl
theorem bX11_mount_0 : bL cX11_mount 0 [42, 180, 0, 21, 182, 0, 107, 60, 42, 180, 0, 10, 3, 181, 0, 103, 27, 154, 0, 6, 16, 252, 172, 42] := bL_of (by decide +kernel)
def dX11_mount_0 := dk42 (k := 0) bX11_mount_0 rfl
def dX11_mount_1 := dk180 (k := 1) (x := 21) bX11_mount_0 rfl rfl
def dX11_mount_4 := dk182 (k := 4) (x := 107) bX11_mount_0 rfl rfl
def dX11_mount_7 := dk60 (k := 7) bX11_mount_0 rfl
def dX11_mount_8 := dk42 (k := 8) bX11_mount_0 rfl
def dX11_mount_9 := dk180 (k := 9) (x := 10) bX11_mount_0 rfl rfl
def dX11_mount_12 := dk3 (k := 12) bX11_mount_0 rfl
def dX11_mount_13 := dk181 (k := 13) (x := 103) bX11_mount_0 rfl rfl
def dX11_mount_16 := dk27 (k := 16) bX11_mount_0 rfl
def dX11_mount_17 := dk154 (k := 17) (x := 6) bX11_mount_0 rfl (by decide)
def dX11_mount_20 := dk16 (k := 20) (x := (-4)) bX11_mount_0 rfl (by decide)
def dX11_mount_22 := dk172 (k := 22) bX11_mount_0 rfl
def dX11_mount_23 := dk42 (k := 23) bX11_mount_0 rfl
theorem bX11_mount_24 : bL cX11_mount 24 [180, 0, 28, 42, 180, 0, 21, 180, 0, 111, 182, 0, 114, 42, 180, 0, 28, 180, 0, 117, 172] := bL_of (by decide +kernel)
def dX11_mount_24 := dk180 (k := 0) (x := 28) bX11_mount_24 rfl rfl
def dX11_mount_27 := dk42 (k := 3) bX11_mount_24 rfl
def dX11_mount_28 := dk180 (k := 4) (x := 21) bX11_mount_24 rfl rfl
def dX11_mount_31 := dk180 (k := 7) (x := 111) bX11_mount_24 rfl rfl
def dX11_mount_34 := dk182 (k := 10) (x := 114) bX11_mount_24 rfl rfl
def dX11_mount_37 := dk42 (k := 13) bX11_mount_24 rfl
def dX11_mount_38 := dk180 (k := 14) (x := 28) bX11_mount_24 rfl rfl
def dX11_mount_41 := dk180 (k := 17) (x := 117) bX11_mount_24 rfl rfl
def dX11_mount_44 := dk172 (k := 20) bX11_mount_24 rfl
theorem bX11_fault_0 : bL cX11_fault 0 [27, 154, 0, 11, 42, 180, 0, 21, 180, 0, 120, 172, 27, 4, 160, 0, 13, 42, 180, 0, 21, 180, 0, 123] := bL_of (by decide +kernel)
def dX11_fault_0 := dk27 (k := 0) bX11_fault_0 rfl
def dX11_fault_1 := dk154 (k := 1) (x := 11) bX11_fault_0 rfl (by decide)
def dX11_fault_4 := dk42 (k := 4) bX11_fault_0 rfl
def dX11_fault_5 := dk180 (k := 5) (x := 21) bX11_fault_0 rfl rfl
def dX11_fault_8 := dk180 (k := 8) (x := 120) bX11_fault_0 rfl rfl
def dX11_fault_11 := dk172 (k := 11) bX11_fault_0 rfl
def dX11_fault_12 := dk27 (k := 12) bX11_fault_0 rfl
def dX11_fault_13 := dk4 (k := 13) bX11_fault_0 rfl
def dX11_fault_14 := dk160 (k := 14) (x := 13) bX11_fault_0 rfl (by decide)
def dX11_fault_17 := dk42 (k := 17) bX11_fault_0 rfl
def dX11_fault_18 := dk180 (k := 18) (x := 21) bX11_fault_0 rfl rfl
def dX11_fault_21 := dk180 (k := 21) (x := 123) bX11_fault_0 rfl rfl
theorem bX11_fault_24 : bL cX11_fault 24 [167, 0, 4, 2, 172] := bL_of (by decide +kernel)
def dX11_fault_24 := dk167 (k := 0) (x := 4) bX11_fault_24 rfl (by decide)
def dX11_fault_27 := dk2 (k := 3) bX11_fault_24 rfl
def dX11_fault_28 := dk172 (k := 4) bX11_fault_24 rfl
theorem bX11_folk_0 : bL cX11_folk 0 [42, 180, 0, 28, 180, 0, 126, 27, 182, 0, 130, 153, 0, 13, 28, 155, 0, 9, 28, 16, 7, 161, 0, 6] := bL_of (by decide +kernel)
def dX11_folk_0 := dk42 (k := 0) bX11_folk_0 rfl
def dX11_folk_1 := dk180 (k := 1) (x := 28) bX11_folk_0 rfl rfl
def dX11_folk_4 := dk180 (k := 4) (x := 126) bX11_folk_0 rfl rfl
def dX11_folk_7 := dk27 (k := 7) bX11_folk_0 rfl
def dX11_folk_8 := dk182 (k := 8) (x := 130) bX11_folk_0 rfl rfl
def dX11_folk_11 := dk153 (k := 11) (x := 13) bX11_folk_0 rfl (by decide)
def dX11_folk_14 := dk28 (k := 14) bX11_folk_0 rfl
def dX11_folk_15 := dk155 (k := 15) (x := 9) bX11_folk_0 rfl (by decide)
def dX11_folk_18 := dk28 (k := 18) bX11_folk_0 rfl
def dX11_folk_19 := dk16 (k := 19) (x := 7) bX11_folk_0 rfl (by decide)
def dX11_folk_21 := dk161 (k := 21) (x := 6) bX11_folk_0 rfl (by decide)
theorem bX11_folk_24 : bL cX11_folk 24 [16, 254, 172, 42, 180, 0, 28, 180, 0, 126, 27, 28, 182, 0, 135, 172] := bL_of (by decide +kernel)
def dX11_folk_24 := dk16 (k := 0) (x := (-2)) bX11_folk_24 rfl (by decide)
def dX11_folk_26 := dk172 (k := 2) bX11_folk_24 rfl
def dX11_folk_27 := dk42 (k := 3) bX11_folk_24 rfl
def dX11_folk_28 := dk180 (k := 4) (x := 28) bX11_folk_24 rfl rfl
def dX11_folk_31 := dk180 (k := 7) (x := 126) bX11_folk_24 rfl rfl
def dX11_folk_34 := dk27 (k := 10) bX11_folk_24 rfl
def dX11_folk_35 := dk28 (k := 11) bX11_folk_24 rfl
def dX11_folk_36 := dk182 (k := 12) (x := 135) bX11_folk_24 rfl rfl
def dX11_folk_39 := dk172 (k := 15) bX11_folk_24 rfl
theorem bX11_height_0 : bL cX11_height 0 [42, 180, 0, 28, 180, 0, 139, 27, 182, 0, 142, 153, 0, 17, 42, 180, 0, 28, 180, 0, 139, 27, 182, 0, 143] := bL_of (by decide +kernel)
def dX11_height_0 := dk42 (k := 0) bX11_height_0 rfl
def dX11_height_1 := dk180 (k := 1) (x := 28) bX11_height_0 rfl rfl
def dX11_height_4 := dk180 (k := 4) (x := 139) bX11_height_0 rfl rfl
def dX11_height_7 := dk27 (k := 7) bX11_height_0 rfl
def dX11_height_8 := dk182 (k := 8) (x := 142) bX11_height_0 rfl rfl
def dX11_height_11 := dk153 (k := 11) (x := 17) bX11_height_0 rfl (by decide)
def dX11_height_14 := dk42 (k := 14) bX11_height_0 rfl
def dX11_height_15 := dk180 (k := 15) (x := 28) bX11_height_0 rfl rfl
def dX11_height_18 := dk180 (k := 18) (x := 139) bX11_height_0 rfl rfl
def dX11_height_21 := dk27 (k := 21) bX11_height_0 rfl
def dX11_height_22 := dk182 (k := 22) (x := 143) bX11_height_0 rfl rfl
theorem bX11_height_25 : bL cX11_height 25 [167, 0, 5, 16, 254, 172] := bL_of (by decide +kernel)
def dX11_height_25 := dk167 (k := 0) (x := 5) bX11_height_25 rfl (by decide)
def dX11_height_28 := dk16 (k := 3) (x := (-2)) bX11_height_25 rfl (by decide)
def dX11_height_30 := dk172 (k := 5) bX11_height_25 rfl
theorem bX11_shade_0 : bL cX11_shade 0 [42, 180, 0, 28, 180, 0, 139, 27, 182, 0, 142, 153, 0, 10, 28, 184, 0, 147, 154, 0, 6, 16, 254, 172] := bL_of (by decide +kernel)
def dX11_shade_0 := dk42 (k := 0) bX11_shade_0 rfl
def dX11_shade_1 := dk180 (k := 1) (x := 28) bX11_shade_0 rfl rfl
def dX11_shade_4 := dk180 (k := 4) (x := 139) bX11_shade_0 rfl rfl
def dX11_shade_7 := dk27 (k := 7) bX11_shade_0 rfl
def dX11_shade_8 := dk182 (k := 8) (x := 142) bX11_shade_0 rfl rfl
def dX11_shade_11 := dk153 (k := 11) (x := 10) bX11_shade_0 rfl (by decide)
def dX11_shade_14 := dk28 (k := 14) bX11_shade_0 rfl
def dX11_shade_15 := dk184 (k := 15) (x := 147) bX11_shade_0 rfl rfl
def dX11_shade_18 := dk154 (k := 18) (x := 6) bX11_shade_0 rfl (by decide)
def dX11_shade_21 := dk16 (k := 21) (x := (-2)) bX11_shade_0 rfl (by decide)
def dX11_shade_23 := dk172 (k := 23) bX11_shade_0 rfl
theorem bX11_shade_24 : bL cX11_shade 24 [42, 180, 0, 28, 180, 0, 139, 27, 28, 182, 0, 150, 153, 0, 7, 4, 167, 0, 4, 3, 172] := bL_of (by decide +kernel)
def dX11_shade_24 := dk42 (k := 0) bX11_shade_24 rfl
def dX11_shade_25 := dk180 (k := 1) (x := 28) bX11_shade_24 rfl rfl
def dX11_shade_28 := dk180 (k := 4) (x := 139) bX11_shade_24 rfl rfl
def dX11_shade_31 := dk27 (k := 7) bX11_shade_24 rfl
def dX11_shade_32 := dk28 (k := 8) bX11_shade_24 rfl
def dX11_shade_33 := dk182 (k := 9) (x := 150) bX11_shade_24 rfl rfl
def dX11_shade_36 := dk153 (k := 12) (x := 7) bX11_shade_24 rfl (by decide)
def dX11_shade_39 := dk4 (k := 15) bX11_shade_24 rfl
def dX11_shade_40 := dk167 (k := 16) (x := 4) bX11_shade_24 rfl (by decide)
def dX11_shade_43 := dk3 (k := 19) bX11_shade_24 rfl
def dX11_shade_44 := dk172 (k := 20) bX11_shade_24 rfl
theorem bX11_light_0 : bL cX11_light 0 [42, 180, 0, 28, 180, 0, 139, 27, 182, 0, 142, 153, 0, 17, 42, 180, 0, 28, 180, 0, 139, 27, 182, 0, 154] := bL_of (by decide +kernel)
def dX11_light_0 := dk42 (k := 0) bX11_light_0 rfl
def dX11_light_1 := dk180 (k := 1) (x := 28) bX11_light_0 rfl rfl
def dX11_light_4 := dk180 (k := 4) (x := 139) bX11_light_0 rfl rfl
def dX11_light_7 := dk27 (k := 7) bX11_light_0 rfl
def dX11_light_8 := dk182 (k := 8) (x := 142) bX11_light_0 rfl rfl
def dX11_light_11 := dk153 (k := 11) (x := 17) bX11_light_0 rfl (by decide)
def dX11_light_14 := dk42 (k := 14) bX11_light_0 rfl
def dX11_light_15 := dk180 (k := 15) (x := 28) bX11_light_0 rfl rfl
def dX11_light_18 := dk180 (k := 18) (x := 139) bX11_light_0 rfl rfl
def dX11_light_21 := dk27 (k := 21) bX11_light_0 rfl
def dX11_light_22 := dk182 (k := 22) (x := 154) bX11_light_0 rfl rfl
theorem bX11_light_25 : bL cX11_light 25 [167, 0, 5, 16, 254, 172] := bL_of (by decide +kernel)
def dX11_light_25 := dk167 (k := 0) (x := 5) bX11_light_25 rfl (by decide)
def dX11_light_28 := dk16 (k := 3) (x := (-2)) bX11_light_25 rfl (by decide)
def dX11_light_30 := dk172 (k := 5) bX11_light_25 rfl
theorem bX11_dark_0 : bL cX11_dark 0 [42, 180, 0, 28, 182, 0, 157, 153, 0, 24, 27, 184, 0, 147, 153, 0, 17, 42, 180, 0, 28, 180, 0, 139] := bL_of (by decide +kernel)
def dX11_dark_0 := dk42 (k := 0) bX11_dark_0 rfl
def dX11_dark_1 := dk180 (k := 1) (x := 28) bX11_dark_0 rfl rfl
def dX11_dark_4 := dk182 (k := 4) (x := 157) bX11_dark_0 rfl rfl
def dX11_dark_7 := dk153 (k := 7) (x := 24) bX11_dark_0 rfl (by decide)
def dX11_dark_10 := dk27 (k := 10) bX11_dark_0 rfl
def dX11_dark_11 := dk184 (k := 11) (x := 147) bX11_dark_0 rfl rfl
def dX11_dark_14 := dk153 (k := 14) (x := 17) bX11_dark_0 rfl (by decide)
def dX11_dark_17 := dk42 (k := 17) bX11_dark_0 rfl
def dX11_dark_18 := dk180 (k := 18) (x := 28) bX11_dark_0 rfl rfl
def dX11_dark_21 := dk180 (k := 21) (x := 139) bX11_dark_0 rfl rfl
theorem bX11_dark_24 : bL cX11_dark 24 [27, 182, 0, 160, 167, 0, 5, 16, 254, 172] := bL_of (by decide +kernel)
def dX11_dark_24 := dk27 (k := 0) bX11_dark_24 rfl
def dX11_dark_25 := dk182 (k := 1) (x := 160) bX11_dark_24 rfl rfl
def dX11_dark_28 := dk167 (k := 4) (x := 5) bX11_dark_24 rfl (by decide)
def dX11_dark_31 := dk16 (k := 7) (x := (-2)) bX11_dark_24 rfl (by decide)
def dX11_dark_33 := dk172 (k := 9) bX11_dark_24 rfl
theorem bX11_snow_0 : bL cX11_snow 0 [42, 180, 0, 28, 182, 0, 157, 153, 0, 16, 42, 180, 0, 28, 180, 0, 139, 182, 0, 163, 167, 0, 5, 16, 254] := bL_of (by decide +kernel)
def dX11_snow_0 := dk42 (k := 0) bX11_snow_0 rfl
def dX11_snow_1 := dk180 (k := 1) (x := 28) bX11_snow_0 rfl rfl
def dX11_snow_4 := dk182 (k := 4) (x := 157) bX11_snow_0 rfl rfl
def dX11_snow_7 := dk153 (k := 7) (x := 16) bX11_snow_0 rfl (by decide)
def dX11_snow_10 := dk42 (k := 10) bX11_snow_0 rfl
def dX11_snow_11 := dk180 (k := 11) (x := 28) bX11_snow_0 rfl rfl
def dX11_snow_14 := dk180 (k := 14) (x := 139) bX11_snow_0 rfl rfl
def dX11_snow_17 := dk182 (k := 17) (x := 163) bX11_snow_0 rfl rfl
def dX11_snow_20 := dk167 (k := 20) (x := 5) bX11_snow_0 rfl (by decide)
def dX11_snow_23 := dk16 (k := 23) (x := (-2)) bX11_snow_0 rfl (by decide)
theorem bX11_snow_25 : bL cX11_snow 25 [172] := bL_of (by decide +kernel)
def dX11_snow_25 := dk172 (k := 0) bX11_snow_25 rfl
theorem bX11_top_0 : bL cX11_top 0 [42, 180, 0, 28, 182, 0, 157, 153, 0, 16, 42, 180, 0, 28, 180, 0, 139, 182, 0, 167, 167, 0, 5, 16, 254] := bL_of (by decide +kernel)
def dX11_top_0 := dk42 (k := 0) bX11_top_0 rfl
def dX11_top_1 := dk180 (k := 1) (x := 28) bX11_top_0 rfl rfl
def dX11_top_4 := dk182 (k := 4) (x := 157) bX11_top_0 rfl rfl
def dX11_top_7 := dk153 (k := 7) (x := 16) bX11_top_0 rfl (by decide)
def dX11_top_10 := dk42 (k := 10) bX11_top_0 rfl
def dX11_top_11 := dk180 (k := 11) (x := 28) bX11_top_0 rfl rfl
def dX11_top_14 := dk180 (k := 14) (x := 139) bX11_top_0 rfl rfl
def dX11_top_17 := dk182 (k := 17) (x := 167) bX11_top_0 rfl rfl
def dX11_top_20 := dk167 (k := 20) (x := 5) bX11_top_0 rfl (by decide)
def dX11_top_23 := dk16 (k := 23) (x := (-2)) bX11_top_0 rfl (by decide)
theorem bX11_top_25 : bL cX11_top 25 [172] := bL_of (by decide +kernel)
def dX11_top_25 := dk172 (k := 0) bX11_top_25 rfl
theorem bX11_gain_0 : bL cX11_gain 0 [42, 180, 0, 28, 180, 0, 126, 27, 182, 0, 130, 153, 0, 24, 42, 180, 0, 28, 180, 0, 126, 42, 180, 0, 28] := bL_of (by decide +kernel)
def dX11_gain_0 := dk42 (k := 0) bX11_gain_0 rfl
def dX11_gain_1 := dk180 (k := 1) (x := 28) bX11_gain_0 rfl rfl
def dX11_gain_4 := dk180 (k := 4) (x := 126) bX11_gain_0 rfl rfl
def dX11_gain_7 := dk27 (k := 7) bX11_gain_0 rfl
def dX11_gain_8 := dk182 (k := 8) (x := 130) bX11_gain_0 rfl rfl
def dX11_gain_11 := dk153 (k := 11) (x := 24) bX11_gain_0 rfl (by decide)
def dX11_gain_14 := dk42 (k := 14) bX11_gain_0 rfl
def dX11_gain_15 := dk180 (k := 15) (x := 28) bX11_gain_0 rfl rfl
def dX11_gain_18 := dk180 (k := 18) (x := 126) bX11_gain_0 rfl rfl
def dX11_gain_21 := dk42 (k := 21) bX11_gain_0 rfl
def dX11_gain_22 := dk180 (k := 22) (x := 28) bX11_gain_0 rfl rfl
theorem bX11_gain_25 : bL cX11_gain 25 [180, 0, 139, 27, 182, 0, 170, 167, 0, 6, 17, 252, 24, 172] := bL_of (by decide +kernel)
def dX11_gain_25 := dk180 (k := 0) (x := 139) bX11_gain_25 rfl rfl
def dX11_gain_28 := dk27 (k := 3) bX11_gain_25 rfl
def dX11_gain_29 := dk182 (k := 4) (x := 170) bX11_gain_25 rfl rfl
def dX11_gain_32 := dk167 (k := 7) (x := 6) bX11_gain_25 rfl (by decide)
def dX11_gain_35 := dk17 (k := 10) (x := (-1000)) bX11_gain_25 rfl (by decide)
def dX11_gain_38 := dk172 (k := 13) bX11_gain_25 rfl
theorem bX11_hopes_0 : bL cX11_hopes 0 [42, 180, 0, 28, 180, 0, 126, 27, 182, 0, 130, 153, 0, 13, 28, 155, 0, 9, 28, 16, 20, 164, 0, 7] := bL_of (by decide +kernel)
def dX11_hopes_0 := dk42 (k := 0) bX11_hopes_0 rfl
def dX11_hopes_1 := dk180 (k := 1) (x := 28) bX11_hopes_0 rfl rfl
def dX11_hopes_4 := dk180 (k := 4) (x := 126) bX11_hopes_0 rfl rfl
def dX11_hopes_7 := dk27 (k := 7) bX11_hopes_0 rfl
def dX11_hopes_8 := dk182 (k := 8) (x := 130) bX11_hopes_0 rfl rfl
def dX11_hopes_11 := dk153 (k := 11) (x := 13) bX11_hopes_0 rfl (by decide)
def dX11_hopes_14 := dk28 (k := 14) bX11_hopes_0 rfl
def dX11_hopes_15 := dk155 (k := 15) (x := 9) bX11_hopes_0 rfl (by decide)
def dX11_hopes_18 := dk28 (k := 18) bX11_hopes_0 rfl
def dX11_hopes_19 := dk16 (k := 19) (x := 20) bX11_hopes_0 rfl (by decide)
def dX11_hopes_21 := dk164 (k := 21) (x := 7) bX11_hopes_0 rfl (by decide)
theorem bX11_hopes_24 : bL cX11_hopes 24 [17, 252, 24, 172, 42, 180, 0, 82, 27, 28, 182, 0, 174, 42, 180, 0, 28, 180, 0, 126, 42, 180, 0, 28] := bL_of (by decide +kernel)
def dX11_hopes_24 := dk17 (k := 0) (x := (-1000)) bX11_hopes_24 rfl (by decide)
def dX11_hopes_27 := dk172 (k := 3) bX11_hopes_24 rfl
def dX11_hopes_28 := dk42 (k := 4) bX11_hopes_24 rfl
def dX11_hopes_29 := dk180 (k := 5) (x := 82) bX11_hopes_24 rfl rfl
def dX11_hopes_32 := dk27 (k := 8) bX11_hopes_24 rfl
def dX11_hopes_33 := dk28 (k := 9) bX11_hopes_24 rfl
def dX11_hopes_34 := dk182 (k := 10) (x := 174) bX11_hopes_24 rfl rfl
def dX11_hopes_37 := dk42 (k := 13) bX11_hopes_24 rfl
def dX11_hopes_38 := dk180 (k := 14) (x := 28) bX11_hopes_24 rfl rfl
def dX11_hopes_41 := dk180 (k := 17) (x := 126) bX11_hopes_24 rfl rfl
def dX11_hopes_44 := dk42 (k := 20) bX11_hopes_24 rfl
def dX11_hopes_45 := dk180 (k := 21) (x := 28) bX11_hopes_24 rfl rfl
theorem bX11_hopes_48 : bL cX11_hopes 48 [180, 0, 139, 27, 182, 0, 170, 100, 172] := bL_of (by decide +kernel)
def dX11_hopes_48 := dk180 (k := 0) (x := 139) bX11_hopes_48 rfl rfl
def dX11_hopes_51 := dk27 (k := 3) bX11_hopes_48 rfl
def dX11_hopes_52 := dk182 (k := 4) (x := 170) bX11_hopes_48 rfl rfl
def dX11_hopes_55 := dk100 (k := 7) bX11_hopes_48 rfl
def dX11_hopes_56 := dk172 (k := 8) bX11_hopes_48 rfl
theorem bX11_wishes_0 : bL cX11_wishes 0 [42, 180, 0, 28, 180, 0, 126, 27, 182, 0, 130, 153, 0, 14, 42, 180, 0, 82, 27, 182, 0, 177, 167, 0, 5] := bL_of (by decide +kernel)
def dX11_wishes_0 := dk42 (k := 0) bX11_wishes_0 rfl
def dX11_wishes_1 := dk180 (k := 1) (x := 28) bX11_wishes_0 rfl rfl
def dX11_wishes_4 := dk180 (k := 4) (x := 126) bX11_wishes_0 rfl rfl
def dX11_wishes_7 := dk27 (k := 7) bX11_wishes_0 rfl
def dX11_wishes_8 := dk182 (k := 8) (x := 130) bX11_wishes_0 rfl rfl
def dX11_wishes_11 := dk153 (k := 11) (x := 14) bX11_wishes_0 rfl (by decide)
def dX11_wishes_14 := dk42 (k := 14) bX11_wishes_0 rfl
def dX11_wishes_15 := dk180 (k := 15) (x := 82) bX11_wishes_0 rfl rfl
def dX11_wishes_18 := dk27 (k := 18) bX11_wishes_0 rfl
def dX11_wishes_19 := dk182 (k := 19) (x := 177) bX11_wishes_0 rfl rfl
def dX11_wishes_22 := dk167 (k := 22) (x := 5) bX11_wishes_0 rfl (by decide)
theorem bX11_wishes_25 : bL cX11_wishes 25 [16, 254, 172] := bL_of (by decide +kernel)
def dX11_wishes_25 := dk16 (k := 0) (x := (-2)) bX11_wishes_25 rfl (by decide)
def dX11_wishes_27 := dk172 (k := 2) bX11_wishes_25 rfl
theorem bX11_gains_0 : bL cX11_gains 0 [42, 180, 0, 28, 182, 0, 157, 153, 0, 23, 42, 180, 0, 28, 180, 0, 126, 42, 180, 0, 28, 180, 0, 139] := bL_of (by decide +kernel)
def dX11_gains_0 := dk42 (k := 0) bX11_gains_0 rfl
def dX11_gains_1 := dk180 (k := 1) (x := 28) bX11_gains_0 rfl rfl
def dX11_gains_4 := dk182 (k := 4) (x := 157) bX11_gains_0 rfl rfl
def dX11_gains_7 := dk153 (k := 7) (x := 23) bX11_gains_0 rfl (by decide)
def dX11_gains_10 := dk42 (k := 10) bX11_gains_0 rfl
def dX11_gains_11 := dk180 (k := 11) (x := 28) bX11_gains_0 rfl rfl
def dX11_gains_14 := dk180 (k := 14) (x := 126) bX11_gains_0 rfl rfl
def dX11_gains_17 := dk42 (k := 17) bX11_gains_0 rfl
def dX11_gains_18 := dk180 (k := 18) (x := 28) bX11_gains_0 rfl rfl
def dX11_gains_21 := dk180 (k := 21) (x := 139) bX11_gains_0 rfl rfl
theorem bX11_gains_24 : bL cX11_gains 24 [182, 0, 180, 167, 0, 5, 16, 254, 172] := bL_of (by decide +kernel)
def dX11_gains_24 := dk182 (k := 0) (x := 180) bX11_gains_24 rfl rfl
def dX11_gains_27 := dk167 (k := 3) (x := 5) bX11_gains_24 rfl (by decide)
def dX11_gains_30 := dk16 (k := 6) (x := (-2)) bX11_gains_24 rfl (by decide)
def dX11_gains_32 := dk172 (k := 8) bX11_gains_24 rfl
theorem bX11_take_0 : bL cX11_take 0 [42, 180, 0, 28, 182, 0, 157, 154, 0, 6, 16, 254, 172, 42, 180, 0, 28, 182, 0, 184, 153, 0, 16, 42] := bL_of (by decide +kernel)
def dX11_take_0 := dk42 (k := 0) bX11_take_0 rfl
def dX11_take_1 := dk180 (k := 1) (x := 28) bX11_take_0 rfl rfl
def dX11_take_4 := dk182 (k := 4) (x := 157) bX11_take_0 rfl rfl
def dX11_take_7 := dk154 (k := 7) (x := 6) bX11_take_0 rfl (by decide)
def dX11_take_10 := dk16 (k := 10) (x := (-2)) bX11_take_0 rfl (by decide)
def dX11_take_12 := dk172 (k := 12) bX11_take_0 rfl
def dX11_take_13 := dk42 (k := 13) bX11_take_0 rfl
def dX11_take_14 := dk180 (k := 14) (x := 28) bX11_take_0 rfl rfl
def dX11_take_17 := dk182 (k := 17) (x := 184) bX11_take_0 rfl rfl
def dX11_take_20 := dk153 (k := 20) (x := 16) bX11_take_0 rfl (by decide)
def dX11_take_23 := dk42 (k := 23) bX11_take_0 rfl
theorem bX11_take_24 : bL cX11_take 24 [180, 0, 28, 180, 0, 139, 182, 0, 187, 154, 0, 6, 16, 251, 172, 42, 180, 0, 28, 180, 0, 139, 182, 0, 167] := bL_of (by decide +kernel)
def dX11_take_24 := dk180 (k := 0) (x := 28) bX11_take_24 rfl rfl
def dX11_take_27 := dk180 (k := 3) (x := 139) bX11_take_24 rfl rfl
def dX11_take_30 := dk182 (k := 6) (x := 187) bX11_take_24 rfl rfl
def dX11_take_33 := dk154 (k := 9) (x := 6) bX11_take_24 rfl (by decide)
def dX11_take_36 := dk16 (k := 12) (x := (-5)) bX11_take_24 rfl (by decide)
def dX11_take_38 := dk172 (k := 14) bX11_take_24 rfl
def dX11_take_39 := dk42 (k := 15) bX11_take_24 rfl
def dX11_take_40 := dk180 (k := 16) (x := 28) bX11_take_24 rfl rfl
def dX11_take_43 := dk180 (k := 19) (x := 139) bX11_take_24 rfl rfl
def dX11_take_46 := dk182 (k := 22) (x := 167) bX11_take_24 rfl rfl
theorem bX11_take_49 : bL cX11_take 49 [60, 42, 180, 0, 28, 27, 2, 182, 0, 190, 27, 172] := bL_of (by decide +kernel)
def dX11_take_49 := dk60 (k := 0) bX11_take_49 rfl
def dX11_take_50 := dk42 (k := 1) bX11_take_49 rfl
def dX11_take_51 := dk180 (k := 2) (x := 28) bX11_take_49 rfl rfl
def dX11_take_54 := dk27 (k := 5) bX11_take_49 rfl
def dX11_take_55 := dk2 (k := 6) bX11_take_49 rfl
def dX11_take_56 := dk182 (k := 7) (x := 190) bX11_take_49 rfl rfl
def dX11_take_59 := dk27 (k := 10) bX11_take_49 rfl
def dX11_take_60 := dk172 (k := 11) bX11_take_49 rfl
theorem bX11_heap_0 : bL cX11_heap 0 [42, 180, 0, 28, 180, 0, 139, 27, 182, 0, 142, 154, 0, 6, 16, 254, 172, 42, 180, 0, 28, 180, 0, 139] := bL_of (by decide +kernel)
def dX11_heap_0 := dk42 (k := 0) bX11_heap_0 rfl
def dX11_heap_1 := dk180 (k := 1) (x := 28) bX11_heap_0 rfl rfl
def dX11_heap_4 := dk180 (k := 4) (x := 139) bX11_heap_0 rfl rfl
def dX11_heap_7 := dk27 (k := 7) bX11_heap_0 rfl
def dX11_heap_8 := dk182 (k := 8) (x := 142) bX11_heap_0 rfl rfl
def dX11_heap_11 := dk154 (k := 11) (x := 6) bX11_heap_0 rfl (by decide)
def dX11_heap_14 := dk16 (k := 14) (x := (-2)) bX11_heap_0 rfl (by decide)
def dX11_heap_16 := dk172 (k := 16) bX11_heap_0 rfl
def dX11_heap_17 := dk42 (k := 17) bX11_heap_0 rfl
def dX11_heap_18 := dk180 (k := 18) (x := 28) bX11_heap_0 rfl rfl
def dX11_heap_21 := dk180 (k := 21) (x := 139) bX11_heap_0 rfl rfl
theorem bX11_heap_24 : bL cX11_heap 24 [27, 182, 0, 194, 61, 42, 180, 0, 28, 182, 0, 184, 153, 0, 8, 28, 2, 160, 0, 6, 16, 251, 172, 42] := bL_of (by decide +kernel)
def dX11_heap_24 := dk27 (k := 0) bX11_heap_24 rfl
def dX11_heap_25 := dk182 (k := 1) (x := 194) bX11_heap_24 rfl rfl
def dX11_heap_28 := dk61 (k := 4) bX11_heap_24 rfl
def dX11_heap_29 := dk42 (k := 5) bX11_heap_24 rfl
def dX11_heap_30 := dk180 (k := 6) (x := 28) bX11_heap_24 rfl rfl
def dX11_heap_33 := dk182 (k := 9) (x := 184) bX11_heap_24 rfl rfl
def dX11_heap_36 := dk153 (k := 12) (x := 8) bX11_heap_24 rfl (by decide)
def dX11_heap_39 := dk28 (k := 15) bX11_heap_24 rfl
def dX11_heap_40 := dk2 (k := 16) bX11_heap_24 rfl
def dX11_heap_41 := dk160 (k := 17) (x := 6) bX11_heap_24 rfl (by decide)
def dX11_heap_44 := dk16 (k := 20) (x := (-5)) bX11_heap_24 rfl (by decide)
def dX11_heap_46 := dk172 (k := 22) bX11_heap_24 rfl
def dX11_heap_47 := dk42 (k := 23) bX11_heap_24 rfl
theorem bX11_heap_48 : bL cX11_heap 48 [180, 0, 28, 28, 4, 182, 0, 190, 28, 172] := bL_of (by decide +kernel)
def dX11_heap_48 := dk180 (k := 0) (x := 28) bX11_heap_48 rfl rfl
def dX11_heap_51 := dk28 (k := 3) bX11_heap_48 rfl
def dX11_heap_52 := dk4 (k := 4) bX11_heap_48 rfl
def dX11_heap_53 := dk182 (k := 5) (x := 190) bX11_heap_48 rfl rfl
def dX11_heap_56 := dk28 (k := 8) bX11_heap_48 rfl
def dX11_heap_57 := dk172 (k := 9) bX11_heap_48 rfl
theorem bX11_slides_0 : bL cX11_slides 0 [42, 180, 0, 28, 180, 0, 139, 27, 182, 0, 142, 153, 0, 17, 42, 180, 0, 28, 180, 0, 139, 27, 182, 0, 194] := bL_of (by decide +kernel)
def dX11_slides_0 := dk42 (k := 0) bX11_slides_0 rfl
def dX11_slides_1 := dk180 (k := 1) (x := 28) bX11_slides_0 rfl rfl
def dX11_slides_4 := dk180 (k := 4) (x := 139) bX11_slides_0 rfl rfl
def dX11_slides_7 := dk27 (k := 7) bX11_slides_0 rfl
def dX11_slides_8 := dk182 (k := 8) (x := 142) bX11_slides_0 rfl rfl
def dX11_slides_11 := dk153 (k := 11) (x := 17) bX11_slides_0 rfl (by decide)
def dX11_slides_14 := dk42 (k := 14) bX11_slides_0 rfl
def dX11_slides_15 := dk180 (k := 15) (x := 28) bX11_slides_0 rfl rfl
def dX11_slides_18 := dk180 (k := 18) (x := 139) bX11_slides_0 rfl rfl
def dX11_slides_21 := dk27 (k := 21) bX11_slides_0 rfl
def dX11_slides_22 := dk182 (k := 22) (x := 194) bX11_slides_0 rfl rfl
theorem bX11_slides_25 : bL cX11_slides 25 [167, 0, 5, 16, 254, 172] := bL_of (by decide +kernel)
def dX11_slides_25 := dk167 (k := 0) (x := 5) bX11_slides_25 rfl (by decide)
def dX11_slides_28 := dk16 (k := 3) (x := (-2)) bX11_slides_25 rfl (by decide)
def dX11_slides_30 := dk172 (k := 5) bX11_slides_25 rfl
theorem bX11_undo_0 : bL cX11_undo 0 [42, 180, 0, 28, 182, 0, 157, 154, 0, 6, 16, 254, 172, 42, 180, 0, 28, 182, 0, 197, 153, 0, 13, 42] := bL_of (by decide +kernel)
def dX11_undo_0 := dk42 (k := 0) bX11_undo_0 rfl
def dX11_undo_1 := dk180 (k := 1) (x := 28) bX11_undo_0 rfl rfl
def dX11_undo_4 := dk182 (k := 4) (x := 157) bX11_undo_0 rfl rfl
def dX11_undo_7 := dk154 (k := 7) (x := 6) bX11_undo_0 rfl (by decide)
def dX11_undo_10 := dk16 (k := 10) (x := (-2)) bX11_undo_0 rfl (by decide)
def dX11_undo_12 := dk172 (k := 12) bX11_undo_0 rfl
def dX11_undo_13 := dk42 (k := 13) bX11_undo_0 rfl
def dX11_undo_14 := dk180 (k := 14) (x := 28) bX11_undo_0 rfl rfl
def dX11_undo_17 := dk182 (k := 17) (x := 197) bX11_undo_0 rfl rfl
def dX11_undo_20 := dk153 (k := 20) (x := 13) bX11_undo_0 rfl (by decide)
def dX11_undo_23 := dk42 (k := 23) bX11_undo_0 rfl
theorem bX11_undo_24 : bL cX11_undo 24 [180, 0, 28, 180, 0, 200, 167, 0, 5, 16, 251, 172] := bL_of (by decide +kernel)
def dX11_undo_24 := dk180 (k := 0) (x := 28) bX11_undo_24 rfl rfl
def dX11_undo_27 := dk180 (k := 3) (x := 200) bX11_undo_24 rfl rfl
def dX11_undo_30 := dk167 (k := 6) (x := 5) bX11_undo_24 rfl (by decide)
def dX11_undo_33 := dk16 (k := 9) (x := (-5)) bX11_undo_24 rfl (by decide)
def dX11_undo_35 := dk172 (k := 11) bX11_undo_24 rfl
theorem bX11_anew_0 : bL cX11_anew 0 [42, 180, 0, 28, 182, 0, 157, 154, 0, 6, 16, 254, 172, 42, 180, 0, 28, 180, 0, 200, 60, 3, 61, 28] := bL_of (by decide +kernel)
def dX11_anew_0 := dk42 (k := 0) bX11_anew_0 rfl
def dX11_anew_1 := dk180 (k := 1) (x := 28) bX11_anew_0 rfl rfl
def dX11_anew_4 := dk182 (k := 4) (x := 157) bX11_anew_0 rfl rfl
def dX11_anew_7 := dk154 (k := 7) (x := 6) bX11_anew_0 rfl (by decide)
def dX11_anew_10 := dk16 (k := 10) (x := (-2)) bX11_anew_0 rfl (by decide)
def dX11_anew_12 := dk172 (k := 12) bX11_anew_0 rfl
def dX11_anew_13 := dk42 (k := 13) bX11_anew_0 rfl
def dX11_anew_14 := dk180 (k := 14) (x := 28) bX11_anew_0 rfl rfl
def dX11_anew_17 := dk180 (k := 17) (x := 200) bX11_anew_0 rfl rfl
def dX11_anew_20 := dk60 (k := 20) bX11_anew_0 rfl
def dX11_anew_21 := dk3 (k := 21) bX11_anew_0 rfl
def dX11_anew_22 := dk61 (k := 22) bX11_anew_0 rfl
def dX11_anew_23 := dk28 (k := 23) bX11_anew_0 rfl
theorem bX11_anew_24 : bL cX11_anew 24 [27, 162, 0, 17, 42, 180, 0, 28, 182, 0, 197, 87, 132, 2, 1, 167, 255, 240, 27, 172] := bL_of (by decide +kernel)
def dX11_anew_24 := dk27 (k := 0) bX11_anew_24 rfl
def dX11_anew_25 := dk162 (k := 1) (x := 17) bX11_anew_24 rfl (by decide)
def dX11_anew_28 := dk42 (k := 4) bX11_anew_24 rfl
def dX11_anew_29 := dk180 (k := 5) (x := 28) bX11_anew_24 rfl rfl
def dX11_anew_32 := dk182 (k := 8) (x := 197) bX11_anew_24 rfl rfl
def dX11_anew_35 := dk87 (k := 11) bX11_anew_24 rfl
theorem dX11_anew_36 : decode cX11_anew 36 = .ok (.iinc 2 1, 3) := dk132 (k := 12) bX11_anew_24 rfl rfl (by decide)
def dX11_anew_39 := dk167 (k := 15) (x := (-16)) bX11_anew_24 rfl (by decide)
def dX11_anew_42 := dk27 (k := 18) bX11_anew_24 rfl
def dX11_anew_43 := dk172 (k := 19) bX11_anew_24 rfl
theorem bX11_willing_0 : bL cX11_willing 0 [42, 180, 0, 28, 182, 0, 157, 153, 0, 24, 42, 180, 0, 28, 180, 0, 126, 42, 180, 0, 28, 180, 0, 139] := bL_of (by decide +kernel)
def dX11_willing_0 := dk42 (k := 0) bX11_willing_0 rfl
def dX11_willing_1 := dk180 (k := 1) (x := 28) bX11_willing_0 rfl rfl
def dX11_willing_4 := dk182 (k := 4) (x := 157) bX11_willing_0 rfl rfl
def dX11_willing_7 := dk153 (k := 7) (x := 24) bX11_willing_0 rfl (by decide)
def dX11_willing_10 := dk42 (k := 10) bX11_willing_0 rfl
def dX11_willing_11 := dk180 (k := 11) (x := 28) bX11_willing_0 rfl rfl
def dX11_willing_14 := dk180 (k := 14) (x := 126) bX11_willing_0 rfl rfl
def dX11_willing_17 := dk42 (k := 17) bX11_willing_0 rfl
def dX11_willing_18 := dk180 (k := 18) (x := 28) bX11_willing_0 rfl rfl
def dX11_willing_21 := dk180 (k := 21) (x := 139) bX11_willing_0 rfl rfl
theorem bX11_willing_24 : bL cX11_willing 24 [2, 182, 0, 203, 167, 0, 5, 16, 254, 172] := bL_of (by decide +kernel)
def dX11_willing_24 := dk2 (k := 0) bX11_willing_24 rfl
def dX11_willing_25 := dk182 (k := 1) (x := 203) bX11_willing_24 rfl rfl
def dX11_willing_28 := dk167 (k := 4) (x := 5) bX11_willing_24 rfl (by decide)
def dX11_willing_31 := dk16 (k := 7) (x := (-2)) bX11_willing_24 rfl (by decide)
def dX11_willing_33 := dk172 (k := 9) bX11_willing_24 rfl
theorem bX11_signers_0 : bL cX11_signers 0 [42, 180, 0, 28, 27, 182, 0, 206, 153, 0, 14, 42, 180, 0, 59, 27, 182, 0, 209, 167, 0, 5, 16, 254] := bL_of (by decide +kernel)
def dX11_signers_0 := dk42 (k := 0) bX11_signers_0 rfl
def dX11_signers_1 := dk180 (k := 1) (x := 28) bX11_signers_0 rfl rfl
def dX11_signers_4 := dk27 (k := 4) bX11_signers_0 rfl
def dX11_signers_5 := dk182 (k := 5) (x := 206) bX11_signers_0 rfl rfl
def dX11_signers_8 := dk153 (k := 8) (x := 14) bX11_signers_0 rfl (by decide)
def dX11_signers_11 := dk42 (k := 11) bX11_signers_0 rfl
def dX11_signers_12 := dk180 (k := 12) (x := 59) bX11_signers_0 rfl rfl
def dX11_signers_15 := dk27 (k := 15) bX11_signers_0 rfl
def dX11_signers_16 := dk182 (k := 16) (x := 209) bX11_signers_0 rfl rfl
def dX11_signers_19 := dk167 (k := 19) (x := 5) bX11_signers_0 rfl (by decide)
def dX11_signers_22 := dk16 (k := 22) (x := (-2)) bX11_signers_0 rfl (by decide)
theorem bX11_signers_24 : bL cX11_signers 24 [172] := bL_of (by decide +kernel)
def dX11_signers_24 := dk172 (k := 0) bX11_signers_24 rfl
theorem bX11_names_0 : bL cX11_names 0 [42, 180, 0, 28, 27, 182, 0, 206, 153, 0, 24, 42, 180, 0, 28, 180, 0, 126, 42, 180, 0, 59, 27, 182, 0, 209] := bL_of (by decide +kernel)
def dX11_names_0 := dk42 (k := 0) bX11_names_0 rfl
def dX11_names_1 := dk180 (k := 1) (x := 28) bX11_names_0 rfl rfl
def dX11_names_4 := dk27 (k := 4) bX11_names_0 rfl
def dX11_names_5 := dk182 (k := 5) (x := 206) bX11_names_0 rfl rfl
def dX11_names_8 := dk153 (k := 8) (x := 24) bX11_names_0 rfl (by decide)
def dX11_names_11 := dk42 (k := 11) bX11_names_0 rfl
def dX11_names_12 := dk180 (k := 12) (x := 28) bX11_names_0 rfl rfl
def dX11_names_15 := dk180 (k := 15) (x := 126) bX11_names_0 rfl rfl
def dX11_names_18 := dk42 (k := 18) bX11_names_0 rfl
def dX11_names_19 := dk180 (k := 19) (x := 59) bX11_names_0 rfl rfl
def dX11_names_22 := dk27 (k := 22) bX11_names_0 rfl
def dX11_names_23 := dk182 (k := 23) (x := 209) bX11_names_0 rfl rfl
theorem bX11_names_26 : bL cX11_names 26 [182, 0, 212, 167, 0, 5, 16, 254, 172] := bL_of (by decide +kernel)
def dX11_names_26 := dk182 (k := 0) (x := 212) bX11_names_26 rfl rfl
def dX11_names_29 := dk167 (k := 3) (x := 5) bX11_names_26 rfl (by decide)
def dX11_names_32 := dk16 (k := 6) (x := (-2)) bX11_names_26 rfl (by decide)
def dX11_names_34 := dk172 (k := 8) bX11_names_26 rfl
theorem bX11_first_0 : bL cX11_first 0 [42, 180, 0, 28, 182, 0, 157, 154, 0, 6, 16, 254, 172, 42, 180, 0, 59, 182, 0, 215, 60, 27, 2, 160, 0, 7] := bL_of (by decide +kernel)
def dX11_first_0 := dk42 (k := 0) bX11_first_0 rfl
def dX11_first_1 := dk180 (k := 1) (x := 28) bX11_first_0 rfl rfl
def dX11_first_4 := dk182 (k := 4) (x := 157) bX11_first_0 rfl rfl
def dX11_first_7 := dk154 (k := 7) (x := 6) bX11_first_0 rfl (by decide)
def dX11_first_10 := dk16 (k := 10) (x := (-2)) bX11_first_0 rfl (by decide)
def dX11_first_12 := dk172 (k := 12) bX11_first_0 rfl
def dX11_first_13 := dk42 (k := 13) bX11_first_0 rfl
def dX11_first_14 := dk180 (k := 14) (x := 59) bX11_first_0 rfl rfl
def dX11_first_17 := dk182 (k := 17) (x := 215) bX11_first_0 rfl rfl
def dX11_first_20 := dk60 (k := 20) bX11_first_0 rfl
def dX11_first_21 := dk27 (k := 21) bX11_first_0 rfl
def dX11_first_22 := dk2 (k := 22) bX11_first_0 rfl
def dX11_first_23 := dk160 (k := 23) (x := 7) bX11_first_0 rfl (by decide)
theorem bX11_first_26 : bL cX11_first 26 [2, 167, 0, 7, 27, 184, 0, 218, 172] := bL_of (by decide +kernel)
def dX11_first_26 := dk2 (k := 0) bX11_first_26 rfl
def dX11_first_27 := dk167 (k := 1) (x := 7) bX11_first_26 rfl (by decide)
def dX11_first_30 := dk27 (k := 4) bX11_first_26 rfl
def dX11_first_31 := dk184 (k := 5) (x := 218) bX11_first_26 rfl rfl
def dX11_first_34 := dk172 (k := 8) bX11_first_26 rfl
theorem bX11_firsts_0 : bL cX11_firsts 0 [42, 180, 0, 28, 182, 0, 157, 153, 0, 13, 42, 180, 0, 59, 182, 0, 215, 167, 0, 5, 16, 254, 172] := bL_of (by decide +kernel)
def dX11_firsts_0 := dk42 (k := 0) bX11_firsts_0 rfl
def dX11_firsts_1 := dk180 (k := 1) (x := 28) bX11_firsts_0 rfl rfl
def dX11_firsts_4 := dk182 (k := 4) (x := 157) bX11_firsts_0 rfl rfl
def dX11_firsts_7 := dk153 (k := 7) (x := 13) bX11_firsts_0 rfl (by decide)
def dX11_firsts_10 := dk42 (k := 10) bX11_firsts_0 rfl
def dX11_firsts_11 := dk180 (k := 11) (x := 59) bX11_firsts_0 rfl rfl
def dX11_firsts_14 := dk182 (k := 14) (x := 215) bX11_firsts_0 rfl rfl
def dX11_firsts_17 := dk167 (k := 17) (x := 5) bX11_firsts_0 rfl (by decide)
def dX11_firsts_20 := dk16 (k := 20) (x := (-2)) bX11_firsts_0 rfl (by decide)
def dX11_firsts_22 := dk172 (k := 22) bX11_firsts_0 rfl
theorem bX11_next_0 : bL cX11_next 0 [42, 180, 0, 28, 27, 182, 0, 206, 153, 0, 14, 42, 180, 0, 59, 27, 182, 0, 223, 167, 0, 5, 16, 254] := bL_of (by decide +kernel)
def dX11_next_0 := dk42 (k := 0) bX11_next_0 rfl
def dX11_next_1 := dk180 (k := 1) (x := 28) bX11_next_0 rfl rfl
def dX11_next_4 := dk27 (k := 4) bX11_next_0 rfl
def dX11_next_5 := dk182 (k := 5) (x := 206) bX11_next_0 rfl rfl
def dX11_next_8 := dk153 (k := 8) (x := 14) bX11_next_0 rfl (by decide)
def dX11_next_11 := dk42 (k := 11) bX11_next_0 rfl
def dX11_next_12 := dk180 (k := 12) (x := 59) bX11_next_0 rfl rfl
def dX11_next_15 := dk27 (k := 15) bX11_next_0 rfl
def dX11_next_16 := dk182 (k := 16) (x := 223) bX11_next_0 rfl rfl
def dX11_next_19 := dk167 (k := 19) (x := 5) bX11_next_0 rfl (by decide)
def dX11_next_22 := dk16 (k := 22) (x := (-2)) bX11_next_0 rfl (by decide)
theorem bX11_next_24 : bL cX11_next 24 [172] := bL_of (by decide +kernel)
def dX11_next_24 := dk172 (k := 0) bX11_next_24 rfl
theorem bX11_needed_0 : bL cX11_needed 0 [42, 180, 0, 28, 182, 0, 157, 153, 0, 13, 42, 180, 0, 59, 182, 0, 226, 167, 0, 5, 16, 254, 172] := bL_of (by decide +kernel)
def dX11_needed_0 := dk42 (k := 0) bX11_needed_0 rfl
def dX11_needed_1 := dk180 (k := 1) (x := 28) bX11_needed_0 rfl rfl
def dX11_needed_4 := dk182 (k := 4) (x := 157) bX11_needed_0 rfl rfl
def dX11_needed_7 := dk153 (k := 7) (x := 13) bX11_needed_0 rfl (by decide)
def dX11_needed_10 := dk42 (k := 10) bX11_needed_0 rfl
def dX11_needed_11 := dk180 (k := 11) (x := 59) bX11_needed_0 rfl rfl
def dX11_needed_14 := dk182 (k := 14) (x := 226) bX11_needed_0 rfl rfl
def dX11_needed_17 := dk167 (k := 17) (x := 5) bX11_needed_0 rfl (by decide)
def dX11_needed_20 := dk16 (k := 20) (x := (-2)) bX11_needed_0 rfl (by decide)
def dX11_needed_22 := dk172 (k := 22) bX11_needed_0 rfl
theorem bX11_play_0 : bL cX11_play 0 [42, 27, 28, 182, 0, 229, 154, 0, 6, 16, 254, 172, 42, 180, 0, 59, 27, 28, 182, 0, 232, 153, 0, 7] := bL_of (by decide +kernel)
def dX11_play_0 := dk42 (k := 0) bX11_play_0 rfl
def dX11_play_1 := dk27 (k := 1) bX11_play_0 rfl
def dX11_play_2 := dk28 (k := 2) bX11_play_0 rfl
def dX11_play_3 := dk182 (k := 3) (x := 229) bX11_play_0 rfl rfl
def dX11_play_6 := dk154 (k := 6) (x := 6) bX11_play_0 rfl (by decide)
def dX11_play_9 := dk16 (k := 9) (x := (-2)) bX11_play_0 rfl (by decide)
def dX11_play_11 := dk172 (k := 11) bX11_play_0 rfl
def dX11_play_12 := dk42 (k := 12) bX11_play_0 rfl
def dX11_play_13 := dk180 (k := 13) (x := 59) bX11_play_0 rfl rfl
def dX11_play_16 := dk27 (k := 16) bX11_play_0 rfl
def dX11_play_17 := dk28 (k := 17) bX11_play_0 rfl
def dX11_play_18 := dk182 (k := 18) (x := 232) bX11_play_0 rfl rfl
def dX11_play_21 := dk153 (k := 21) (x := 7) bX11_play_0 rfl (by decide)
theorem bX11_play_24 : bL cX11_play 24 [4, 167, 0, 4, 3, 172] := bL_of (by decide +kernel)
def dX11_play_24 := dk4 (k := 0) bX11_play_24 rfl
def dX11_play_25 := dk167 (k := 1) (x := 4) bX11_play_24 rfl (by decide)
def dX11_play_28 := dk3 (k := 4) bX11_play_24 rfl
def dX11_play_29 := dk172 (k := 5) bX11_play_24 rfl
theorem bX11_moves_0 : bL cX11_moves 0 [42, 27, 28, 182, 0, 229, 154, 0, 6, 16, 254, 172, 42, 180, 0, 59, 27, 28, 182, 0, 235, 172] := bL_of (by decide +kernel)
def dX11_moves_0 := dk42 (k := 0) bX11_moves_0 rfl
def dX11_moves_1 := dk27 (k := 1) bX11_moves_0 rfl
def dX11_moves_2 := dk28 (k := 2) bX11_moves_0 rfl
def dX11_moves_3 := dk182 (k := 3) (x := 229) bX11_moves_0 rfl rfl
def dX11_moves_6 := dk154 (k := 6) (x := 6) bX11_moves_0 rfl (by decide)
def dX11_moves_9 := dk16 (k := 9) (x := (-2)) bX11_moves_0 rfl (by decide)
def dX11_moves_11 := dk172 (k := 11) bX11_moves_0 rfl
def dX11_moves_12 := dk42 (k := 12) bX11_moves_0 rfl
def dX11_moves_13 := dk180 (k := 13) (x := 59) bX11_moves_0 rfl rfl
def dX11_moves_16 := dk27 (k := 16) bX11_moves_0 rfl
def dX11_moves_17 := dk28 (k := 17) bX11_moves_0 rfl
def dX11_moves_18 := dk182 (k := 18) (x := 235) bX11_moves_0 rfl rfl
def dX11_moves_21 := dk172 (k := 21) bX11_moves_0 rfl
theorem bX11_round_0 : bL cX11_round 0 [42, 27, 28, 182, 0, 238, 153, 0, 15, 42, 180, 0, 66, 27, 28, 182, 0, 241, 167, 0, 5, 16, 254, 172] := bL_of (by decide +kernel)
def dX11_round_0 := dk42 (k := 0) bX11_round_0 rfl
def dX11_round_1 := dk27 (k := 1) bX11_round_0 rfl
def dX11_round_2 := dk28 (k := 2) bX11_round_0 rfl
def dX11_round_3 := dk182 (k := 3) (x := 238) bX11_round_0 rfl rfl
def dX11_round_6 := dk153 (k := 6) (x := 15) bX11_round_0 rfl (by decide)
def dX11_round_9 := dk42 (k := 9) bX11_round_0 rfl
def dX11_round_10 := dk180 (k := 10) (x := 66) bX11_round_0 rfl rfl
def dX11_round_13 := dk27 (k := 13) bX11_round_0 rfl
def dX11_round_14 := dk28 (k := 14) bX11_round_0 rfl
def dX11_round_15 := dk182 (k := 15) (x := 241) bX11_round_0 rfl rfl
def dX11_round_18 := dk167 (k := 18) (x := 5) bX11_round_0 rfl (by decide)
def dX11_round_21 := dk16 (k := 21) (x := (-2)) bX11_round_0 rfl (by decide)
def dX11_round_23 := dk172 (k := 23) bX11_round_0 rfl
theorem bX11_goes_0 : bL cX11_goes 0 [42, 27, 28, 182, 0, 238, 153, 0, 12, 29, 155, 0, 8, 29, 4, 164, 0, 6, 16, 254, 172, 42, 180, 0, 66] := bL_of (by decide +kernel)
def dX11_goes_0 := dk42 (k := 0) bX11_goes_0 rfl
def dX11_goes_1 := dk27 (k := 1) bX11_goes_0 rfl
def dX11_goes_2 := dk28 (k := 2) bX11_goes_0 rfl
def dX11_goes_3 := dk182 (k := 3) (x := 238) bX11_goes_0 rfl rfl
def dX11_goes_6 := dk153 (k := 6) (x := 12) bX11_goes_0 rfl (by decide)
def dX11_goes_9 := dk29 (k := 9) bX11_goes_0 rfl
def dX11_goes_10 := dk155 (k := 10) (x := 8) bX11_goes_0 rfl (by decide)
def dX11_goes_13 := dk29 (k := 13) bX11_goes_0 rfl
def dX11_goes_14 := dk4 (k := 14) bX11_goes_0 rfl
def dX11_goes_15 := dk164 (k := 15) (x := 6) bX11_goes_0 rfl (by decide)
def dX11_goes_18 := dk16 (k := 18) (x := (-2)) bX11_goes_0 rfl (by decide)
def dX11_goes_20 := dk172 (k := 20) bX11_goes_0 rfl
def dX11_goes_21 := dk42 (k := 21) bX11_goes_0 rfl
def dX11_goes_22 := dk180 (k := 22) (x := 66) bX11_goes_0 rfl rfl
theorem bX11_goes_25 : bL cX11_goes 25 [27, 28, 182, 0, 241, 2, 160, 0, 5, 2, 172, 29, 154, 0, 13, 42, 180, 0, 66, 180, 0, 244, 167, 0, 10] := bL_of (by decide +kernel)
def dX11_goes_25 := dk27 (k := 0) bX11_goes_25 rfl
def dX11_goes_26 := dk28 (k := 1) bX11_goes_25 rfl
def dX11_goes_27 := dk182 (k := 2) (x := 241) bX11_goes_25 rfl rfl
def dX11_goes_30 := dk2 (k := 5) bX11_goes_25 rfl
def dX11_goes_31 := dk160 (k := 6) (x := 5) bX11_goes_25 rfl (by decide)
def dX11_goes_34 := dk2 (k := 9) bX11_goes_25 rfl
def dX11_goes_35 := dk172 (k := 10) bX11_goes_25 rfl
def dX11_goes_36 := dk29 (k := 11) bX11_goes_25 rfl
def dX11_goes_37 := dk154 (k := 12) (x := 13) bX11_goes_25 rfl (by decide)
def dX11_goes_40 := dk42 (k := 15) bX11_goes_25 rfl
def dX11_goes_41 := dk180 (k := 16) (x := 66) bX11_goes_25 rfl rfl
def dX11_goes_44 := dk180 (k := 19) (x := 244) bX11_goes_25 rfl rfl
def dX11_goes_47 := dk167 (k := 22) (x := 10) bX11_goes_25 rfl (by decide)
theorem bX11_goes_50 : bL cX11_goes 50 [42, 180, 0, 66, 180, 0, 247, 172] := bL_of (by decide +kernel)
def dX11_goes_50 := dk42 (k := 0) bX11_goes_50 rfl
def dX11_goes_51 := dk180 (k := 1) (x := 66) bX11_goes_50 rfl rfl
def dX11_goes_54 := dk180 (k := 4) (x := 247) bX11_goes_50 rfl rfl
def dX11_goes_57 := dk172 (k := 7) bX11_goes_50 rfl
theorem bX11_two_0 : bL cX11_two 0 [42, 27, 29, 182, 0, 238, 153, 0, 25, 42, 28, 29, 182, 0, 238, 153, 0, 16, 42, 180, 0, 66, 27, 28] := bL_of (by decide +kernel)
def dX11_two_0 := dk42 (k := 0) bX11_two_0 rfl
def dX11_two_1 := dk27 (k := 1) bX11_two_0 rfl
def dX11_two_2 := dk29 (k := 2) bX11_two_0 rfl
def dX11_two_3 := dk182 (k := 3) (x := 238) bX11_two_0 rfl rfl
def dX11_two_6 := dk153 (k := 6) (x := 25) bX11_two_0 rfl (by decide)
def dX11_two_9 := dk42 (k := 9) bX11_two_0 rfl
def dX11_two_10 := dk28 (k := 10) bX11_two_0 rfl
def dX11_two_11 := dk29 (k := 11) bX11_two_0 rfl
def dX11_two_12 := dk182 (k := 12) (x := 238) bX11_two_0 rfl rfl
def dX11_two_15 := dk153 (k := 15) (x := 16) bX11_two_0 rfl (by decide)
def dX11_two_18 := dk42 (k := 18) bX11_two_0 rfl
def dX11_two_19 := dk180 (k := 19) (x := 66) bX11_two_0 rfl rfl
def dX11_two_22 := dk27 (k := 22) bX11_two_0 rfl
def dX11_two_23 := dk28 (k := 23) bX11_two_0 rfl
theorem bX11_two_24 : bL cX11_two 24 [29, 182, 0, 250, 167, 0, 5, 16, 254, 172] := bL_of (by decide +kernel)
def dX11_two_24 := dk29 (k := 0) bX11_two_24 rfl
def dX11_two_25 := dk182 (k := 1) (x := 250) bX11_two_24 rfl rfl
def dX11_two_28 := dk167 (k := 4) (x := 5) bX11_two_24 rfl (by decide)
def dX11_two_31 := dk16 (k := 7) (x := (-2)) bX11_two_24 rfl (by decide)
def dX11_two_33 := dk172 (k := 9) bX11_two_24 rfl
theorem bX11_flows_0 : bL cX11_flows 0 [42, 180, 0, 28, 180, 0, 139, 27, 182, 0, 142, 153, 0, 17, 42, 180, 0, 28, 180, 0, 139, 27, 182, 0, 254] := bL_of (by decide +kernel)
def dX11_flows_0 := dk42 (k := 0) bX11_flows_0 rfl
def dX11_flows_1 := dk180 (k := 1) (x := 28) bX11_flows_0 rfl rfl
def dX11_flows_4 := dk180 (k := 4) (x := 139) bX11_flows_0 rfl rfl
def dX11_flows_7 := dk27 (k := 7) bX11_flows_0 rfl
def dX11_flows_8 := dk182 (k := 8) (x := 142) bX11_flows_0 rfl rfl
def dX11_flows_11 := dk153 (k := 11) (x := 17) bX11_flows_0 rfl (by decide)
def dX11_flows_14 := dk42 (k := 14) bX11_flows_0 rfl
def dX11_flows_15 := dk180 (k := 15) (x := 28) bX11_flows_0 rfl rfl
def dX11_flows_18 := dk180 (k := 18) (x := 139) bX11_flows_0 rfl rfl
def dX11_flows_21 := dk27 (k := 21) bX11_flows_0 rfl
def dX11_flows_22 := dk182 (k := 22) (x := 254) bX11_flows_0 rfl rfl
theorem bX11_flows_25 : bL cX11_flows 25 [167, 0, 5, 16, 254, 172] := bL_of (by decide +kernel)
def dX11_flows_25 := dk167 (k := 0) (x := 5) bX11_flows_25 rfl (by decide)
def dX11_flows_28 := dk16 (k := 3) (x := (-2)) bX11_flows_25 rfl (by decide)
def dX11_flows_30 := dk172 (k := 5) bX11_flows_25 rfl
theorem bX11_basin_0 : bL cX11_basin 0 [42, 180, 0, 28, 180, 0, 139, 27, 182, 0, 142, 153, 0, 17, 42, 180, 0, 28, 180, 0, 139, 27, 182, 1, 1] := bL_of (by decide +kernel)
def dX11_basin_0 := dk42 (k := 0) bX11_basin_0 rfl
def dX11_basin_1 := dk180 (k := 1) (x := 28) bX11_basin_0 rfl rfl
def dX11_basin_4 := dk180 (k := 4) (x := 139) bX11_basin_0 rfl rfl
def dX11_basin_7 := dk27 (k := 7) bX11_basin_0 rfl
def dX11_basin_8 := dk182 (k := 8) (x := 142) bX11_basin_0 rfl rfl
def dX11_basin_11 := dk153 (k := 11) (x := 17) bX11_basin_0 rfl (by decide)
def dX11_basin_14 := dk42 (k := 14) bX11_basin_0 rfl
def dX11_basin_15 := dk180 (k := 15) (x := 28) bX11_basin_0 rfl rfl
def dX11_basin_18 := dk180 (k := 18) (x := 139) bX11_basin_0 rfl rfl
def dX11_basin_21 := dk27 (k := 21) bX11_basin_0 rfl
def dX11_basin_22 := dk182 (k := 22) (x := 257) bX11_basin_0 rfl rfl
theorem bX11_basin_25 : bL cX11_basin 25 [167, 0, 5, 16, 254, 172] := bL_of (by decide +kernel)
def dX11_basin_25 := dk167 (k := 0) (x := 5) bX11_basin_25 rfl (by decide)
def dX11_basin_28 := dk16 (k := 3) (x := (-2)) bX11_basin_25 rfl (by decide)
def dX11_basin_30 := dk172 (k := 5) bX11_basin_25 rfl
theorem bX11_cliffs_0 : bL cX11_cliffs 0 [42, 180, 0, 28, 182, 0, 157, 153, 0, 16, 42, 180, 0, 28, 180, 0, 139, 182, 1, 4, 167, 0, 5, 16, 254] := bL_of (by decide +kernel)
def dX11_cliffs_0 := dk42 (k := 0) bX11_cliffs_0 rfl
def dX11_cliffs_1 := dk180 (k := 1) (x := 28) bX11_cliffs_0 rfl rfl
def dX11_cliffs_4 := dk182 (k := 4) (x := 157) bX11_cliffs_0 rfl rfl
def dX11_cliffs_7 := dk153 (k := 7) (x := 16) bX11_cliffs_0 rfl (by decide)
def dX11_cliffs_10 := dk42 (k := 10) bX11_cliffs_0 rfl
def dX11_cliffs_11 := dk180 (k := 11) (x := 28) bX11_cliffs_0 rfl rfl
def dX11_cliffs_14 := dk180 (k := 14) (x := 139) bX11_cliffs_0 rfl rfl
def dX11_cliffs_17 := dk182 (k := 17) (x := 260) bX11_cliffs_0 rfl rfl
def dX11_cliffs_20 := dk167 (k := 20) (x := 5) bX11_cliffs_0 rfl (by decide)
def dX11_cliffs_23 := dk16 (k := 23) (x := (-2)) bX11_cliffs_0 rfl (by decide)
theorem bX11_cliffs_25 : bL cX11_cliffs 25 [172] := bL_of (by decide +kernel)
def dX11_cliffs_25 := dk172 (k := 0) bX11_cliffs_25 rfl
theorem bX11_springs_0 : bL cX11_springs 0 [42, 180, 0, 28, 182, 0, 157, 153, 0, 16, 42, 180, 0, 28, 180, 0, 139, 182, 1, 7, 167, 0, 5, 16, 254] := bL_of (by decide +kernel)
def dX11_springs_0 := dk42 (k := 0) bX11_springs_0 rfl
def dX11_springs_1 := dk180 (k := 1) (x := 28) bX11_springs_0 rfl rfl
def dX11_springs_4 := dk182 (k := 4) (x := 157) bX11_springs_0 rfl rfl
def dX11_springs_7 := dk153 (k := 7) (x := 16) bX11_springs_0 rfl (by decide)
def dX11_springs_10 := dk42 (k := 10) bX11_springs_0 rfl
def dX11_springs_11 := dk180 (k := 11) (x := 28) bX11_springs_0 rfl rfl
def dX11_springs_14 := dk180 (k := 14) (x := 139) bX11_springs_0 rfl rfl
def dX11_springs_17 := dk182 (k := 17) (x := 263) bX11_springs_0 rfl rfl
def dX11_springs_20 := dk167 (k := 20) (x := 5) bX11_springs_0 rfl (by decide)
def dX11_springs_23 := dk16 (k := 23) (x := (-2)) bX11_springs_0 rfl (by decide)
theorem bX11_springs_25 : bL cX11_springs 25 [172] := bL_of (by decide +kernel)
def dX11_springs_25 := dk172 (k := 0) bX11_springs_25 rfl
theorem bX11_sees_0 : bL cX11_sees 0 [42, 180, 0, 28, 180, 0, 139, 27, 182, 0, 142, 153, 0, 17, 42, 180, 0, 28, 180, 0, 139, 27, 182, 1, 10] := bL_of (by decide +kernel)
def dX11_sees_0 := dk42 (k := 0) bX11_sees_0 rfl
def dX11_sees_1 := dk180 (k := 1) (x := 28) bX11_sees_0 rfl rfl
def dX11_sees_4 := dk180 (k := 4) (x := 139) bX11_sees_0 rfl rfl
def dX11_sees_7 := dk27 (k := 7) bX11_sees_0 rfl
def dX11_sees_8 := dk182 (k := 8) (x := 142) bX11_sees_0 rfl rfl
def dX11_sees_11 := dk153 (k := 11) (x := 17) bX11_sees_0 rfl (by decide)
def dX11_sees_14 := dk42 (k := 14) bX11_sees_0 rfl
def dX11_sees_15 := dk180 (k := 15) (x := 28) bX11_sees_0 rfl rfl
def dX11_sees_18 := dk180 (k := 18) (x := 139) bX11_sees_0 rfl rfl
def dX11_sees_21 := dk27 (k := 21) bX11_sees_0 rfl
def dX11_sees_22 := dk182 (k := 22) (x := 266) bX11_sees_0 rfl rfl
theorem bX11_sees_25 : bL cX11_sees 25 [167, 0, 5, 16, 254, 172] := bL_of (by decide +kernel)
def dX11_sees_25 := dk167 (k := 0) (x := 5) bX11_sees_25 rfl (by decide)
def dX11_sees_28 := dk16 (k := 3) (x := (-2)) bX11_sees_25 rfl (by decide)
def dX11_sees_30 := dk172 (k := 5) bX11_sees_25 rfl
theorem bX11_lookout_0 : bL cX11_lookout 0 [42, 180, 0, 28, 182, 0, 157, 153, 0, 16, 42, 180, 0, 28, 180, 0, 139, 182, 1, 13, 167, 0, 5, 16, 254] := bL_of (by decide +kernel)
def dX11_lookout_0 := dk42 (k := 0) bX11_lookout_0 rfl
def dX11_lookout_1 := dk180 (k := 1) (x := 28) bX11_lookout_0 rfl rfl
def dX11_lookout_4 := dk182 (k := 4) (x := 157) bX11_lookout_0 rfl rfl
def dX11_lookout_7 := dk153 (k := 7) (x := 16) bX11_lookout_0 rfl (by decide)
def dX11_lookout_10 := dk42 (k := 10) bX11_lookout_0 rfl
def dX11_lookout_11 := dk180 (k := 11) (x := 28) bX11_lookout_0 rfl rfl
def dX11_lookout_14 := dk180 (k := 14) (x := 139) bX11_lookout_0 rfl rfl
def dX11_lookout_17 := dk182 (k := 17) (x := 269) bX11_lookout_0 rfl rfl
def dX11_lookout_20 := dk167 (k := 20) (x := 5) bX11_lookout_0 rfl (by decide)
def dX11_lookout_23 := dk16 (k := 23) (x := (-2)) bX11_lookout_0 rfl (by decide)
theorem bX11_lookout_25 : bL cX11_lookout 25 [172] := bL_of (by decide +kernel)
def dX11_lookout_25 := dk172 (k := 0) bX11_lookout_25 rfl
theorem bX11_votes_0 : bL cX11_votes 0 [42, 180, 0, 28, 180, 0, 139, 27, 182, 0, 143, 153, 0, 17, 42, 180, 0, 28, 180, 0, 139, 28, 182, 0, 143] := bL_of (by decide +kernel)
def dX11_votes_0 := dk42 (k := 0) bX11_votes_0 rfl
def dX11_votes_1 := dk180 (k := 1) (x := 28) bX11_votes_0 rfl rfl
def dX11_votes_4 := dk180 (k := 4) (x := 139) bX11_votes_0 rfl rfl
def dX11_votes_7 := dk27 (k := 7) bX11_votes_0 rfl
def dX11_votes_8 := dk182 (k := 8) (x := 143) bX11_votes_0 rfl rfl
def dX11_votes_11 := dk153 (k := 11) (x := 17) bX11_votes_0 rfl (by decide)
def dX11_votes_14 := dk42 (k := 14) bX11_votes_0 rfl
def dX11_votes_15 := dk180 (k := 15) (x := 28) bX11_votes_0 rfl rfl
def dX11_votes_18 := dk180 (k := 18) (x := 139) bX11_votes_0 rfl rfl
def dX11_votes_21 := dk28 (k := 21) bX11_votes_0 rfl
def dX11_votes_22 := dk182 (k := 22) (x := 143) bX11_votes_0 rfl rfl
theorem bX11_votes_25 : bL cX11_votes 25 [154, 0, 6, 16, 254, 172, 42, 180, 0, 75, 182, 1, 16, 42, 180, 0, 75, 27, 28, 182, 1, 19, 172] := bL_of (by decide +kernel)
def dX11_votes_25 := dk154 (k := 0) (x := 6) bX11_votes_25 rfl (by decide)
def dX11_votes_28 := dk16 (k := 3) (x := (-2)) bX11_votes_25 rfl (by decide)
def dX11_votes_30 := dk172 (k := 5) bX11_votes_25 rfl
def dX11_votes_31 := dk42 (k := 6) bX11_votes_25 rfl
def dX11_votes_32 := dk180 (k := 7) (x := 75) bX11_votes_25 rfl rfl
def dX11_votes_35 := dk182 (k := 10) (x := 272) bX11_votes_25 rfl rfl
def dX11_votes_38 := dk42 (k := 13) bX11_votes_25 rfl
def dX11_votes_39 := dk180 (k := 14) (x := 75) bX11_votes_25 rfl rfl
def dX11_votes_42 := dk27 (k := 17) bX11_votes_25 rfl
def dX11_votes_43 := dk28 (k := 18) bX11_votes_25 rfl
def dX11_votes_44 := dk182 (k := 19) (x := 275) bX11_votes_25 rfl rfl
def dX11_votes_47 := dk172 (k := 22) bX11_votes_25 rfl
theorem bX11_elected_0 : bL cX11_elected 0 [42, 180, 0, 28, 182, 0, 157, 153, 0, 13, 42, 180, 0, 75, 182, 1, 22, 167, 0, 5, 16, 254, 172] := bL_of (by decide +kernel)
def dX11_elected_0 := dk42 (k := 0) bX11_elected_0 rfl
def dX11_elected_1 := dk180 (k := 1) (x := 28) bX11_elected_0 rfl rfl
def dX11_elected_4 := dk182 (k := 4) (x := 157) bX11_elected_0 rfl rfl
def dX11_elected_7 := dk153 (k := 7) (x := 13) bX11_elected_0 rfl (by decide)
def dX11_elected_10 := dk42 (k := 10) bX11_elected_0 rfl
def dX11_elected_11 := dk180 (k := 11) (x := 75) bX11_elected_0 rfl rfl
def dX11_elected_14 := dk182 (k := 14) (x := 278) bX11_elected_0 rfl rfl
def dX11_elected_17 := dk167 (k := 17) (x := 5) bX11_elected_0 rfl (by decide)
def dX11_elected_20 := dk16 (k := 20) (x := (-2)) bX11_elected_0 rfl (by decide)
def dX11_elected_22 := dk172 (k := 22) bX11_elected_0 rfl
theorem bX11_best_0 : bL cX11_best 0 [42, 180, 0, 28, 182, 0, 157, 154, 0, 6, 16, 254, 172, 42, 180, 0, 75, 4, 182, 1, 25, 154, 0, 5] := bL_of (by decide +kernel)
def dX11_best_0 := dk42 (k := 0) bX11_best_0 rfl
def dX11_best_1 := dk180 (k := 1) (x := 28) bX11_best_0 rfl rfl
def dX11_best_4 := dk182 (k := 4) (x := 157) bX11_best_0 rfl rfl
def dX11_best_7 := dk154 (k := 7) (x := 6) bX11_best_0 rfl (by decide)
def dX11_best_10 := dk16 (k := 10) (x := (-2)) bX11_best_0 rfl (by decide)
def dX11_best_12 := dk172 (k := 12) bX11_best_0 rfl
def dX11_best_13 := dk42 (k := 13) bX11_best_0 rfl
def dX11_best_14 := dk180 (k := 14) (x := 75) bX11_best_0 rfl rfl
def dX11_best_17 := dk4 (k := 17) bX11_best_0 rfl
def dX11_best_18 := dk182 (k := 18) (x := 281) bX11_best_0 rfl rfl
def dX11_best_21 := dk154 (k := 21) (x := 5) bX11_best_0 rfl (by decide)
theorem bX11_best_24 : bL cX11_best 24 [2, 172, 42, 180, 0, 75, 4, 182, 1, 28, 87, 42, 180, 0, 75, 3, 182, 1, 31, 172] := bL_of (by decide +kernel)
def dX11_best_24 := dk2 (k := 0) bX11_best_24 rfl
def dX11_best_25 := dk172 (k := 1) bX11_best_24 rfl
def dX11_best_26 := dk42 (k := 2) bX11_best_24 rfl
def dX11_best_27 := dk180 (k := 3) (x := 75) bX11_best_24 rfl rfl
def dX11_best_30 := dk4 (k := 6) bX11_best_24 rfl
def dX11_best_31 := dk182 (k := 7) (x := 284) bX11_best_24 rfl rfl
def dX11_best_34 := dk87 (k := 10) bX11_best_24 rfl
def dX11_best_35 := dk42 (k := 11) bX11_best_24 rfl
def dX11_best_36 := dk180 (k := 12) (x := 75) bX11_best_24 rfl rfl
def dX11_best_39 := dk3 (k := 15) bX11_best_24 rfl
def dX11_best_40 := dk182 (k := 16) (x := 287) bX11_best_24 rfl rfl
def dX11_best_43 := dk172 (k := 19) bX11_best_24 rfl
theorem bX11_shape_0 : bL cX11_shape 0 [42, 180, 0, 75, 27, 182, 1, 25, 153, 0, 14, 42, 180, 0, 75, 27, 182, 1, 28, 167, 0, 5, 16, 254] := bL_of (by decide +kernel)
def dX11_shape_0 := dk42 (k := 0) bX11_shape_0 rfl
def dX11_shape_1 := dk180 (k := 1) (x := 75) bX11_shape_0 rfl rfl
def dX11_shape_4 := dk27 (k := 4) bX11_shape_0 rfl
def dX11_shape_5 := dk182 (k := 5) (x := 281) bX11_shape_0 rfl rfl
def dX11_shape_8 := dk153 (k := 8) (x := 14) bX11_shape_0 rfl (by decide)
def dX11_shape_11 := dk42 (k := 11) bX11_shape_0 rfl
def dX11_shape_12 := dk180 (k := 12) (x := 75) bX11_shape_0 rfl rfl
def dX11_shape_15 := dk27 (k := 15) bX11_shape_0 rfl
def dX11_shape_16 := dk182 (k := 16) (x := 284) bX11_shape_0 rfl rfl
def dX11_shape_19 := dk167 (k := 19) (x := 5) bX11_shape_0 rfl (by decide)
def dX11_shape_22 := dk16 (k := 22) (x := (-2)) bX11_shape_0 rfl (by decide)
theorem bX11_shape_24 : bL cX11_shape 24 [172] := bL_of (by decide +kernel)
def dX11_shape_24 := dk172 (k := 0) bX11_shape_24 rfl
theorem bX11_shaped_0 : bL cX11_shaped 0 [42, 180, 0, 75, 27, 182, 1, 25, 154, 0, 6, 16, 254, 172, 42, 180, 0, 75, 27, 182, 1, 28, 87, 28] := bL_of (by decide +kernel)
def dX11_shaped_0 := dk42 (k := 0) bX11_shaped_0 rfl
def dX11_shaped_1 := dk180 (k := 1) (x := 75) bX11_shaped_0 rfl rfl
def dX11_shaped_4 := dk27 (k := 4) bX11_shaped_0 rfl
def dX11_shaped_5 := dk182 (k := 5) (x := 281) bX11_shaped_0 rfl rfl
def dX11_shaped_8 := dk154 (k := 8) (x := 6) bX11_shaped_0 rfl (by decide)
def dX11_shaped_11 := dk16 (k := 11) (x := (-2)) bX11_shaped_0 rfl (by decide)
def dX11_shaped_13 := dk172 (k := 13) bX11_shaped_0 rfl
def dX11_shaped_14 := dk42 (k := 14) bX11_shaped_0 rfl
def dX11_shaped_15 := dk180 (k := 15) (x := 75) bX11_shaped_0 rfl rfl
def dX11_shaped_18 := dk27 (k := 18) bX11_shaped_0 rfl
def dX11_shaped_19 := dk182 (k := 19) (x := 284) bX11_shaped_0 rfl rfl
def dX11_shaped_22 := dk87 (k := 22) bX11_shaped_0 rfl
def dX11_shaped_23 := dk28 (k := 23) bX11_shaped_0 rfl
theorem bX11_shaped_24 : bL cX11_shaped 24 [155, 0, 8, 28, 27, 161, 0, 7, 2, 167, 0, 11, 42, 180, 0, 75, 28, 182, 1, 31, 172] := bL_of (by decide +kernel)
def dX11_shaped_24 := dk155 (k := 0) (x := 8) bX11_shaped_24 rfl (by decide)
def dX11_shaped_27 := dk28 (k := 3) bX11_shaped_24 rfl
def dX11_shaped_28 := dk27 (k := 4) bX11_shaped_24 rfl
def dX11_shaped_29 := dk161 (k := 5) (x := 7) bX11_shaped_24 rfl (by decide)
def dX11_shaped_32 := dk2 (k := 8) bX11_shaped_24 rfl
def dX11_shaped_33 := dk167 (k := 9) (x := 11) bX11_shaped_24 rfl (by decide)
def dX11_shaped_36 := dk42 (k := 12) bX11_shaped_24 rfl
def dX11_shaped_37 := dk180 (k := 13) (x := 75) bX11_shaped_24 rfl rfl
def dX11_shaped_40 := dk28 (k := 16) bX11_shaped_24 rfl
def dX11_shaped_41 := dk182 (k := 17) (x := 287) bX11_shaped_24 rfl rfl
def dX11_shaped_44 := dk172 (k := 20) bX11_shaped_24 rfl
theorem bX11_spoil_0 : bL cX11_spoil 0 [42, 180, 0, 28, 182, 0, 157, 153, 0, 13, 42, 180, 0, 75, 182, 1, 34, 167, 0, 5, 16, 254, 172] := bL_of (by decide +kernel)
def dX11_spoil_0 := dk42 (k := 0) bX11_spoil_0 rfl
def dX11_spoil_1 := dk180 (k := 1) (x := 28) bX11_spoil_0 rfl rfl
def dX11_spoil_4 := dk182 (k := 4) (x := 157) bX11_spoil_0 rfl rfl
def dX11_spoil_7 := dk153 (k := 7) (x := 13) bX11_spoil_0 rfl (by decide)
def dX11_spoil_10 := dk42 (k := 10) bX11_spoil_0 rfl
def dX11_spoil_11 := dk180 (k := 11) (x := 75) bX11_spoil_0 rfl rfl
def dX11_spoil_14 := dk182 (k := 14) (x := 290) bX11_spoil_0 rfl rfl
def dX11_spoil_17 := dk167 (k := 17) (x := 5) bX11_spoil_0 rfl (by decide)
def dX11_spoil_20 := dk16 (k := 20) (x := (-2)) bX11_spoil_0 rfl (by decide)
def dX11_spoil_22 := dk172 (k := 22) bX11_spoil_0 rfl
theorem bX11_course_0 : bL cX11_course 0 [42, 27, 182, 1, 37, 153, 0, 14, 42, 180, 0, 82, 27, 182, 1, 40, 167, 0, 5, 16, 254, 172] := bL_of (by decide +kernel)
def dX11_course_0 := dk42 (k := 0) bX11_course_0 rfl
def dX11_course_1 := dk27 (k := 1) bX11_course_0 rfl
def dX11_course_2 := dk182 (k := 2) (x := 293) bX11_course_0 rfl rfl
def dX11_course_5 := dk153 (k := 5) (x := 14) bX11_course_0 rfl (by decide)
def dX11_course_8 := dk42 (k := 8) bX11_course_0 rfl
def dX11_course_9 := dk180 (k := 9) (x := 82) bX11_course_0 rfl rfl
def dX11_course_12 := dk27 (k := 12) bX11_course_0 rfl
def dX11_course_13 := dk182 (k := 13) (x := 296) bX11_course_0 rfl rfl
def dX11_course_16 := dk167 (k := 16) (x := 5) bX11_course_0 rfl (by decide)
def dX11_course_19 := dk16 (k := 19) (x := (-2)) bX11_course_0 rfl (by decide)
def dX11_course_21 := dk172 (k := 21) bX11_course_0 rfl
theorem bX11_ends_0 : bL cX11_ends 0 [42, 27, 182, 1, 37, 154, 0, 6, 16, 254, 172, 42, 180, 0, 82, 27, 182, 1, 40, 87, 42, 180, 0, 50] := bL_of (by decide +kernel)
def dX11_ends_0 := dk42 (k := 0) bX11_ends_0 rfl
def dX11_ends_1 := dk27 (k := 1) bX11_ends_0 rfl
def dX11_ends_2 := dk182 (k := 2) (x := 293) bX11_ends_0 rfl rfl
def dX11_ends_5 := dk154 (k := 5) (x := 6) bX11_ends_0 rfl (by decide)
def dX11_ends_8 := dk16 (k := 8) (x := (-2)) bX11_ends_0 rfl (by decide)
def dX11_ends_10 := dk172 (k := 10) bX11_ends_0 rfl
def dX11_ends_11 := dk42 (k := 11) bX11_ends_0 rfl
def dX11_ends_12 := dk180 (k := 12) (x := 82) bX11_ends_0 rfl rfl
def dX11_ends_15 := dk27 (k := 15) bX11_ends_0 rfl
def dX11_ends_16 := dk182 (k := 16) (x := 296) bX11_ends_0 rfl rfl
def dX11_ends_19 := dk87 (k := 19) bX11_ends_0 rfl
def dX11_ends_20 := dk42 (k := 20) bX11_ends_0 rfl
def dX11_ends_21 := dk180 (k := 21) (x := 50) bX11_ends_0 rfl rfl
theorem bX11_ends_24 : bL cX11_ends 24 [182, 0, 187, 172] := bL_of (by decide +kernel)
def dX11_ends_24 := dk182 (k := 0) (x := 187) bX11_ends_24 rfl rfl
def dX11_ends_27 := dk172 (k := 3) bX11_ends_24 rfl
theorem bX11_left_0 : bL cX11_left 0 [42, 27, 182, 1, 37, 153, 0, 17, 42, 180, 0, 28, 180, 0, 126, 28, 182, 0, 130, 154, 0, 7, 17, 252, 24] := bL_of (by decide +kernel)
def dX11_left_0 := dk42 (k := 0) bX11_left_0 rfl
def dX11_left_1 := dk27 (k := 1) bX11_left_0 rfl
def dX11_left_2 := dk182 (k := 2) (x := 293) bX11_left_0 rfl rfl
def dX11_left_5 := dk153 (k := 5) (x := 17) bX11_left_0 rfl (by decide)
def dX11_left_8 := dk42 (k := 8) bX11_left_0 rfl
def dX11_left_9 := dk180 (k := 9) (x := 28) bX11_left_0 rfl rfl
def dX11_left_12 := dk180 (k := 12) (x := 126) bX11_left_0 rfl rfl
def dX11_left_15 := dk28 (k := 15) bX11_left_0 rfl
def dX11_left_16 := dk182 (k := 16) (x := 130) bX11_left_0 rfl rfl
def dX11_left_19 := dk154 (k := 19) (x := 7) bX11_left_0 rfl (by decide)
def dX11_left_22 := dk17 (k := 22) (x := (-1000)) bX11_left_0 rfl (by decide)
theorem bX11_left_25 : bL cX11_left 25 [172, 42, 180, 0, 82, 27, 182, 1, 40, 87, 42, 180, 0, 28, 180, 0, 126, 42, 180, 0, 50, 28, 182, 0, 170] := bL_of (by decide +kernel)
def dX11_left_25 := dk172 (k := 0) bX11_left_25 rfl
def dX11_left_26 := dk42 (k := 1) bX11_left_25 rfl
def dX11_left_27 := dk180 (k := 2) (x := 82) bX11_left_25 rfl rfl
def dX11_left_30 := dk27 (k := 5) bX11_left_25 rfl
def dX11_left_31 := dk182 (k := 6) (x := 296) bX11_left_25 rfl rfl
def dX11_left_34 := dk87 (k := 9) bX11_left_25 rfl
def dX11_left_35 := dk42 (k := 10) bX11_left_25 rfl
def dX11_left_36 := dk180 (k := 11) (x := 28) bX11_left_25 rfl rfl
def dX11_left_39 := dk180 (k := 14) (x := 126) bX11_left_25 rfl rfl
def dX11_left_42 := dk42 (k := 17) bX11_left_25 rfl
def dX11_left_43 := dk180 (k := 18) (x := 50) bX11_left_25 rfl rfl
def dX11_left_46 := dk28 (k := 21) bX11_left_25 rfl
def dX11_left_47 := dk182 (k := 22) (x := 170) bX11_left_25 rfl rfl
theorem bX11_left_50 : bL cX11_left 50 [172] := bL_of (by decide +kernel)
def dX11_left_50 := dk172 (k := 0) bX11_left_50 rfl
theorem bX11_law_0 : bL cX11_law 0 [42, 180, 0, 28, 182, 0, 157, 153, 0, 14, 27, 4, 161, 0, 9, 27, 16, 60, 164, 0, 6, 16, 254, 172] := bL_of (by decide +kernel)
def dX11_law_0 := dk42 (k := 0) bX11_law_0 rfl
def dX11_law_1 := dk180 (k := 1) (x := 28) bX11_law_0 rfl rfl
def dX11_law_4 := dk182 (k := 4) (x := 157) bX11_law_0 rfl rfl
def dX11_law_7 := dk153 (k := 7) (x := 14) bX11_law_0 rfl (by decide)
def dX11_law_10 := dk27 (k := 10) bX11_law_0 rfl
def dX11_law_11 := dk4 (k := 11) bX11_law_0 rfl
def dX11_law_12 := dk161 (k := 12) (x := 9) bX11_law_0 rfl (by decide)
def dX11_law_15 := dk27 (k := 15) bX11_law_0 rfl
def dX11_law_16 := dk16 (k := 16) (x := 60) bX11_law_0 rfl (by decide)
def dX11_law_18 := dk164 (k := 18) (x := 6) bX11_law_0 rfl (by decide)
def dX11_law_21 := dk16 (k := 21) (x := (-2)) bX11_law_0 rfl (by decide)
def dX11_law_23 := dk172 (k := 23) bX11_law_0 rfl
theorem bX11_law_24 : bL cX11_law 24 [42, 180, 0, 82, 27, 182, 1, 43, 172] := bL_of (by decide +kernel)
def dX11_law_24 := dk42 (k := 0) bX11_law_24 rfl
def dX11_law_25 := dk180 (k := 1) (x := 82) bX11_law_24 rfl rfl
def dX11_law_28 := dk27 (k := 4) bX11_law_24 rfl
def dX11_law_29 := dk182 (k := 5) (x := 299) bX11_law_24 rfl rfl
def dX11_law_32 := dk172 (k := 8) bX11_law_24 rfl
theorem bX11_raisers_0 : bL cX11_raisers 0 [42, 180, 0, 28, 182, 0, 157, 153, 0, 24, 42, 180, 0, 28, 180, 0, 126, 42, 180, 0, 28, 180, 0, 139] := bL_of (by decide +kernel)
def dX11_raisers_0 := dk42 (k := 0) bX11_raisers_0 rfl
def dX11_raisers_1 := dk180 (k := 1) (x := 28) bX11_raisers_0 rfl rfl
def dX11_raisers_4 := dk182 (k := 4) (x := 157) bX11_raisers_0 rfl rfl
def dX11_raisers_7 := dk153 (k := 7) (x := 24) bX11_raisers_0 rfl (by decide)
def dX11_raisers_10 := dk42 (k := 10) bX11_raisers_0 rfl
def dX11_raisers_11 := dk180 (k := 11) (x := 28) bX11_raisers_0 rfl rfl
def dX11_raisers_14 := dk180 (k := 14) (x := 126) bX11_raisers_0 rfl rfl
def dX11_raisers_17 := dk42 (k := 17) bX11_raisers_0 rfl
def dX11_raisers_18 := dk180 (k := 18) (x := 28) bX11_raisers_0 rfl rfl
def dX11_raisers_21 := dk180 (k := 21) (x := 139) bX11_raisers_0 rfl rfl
theorem bX11_raisers_24 : bL cX11_raisers 24 [4, 182, 0, 203, 167, 0, 5, 16, 254, 172] := bL_of (by decide +kernel)
def dX11_raisers_24 := dk4 (k := 0) bX11_raisers_24 rfl
def dX11_raisers_25 := dk182 (k := 1) (x := 203) bX11_raisers_24 rfl rfl
def dX11_raisers_28 := dk167 (k := 4) (x := 5) bX11_raisers_24 rfl (by decide)
def dX11_raisers_31 := dk16 (k := 7) (x := (-2)) bX11_raisers_24 rfl (by decide)
def dX11_raisers_33 := dk172 (k := 9) bX11_raisers_24 rfl
theorem bX11_old_0 : bL cX11_old 0 [42, 180, 0, 91, 27, 182, 1, 46, 61, 28, 153, 0, 7, 28, 167, 0, 10, 42, 180, 0, 91, 180, 1, 49] := bL_of (by decide +kernel)
def dX11_old_0 := dk42 (k := 0) bX11_old_0 rfl
def dX11_old_1 := dk180 (k := 1) (x := 91) bX11_old_0 rfl rfl
def dX11_old_4 := dk27 (k := 4) bX11_old_0 rfl
def dX11_old_5 := dk182 (k := 5) (x := 302) bX11_old_0 rfl rfl
def dX11_old_8 := dk61 (k := 8) bX11_old_0 rfl
def dX11_old_9 := dk28 (k := 9) bX11_old_0 rfl
def dX11_old_10 := dk153 (k := 10) (x := 7) bX11_old_0 rfl (by decide)
def dX11_old_13 := dk28 (k := 13) bX11_old_0 rfl
def dX11_old_14 := dk167 (k := 14) (x := 10) bX11_old_0 rfl (by decide)
def dX11_old_17 := dk42 (k := 17) bX11_old_0 rfl
def dX11_old_18 := dk180 (k := 18) (x := 91) bX11_old_0 rfl rfl
def dX11_old_21 := dk180 (k := 21) (x := 305) bX11_old_0 rfl rfl
theorem bX11_old_24 : bL cX11_old 24 [172] := bL_of (by decide +kernel)
def dX11_old_24 := dk172 (k := 0) bX11_old_24 rfl
theorem bX11_ask_0 : bL cX11_ask 0 [42, 180, 0, 28, 180, 0, 139, 28, 182, 0, 142, 154, 0, 6, 16, 254, 172, 42, 180, 0, 91, 27, 182, 1, 46] := bL_of (by decide +kernel)
def dX11_ask_0 := dk42 (k := 0) bX11_ask_0 rfl
def dX11_ask_1 := dk180 (k := 1) (x := 28) bX11_ask_0 rfl rfl
def dX11_ask_4 := dk180 (k := 4) (x := 139) bX11_ask_0 rfl rfl
def dX11_ask_7 := dk28 (k := 7) bX11_ask_0 rfl
def dX11_ask_8 := dk182 (k := 8) (x := 142) bX11_ask_0 rfl rfl
def dX11_ask_11 := dk154 (k := 11) (x := 6) bX11_ask_0 rfl (by decide)
def dX11_ask_14 := dk16 (k := 14) (x := (-2)) bX11_ask_0 rfl (by decide)
def dX11_ask_16 := dk172 (k := 16) bX11_ask_0 rfl
def dX11_ask_17 := dk42 (k := 17) bX11_ask_0 rfl
def dX11_ask_18 := dk180 (k := 18) (x := 91) bX11_ask_0 rfl rfl
def dX11_ask_21 := dk27 (k := 21) bX11_ask_0 rfl
def dX11_ask_22 := dk182 (k := 22) (x := 302) bX11_ask_0 rfl rfl
theorem bX11_ask_25 : bL cX11_ask 25 [62, 29, 153, 0, 7, 29, 167, 0, 11, 42, 180, 0, 91, 28, 182, 1, 52, 172] := bL_of (by decide +kernel)
def dX11_ask_25 := dk62 (k := 0) bX11_ask_25 rfl
def dX11_ask_26 := dk29 (k := 1) bX11_ask_25 rfl
def dX11_ask_27 := dk153 (k := 2) (x := 7) bX11_ask_25 rfl (by decide)
def dX11_ask_30 := dk29 (k := 5) bX11_ask_25 rfl
def dX11_ask_31 := dk167 (k := 6) (x := 11) bX11_ask_25 rfl (by decide)
def dX11_ask_34 := dk42 (k := 9) bX11_ask_25 rfl
def dX11_ask_35 := dk180 (k := 10) (x := 91) bX11_ask_25 rfl rfl
def dX11_ask_38 := dk28 (k := 13) bX11_ask_25 rfl
def dX11_ask_39 := dk182 (k := 14) (x := 308) bX11_ask_25 rfl rfl
def dX11_ask_42 := dk172 (k := 17) bX11_ask_25 rfl
theorem bX11_leaves_0 : bL cX11_leaves 0 [42, 180, 0, 28, 180, 0, 139, 28, 182, 0, 142, 154, 0, 6, 16, 254, 172, 42, 180, 0, 91, 27, 182, 1, 46] := bL_of (by decide +kernel)
def dX11_leaves_0 := dk42 (k := 0) bX11_leaves_0 rfl
def dX11_leaves_1 := dk180 (k := 1) (x := 28) bX11_leaves_0 rfl rfl
def dX11_leaves_4 := dk180 (k := 4) (x := 139) bX11_leaves_0 rfl rfl
def dX11_leaves_7 := dk28 (k := 7) bX11_leaves_0 rfl
def dX11_leaves_8 := dk182 (k := 8) (x := 142) bX11_leaves_0 rfl rfl
def dX11_leaves_11 := dk154 (k := 11) (x := 6) bX11_leaves_0 rfl (by decide)
def dX11_leaves_14 := dk16 (k := 14) (x := (-2)) bX11_leaves_0 rfl (by decide)
def dX11_leaves_16 := dk172 (k := 16) bX11_leaves_0 rfl
def dX11_leaves_17 := dk42 (k := 17) bX11_leaves_0 rfl
def dX11_leaves_18 := dk180 (k := 18) (x := 91) bX11_leaves_0 rfl rfl
def dX11_leaves_21 := dk27 (k := 21) bX11_leaves_0 rfl
def dX11_leaves_22 := dk182 (k := 22) (x := 302) bX11_leaves_0 rfl rfl
theorem bX11_leaves_25 : bL cX11_leaves 25 [62, 29, 153, 0, 5, 29, 172, 42, 180, 0, 91, 28, 182, 1, 52, 87, 42, 180, 0, 91, 180, 1, 55, 172] := bL_of (by decide +kernel)
def dX11_leaves_25 := dk62 (k := 0) bX11_leaves_25 rfl
def dX11_leaves_26 := dk29 (k := 1) bX11_leaves_25 rfl
def dX11_leaves_27 := dk153 (k := 2) (x := 5) bX11_leaves_25 rfl (by decide)
def dX11_leaves_30 := dk29 (k := 5) bX11_leaves_25 rfl
def dX11_leaves_31 := dk172 (k := 6) bX11_leaves_25 rfl
def dX11_leaves_32 := dk42 (k := 7) bX11_leaves_25 rfl
def dX11_leaves_33 := dk180 (k := 8) (x := 91) bX11_leaves_25 rfl rfl
def dX11_leaves_36 := dk28 (k := 11) bX11_leaves_25 rfl
def dX11_leaves_37 := dk182 (k := 12) (x := 308) bX11_leaves_25 rfl rfl
def dX11_leaves_40 := dk87 (k := 15) bX11_leaves_25 rfl
def dX11_leaves_41 := dk42 (k := 16) bX11_leaves_25 rfl
def dX11_leaves_42 := dk180 (k := 17) (x := 91) bX11_leaves_25 rfl rfl
def dX11_leaves_45 := dk180 (k := 20) (x := 311) bX11_leaves_25 rfl rfl
def dX11_leaves_48 := dk172 (k := 23) bX11_leaves_25 rfl
theorem bX11_doubts_0 : bL cX11_doubts 0 [42, 180, 0, 91, 27, 182, 1, 46, 61, 28, 153, 0, 7, 28, 167, 0, 10, 42, 180, 0, 91, 182, 1, 58] := bL_of (by decide +kernel)
def dX11_doubts_0 := dk42 (k := 0) bX11_doubts_0 rfl
def dX11_doubts_1 := dk180 (k := 1) (x := 91) bX11_doubts_0 rfl rfl
def dX11_doubts_4 := dk27 (k := 4) bX11_doubts_0 rfl
def dX11_doubts_5 := dk182 (k := 5) (x := 302) bX11_doubts_0 rfl rfl
def dX11_doubts_8 := dk61 (k := 8) bX11_doubts_0 rfl
def dX11_doubts_9 := dk28 (k := 9) bX11_doubts_0 rfl
def dX11_doubts_10 := dk153 (k := 10) (x := 7) bX11_doubts_0 rfl (by decide)
def dX11_doubts_13 := dk28 (k := 13) bX11_doubts_0 rfl
def dX11_doubts_14 := dk167 (k := 14) (x := 10) bX11_doubts_0 rfl (by decide)
def dX11_doubts_17 := dk42 (k := 17) bX11_doubts_0 rfl
def dX11_doubts_18 := dk180 (k := 18) (x := 91) bX11_doubts_0 rfl rfl
def dX11_doubts_21 := dk182 (k := 21) (x := 314) bX11_doubts_0 rfl rfl
theorem bX11_doubts_24 : bL cX11_doubts 24 [172] := bL_of (by decide +kernel)
def dX11_doubts_24 := dk172 (k := 0) bX11_doubts_24 rfl
theorem bX11_stands_0 : bL cX11_stands 0 [42, 27, 182, 1, 61, 61, 28, 153, 0, 7, 28, 167, 0, 19, 42, 180, 0, 28, 180, 0, 126, 42, 180, 0, 43] := bL_of (by decide +kernel)
def dX11_stands_0 := dk42 (k := 0) bX11_stands_0 rfl
def dX11_stands_1 := dk27 (k := 1) bX11_stands_0 rfl
def dX11_stands_2 := dk182 (k := 2) (x := 317) bX11_stands_0 rfl rfl
def dX11_stands_5 := dk61 (k := 5) bX11_stands_0 rfl
def dX11_stands_6 := dk28 (k := 6) bX11_stands_0 rfl
def dX11_stands_7 := dk153 (k := 7) (x := 7) bX11_stands_0 rfl (by decide)
def dX11_stands_10 := dk28 (k := 10) bX11_stands_0 rfl
def dX11_stands_11 := dk167 (k := 11) (x := 19) bX11_stands_0 rfl (by decide)
def dX11_stands_14 := dk42 (k := 14) bX11_stands_0 rfl
def dX11_stands_15 := dk180 (k := 15) (x := 28) bX11_stands_0 rfl rfl
def dX11_stands_18 := dk180 (k := 18) (x := 126) bX11_stands_0 rfl rfl
def dX11_stands_21 := dk42 (k := 21) bX11_stands_0 rfl
def dX11_stands_22 := dk180 (k := 22) (x := 43) bX11_stands_0 rfl rfl
theorem bX11_stands_25 : bL cX11_stands 25 [27, 3, 182, 1, 64, 172] := bL_of (by decide +kernel)
def dX11_stands_25 := dk27 (k := 0) bX11_stands_25 rfl
def dX11_stands_26 := dk3 (k := 1) bX11_stands_25 rfl
def dX11_stands_27 := dk182 (k := 2) (x := 320) bX11_stands_25 rfl rfl
def dX11_stands_30 := dk172 (k := 5) bX11_stands_25 rfl
theorem bX11_struck_0 : bL cX11_struck 0 [28, 155, 0, 8, 28, 4, 164, 0, 6, 16, 254, 172, 42, 27, 182, 1, 61, 62, 29, 153, 0, 7, 29, 167, 0, 21] := bL_of (by decide +kernel)
def dX11_struck_0 := dk28 (k := 0) bX11_struck_0 rfl
def dX11_struck_1 := dk155 (k := 1) (x := 8) bX11_struck_0 rfl (by decide)
def dX11_struck_4 := dk28 (k := 4) bX11_struck_0 rfl
def dX11_struck_5 := dk4 (k := 5) bX11_struck_0 rfl
def dX11_struck_6 := dk164 (k := 6) (x := 6) bX11_struck_0 rfl (by decide)
def dX11_struck_9 := dk16 (k := 9) (x := (-2)) bX11_struck_0 rfl (by decide)
def dX11_struck_11 := dk172 (k := 11) bX11_struck_0 rfl
def dX11_struck_12 := dk42 (k := 12) bX11_struck_0 rfl
def dX11_struck_13 := dk27 (k := 13) bX11_struck_0 rfl
def dX11_struck_14 := dk182 (k := 14) (x := 317) bX11_struck_0 rfl rfl
def dX11_struck_17 := dk62 (k := 17) bX11_struck_0 rfl
def dX11_struck_18 := dk29 (k := 18) bX11_struck_0 rfl
def dX11_struck_19 := dk153 (k := 19) (x := 7) bX11_struck_0 rfl (by decide)
def dX11_struck_22 := dk29 (k := 22) bX11_struck_0 rfl
def dX11_struck_23 := dk167 (k := 23) (x := 21) bX11_struck_0 rfl (by decide)
theorem bX11_struck_26 : bL cX11_struck 26 [42, 180, 0, 28, 180, 0, 126, 42, 180, 0, 43, 27, 28, 4, 96, 182, 1, 64, 172] := bL_of (by decide +kernel)
def dX11_struck_26 := dk42 (k := 0) bX11_struck_26 rfl
def dX11_struck_27 := dk180 (k := 1) (x := 28) bX11_struck_26 rfl rfl
def dX11_struck_30 := dk180 (k := 4) (x := 126) bX11_struck_26 rfl rfl
def dX11_struck_33 := dk42 (k := 7) bX11_struck_26 rfl
def dX11_struck_34 := dk180 (k := 8) (x := 43) bX11_struck_26 rfl rfl
def dX11_struck_37 := dk27 (k := 11) bX11_struck_26 rfl
def dX11_struck_38 := dk28 (k := 12) bX11_struck_26 rfl
def dX11_struck_39 := dk4 (k := 13) bX11_struck_26 rfl
def dX11_struck_40 := dk96 (k := 14) bX11_struck_26 rfl
def dX11_struck_41 := dk182 (k := 15) (x := 320) bX11_struck_26 rfl rfl
def dX11_struck_44 := dk172 (k := 18) bX11_struck_26 rfl
theorem bX11_drawn_0 : bL cX11_drawn 0 [42, 27, 28, 182, 1, 68, 153, 0, 12, 29, 155, 0, 8, 29, 5, 164, 0, 6, 16, 254, 172, 42, 180, 0, 82] := bL_of (by decide +kernel)
def dX11_drawn_0 := dk42 (k := 0) bX11_drawn_0 rfl
def dX11_drawn_1 := dk27 (k := 1) bX11_drawn_0 rfl
def dX11_drawn_2 := dk28 (k := 2) bX11_drawn_0 rfl
def dX11_drawn_3 := dk182 (k := 3) (x := 324) bX11_drawn_0 rfl rfl
def dX11_drawn_6 := dk153 (k := 6) (x := 12) bX11_drawn_0 rfl (by decide)
def dX11_drawn_9 := dk29 (k := 9) bX11_drawn_0 rfl
def dX11_drawn_10 := dk155 (k := 10) (x := 8) bX11_drawn_0 rfl (by decide)
def dX11_drawn_13 := dk29 (k := 13) bX11_drawn_0 rfl
def dX11_drawn_14 := dk5 (k := 14) bX11_drawn_0 rfl
def dX11_drawn_15 := dk164 (k := 15) (x := 6) bX11_drawn_0 rfl (by decide)
def dX11_drawn_18 := dk16 (k := 18) (x := (-2)) bX11_drawn_0 rfl (by decide)
def dX11_drawn_20 := dk172 (k := 20) bX11_drawn_0 rfl
def dX11_drawn_21 := dk42 (k := 21) bX11_drawn_0 rfl
def dX11_drawn_22 := dk180 (k := 22) (x := 82) bX11_drawn_0 rfl rfl
theorem bX11_drawn_25 : bL cX11_drawn 25 [27, 28, 16, 40, 182, 1, 71, 54, 4, 29, 154, 0, 6, 21, 4, 172, 29, 4, 160, 0, 13, 42, 180, 0, 50] := bL_of (by decide +kernel)
def dX11_drawn_25 := dk27 (k := 0) bX11_drawn_25 rfl
def dX11_drawn_26 := dk28 (k := 1) bX11_drawn_25 rfl
def dX11_drawn_27 := dk16 (k := 2) (x := 40) bX11_drawn_25 rfl (by decide)
def dX11_drawn_29 := dk182 (k := 4) (x := 327) bX11_drawn_25 rfl rfl
def dX11_drawn_32 := dk54 (k := 7) (x := 4) bX11_drawn_25 rfl rfl
def dX11_drawn_34 := dk29 (k := 9) bX11_drawn_25 rfl
def dX11_drawn_35 := dk154 (k := 10) (x := 6) bX11_drawn_25 rfl (by decide)
def dX11_drawn_38 := dk21 (k := 13) (x := 4) bX11_drawn_25 rfl rfl
def dX11_drawn_40 := dk172 (k := 15) bX11_drawn_25 rfl
def dX11_drawn_41 := dk29 (k := 16) bX11_drawn_25 rfl
def dX11_drawn_42 := dk4 (k := 17) bX11_drawn_25 rfl
def dX11_drawn_43 := dk160 (k := 18) (x := 13) bX11_drawn_25 rfl (by decide)
def dX11_drawn_46 := dk42 (k := 21) bX11_drawn_25 rfl
def dX11_drawn_47 := dk180 (k := 22) (x := 50) bX11_drawn_25 rfl rfl
theorem bX11_drawn_50 : bL cX11_drawn 50 [182, 0, 187, 167, 0, 17, 42, 180, 0, 28, 180, 0, 126, 42, 180, 0, 50, 182, 0, 180, 172] := bL_of (by decide +kernel)
def dX11_drawn_50 := dk182 (k := 0) (x := 187) bX11_drawn_50 rfl rfl
def dX11_drawn_53 := dk167 (k := 3) (x := 17) bX11_drawn_50 rfl (by decide)
def dX11_drawn_56 := dk42 (k := 6) bX11_drawn_50 rfl
def dX11_drawn_57 := dk180 (k := 7) (x := 28) bX11_drawn_50 rfl rfl
def dX11_drawn_60 := dk180 (k := 10) (x := 126) bX11_drawn_50 rfl rfl
def dX11_drawn_63 := dk42 (k := 13) bX11_drawn_50 rfl
def dX11_drawn_64 := dk180 (k := 14) (x := 50) bX11_drawn_50 rfl rfl
def dX11_drawn_67 := dk182 (k := 17) (x := 180) bX11_drawn_50 rfl rfl
def dX11_drawn_70 := dk172 (k := 20) bX11_drawn_50 rfl
theorem bX11_luck_0 : bL cX11_luck 0 [42, 27, 29, 182, 1, 68, 153, 0, 14, 28, 4, 161, 0, 9, 28, 16, 20, 164, 0, 6, 16, 254, 172, 3] := bL_of (by decide +kernel)
def dX11_luck_0 := dk42 (k := 0) bX11_luck_0 rfl
def dX11_luck_1 := dk27 (k := 1) bX11_luck_0 rfl
def dX11_luck_2 := dk29 (k := 2) bX11_luck_0 rfl
def dX11_luck_3 := dk182 (k := 3) (x := 324) bX11_luck_0 rfl rfl
def dX11_luck_6 := dk153 (k := 6) (x := 14) bX11_luck_0 rfl (by decide)
def dX11_luck_9 := dk28 (k := 9) bX11_luck_0 rfl
def dX11_luck_10 := dk4 (k := 10) bX11_luck_0 rfl
def dX11_luck_11 := dk161 (k := 11) (x := 9) bX11_luck_0 rfl (by decide)
def dX11_luck_14 := dk28 (k := 14) bX11_luck_0 rfl
def dX11_luck_15 := dk16 (k := 15) (x := 20) bX11_luck_0 rfl (by decide)
def dX11_luck_17 := dk164 (k := 17) (x := 6) bX11_luck_0 rfl (by decide)
def dX11_luck_20 := dk16 (k := 20) (x := (-2)) bX11_luck_0 rfl (by decide)
def dX11_luck_22 := dk172 (k := 22) bX11_luck_0 rfl
def dX11_luck_23 := dk3 (k := 23) bX11_luck_0 rfl
theorem bX11_luck_24 : bL cX11_luck 24 [54, 4, 3, 54, 5, 21, 5, 28, 162, 0, 28, 42, 180, 0, 82, 27, 21, 5, 96, 29, 4, 182, 1, 71] := bL_of (by decide +kernel)
def dX11_luck_24 := dk54 (k := 0) (x := 4) bX11_luck_24 rfl rfl
def dX11_luck_26 := dk3 (k := 2) bX11_luck_24 rfl
def dX11_luck_27 := dk54 (k := 3) (x := 5) bX11_luck_24 rfl rfl
def dX11_luck_29 := dk21 (k := 5) (x := 5) bX11_luck_24 rfl rfl
def dX11_luck_31 := dk28 (k := 7) bX11_luck_24 rfl
def dX11_luck_32 := dk162 (k := 8) (x := 28) bX11_luck_24 rfl (by decide)
def dX11_luck_35 := dk42 (k := 11) bX11_luck_24 rfl
def dX11_luck_36 := dk180 (k := 12) (x := 82) bX11_luck_24 rfl rfl
def dX11_luck_39 := dk27 (k := 15) bX11_luck_24 rfl
def dX11_luck_40 := dk21 (k := 16) (x := 5) bX11_luck_24 rfl rfl
def dX11_luck_42 := dk96 (k := 18) bX11_luck_24 rfl
def dX11_luck_43 := dk29 (k := 19) bX11_luck_24 rfl
def dX11_luck_44 := dk4 (k := 20) bX11_luck_24 rfl
def dX11_luck_45 := dk182 (k := 21) (x := 327) bX11_luck_24 rfl rfl
theorem bX11_luck_48 : bL cX11_luck 48 [158, 0, 6, 132, 4, 1, 132, 5, 1, 167, 255, 228, 21, 4, 172] := bL_of (by decide +kernel)
def dX11_luck_48 := dk158 (k := 0) (x := 6) bX11_luck_48 rfl (by decide)
theorem dX11_luck_51 : decode cX11_luck 51 = .ok (.iinc 4 1, 3) := dk132 (k := 3) bX11_luck_48 rfl rfl (by decide)
theorem dX11_luck_54 : decode cX11_luck 54 = .ok (.iinc 5 1, 3) := dk132 (k := 6) bX11_luck_48 rfl rfl (by decide)
def dX11_luck_57 := dk167 (k := 9) (x := (-28)) bX11_luck_48 rfl (by decide)
def dX11_luck_60 := dk21 (k := 12) (x := 4) bX11_luck_48 rfl rfl
def dX11_luck_62 := dk172 (k := 14) bX11_luck_48 rfl
theorem bX11_tell_0 : bL cX11_tell 0 [42, 27, 182, 1, 37, 154, 0, 6, 16, 254, 172, 42, 180, 0, 28, 180, 0, 200, 158, 0, 6, 16, 251, 172] := bL_of (by decide +kernel)
def dX11_tell_0 := dk42 (k := 0) bX11_tell_0 rfl
def dX11_tell_1 := dk27 (k := 1) bX11_tell_0 rfl
def dX11_tell_2 := dk182 (k := 2) (x := 293) bX11_tell_0 rfl rfl
def dX11_tell_5 := dk154 (k := 5) (x := 6) bX11_tell_0 rfl (by decide)
def dX11_tell_8 := dk16 (k := 8) (x := (-2)) bX11_tell_0 rfl (by decide)
def dX11_tell_10 := dk172 (k := 10) bX11_tell_0 rfl
def dX11_tell_11 := dk42 (k := 11) bX11_tell_0 rfl
def dX11_tell_12 := dk180 (k := 12) (x := 28) bX11_tell_0 rfl rfl
def dX11_tell_15 := dk180 (k := 15) (x := 200) bX11_tell_0 rfl rfl
def dX11_tell_18 := dk158 (k := 18) (x := 6) bX11_tell_0 rfl (by decide)
def dX11_tell_21 := dk16 (k := 21) (x := (-5)) bX11_tell_0 rfl (by decide)
def dX11_tell_23 := dk172 (k := 23) bX11_tell_0 rfl
theorem bX11_tell_24 : bL cX11_tell 24 [42, 180, 0, 28, 180, 1, 74, 61, 42, 180, 0, 28, 27, 181, 1, 74, 28, 172] := bL_of (by decide +kernel)
def dX11_tell_24 := dk42 (k := 0) bX11_tell_24 rfl
def dX11_tell_25 := dk180 (k := 1) (x := 28) bX11_tell_24 rfl rfl
def dX11_tell_28 := dk180 (k := 4) (x := 330) bX11_tell_24 rfl rfl
def dX11_tell_31 := dk61 (k := 7) bX11_tell_24 rfl
def dX11_tell_32 := dk42 (k := 8) bX11_tell_24 rfl
def dX11_tell_33 := dk180 (k := 9) (x := 28) bX11_tell_24 rfl rfl
def dX11_tell_36 := dk27 (k := 12) bX11_tell_24 rfl
def dX11_tell_37 := dk181 (k := 13) (x := 330) bX11_tell_24 rfl rfl
def dX11_tell_40 := dk28 (k := 16) bX11_tell_24 rfl
def dX11_tell_41 := dk172 (k := 17) bX11_tell_24 rfl
theorem bX11_likes_0 : bL cX11_likes 0 [42, 180, 0, 28, 180, 0, 126, 27, 182, 0, 130, 153, 0, 22, 28, 155, 0, 18, 28, 5, 163, 0, 13, 29] := bL_of (by decide +kernel)
def dX11_likes_0 := dk42 (k := 0) bX11_likes_0 rfl
def dX11_likes_1 := dk180 (k := 1) (x := 28) bX11_likes_0 rfl rfl
def dX11_likes_4 := dk180 (k := 4) (x := 126) bX11_likes_0 rfl rfl
def dX11_likes_7 := dk27 (k := 7) bX11_likes_0 rfl
def dX11_likes_8 := dk182 (k := 8) (x := 130) bX11_likes_0 rfl rfl
def dX11_likes_11 := dk153 (k := 11) (x := 22) bX11_likes_0 rfl (by decide)
def dX11_likes_14 := dk28 (k := 14) bX11_likes_0 rfl
def dX11_likes_15 := dk155 (k := 15) (x := 18) bX11_likes_0 rfl (by decide)
def dX11_likes_18 := dk28 (k := 18) bX11_likes_0 rfl
def dX11_likes_19 := dk5 (k := 19) bX11_likes_0 rfl
def dX11_likes_20 := dk163 (k := 20) (x := 13) bX11_likes_0 rfl (by decide)
def dX11_likes_23 := dk29 (k := 23) bX11_likes_0 rfl
theorem bX11_likes_24 : bL cX11_likes 24 [155, 0, 9, 29, 16, 9, 164, 0, 6, 16, 254, 172, 42, 180, 0, 28, 180, 0, 200, 158, 0, 6, 16, 251] := bL_of (by decide +kernel)
def dX11_likes_24 := dk155 (k := 0) (x := 9) bX11_likes_24 rfl (by decide)
def dX11_likes_27 := dk29 (k := 3) bX11_likes_24 rfl
def dX11_likes_28 := dk16 (k := 4) (x := 9) bX11_likes_24 rfl (by decide)
def dX11_likes_30 := dk164 (k := 6) (x := 6) bX11_likes_24 rfl (by decide)
def dX11_likes_33 := dk16 (k := 9) (x := (-2)) bX11_likes_24 rfl (by decide)
def dX11_likes_35 := dk172 (k := 11) bX11_likes_24 rfl
def dX11_likes_36 := dk42 (k := 12) bX11_likes_24 rfl
def dX11_likes_37 := dk180 (k := 13) (x := 28) bX11_likes_24 rfl rfl
def dX11_likes_40 := dk180 (k := 16) (x := 200) bX11_likes_24 rfl rfl
def dX11_likes_43 := dk158 (k := 19) (x := 6) bX11_likes_24 rfl (by decide)
def dX11_likes_46 := dk16 (k := 22) (x := (-5)) bX11_likes_24 rfl (by decide)
theorem bX11_likes_48 : bL cX11_likes 48 [172, 42, 180, 0, 28, 180, 0, 126, 27, 5, 28, 96, 182, 0, 135, 54, 4, 42, 180, 0, 28, 180, 0, 126] := bL_of (by decide +kernel)
def dX11_likes_48 := dk172 (k := 0) bX11_likes_48 rfl
def dX11_likes_49 := dk42 (k := 1) bX11_likes_48 rfl
def dX11_likes_50 := dk180 (k := 2) (x := 28) bX11_likes_48 rfl rfl
def dX11_likes_53 := dk180 (k := 5) (x := 126) bX11_likes_48 rfl rfl
def dX11_likes_56 := dk27 (k := 8) bX11_likes_48 rfl
def dX11_likes_57 := dk5 (k := 9) bX11_likes_48 rfl
def dX11_likes_58 := dk28 (k := 10) bX11_likes_48 rfl
def dX11_likes_59 := dk96 (k := 11) bX11_likes_48 rfl
def dX11_likes_60 := dk182 (k := 12) (x := 135) bX11_likes_48 rfl rfl
def dX11_likes_63 := dk54 (k := 15) (x := 4) bX11_likes_48 rfl rfl
def dX11_likes_65 := dk42 (k := 17) bX11_likes_48 rfl
def dX11_likes_66 := dk180 (k := 18) (x := 28) bX11_likes_48 rfl rfl
def dX11_likes_69 := dk180 (k := 21) (x := 126) bX11_likes_48 rfl rfl
theorem bX11_likes_72 : bL cX11_likes 72 [27, 5, 28, 96, 29, 182, 1, 77, 21, 4, 172] := bL_of (by decide +kernel)
def dX11_likes_72 := dk27 (k := 0) bX11_likes_72 rfl
def dX11_likes_73 := dk5 (k := 1) bX11_likes_72 rfl
def dX11_likes_74 := dk28 (k := 2) bX11_likes_72 rfl
def dX11_likes_75 := dk96 (k := 3) bX11_likes_72 rfl
def dX11_likes_76 := dk29 (k := 4) bX11_likes_72 rfl
def dX11_likes_77 := dk182 (k := 5) (x := 333) bX11_likes_72 rfl rfl
def dX11_likes_80 := dk21 (k := 8) (x := 4) bX11_likes_72 rfl rfl
def dX11_likes_82 := dk172 (k := 10) bX11_likes_72 rfl
theorem bX11_count_0 : bL cX11_count 0 [27] := bL_of (by decide +kernel)
def dX11_count_0 := dk27 (k := 0) bX11_count_0 rfl
theorem dX11_count_1 : decode cX11_count 1 = .ok (.tableswitch 147 0 9 #[55, 66, 77, 88, 99, 107, 115, 123, 131, 139], 55) := by decide +kernel
theorem bX11_count_56 : bL cX11_count 56 [42, 180, 0, 28, 180, 0, 139, 180, 1, 81, 172, 42, 180, 0, 28, 180, 0, 126, 180, 1, 84, 172, 42, 180, 0, 28] := bL_of (by decide +kernel)
def dX11_count_56 := dk42 (k := 0) bX11_count_56 rfl
def dX11_count_57 := dk180 (k := 1) (x := 28) bX11_count_56 rfl rfl
def dX11_count_60 := dk180 (k := 4) (x := 139) bX11_count_56 rfl rfl
def dX11_count_63 := dk180 (k := 7) (x := 337) bX11_count_56 rfl rfl
def dX11_count_66 := dk172 (k := 10) bX11_count_56 rfl
def dX11_count_67 := dk42 (k := 11) bX11_count_56 rfl
def dX11_count_68 := dk180 (k := 12) (x := 28) bX11_count_56 rfl rfl
def dX11_count_71 := dk180 (k := 15) (x := 126) bX11_count_56 rfl rfl
def dX11_count_74 := dk180 (k := 18) (x := 340) bX11_count_56 rfl rfl
def dX11_count_77 := dk172 (k := 21) bX11_count_56 rfl
def dX11_count_78 := dk42 (k := 22) bX11_count_56 rfl
def dX11_count_79 := dk180 (k := 23) (x := 28) bX11_count_56 rfl rfl
theorem bX11_count_82 : bL cX11_count 82 [180, 0, 139, 180, 1, 85, 172, 42, 180, 0, 28, 180, 0, 139, 180, 1, 88, 172, 42, 180, 0, 28, 180, 1, 74] := bL_of (by decide +kernel)
def dX11_count_82 := dk180 (k := 0) (x := 139) bX11_count_82 rfl rfl
def dX11_count_85 := dk180 (k := 3) (x := 341) bX11_count_82 rfl rfl
def dX11_count_88 := dk172 (k := 6) bX11_count_82 rfl
def dX11_count_89 := dk42 (k := 7) bX11_count_82 rfl
def dX11_count_90 := dk180 (k := 8) (x := 28) bX11_count_82 rfl rfl
def dX11_count_93 := dk180 (k := 11) (x := 139) bX11_count_82 rfl rfl
def dX11_count_96 := dk180 (k := 14) (x := 344) bX11_count_82 rfl rfl
def dX11_count_99 := dk172 (k := 17) bX11_count_82 rfl
def dX11_count_100 := dk42 (k := 18) bX11_count_82 rfl
def dX11_count_101 := dk180 (k := 19) (x := 28) bX11_count_82 rfl rfl
def dX11_count_104 := dk180 (k := 22) (x := 330) bX11_count_82 rfl rfl
theorem bX11_count_107 : bL cX11_count 107 [172, 42, 180, 0, 28, 180, 1, 91, 172, 42, 180, 0, 28, 180, 0, 117, 172, 42, 180, 0, 10, 180, 0, 103] := bL_of (by decide +kernel)
def dX11_count_107 := dk172 (k := 0) bX11_count_107 rfl
def dX11_count_108 := dk42 (k := 1) bX11_count_107 rfl
def dX11_count_109 := dk180 (k := 2) (x := 28) bX11_count_107 rfl rfl
def dX11_count_112 := dk180 (k := 5) (x := 347) bX11_count_107 rfl rfl
def dX11_count_115 := dk172 (k := 8) bX11_count_107 rfl
def dX11_count_116 := dk42 (k := 9) bX11_count_107 rfl
def dX11_count_117 := dk180 (k := 10) (x := 28) bX11_count_107 rfl rfl
def dX11_count_120 := dk180 (k := 13) (x := 117) bX11_count_107 rfl rfl
def dX11_count_123 := dk172 (k := 16) bX11_count_107 rfl
def dX11_count_124 := dk42 (k := 17) bX11_count_107 rfl
def dX11_count_125 := dk180 (k := 18) (x := 10) bX11_count_107 rfl rfl
def dX11_count_128 := dk180 (k := 21) (x := 103) bX11_count_107 rfl rfl
theorem bX11_count_131 : bL cX11_count 131 [172, 42, 180, 0, 28, 180, 0, 200, 172, 42, 180, 0, 43, 182, 1, 94, 172, 2, 172] := bL_of (by decide +kernel)
def dX11_count_131 := dk172 (k := 0) bX11_count_131 rfl
def dX11_count_132 := dk42 (k := 1) bX11_count_131 rfl
def dX11_count_133 := dk180 (k := 2) (x := 28) bX11_count_131 rfl rfl
def dX11_count_136 := dk180 (k := 5) (x := 200) bX11_count_131 rfl rfl
def dX11_count_139 := dk172 (k := 8) bX11_count_131 rfl
def dX11_count_140 := dk42 (k := 9) bX11_count_131 rfl
def dX11_count_141 := dk180 (k := 10) (x := 43) bX11_count_131 rfl rfl
def dX11_count_144 := dk182 (k := 13) (x := 350) bX11_count_131 rfl rfl
def dX11_count_147 := dk172 (k := 16) bX11_count_131 rfl
def dX11_count_148 := dk2 (k := 17) bX11_count_131 rfl
def dX11_count_149 := dk172 (k := 18) bX11_count_131 rfl
theorem bX11_image_0 : bL cX11_image 0 [27, 155, 0, 8, 27, 6, 161, 0, 6, 16, 254, 172, 42, 180, 0, 32, 27, 50, 42, 180, 0, 28, 182, 0, 114] := bL_of (by decide +kernel)
def dX11_image_0 := dk27 (k := 0) bX11_image_0 rfl
def dX11_image_1 := dk155 (k := 1) (x := 8) bX11_image_0 rfl (by decide)
def dX11_image_4 := dk27 (k := 4) bX11_image_0 rfl
def dX11_image_5 := dk6 (k := 5) bX11_image_0 rfl
def dX11_image_6 := dk161 (k := 6) (x := 6) bX11_image_0 rfl (by decide)
def dX11_image_9 := dk16 (k := 9) (x := (-2)) bX11_image_0 rfl (by decide)
def dX11_image_11 := dk172 (k := 11) bX11_image_0 rfl
def dX11_image_12 := dk42 (k := 12) bX11_image_0 rfl
def dX11_image_13 := dk180 (k := 13) (x := 32) bX11_image_0 rfl rfl
def dX11_image_16 := dk27 (k := 16) bX11_image_0 rfl
def dX11_image_17 := dk50 (k := 17) bX11_image_0 rfl
def dX11_image_18 := dk42 (k := 18) bX11_image_0 rfl
def dX11_image_19 := dk180 (k := 19) (x := 28) bX11_image_0 rfl rfl
def dX11_image_22 := dk182 (k := 22) (x := 114) bX11_image_0 rfl rfl
theorem bX11_image_25 : bL cX11_image 25 [42, 180, 0, 36, 27, 4, 84, 3, 172] := bL_of (by decide +kernel)
def dX11_image_25 := dk42 (k := 0) bX11_image_25 rfl
def dX11_image_26 := dk180 (k := 1) (x := 36) bX11_image_25 rfl rfl
def dX11_image_29 := dk27 (k := 4) bX11_image_25 rfl
def dX11_image_30 := dk4 (k := 5) bX11_image_25 rfl
def dX11_image_31 := dk84 (k := 6) bX11_image_25 rfl
def dX11_image_32 := dk3 (k := 7) bX11_image_25 rfl
def dX11_image_33 := dk172 (k := 8) bX11_image_25 rfl
theorem bX11_back_0 : bL cX11_back 0 [27, 155, 0, 8, 27, 6, 161, 0, 6, 16, 254, 172, 42, 180, 0, 36, 27, 51, 154, 0, 6, 16, 250, 172] := bL_of (by decide +kernel)
def dX11_back_0 := dk27 (k := 0) bX11_back_0 rfl
def dX11_back_1 := dk155 (k := 1) (x := 8) bX11_back_0 rfl (by decide)
def dX11_back_4 := dk27 (k := 4) bX11_back_0 rfl
def dX11_back_5 := dk6 (k := 5) bX11_back_0 rfl
def dX11_back_6 := dk161 (k := 6) (x := 6) bX11_back_0 rfl (by decide)
def dX11_back_9 := dk16 (k := 9) (x := (-2)) bX11_back_0 rfl (by decide)
def dX11_back_11 := dk172 (k := 11) bX11_back_0 rfl
def dX11_back_12 := dk42 (k := 12) bX11_back_0 rfl
def dX11_back_13 := dk180 (k := 13) (x := 36) bX11_back_0 rfl rfl
def dX11_back_16 := dk27 (k := 16) bX11_back_0 rfl
def dX11_back_17 := dk51 (k := 17) bX11_back_0 rfl
def dX11_back_18 := dk154 (k := 18) (x := 6) bX11_back_0 rfl (by decide)
def dX11_back_21 := dk16 (k := 21) (x := (-6)) bX11_back_0 rfl (by decide)
def dX11_back_23 := dk172 (k := 23) bX11_back_0 rfl
theorem bX11_back_24 : bL cX11_back 24 [42, 180, 0, 28, 42, 180, 0, 32, 27, 50, 182, 0, 114, 3, 172] := bL_of (by decide +kernel)
def dX11_back_24 := dk42 (k := 0) bX11_back_24 rfl
def dX11_back_25 := dk180 (k := 1) (x := 28) bX11_back_24 rfl rfl
def dX11_back_28 := dk42 (k := 4) bX11_back_24 rfl
def dX11_back_29 := dk180 (k := 5) (x := 32) bX11_back_24 rfl rfl
def dX11_back_32 := dk27 (k := 8) bX11_back_24 rfl
def dX11_back_33 := dk50 (k := 9) bX11_back_24 rfl
def dX11_back_34 := dk182 (k := 10) (x := 114) bX11_back_24 rfl rfl
def dX11_back_37 := dk3 (k := 13) bX11_back_24 rfl
def dX11_back_38 := dk172 (k := 14) bX11_back_24 rfl
theorem bX11_row_0 : bL cX11_row 0 [42, 180, 0, 43, 27, 182, 1, 97, 153, 0, 18, 28, 155, 0, 14, 28, 7, 162, 0, 9, 29, 16, 60, 164, 0, 6] := bL_of (by decide +kernel)
def dX11_row_0 := dk42 (k := 0) bX11_row_0 rfl
def dX11_row_1 := dk180 (k := 1) (x := 43) bX11_row_0 rfl rfl
def dX11_row_4 := dk27 (k := 4) bX11_row_0 rfl
def dX11_row_5 := dk182 (k := 5) (x := 353) bX11_row_0 rfl rfl
def dX11_row_8 := dk153 (k := 8) (x := 18) bX11_row_0 rfl (by decide)
def dX11_row_11 := dk28 (k := 11) bX11_row_0 rfl
def dX11_row_12 := dk155 (k := 12) (x := 14) bX11_row_0 rfl (by decide)
def dX11_row_15 := dk28 (k := 15) bX11_row_0 rfl
def dX11_row_16 := dk7 (k := 16) bX11_row_0 rfl
def dX11_row_17 := dk162 (k := 17) (x := 9) bX11_row_0 rfl (by decide)
def dX11_row_20 := dk29 (k := 20) bX11_row_0 rfl
def dX11_row_21 := dk16 (k := 21) (x := 60) bX11_row_0 rfl (by decide)
def dX11_row_23 := dk164 (k := 23) (x := 6) bX11_row_0 rfl (by decide)
theorem bX11_row_26 : bL cX11_row 26 [16, 254, 172, 29, 156, 0, 6, 16, 253, 172, 42, 180, 0, 43, 27, 28, 29, 182, 1, 98, 3, 172] := bL_of (by decide +kernel)
def dX11_row_26 := dk16 (k := 0) (x := (-2)) bX11_row_26 rfl (by decide)
def dX11_row_28 := dk172 (k := 2) bX11_row_26 rfl
def dX11_row_29 := dk29 (k := 3) bX11_row_26 rfl
def dX11_row_30 := dk156 (k := 4) (x := 6) bX11_row_26 rfl (by decide)
def dX11_row_33 := dk16 (k := 7) (x := (-3)) bX11_row_26 rfl (by decide)
def dX11_row_35 := dk172 (k := 9) bX11_row_26 rfl
def dX11_row_36 := dk42 (k := 10) bX11_row_26 rfl
def dX11_row_37 := dk180 (k := 11) (x := 43) bX11_row_26 rfl rfl
def dX11_row_40 := dk27 (k := 14) bX11_row_26 rfl
def dX11_row_41 := dk28 (k := 15) bX11_row_26 rfl
def dX11_row_42 := dk29 (k := 16) bX11_row_26 rfl
def dX11_row_43 := dk182 (k := 17) (x := 354) bX11_row_26 rfl rfl
def dX11_row_46 := dk3 (k := 20) bX11_row_26 rfl
def dX11_row_47 := dk172 (k := 21) bX11_row_26 rfl
theorem bX11_write_0 : bL cX11_write 0 [42, 180, 0, 43, 27, 182, 1, 97, 154, 0, 6, 16, 254, 172, 42, 180, 0, 43, 27, 182, 1, 101, 154, 0, 6] := bL_of (by decide +kernel)
def dX11_write_0 := dk42 (k := 0) bX11_write_0 rfl
def dX11_write_1 := dk180 (k := 1) (x := 43) bX11_write_0 rfl rfl
def dX11_write_4 := dk27 (k := 4) bX11_write_0 rfl
def dX11_write_5 := dk182 (k := 5) (x := 353) bX11_write_0 rfl rfl
def dX11_write_8 := dk154 (k := 8) (x := 6) bX11_write_0 rfl (by decide)
def dX11_write_11 := dk16 (k := 11) (x := (-2)) bX11_write_0 rfl (by decide)
def dX11_write_13 := dk172 (k := 13) bX11_write_0 rfl
def dX11_write_14 := dk42 (k := 14) bX11_write_0 rfl
def dX11_write_15 := dk180 (k := 15) (x := 43) bX11_write_0 rfl rfl
def dX11_write_18 := dk27 (k := 18) bX11_write_0 rfl
def dX11_write_19 := dk182 (k := 19) (x := 357) bX11_write_0 rfl rfl
def dX11_write_22 := dk154 (k := 22) (x := 6) bX11_write_0 rfl (by decide)
theorem bX11_write_25 : bL cX11_write 25 [16, 250, 172, 28, 155, 0, 15, 28, 42, 180, 0, 43, 27, 182, 1, 104, 161, 0, 6, 16, 249, 172, 42, 180, 0, 43] := bL_of (by decide +kernel)
def dX11_write_25 := dk16 (k := 0) (x := (-6)) bX11_write_25 rfl (by decide)
def dX11_write_27 := dk172 (k := 2) bX11_write_25 rfl
def dX11_write_28 := dk28 (k := 3) bX11_write_25 rfl
def dX11_write_29 := dk155 (k := 4) (x := 15) bX11_write_25 rfl (by decide)
def dX11_write_32 := dk28 (k := 7) bX11_write_25 rfl
def dX11_write_33 := dk42 (k := 8) bX11_write_25 rfl
def dX11_write_34 := dk180 (k := 9) (x := 43) bX11_write_25 rfl rfl
def dX11_write_37 := dk27 (k := 12) bX11_write_25 rfl
def dX11_write_38 := dk182 (k := 13) (x := 360) bX11_write_25 rfl rfl
def dX11_write_41 := dk161 (k := 16) (x := 6) bX11_write_25 rfl (by decide)
def dX11_write_44 := dk16 (k := 19) (x := (-7)) bX11_write_25 rfl (by decide)
def dX11_write_46 := dk172 (k := 21) bX11_write_25 rfl
def dX11_write_47 := dk42 (k := 22) bX11_write_25 rfl
def dX11_write_48 := dk180 (k := 23) (x := 43) bX11_write_25 rfl rfl
theorem bX11_write_51 : bL cX11_write 51 [27, 28, 33, 182, 1, 107, 3, 172] := bL_of (by decide +kernel)
def dX11_write_51 := dk27 (k := 0) bX11_write_51 rfl
def dX11_write_52 := dk28 (k := 1) bX11_write_51 rfl
def dX11_write_53 := dk33 (k := 2) bX11_write_51 rfl
def dX11_write_54 := dk182 (k := 3) (x := 363) bX11_write_51 rfl rfl
def dX11_write_57 := dk3 (k := 6) bX11_write_51 rfl
def dX11_write_58 := dk172 (k := 7) bX11_write_51 rfl
theorem bX11_paste_0 : bL cX11_paste 0 [42, 180, 0, 43, 27, 182, 1, 97, 153, 0, 14, 42, 180, 0, 43, 29, 182, 1, 97, 154, 0, 6, 16, 254] := bL_of (by decide +kernel)
def dX11_paste_0 := dk42 (k := 0) bX11_paste_0 rfl
def dX11_paste_1 := dk180 (k := 1) (x := 43) bX11_paste_0 rfl rfl
def dX11_paste_4 := dk27 (k := 4) bX11_paste_0 rfl
def dX11_paste_5 := dk182 (k := 5) (x := 353) bX11_paste_0 rfl rfl
def dX11_paste_8 := dk153 (k := 8) (x := 14) bX11_paste_0 rfl (by decide)
def dX11_paste_11 := dk42 (k := 11) bX11_paste_0 rfl
def dX11_paste_12 := dk180 (k := 12) (x := 43) bX11_paste_0 rfl rfl
def dX11_paste_15 := dk29 (k := 15) bX11_paste_0 rfl
def dX11_paste_16 := dk182 (k := 16) (x := 353) bX11_paste_0 rfl rfl
def dX11_paste_19 := dk154 (k := 19) (x := 6) bX11_paste_0 rfl (by decide)
def dX11_paste_22 := dk16 (k := 22) (x := (-2)) bX11_paste_0 rfl (by decide)
theorem bX11_paste_24 : bL cX11_paste 24 [172, 42, 180, 0, 43, 27, 182, 1, 101, 153, 0, 14, 42, 180, 0, 43, 29, 182, 1, 101, 154, 0, 6, 16, 250] := bL_of (by decide +kernel)
def dX11_paste_24 := dk172 (k := 0) bX11_paste_24 rfl
def dX11_paste_25 := dk42 (k := 1) bX11_paste_24 rfl
def dX11_paste_26 := dk180 (k := 2) (x := 43) bX11_paste_24 rfl rfl
def dX11_paste_29 := dk27 (k := 5) bX11_paste_24 rfl
def dX11_paste_30 := dk182 (k := 6) (x := 357) bX11_paste_24 rfl rfl
def dX11_paste_33 := dk153 (k := 9) (x := 14) bX11_paste_24 rfl (by decide)
def dX11_paste_36 := dk42 (k := 12) bX11_paste_24 rfl
def dX11_paste_37 := dk180 (k := 13) (x := 43) bX11_paste_24 rfl rfl
def dX11_paste_40 := dk29 (k := 16) bX11_paste_24 rfl
def dX11_paste_41 := dk182 (k := 17) (x := 357) bX11_paste_24 rfl rfl
def dX11_paste_44 := dk154 (k := 20) (x := 6) bX11_paste_24 rfl (by decide)
def dX11_paste_47 := dk16 (k := 23) (x := (-6)) bX11_paste_24 rfl (by decide)
theorem bX11_paste_49 : bL cX11_paste 49 [172, 42, 180, 0, 43, 27, 182, 1, 111, 42, 180, 0, 43, 29, 182, 1, 111, 159, 0, 6, 16, 248, 172, 42] := bL_of (by decide +kernel)
def dX11_paste_49 := dk172 (k := 0) bX11_paste_49 rfl
def dX11_paste_50 := dk42 (k := 1) bX11_paste_49 rfl
def dX11_paste_51 := dk180 (k := 2) (x := 43) bX11_paste_49 rfl rfl
def dX11_paste_54 := dk27 (k := 5) bX11_paste_49 rfl
def dX11_paste_55 := dk182 (k := 6) (x := 367) bX11_paste_49 rfl rfl
def dX11_paste_58 := dk42 (k := 9) bX11_paste_49 rfl
def dX11_paste_59 := dk180 (k := 10) (x := 43) bX11_paste_49 rfl rfl
def dX11_paste_62 := dk29 (k := 13) bX11_paste_49 rfl
def dX11_paste_63 := dk182 (k := 14) (x := 367) bX11_paste_49 rfl rfl
def dX11_paste_66 := dk159 (k := 17) (x := 6) bX11_paste_49 rfl (by decide)
def dX11_paste_69 := dk16 (k := 20) (x := (-8)) bX11_paste_49 rfl (by decide)
def dX11_paste_71 := dk172 (k := 22) bX11_paste_49 rfl
def dX11_paste_72 := dk42 (k := 23) bX11_paste_49 rfl
theorem bX11_paste_73 : bL cX11_paste 73 [180, 0, 43, 27, 28, 21, 5, 182, 1, 114, 153, 0, 18, 42, 180, 0, 43, 29, 21, 4, 21, 5, 182, 1, 114] := bL_of (by decide +kernel)
def dX11_paste_73 := dk180 (k := 0) (x := 43) bX11_paste_73 rfl rfl
def dX11_paste_76 := dk27 (k := 3) bX11_paste_73 rfl
def dX11_paste_77 := dk28 (k := 4) bX11_paste_73 rfl
def dX11_paste_78 := dk21 (k := 5) (x := 5) bX11_paste_73 rfl rfl
def dX11_paste_80 := dk182 (k := 7) (x := 370) bX11_paste_73 rfl rfl
def dX11_paste_83 := dk153 (k := 10) (x := 18) bX11_paste_73 rfl (by decide)
def dX11_paste_86 := dk42 (k := 13) bX11_paste_73 rfl
def dX11_paste_87 := dk180 (k := 14) (x := 43) bX11_paste_73 rfl rfl
def dX11_paste_90 := dk29 (k := 17) bX11_paste_73 rfl
def dX11_paste_91 := dk21 (k := 18) (x := 4) bX11_paste_73 rfl rfl
def dX11_paste_93 := dk21 (k := 20) (x := 5) bX11_paste_73 rfl rfl
def dX11_paste_95 := dk182 (k := 22) (x := 370) bX11_paste_73 rfl rfl
theorem bX11_paste_98 : bL cX11_paste 98 [154, 0, 6, 16, 249, 172, 42, 180, 0, 43, 27, 28, 29, 21, 4, 21, 5, 182, 1, 118, 3, 172] := bL_of (by decide +kernel)
def dX11_paste_98 := dk154 (k := 0) (x := 6) bX11_paste_98 rfl (by decide)
def dX11_paste_101 := dk16 (k := 3) (x := (-7)) bX11_paste_98 rfl (by decide)
def dX11_paste_103 := dk172 (k := 5) bX11_paste_98 rfl
def dX11_paste_104 := dk42 (k := 6) bX11_paste_98 rfl
def dX11_paste_105 := dk180 (k := 7) (x := 43) bX11_paste_98 rfl rfl
def dX11_paste_108 := dk27 (k := 10) bX11_paste_98 rfl
def dX11_paste_109 := dk28 (k := 11) bX11_paste_98 rfl
def dX11_paste_110 := dk29 (k := 12) bX11_paste_98 rfl
def dX11_paste_111 := dk21 (k := 13) (x := 4) bX11_paste_98 rfl rfl
def dX11_paste_113 := dk21 (k := 15) (x := 5) bX11_paste_98 rfl rfl
def dX11_paste_115 := dk182 (k := 17) (x := 374) bX11_paste_98 rfl rfl
def dX11_paste_118 := dk3 (k := 20) bX11_paste_98 rfl
def dX11_paste_119 := dk172 (k := 21) bX11_paste_98 rfl
theorem bX11_isHour_0 : bL cX11_isHour 0 [26, 153, 0, 19, 26, 16, 247, 161, 0, 13, 26, 16, 9, 163, 0, 7, 4, 167, 0, 4, 3, 172] := bL_of (by decide +kernel)
def dX11_isHour_0 := dk26 (k := 0) bX11_isHour_0 rfl
def dX11_isHour_1 := dk153 (k := 1) (x := 19) bX11_isHour_0 rfl (by decide)
def dX11_isHour_4 := dk26 (k := 4) bX11_isHour_0 rfl
def dX11_isHour_5 := dk16 (k := 5) (x := (-9)) bX11_isHour_0 rfl (by decide)
def dX11_isHour_7 := dk161 (k := 7) (x := 13) bX11_isHour_0 rfl (by decide)
def dX11_isHour_10 := dk26 (k := 10) bX11_isHour_0 rfl
def dX11_isHour_11 := dk16 (k := 11) (x := 9) bX11_isHour_0 rfl (by decide)
def dX11_isHour_13 := dk163 (k := 13) (x := 7) bX11_isHour_0 rfl (by decide)
def dX11_isHour_16 := dk4 (k := 16) bX11_isHour_0 rfl
def dX11_isHour_17 := dk167 (k := 17) (x := 4) bX11_isHour_0 rfl (by decide)
def dX11_isHour_20 := dk3 (k := 20) bX11_isHour_0 rfl
def dX11_isHour_21 := dk172 (k := 21) bX11_isHour_0 rfl
theorem bX11_isPlay_0 : bL cX11_isPlay 0 [42, 180, 0, 28, 182, 0, 157, 153, 0, 25, 27, 155, 0, 21, 27, 7, 163, 0, 16, 28, 155, 0, 12, 28] := bL_of (by decide +kernel)
def dX11_isPlay_0 := dk42 (k := 0) bX11_isPlay_0 rfl
def dX11_isPlay_1 := dk180 (k := 1) (x := 28) bX11_isPlay_0 rfl rfl
def dX11_isPlay_4 := dk182 (k := 4) (x := 157) bX11_isPlay_0 rfl rfl
def dX11_isPlay_7 := dk153 (k := 7) (x := 25) bX11_isPlay_0 rfl (by decide)
def dX11_isPlay_10 := dk27 (k := 10) bX11_isPlay_0 rfl
def dX11_isPlay_11 := dk155 (k := 11) (x := 21) bX11_isPlay_0 rfl (by decide)
def dX11_isPlay_14 := dk27 (k := 14) bX11_isPlay_0 rfl
def dX11_isPlay_15 := dk7 (k := 15) bX11_isPlay_0 rfl
def dX11_isPlay_16 := dk163 (k := 16) (x := 16) bX11_isPlay_0 rfl (by decide)
def dX11_isPlay_19 := dk28 (k := 19) bX11_isPlay_0 rfl
def dX11_isPlay_20 := dk155 (k := 20) (x := 12) bX11_isPlay_0 rfl (by decide)
def dX11_isPlay_23 := dk28 (k := 23) bX11_isPlay_0 rfl
theorem bX11_isPlay_24 : bL cX11_isPlay 24 [4, 163, 0, 7, 4, 167, 0, 4, 3, 172] := bL_of (by decide +kernel)
def dX11_isPlay_24 := dk4 (k := 0) bX11_isPlay_24 rfl
def dX11_isPlay_25 := dk163 (k := 1) (x := 7) bX11_isPlay_24 rfl (by decide)
def dX11_isPlay_28 := dk4 (k := 4) bX11_isPlay_24 rfl
def dX11_isPlay_29 := dk167 (k := 5) (x := 4) bX11_isPlay_24 rfl (by decide)
def dX11_isPlay_32 := dk3 (k := 8) bX11_isPlay_24 rfl
def dX11_isPlay_33 := dk172 (k := 9) bX11_isPlay_24 rfl
theorem bX11_isWalk_0 : bL cX11_isWalk 0 [42, 180, 0, 28, 180, 0, 139, 27, 182, 0, 142, 153, 0, 19, 28, 4, 161, 0, 14, 28, 17, 3, 32, 163, 0, 7] := bL_of (by decide +kernel)
def dX11_isWalk_0 := dk42 (k := 0) bX11_isWalk_0 rfl
def dX11_isWalk_1 := dk180 (k := 1) (x := 28) bX11_isWalk_0 rfl rfl
def dX11_isWalk_4 := dk180 (k := 4) (x := 139) bX11_isWalk_0 rfl rfl
def dX11_isWalk_7 := dk27 (k := 7) bX11_isWalk_0 rfl
def dX11_isWalk_8 := dk182 (k := 8) (x := 142) bX11_isWalk_0 rfl rfl
def dX11_isWalk_11 := dk153 (k := 11) (x := 19) bX11_isWalk_0 rfl (by decide)
def dX11_isWalk_14 := dk28 (k := 14) bX11_isWalk_0 rfl
def dX11_isWalk_15 := dk4 (k := 15) bX11_isWalk_0 rfl
def dX11_isWalk_16 := dk161 (k := 16) (x := 14) bX11_isWalk_0 rfl (by decide)
def dX11_isWalk_19 := dk28 (k := 19) bX11_isWalk_0 rfl
def dX11_isWalk_20 := dk17 (k := 20) (x := 800) bX11_isWalk_0 rfl (by decide)
def dX11_isWalk_23 := dk163 (k := 23) (x := 7) bX11_isWalk_0 rfl (by decide)
theorem bX11_isWalk_26 : bL cX11_isWalk 26 [4, 167, 0, 4, 3, 172] := bL_of (by decide +kernel)
def dX11_isWalk_26 := dk4 (k := 0) bX11_isWalk_26 rfl
def dX11_isWalk_27 := dk167 (k := 1) (x := 4) bX11_isWalk_26 rfl (by decide)
def dX11_isWalk_30 := dk3 (k := 4) bX11_isWalk_26 rfl
def dX11_isWalk_31 := dk172 (k := 5) bX11_isWalk_26 rfl
theorem bX11_isLaw_0 : bL cX11_isLaw 0 [42, 180, 0, 28, 182, 0, 157, 153, 0, 19, 27, 4, 161, 0, 14, 27, 17, 3, 231, 163, 0, 7, 4, 167, 0, 4] := bL_of (by decide +kernel)
def dX11_isLaw_0 := dk42 (k := 0) bX11_isLaw_0 rfl
def dX11_isLaw_1 := dk180 (k := 1) (x := 28) bX11_isLaw_0 rfl rfl
def dX11_isLaw_4 := dk182 (k := 4) (x := 157) bX11_isLaw_0 rfl rfl
def dX11_isLaw_7 := dk153 (k := 7) (x := 19) bX11_isLaw_0 rfl (by decide)
def dX11_isLaw_10 := dk27 (k := 10) bX11_isLaw_0 rfl
def dX11_isLaw_11 := dk4 (k := 11) bX11_isLaw_0 rfl
def dX11_isLaw_12 := dk161 (k := 12) (x := 14) bX11_isLaw_0 rfl (by decide)
def dX11_isLaw_15 := dk27 (k := 15) bX11_isLaw_0 rfl
def dX11_isLaw_16 := dk17 (k := 16) (x := 999) bX11_isLaw_0 rfl (by decide)
def dX11_isLaw_19 := dk163 (k := 19) (x := 7) bX11_isLaw_0 rfl (by decide)
def dX11_isLaw_22 := dk4 (k := 22) bX11_isLaw_0 rfl
def dX11_isLaw_23 := dk167 (k := 23) (x := 4) bX11_isLaw_0 rfl (by decide)
theorem bX11_isLaw_26 : bL cX11_isLaw 26 [3, 172] := bL_of (by decide +kernel)
def dX11_isLaw_26 := dk3 (k := 0) bX11_isLaw_26 rfl
def dX11_isLaw_27 := dk172 (k := 1) bX11_isLaw_26 rfl
theorem bX11_isDraw_0 : bL cX11_isDraw 0 [42, 180, 0, 28, 182, 0, 157, 153, 0, 28, 27, 155, 0, 24, 27, 19, 1, 122, 163, 0, 17, 28, 155, 0, 13] := bL_of (by decide +kernel)
def dX11_isDraw_0 := dk42 (k := 0) bX11_isDraw_0 rfl
def dX11_isDraw_1 := dk180 (k := 1) (x := 28) bX11_isDraw_0 rfl rfl
def dX11_isDraw_4 := dk182 (k := 4) (x := 157) bX11_isDraw_0 rfl rfl
def dX11_isDraw_7 := dk153 (k := 7) (x := 28) bX11_isDraw_0 rfl (by decide)
def dX11_isDraw_10 := dk27 (k := 10) bX11_isDraw_0 rfl
def dX11_isDraw_11 := dk155 (k := 11) (x := 24) bX11_isDraw_0 rfl (by decide)
def dX11_isDraw_14 := dk27 (k := 14) bX11_isDraw_0 rfl
def dX11_isDraw_15 := dk19 (k := 15) (x := 378) bX11_isDraw_0 rfl rfl
def dX11_isDraw_18 := dk163 (k := 18) (x := 17) bX11_isDraw_0 rfl (by decide)
def dX11_isDraw_21 := dk28 (k := 21) bX11_isDraw_0 rfl
def dX11_isDraw_22 := dk155 (k := 22) (x := 13) bX11_isDraw_0 rfl (by decide)
theorem bX11_isDraw_25 : bL cX11_isDraw 25 [28, 16, 40, 163, 0, 7, 4, 167, 0, 4, 3, 172] := bL_of (by decide +kernel)
def dX11_isDraw_25 := dk28 (k := 0) bX11_isDraw_25 rfl
def dX11_isDraw_26 := dk16 (k := 1) (x := 40) bX11_isDraw_25 rfl (by decide)
def dX11_isDraw_28 := dk163 (k := 3) (x := 7) bX11_isDraw_25 rfl (by decide)
def dX11_isDraw_31 := dk4 (k := 6) bX11_isDraw_25 rfl
def dX11_isDraw_32 := dk167 (k := 7) (x := 4) bX11_isDraw_25 rfl (by decide)
def dX11_isDraw_35 := dk3 (k := 10) bX11_isDraw_25 rfl
def dX11_isDraw_36 := dk172 (k := 11) bX11_isDraw_25 rfl
theorem bX11_rollRefusal_0 : bL cX11_rollRefusal 0 [42, 180, 0, 43, 27, 182, 1, 97, 153, 0, 13, 42, 180, 0, 28, 182, 0, 157, 154, 0, 6, 16, 254, 172] := bL_of (by decide +kernel)
def dX11_rollRefusal_0 := dk42 (k := 0) bX11_rollRefusal_0 rfl
def dX11_rollRefusal_1 := dk180 (k := 1) (x := 43) bX11_rollRefusal_0 rfl rfl
def dX11_rollRefusal_4 := dk27 (k := 4) bX11_rollRefusal_0 rfl
def dX11_rollRefusal_5 := dk182 (k := 5) (x := 353) bX11_rollRefusal_0 rfl rfl
def dX11_rollRefusal_8 := dk153 (k := 8) (x := 13) bX11_rollRefusal_0 rfl (by decide)
def dX11_rollRefusal_11 := dk42 (k := 11) bX11_rollRefusal_0 rfl
def dX11_rollRefusal_12 := dk180 (k := 12) (x := 28) bX11_rollRefusal_0 rfl rfl
def dX11_rollRefusal_15 := dk182 (k := 15) (x := 157) bX11_rollRefusal_0 rfl rfl
def dX11_rollRefusal_18 := dk154 (k := 18) (x := 6) bX11_rollRefusal_0 rfl (by decide)
def dX11_rollRefusal_21 := dk16 (k := 21) (x := (-2)) bX11_rollRefusal_0 rfl (by decide)
def dX11_rollRefusal_23 := dk172 (k := 23) bX11_rollRefusal_0 rfl
theorem bX11_rollRefusal_24 : bL cX11_rollRefusal 24 [42, 180, 0, 43, 27, 182, 1, 101, 154, 0, 6, 16, 250, 172, 42, 180, 0, 28, 180, 0, 126, 42, 180, 0, 43] := bL_of (by decide +kernel)
def dX11_rollRefusal_24 := dk42 (k := 0) bX11_rollRefusal_24 rfl
def dX11_rollRefusal_25 := dk180 (k := 1) (x := 43) bX11_rollRefusal_24 rfl rfl
def dX11_rollRefusal_28 := dk27 (k := 4) bX11_rollRefusal_24 rfl
def dX11_rollRefusal_29 := dk182 (k := 5) (x := 357) bX11_rollRefusal_24 rfl rfl
def dX11_rollRefusal_32 := dk154 (k := 8) (x := 6) bX11_rollRefusal_24 rfl (by decide)
def dX11_rollRefusal_35 := dk16 (k := 11) (x := (-6)) bX11_rollRefusal_24 rfl (by decide)
def dX11_rollRefusal_37 := dk172 (k := 13) bX11_rollRefusal_24 rfl
def dX11_rollRefusal_38 := dk42 (k := 14) bX11_rollRefusal_24 rfl
def dX11_rollRefusal_39 := dk180 (k := 15) (x := 28) bX11_rollRefusal_24 rfl rfl
def dX11_rollRefusal_42 := dk180 (k := 18) (x := 126) bX11_rollRefusal_24 rfl rfl
def dX11_rollRefusal_45 := dk42 (k := 21) bX11_rollRefusal_24 rfl
def dX11_rollRefusal_46 := dk180 (k := 22) (x := 43) bX11_rollRefusal_24 rfl rfl
theorem bX11_rollRefusal_49 : bL cX11_rollRefusal 49 [27, 182, 1, 123, 153, 0, 7, 3, 167, 0, 5, 16, 254, 172] := bL_of (by decide +kernel)
def dX11_rollRefusal_49 := dk27 (k := 0) bX11_rollRefusal_49 rfl
def dX11_rollRefusal_50 := dk182 (k := 1) (x := 379) bX11_rollRefusal_49 rfl rfl
def dX11_rollRefusal_53 := dk153 (k := 4) (x := 7) bX11_rollRefusal_49 rfl (by decide)
def dX11_rollRefusal_56 := dk3 (k := 7) bX11_rollRefusal_49 rfl
def dX11_rollRefusal_57 := dk167 (k := 8) (x := 5) bX11_rollRefusal_49 rfl (by decide)
def dX11_rollRefusal_60 := dk16 (k := 11) (x := (-2)) bX11_rollRefusal_49 rfl (by decide)
def dX11_rollRefusal_62 := dk172 (k := 13) bX11_rollRefusal_49 rfl
theorem bX12_init_0 : bL cX12_init 0 [42, 183, 0, 3, 42, 17, 0, 135] := bL_of (by decide +kernel)
def dX12_init_0 := dk42 (k := 0) bX12_init_0 rfl
def dX12_init_1 := dk183 (k := 1) (x := 3) bX12_init_0 rfl rfl
def dX12_init_4 := dk42 (k := 4) bX12_init_0 rfl
def dX12_init_5 := dk17 (k := 5) (x := 135) bX12_init_0 rfl (by decide)
theorem dX12_init_8 : decode cX12_init 8 = .ok (.newarray .int, 2) := by decide +kernel
theorem bX12_init_10 : bL cX12_init 10 [181, 0, 9, 42, 17, 1, 149] := bL_of (by decide +kernel)
def dX12_init_10 := dk181 (k := 0) (x := 9) bX12_init_10 rfl rfl
def dX12_init_13 := dk42 (k := 3) bX12_init_10 rfl
def dX12_init_14 := dk17 (k := 4) (x := 405) bX12_init_10 rfl (by decide)
theorem dX12_init_17 : decode cX12_init 17 = .ok (.newarray .int, 2) := by decide +kernel
theorem bX12_init_19 : bL cX12_init 19 [181, 0, 13, 42, 6] := bL_of (by decide +kernel)
def dX12_init_19 := dk181 (k := 0) (x := 13) bX12_init_19 rfl rfl
def dX12_init_22 := dk42 (k := 3) bX12_init_19 rfl
def dX12_init_23 := dk6 (k := 4) bX12_init_19 rfl
theorem dX12_init_24 : decode cX12_init 24 = .ok (.newarray .boolean, 2) := by decide +kernel
theorem bX12_init_26 : bL cX12_init 26 [181, 0, 16, 42, 17, 3, 132] := bL_of (by decide +kernel)
def dX12_init_26 := dk181 (k := 0) (x := 16) bX12_init_26 rfl rfl
def dX12_init_29 := dk42 (k := 3) bX12_init_26 rfl
def dX12_init_30 := dk17 (k := 4) (x := 900) bX12_init_26 rfl (by decide)
theorem dX12_init_33 : decode cX12_init 33 = .ok (.newarray .byte, 2) := by decide +kernel
theorem bX12_init_35 : bL cX12_init 35 [181, 0, 20, 42, 8] := bL_of (by decide +kernel)
def dX12_init_35 := dk181 (k := 0) (x := 20) bX12_init_35 rfl rfl
def dX12_init_38 := dk42 (k := 3) bX12_init_35 rfl
def dX12_init_39 := dk8 (k := 4) bX12_init_35 rfl
theorem dX12_init_40 : decode cX12_init 40 = .ok (.newarray .int, 2) := by decide +kernel
theorem bX12_init_42 : bL cX12_init 42 [181, 0, 24, 42, 2, 181, 0, 27, 42, 17, 0, 135] := bL_of (by decide +kernel)
def dX12_init_42 := dk181 (k := 0) (x := 24) bX12_init_42 rfl rfl
def dX12_init_45 := dk42 (k := 3) bX12_init_42 rfl
def dX12_init_46 := dk2 (k := 4) bX12_init_42 rfl
def dX12_init_47 := dk181 (k := 5) (x := 27) bX12_init_42 rfl rfl
def dX12_init_50 := dk42 (k := 8) bX12_init_42 rfl
def dX12_init_51 := dk17 (k := 9) (x := 135) bX12_init_42 rfl (by decide)
theorem dX12_init_54 : decode cX12_init 54 = .ok (.newarray .int, 2) := by decide +kernel
theorem bX12_init_56 : bL cX12_init 56 [181, 0, 31, 42, 16, 10] := bL_of (by decide +kernel)
def dX12_init_56 := dk181 (k := 0) (x := 31) bX12_init_56 rfl rfl
def dX12_init_59 := dk42 (k := 3) bX12_init_56 rfl
def dX12_init_60 := dk16 (k := 4) (x := 10) bX12_init_56 rfl (by decide)
theorem dX12_init_62 : decode cX12_init 62 = .ok (.newarray .int, 2) := by decide +kernel
theorem bX12_init_64 : bL cX12_init 64 [181, 0, 34, 42, 18, 37] := bL_of (by decide +kernel)
def dX12_init_64 := dk181 (k := 0) (x := 34) bX12_init_64 rfl rfl
def dX12_init_67 := dk42 (k := 3) bX12_init_64 rfl
def dX12_init_68 := dk18 (k := 4) (x := 37) bX12_init_64 rfl rfl
theorem dX12_init_70 : decode cX12_init 70 = .ok (.newarray .boolean, 2) := by decide +kernel
theorem bX12_init_72 : bL cX12_init 72 [181, 0, 38, 42, 6] := bL_of (by decide +kernel)
def dX12_init_72 := dk181 (k := 0) (x := 38) bX12_init_72 rfl rfl
def dX12_init_75 := dk42 (k := 3) bX12_init_72 rfl
def dX12_init_76 := dk6 (k := 4) bX12_init_72 rfl
theorem dX12_init_77 : decode cX12_init 77 = .ok (.newarray .int, 2) := by decide +kernel
theorem bX12_init_79 : bL cX12_init 79 [181, 0, 41, 42, 6] := bL_of (by decide +kernel)
def dX12_init_79 := dk181 (k := 0) (x := 41) bX12_init_79 rfl rfl
def dX12_init_82 := dk42 (k := 3) bX12_init_79 rfl
def dX12_init_83 := dk6 (k := 4) bX12_init_79 rfl
theorem dX12_init_84 : decode cX12_init 84 = .ok (.newarray .int, 2) := by decide +kernel
theorem bX12_init_86 : bL cX12_init 86 [181, 0, 44, 42, 7] := bL_of (by decide +kernel)
def dX12_init_86 := dk181 (k := 0) (x := 44) bX12_init_86 rfl rfl
def dX12_init_89 := dk42 (k := 3) bX12_init_86 rfl
def dX12_init_90 := dk7 (k := 4) bX12_init_86 rfl
theorem dX12_init_91 : decode cX12_init 91 = .ok (.newarray .int, 2) := by decide +kernel
theorem bX12_init_93 : bL cX12_init 93 [89, 3, 2, 79, 89, 4, 2, 79, 89, 5, 2, 79, 89, 6, 2, 79, 181, 0, 47, 42, 7] := bL_of (by decide +kernel)
def dX12_init_93 := dk89 (k := 0) bX12_init_93 rfl
def dX12_init_94 := dk3 (k := 1) bX12_init_93 rfl
def dX12_init_95 := dk2 (k := 2) bX12_init_93 rfl
def dX12_init_96 := dk79 (k := 3) bX12_init_93 rfl
def dX12_init_97 := dk89 (k := 4) bX12_init_93 rfl
def dX12_init_98 := dk4 (k := 5) bX12_init_93 rfl
def dX12_init_99 := dk2 (k := 6) bX12_init_93 rfl
def dX12_init_100 := dk79 (k := 7) bX12_init_93 rfl
def dX12_init_101 := dk89 (k := 8) bX12_init_93 rfl
def dX12_init_102 := dk5 (k := 9) bX12_init_93 rfl
def dX12_init_103 := dk2 (k := 10) bX12_init_93 rfl
def dX12_init_104 := dk79 (k := 11) bX12_init_93 rfl
def dX12_init_105 := dk89 (k := 12) bX12_init_93 rfl
def dX12_init_106 := dk6 (k := 13) bX12_init_93 rfl
def dX12_init_107 := dk2 (k := 14) bX12_init_93 rfl
def dX12_init_108 := dk79 (k := 15) bX12_init_93 rfl
def dX12_init_109 := dk181 (k := 16) (x := 47) bX12_init_93 rfl rfl
def dX12_init_112 := dk42 (k := 19) bX12_init_93 rfl
def dX12_init_113 := dk7 (k := 20) bX12_init_93 rfl
theorem dX12_init_114 : decode cX12_init 114 = .ok (.newarray .int, 2) := by decide +kernel
theorem bX12_init_116 : bL cX12_init 116 [181, 0, 50, 42, 17, 0, 240] := bL_of (by decide +kernel)
def dX12_init_116 := dk181 (k := 0) (x := 50) bX12_init_116 rfl rfl
def dX12_init_119 := dk42 (k := 3) bX12_init_116 rfl
def dX12_init_120 := dk17 (k := 4) (x := 240) bX12_init_116 rfl (by decide)
theorem dX12_init_123 : decode cX12_init 123 = .ok (.newarray .long, 2) := by decide +kernel
theorem bX12_init_125 : bL cX12_init 125 [181, 0, 53, 42, 16, 60] := bL_of (by decide +kernel)
def dX12_init_125 := dk181 (k := 0) (x := 53) bX12_init_125 rfl rfl
def dX12_init_128 := dk42 (k := 3) bX12_init_125 rfl
def dX12_init_129 := dk16 (k := 4) (x := 60) bX12_init_125 rfl (by decide)
theorem dX12_init_131 : decode cX12_init 131 = .ok (.newarray .long, 2) := by decide +kernel
theorem bX12_init_133 : bL cX12_init 133 [181, 0, 57, 177] := bL_of (by decide +kernel)
def dX12_init_133 := dk181 (k := 0) (x := 57) bX12_init_133 rfl rfl
def dX12_init_136 := dk177 (k := 3) bX12_init_133 rfl
theorem bX12_in_0 : bL cX12_in 0 [30, 32, 148, 155, 0, 14, 30, 22, 4, 148, 157, 0, 7, 4, 167, 0, 4, 3, 172] := bL_of (by decide +kernel)
def dX12_in_0 := dk30 (k := 0) bX12_in_0 rfl
def dX12_in_1 := dk32 (k := 1) bX12_in_0 rfl
def dX12_in_2 := dk148 (k := 2) bX12_in_0 rfl
def dX12_in_3 := dk155 (k := 3) (x := 14) bX12_in_0 rfl (by decide)
def dX12_in_6 := dk30 (k := 6) bX12_in_0 rfl
def dX12_in_7 := dk22 (k := 7) (x := 4) bX12_in_0 rfl rfl
def dX12_in_9 := dk148 (k := 9) bX12_in_0 rfl
def dX12_in_10 := dk157 (k := 10) (x := 7) bX12_in_0 rfl (by decide)
def dX12_in_13 := dk4 (k := 13) bX12_in_0 rfl
def dX12_in_14 := dk167 (k := 14) (x := 4) bX12_in_0 rfl (by decide)
def dX12_in_17 := dk3 (k := 17) bX12_in_0 rfl
def dX12_in_18 := dk172 (k := 18) bX12_in_0 rfl
theorem bX12_bits_0 : bL cX12_bits 0 [3, 60, 3, 61, 28, 16, 21, 162, 0, 17, 27, 26, 28, 122, 4, 126, 96, 60, 132, 2, 1, 167, 255, 239] := bL_of (by decide +kernel)
def dX12_bits_0 := dk3 (k := 0) bX12_bits_0 rfl
def dX12_bits_1 := dk60 (k := 1) bX12_bits_0 rfl
def dX12_bits_2 := dk3 (k := 2) bX12_bits_0 rfl
def dX12_bits_3 := dk61 (k := 3) bX12_bits_0 rfl
def dX12_bits_4 := dk28 (k := 4) bX12_bits_0 rfl
def dX12_bits_5 := dk16 (k := 5) (x := 21) bX12_bits_0 rfl (by decide)
def dX12_bits_7 := dk162 (k := 7) (x := 17) bX12_bits_0 rfl (by decide)
def dX12_bits_10 := dk27 (k := 10) bX12_bits_0 rfl
def dX12_bits_11 := dk26 (k := 11) bX12_bits_0 rfl
def dX12_bits_12 := dk28 (k := 12) bX12_bits_0 rfl
def dX12_bits_13 := dk122 (k := 13) bX12_bits_0 rfl
def dX12_bits_14 := dk4 (k := 14) bX12_bits_0 rfl
def dX12_bits_15 := dk126 (k := 15) bX12_bits_0 rfl
def dX12_bits_16 := dk96 (k := 16) bX12_bits_0 rfl
def dX12_bits_17 := dk60 (k := 17) bX12_bits_0 rfl
theorem dX12_bits_18 : decode cX12_bits 18 = .ok (.iinc 2 1, 3) := dk132 (k := 18) bX12_bits_0 rfl rfl (by decide)
def dX12_bits_21 := dk167 (k := 21) (x := (-17)) bX12_bits_0 rfl (by decide)
theorem bX12_bits_24 : bL cX12_bits 24 [27, 172] := bL_of (by decide +kernel)
def dX12_bits_24 := dk27 (k := 0) bX12_bits_24 rfl
def dX12_bits_25 := dk172 (k := 1) bX12_bits_24 rfl
theorem bX12_bit_0 : bL cX12_bit 0 [26, 27, 122, 4, 126, 172] := bL_of (by decide +kernel)
def dX12_bit_0 := dk26 (k := 0) bX12_bit_0 rfl
def dX12_bit_1 := dk27 (k := 1) bX12_bit_0 rfl
def dX12_bit_2 := dk122 (k := 2) bX12_bit_0 rfl
def dX12_bit_3 := dk4 (k := 3) bX12_bit_0 rfl
def dX12_bit_4 := dk126 (k := 4) bX12_bit_0 rfl
def dX12_bit_5 := dk172 (k := 5) bX12_bit_0 rfl
theorem bX12_image_0 : bL cX12_image 0 [27, 133, 9, 20, 0, 63, 184, 0, 65, 154, 0, 6, 16, 254, 172, 3, 61, 28, 17, 0, 135, 162, 0, 27] := bL_of (by decide +kernel)
def dX12_image_0 := dk27 (k := 0) bX12_image_0 rfl
def dX12_image_1 := dk133 (k := 1) bX12_image_0 rfl
def dX12_image_2 := dk9 (k := 2) bX12_image_0 rfl
def dX12_image_3 := dk20 (k := 3) (x := 63) bX12_image_0 rfl rfl
def dX12_image_6 := dk184 (k := 6) (x := 65) bX12_image_0 rfl rfl
def dX12_image_9 := dk154 (k := 9) (x := 6) bX12_image_0 rfl (by decide)
def dX12_image_12 := dk16 (k := 12) (x := (-2)) bX12_image_0 rfl (by decide)
def dX12_image_14 := dk172 (k := 14) bX12_image_0 rfl
def dX12_image_15 := dk3 (k := 15) bX12_image_0 rfl
def dX12_image_16 := dk61 (k := 16) bX12_image_0 rfl
def dX12_image_17 := dk28 (k := 17) bX12_image_0 rfl
def dX12_image_18 := dk17 (k := 18) (x := 135) bX12_image_0 rfl (by decide)
def dX12_image_21 := dk162 (k := 21) (x := 27) bX12_image_0 rfl (by decide)
theorem bX12_image_24 : bL cX12_image 24 [42, 180, 0, 13, 17, 0, 135, 27, 104, 28, 96, 42, 180, 0, 9, 28, 46, 79, 132, 2, 1, 167, 255, 228] := bL_of (by decide +kernel)
def dX12_image_24 := dk42 (k := 0) bX12_image_24 rfl
def dX12_image_25 := dk180 (k := 1) (x := 13) bX12_image_24 rfl rfl
def dX12_image_28 := dk17 (k := 4) (x := 135) bX12_image_24 rfl (by decide)
def dX12_image_31 := dk27 (k := 7) bX12_image_24 rfl
def dX12_image_32 := dk104 (k := 8) bX12_image_24 rfl
def dX12_image_33 := dk28 (k := 9) bX12_image_24 rfl
def dX12_image_34 := dk96 (k := 10) bX12_image_24 rfl
def dX12_image_35 := dk42 (k := 11) bX12_image_24 rfl
def dX12_image_36 := dk180 (k := 12) (x := 9) bX12_image_24 rfl rfl
def dX12_image_39 := dk28 (k := 15) bX12_image_24 rfl
def dX12_image_40 := dk46 (k := 16) bX12_image_24 rfl
def dX12_image_41 := dk79 (k := 17) bX12_image_24 rfl
theorem dX12_image_42 : decode cX12_image 42 = .ok (.iinc 2 1, 3) := dk132 (k := 18) bX12_image_24 rfl rfl (by decide)
def dX12_image_45 := dk167 (k := 21) (x := (-28)) bX12_image_24 rfl (by decide)
theorem bX12_image_48 : bL cX12_image 48 [42, 180, 0, 16, 27, 4, 84, 3, 172] := bL_of (by decide +kernel)
def dX12_image_48 := dk42 (k := 0) bX12_image_48 rfl
def dX12_image_49 := dk180 (k := 1) (x := 16) bX12_image_48 rfl rfl
def dX12_image_52 := dk27 (k := 4) bX12_image_48 rfl
def dX12_image_53 := dk4 (k := 5) bX12_image_48 rfl
def dX12_image_54 := dk84 (k := 6) bX12_image_48 rfl
def dX12_image_55 := dk3 (k := 7) bX12_image_48 rfl
def dX12_image_56 := dk172 (k := 8) bX12_image_48 rfl
theorem bX12_back_0 : bL cX12_back 0 [27, 133, 9, 20, 0, 63, 184, 0, 65, 154, 0, 6, 16, 254, 172, 42, 180, 0, 16, 27, 51, 154, 0, 6] := bL_of (by decide +kernel)
def dX12_back_0 := dk27 (k := 0) bX12_back_0 rfl
def dX12_back_1 := dk133 (k := 1) bX12_back_0 rfl
def dX12_back_2 := dk9 (k := 2) bX12_back_0 rfl
def dX12_back_3 := dk20 (k := 3) (x := 63) bX12_back_0 rfl rfl
def dX12_back_6 := dk184 (k := 6) (x := 65) bX12_back_0 rfl rfl
def dX12_back_9 := dk154 (k := 9) (x := 6) bX12_back_0 rfl (by decide)
def dX12_back_12 := dk16 (k := 12) (x := (-2)) bX12_back_0 rfl (by decide)
def dX12_back_14 := dk172 (k := 14) bX12_back_0 rfl
def dX12_back_15 := dk42 (k := 15) bX12_back_0 rfl
def dX12_back_16 := dk180 (k := 16) (x := 16) bX12_back_0 rfl rfl
def dX12_back_19 := dk27 (k := 19) bX12_back_0 rfl
def dX12_back_20 := dk51 (k := 20) bX12_back_0 rfl
def dX12_back_21 := dk154 (k := 21) (x := 6) bX12_back_0 rfl (by decide)
theorem bX12_back_24 : bL cX12_back 24 [16, 250, 172, 3, 61, 28, 17, 0, 135, 162, 0, 27, 42, 180, 0, 9, 28, 42, 180, 0, 13, 17, 0, 135] := bL_of (by decide +kernel)
def dX12_back_24 := dk16 (k := 0) (x := (-6)) bX12_back_24 rfl (by decide)
def dX12_back_26 := dk172 (k := 2) bX12_back_24 rfl
def dX12_back_27 := dk3 (k := 3) bX12_back_24 rfl
def dX12_back_28 := dk61 (k := 4) bX12_back_24 rfl
def dX12_back_29 := dk28 (k := 5) bX12_back_24 rfl
def dX12_back_30 := dk17 (k := 6) (x := 135) bX12_back_24 rfl (by decide)
def dX12_back_33 := dk162 (k := 9) (x := 27) bX12_back_24 rfl (by decide)
def dX12_back_36 := dk42 (k := 12) bX12_back_24 rfl
def dX12_back_37 := dk180 (k := 13) (x := 9) bX12_back_24 rfl rfl
def dX12_back_40 := dk28 (k := 16) bX12_back_24 rfl
def dX12_back_41 := dk42 (k := 17) bX12_back_24 rfl
def dX12_back_42 := dk180 (k := 18) (x := 13) bX12_back_24 rfl rfl
def dX12_back_45 := dk17 (k := 21) (x := 135) bX12_back_24 rfl (by decide)
theorem bX12_back_48 : bL cX12_back 48 [27, 104, 28, 96, 46, 79, 132, 2, 1, 167, 255, 228, 3, 172] := bL_of (by decide +kernel)
def dX12_back_48 := dk27 (k := 0) bX12_back_48 rfl
def dX12_back_49 := dk104 (k := 1) bX12_back_48 rfl
def dX12_back_50 := dk28 (k := 2) bX12_back_48 rfl
def dX12_back_51 := dk96 (k := 3) bX12_back_48 rfl
def dX12_back_52 := dk46 (k := 4) bX12_back_48 rfl
def dX12_back_53 := dk79 (k := 5) bX12_back_48 rfl
theorem dX12_back_54 : decode cX12_back 54 = .ok (.iinc 2 1, 3) := dk132 (k := 6) bX12_back_48 rfl rfl (by decide)
def dX12_back_57 := dk167 (k := 9) (x := (-28)) bX12_back_48 rfl (by decide)
def dX12_back_60 := dk3 (k := 12) bX12_back_48 rfl
def dX12_back_61 := dk172 (k := 13) bX12_back_48 rfl
theorem bX12_isMount_0 : bL cX12_isMount 0 [42, 180, 0, 9, 16, 7, 46, 158, 0, 7, 4, 167, 0, 4, 3, 172] := bL_of (by decide +kernel)
def dX12_isMount_0 := dk42 (k := 0) bX12_isMount_0 rfl
def dX12_isMount_1 := dk180 (k := 1) (x := 9) bX12_isMount_0 rfl rfl
def dX12_isMount_4 := dk16 (k := 4) (x := 7) bX12_isMount_0 rfl (by decide)
def dX12_isMount_6 := dk46 (k := 6) bX12_isMount_0 rfl
def dX12_isMount_7 := dk158 (k := 7) (x := 7) bX12_isMount_0 rfl (by decide)
def dX12_isMount_10 := dk4 (k := 10) bX12_isMount_0 rfl
def dX12_isMount_11 := dk167 (k := 11) (x := 4) bX12_isMount_0 rfl (by decide)
def dX12_isMount_14 := dk3 (k := 14) bX12_isMount_0 rfl
def dX12_isMount_15 := dk172 (k := 15) bX12_isMount_0 rfl
theorem bX12_isCell_0 : bL cX12_isCell 0 [31, 9, 42, 180, 0, 9, 3, 46, 4, 100, 133, 184, 0, 65, 172] := bL_of (by decide +kernel)
def dX12_isCell_0 := dk31 (k := 0) bX12_isCell_0 rfl
def dX12_isCell_1 := dk9 (k := 1) bX12_isCell_0 rfl
def dX12_isCell_2 := dk42 (k := 2) bX12_isCell_0 rfl
def dX12_isCell_3 := dk180 (k := 3) (x := 9) bX12_isCell_0 rfl rfl
def dX12_isCell_6 := dk3 (k := 6) bX12_isCell_0 rfl
def dX12_isCell_7 := dk46 (k := 7) bX12_isCell_0 rfl
def dX12_isCell_8 := dk4 (k := 8) bX12_isCell_0 rfl
def dX12_isCell_9 := dk100 (k := 9) bX12_isCell_0 rfl
def dX12_isCell_10 := dk133 (k := 10) bX12_isCell_0 rfl
def dX12_isCell_11 := dk184 (k := 11) (x := 65) bX12_isCell_0 rfl rfl
def dX12_isCell_14 := dk172 (k := 14) bX12_isCell_0 rfl
theorem bX12_isFolk_0 : bL cX12_isFolk 0 [31, 9, 42, 180, 0, 9, 16, 6, 46, 4, 100, 133, 184, 0, 65, 172] := bL_of (by decide +kernel)
def dX12_isFolk_0 := dk31 (k := 0) bX12_isFolk_0 rfl
def dX12_isFolk_1 := dk9 (k := 1) bX12_isFolk_0 rfl
def dX12_isFolk_2 := dk42 (k := 2) bX12_isFolk_0 rfl
def dX12_isFolk_3 := dk180 (k := 3) (x := 9) bX12_isFolk_0 rfl rfl
def dX12_isFolk_6 := dk16 (k := 6) (x := 6) bX12_isFolk_0 rfl (by decide)
def dX12_isFolk_8 := dk46 (k := 8) bX12_isFolk_0 rfl
def dX12_isFolk_9 := dk4 (k := 9) bX12_isFolk_0 rfl
def dX12_isFolk_10 := dk100 (k := 10) bX12_isFolk_0 rfl
def dX12_isFolk_11 := dk133 (k := 11) bX12_isFolk_0 rfl
def dX12_isFolk_12 := dk184 (k := 12) (x := 65) bX12_isFolk_0 rfl rfl
def dX12_isFolk_15 := dk172 (k := 15) bX12_isFolk_0 rfl
theorem bX12_isHour_0 : bL cX12_isHour 0 [30, 20, 0, 69, 20, 0, 71, 184, 0, 65, 153, 0, 13, 30, 9, 148, 153, 0, 7, 4, 167, 0, 4, 3] := bL_of (by decide +kernel)
def dX12_isHour_0 := dk30 (k := 0) bX12_isHour_0 rfl
def dX12_isHour_1 := dk20 (k := 1) (x := 69) bX12_isHour_0 rfl rfl
def dX12_isHour_4 := dk20 (k := 4) (x := 71) bX12_isHour_0 rfl rfl
def dX12_isHour_7 := dk184 (k := 7) (x := 65) bX12_isHour_0 rfl rfl
def dX12_isHour_10 := dk153 (k := 10) (x := 13) bX12_isHour_0 rfl (by decide)
def dX12_isHour_13 := dk30 (k := 13) bX12_isHour_0 rfl
def dX12_isHour_14 := dk9 (k := 14) bX12_isHour_0 rfl
def dX12_isHour_15 := dk148 (k := 15) bX12_isHour_0 rfl
def dX12_isHour_16 := dk153 (k := 16) (x := 7) bX12_isHour_0 rfl (by decide)
def dX12_isHour_19 := dk4 (k := 19) bX12_isHour_0 rfl
def dX12_isHour_20 := dk167 (k := 20) (x := 4) bX12_isHour_0 rfl (by decide)
def dX12_isHour_23 := dk3 (k := 23) bX12_isHour_0 rfl
theorem bX12_isHour_24 : bL cX12_isHour 24 [172] := bL_of (by decide +kernel)
def dX12_isHour_24 := dk172 (k := 0) bX12_isHour_24 rfl
theorem bX12_all_0 : bL cX12_all 0 [4, 42, 180, 0, 9, 16, 6, 46, 120, 4, 100, 172] := bL_of (by decide +kernel)
def dX12_all_0 := dk4 (k := 0) bX12_all_0 rfl
def dX12_all_1 := dk42 (k := 1) bX12_all_0 rfl
def dX12_all_2 := dk180 (k := 2) (x := 9) bX12_all_0 rfl rfl
def dX12_all_5 := dk16 (k := 5) (x := 6) bX12_all_0 rfl (by decide)
def dX12_all_7 := dk46 (k := 7) bX12_all_0 rfl
def dX12_all_8 := dk120 (k := 8) bX12_all_0 rfl
def dX12_all_9 := dk4 (k := 9) bX12_all_0 rfl
def dX12_all_10 := dk100 (k := 10) bX12_all_0 rfl
def dX12_all_11 := dk172 (k := 11) bX12_all_0 rfl
theorem bX12_isSet_0 : bL cX12_isSet 0 [42, 182, 0, 73, 153, 0, 21, 27, 133, 9, 42, 182, 0, 77, 133, 184, 0, 65, 153, 0, 7, 4, 167, 0, 4] := bL_of (by decide +kernel)
def dX12_isSet_0 := dk42 (k := 0) bX12_isSet_0 rfl
def dX12_isSet_1 := dk182 (k := 1) (x := 73) bX12_isSet_0 rfl rfl
def dX12_isSet_4 := dk153 (k := 4) (x := 21) bX12_isSet_0 rfl (by decide)
def dX12_isSet_7 := dk27 (k := 7) bX12_isSet_0 rfl
def dX12_isSet_8 := dk133 (k := 8) bX12_isSet_0 rfl
def dX12_isSet_9 := dk9 (k := 9) bX12_isSet_0 rfl
def dX12_isSet_10 := dk42 (k := 10) bX12_isSet_0 rfl
def dX12_isSet_11 := dk182 (k := 11) (x := 77) bX12_isSet_0 rfl rfl
def dX12_isSet_14 := dk133 (k := 14) bX12_isSet_0 rfl
def dX12_isSet_15 := dk184 (k := 15) (x := 65) bX12_isSet_0 rfl rfl
def dX12_isSet_18 := dk153 (k := 18) (x := 7) bX12_isSet_0 rfl (by decide)
def dX12_isSet_21 := dk4 (k := 21) bX12_isSet_0 rfl
def dX12_isSet_22 := dk167 (k := 22) (x := 4) bX12_isSet_0 rfl (by decide)
theorem bX12_isSet_25 : bL cX12_isSet 25 [3, 172] := bL_of (by decide +kernel)
def dX12_isSet_25 := dk3 (k := 0) bX12_isSet_25 rfl
def dX12_isSet_26 := dk172 (k := 1) bX12_isSet_25 rfl
theorem bX12_of_0 : bL cX12_of 0 [42, 180, 0, 9, 16, 19, 16, 7, 27, 104, 96, 28, 96, 46, 172] := bL_of (by decide +kernel)
def dX12_of_0 := dk42 (k := 0) bX12_of_0 rfl
def dX12_of_1 := dk180 (k := 1) (x := 9) bX12_of_0 rfl rfl
def dX12_of_4 := dk16 (k := 4) (x := 19) bX12_of_0 rfl (by decide)
def dX12_of_6 := dk16 (k := 6) (x := 7) bX12_of_0 rfl (by decide)
def dX12_of_8 := dk27 (k := 8) bX12_of_0 rfl
def dX12_of_9 := dk104 (k := 9) bX12_of_0 rfl
def dX12_of_10 := dk96 (k := 10) bX12_of_0 rfl
def dX12_of_11 := dk28 (k := 11) bX12_of_0 rfl
def dX12_of_12 := dk96 (k := 12) bX12_of_0 rfl
def dX12_of_13 := dk46 (k := 13) bX12_of_0 rfl
def dX12_of_14 := dk172 (k := 14) bX12_of_0 rfl
theorem bX12_feed_0 : bL cX12_feed 0 [42, 180, 0, 81, 16, 20, 96, 17, 3, 132, 164, 0, 5, 2, 172, 42, 180, 0, 24, 3, 27, 79, 42, 180, 0, 24] := bL_of (by decide +kernel)
def dX12_feed_0 := dk42 (k := 0) bX12_feed_0 rfl
def dX12_feed_1 := dk180 (k := 1) (x := 81) bX12_feed_0 rfl rfl
def dX12_feed_4 := dk16 (k := 4) (x := 20) bX12_feed_0 rfl (by decide)
def dX12_feed_6 := dk96 (k := 6) bX12_feed_0 rfl
def dX12_feed_7 := dk17 (k := 7) (x := 900) bX12_feed_0 rfl (by decide)
def dX12_feed_10 := dk164 (k := 10) (x := 5) bX12_feed_0 rfl (by decide)
def dX12_feed_13 := dk2 (k := 13) bX12_feed_0 rfl
def dX12_feed_14 := dk172 (k := 14) bX12_feed_0 rfl
def dX12_feed_15 := dk42 (k := 15) bX12_feed_0 rfl
def dX12_feed_16 := dk180 (k := 16) (x := 24) bX12_feed_0 rfl rfl
def dX12_feed_19 := dk3 (k := 19) bX12_feed_0 rfl
def dX12_feed_20 := dk27 (k := 20) bX12_feed_0 rfl
def dX12_feed_21 := dk79 (k := 21) bX12_feed_0 rfl
def dX12_feed_22 := dk42 (k := 22) bX12_feed_0 rfl
def dX12_feed_23 := dk180 (k := 23) (x := 24) bX12_feed_0 rfl rfl
theorem bX12_feed_26 : bL cX12_feed 26 [4, 28, 79, 42, 180, 0, 24, 5, 29, 79, 42, 180, 0, 24, 6, 21, 4, 79, 42, 180, 0, 24, 7, 21, 5] := bL_of (by decide +kernel)
def dX12_feed_26 := dk4 (k := 0) bX12_feed_26 rfl
def dX12_feed_27 := dk28 (k := 1) bX12_feed_26 rfl
def dX12_feed_28 := dk79 (k := 2) bX12_feed_26 rfl
def dX12_feed_29 := dk42 (k := 3) bX12_feed_26 rfl
def dX12_feed_30 := dk180 (k := 4) (x := 24) bX12_feed_26 rfl rfl
def dX12_feed_33 := dk5 (k := 7) bX12_feed_26 rfl
def dX12_feed_34 := dk29 (k := 8) bX12_feed_26 rfl
def dX12_feed_35 := dk79 (k := 9) bX12_feed_26 rfl
def dX12_feed_36 := dk42 (k := 10) bX12_feed_26 rfl
def dX12_feed_37 := dk180 (k := 11) (x := 24) bX12_feed_26 rfl rfl
def dX12_feed_40 := dk6 (k := 14) bX12_feed_26 rfl
def dX12_feed_41 := dk21 (k := 15) (x := 4) bX12_feed_26 rfl rfl
def dX12_feed_43 := dk79 (k := 17) bX12_feed_26 rfl
def dX12_feed_44 := dk42 (k := 18) bX12_feed_26 rfl
def dX12_feed_45 := dk180 (k := 19) (x := 24) bX12_feed_26 rfl rfl
def dX12_feed_48 := dk7 (k := 22) bX12_feed_26 rfl
def dX12_feed_49 := dk21 (k := 23) (x := 5) bX12_feed_26 rfl rfl
theorem bX12_feed_51 : bL cX12_feed 51 [79, 3, 54, 6, 21, 6, 16, 20, 162, 0, 42, 42, 180, 0, 20, 42, 180, 0, 81, 21, 6, 96, 42, 180, 0, 24] := bL_of (by decide +kernel)
def dX12_feed_51 := dk79 (k := 0) bX12_feed_51 rfl
def dX12_feed_52 := dk3 (k := 1) bX12_feed_51 rfl
def dX12_feed_53 := dk54 (k := 2) (x := 6) bX12_feed_51 rfl rfl
def dX12_feed_55 := dk21 (k := 4) (x := 6) bX12_feed_51 rfl rfl
def dX12_feed_57 := dk16 (k := 6) (x := 20) bX12_feed_51 rfl (by decide)
def dX12_feed_59 := dk162 (k := 8) (x := 42) bX12_feed_51 rfl (by decide)
def dX12_feed_62 := dk42 (k := 11) bX12_feed_51 rfl
def dX12_feed_63 := dk180 (k := 12) (x := 20) bX12_feed_51 rfl rfl
def dX12_feed_66 := dk42 (k := 15) bX12_feed_51 rfl
def dX12_feed_67 := dk180 (k := 16) (x := 81) bX12_feed_51 rfl rfl
def dX12_feed_70 := dk21 (k := 19) (x := 6) bX12_feed_51 rfl rfl
def dX12_feed_72 := dk96 (k := 21) bX12_feed_51 rfl
def dX12_feed_73 := dk42 (k := 22) bX12_feed_51 rfl
def dX12_feed_74 := dk180 (k := 23) (x := 24) bX12_feed_51 rfl rfl
theorem bX12_feed_77 : bL cX12_feed 77 [21, 6, 7, 108, 46, 16, 24, 16, 8, 21, 6, 7, 112, 104, 100, 122, 145, 84, 132, 6, 1, 167, 255, 213] := bL_of (by decide +kernel)
def dX12_feed_77 := dk21 (k := 0) (x := 6) bX12_feed_77 rfl rfl
def dX12_feed_79 := dk7 (k := 2) bX12_feed_77 rfl
def dX12_feed_80 := dk108 (k := 3) bX12_feed_77 rfl
def dX12_feed_81 := dk46 (k := 4) bX12_feed_77 rfl
def dX12_feed_82 := dk16 (k := 5) (x := 24) bX12_feed_77 rfl (by decide)
def dX12_feed_84 := dk16 (k := 7) (x := 8) bX12_feed_77 rfl (by decide)
def dX12_feed_86 := dk21 (k := 9) (x := 6) bX12_feed_77 rfl rfl
def dX12_feed_88 := dk7 (k := 11) bX12_feed_77 rfl
def dX12_feed_89 := dk112 (k := 12) bX12_feed_77 rfl
def dX12_feed_90 := dk104 (k := 13) bX12_feed_77 rfl
def dX12_feed_91 := dk100 (k := 14) bX12_feed_77 rfl
def dX12_feed_92 := dk122 (k := 15) bX12_feed_77 rfl
def dX12_feed_93 := dk145 (k := 16) bX12_feed_77 rfl
def dX12_feed_94 := dk84 (k := 17) bX12_feed_77 rfl
theorem dX12_feed_95 : decode cX12_feed 95 = .ok (.iinc 6 1, 3) := dk132 (k := 18) bX12_feed_77 rfl rfl (by decide)
def dX12_feed_98 := dk167 (k := 21) (x := (-43)) bX12_feed_77 rfl (by decide)
theorem bX12_feed_101 : bL cX12_feed 101 [42, 89] := bL_of (by decide +kernel)
def dX12_feed_101 := dk42 (k := 0) bX12_feed_101 rfl
def dX12_feed_102 := dk89 (k := 1) bX12_feed_101 rfl
