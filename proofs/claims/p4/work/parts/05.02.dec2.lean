theorem bX12_feed_103 : bL cX12_feed 103 [180, 0, 81, 16, 20, 96, 181, 0, 81, 42, 180, 0, 81, 172] := bL_of (by decide +kernel)
def dX12_feed_103 := dk180 (k := 0) (x := 81) bX12_feed_103 rfl rfl
def dX12_feed_106 := dk16 (k := 3) (x := 20) bX12_feed_103 rfl (by decide)
def dX12_feed_108 := dk96 (k := 5) bX12_feed_103 rfl
def dX12_feed_109 := dk181 (k := 6) (x := 81) bX12_feed_103 rfl rfl
def dX12_feed_112 := dk42 (k := 9) bX12_feed_103 rfl
def dX12_feed_113 := dk180 (k := 10) (x := 81) bX12_feed_103 rfl rfl
def dX12_feed_116 := dk172 (k := 13) bX12_feed_103 rfl
theorem bX12_end_0 : bL cX12_end 0 [27, 133, 9, 42, 180, 0, 81, 133, 184, 0, 65, 154, 0, 5, 2, 172, 42, 27, 181, 0, 81, 27, 172] := bL_of (by decide +kernel)
def dX12_end_0 := dk27 (k := 0) bX12_end_0 rfl
def dX12_end_1 := dk133 (k := 1) bX12_end_0 rfl
def dX12_end_2 := dk9 (k := 2) bX12_end_0 rfl
def dX12_end_3 := dk42 (k := 3) bX12_end_0 rfl
def dX12_end_4 := dk180 (k := 4) (x := 81) bX12_end_0 rfl rfl
def dX12_end_7 := dk133 (k := 7) bX12_end_0 rfl
def dX12_end_8 := dk184 (k := 8) (x := 65) bX12_end_0 rfl rfl
def dX12_end_11 := dk154 (k := 11) (x := 5) bX12_end_0 rfl (by decide)
def dX12_end_14 := dk2 (k := 14) bX12_end_0 rfl
def dX12_end_15 := dk172 (k := 15) bX12_end_0 rfl
def dX12_end_16 := dk42 (k := 16) bX12_end_0 rfl
def dX12_end_17 := dk27 (k := 17) bX12_end_0 rfl
def dX12_end_18 := dk181 (k := 18) (x := 81) bX12_end_0 rfl rfl
def dX12_end_21 := dk27 (k := 21) bX12_end_0 rfl
def dX12_end_22 := dk172 (k := 22) bX12_end_0 rfl
theorem bX12_see_0 : bL cX12_see 0 [27, 42, 180, 0, 84, 162, 0, 16, 42, 180, 0, 20, 27, 51, 17, 0, 255, 126, 167, 0, 4, 2, 172] := bL_of (by decide +kernel)
def dX12_see_0 := dk27 (k := 0) bX12_see_0 rfl
def dX12_see_1 := dk42 (k := 1) bX12_see_0 rfl
def dX12_see_2 := dk180 (k := 2) (x := 84) bX12_see_0 rfl rfl
def dX12_see_5 := dk162 (k := 5) (x := 16) bX12_see_0 rfl (by decide)
def dX12_see_8 := dk42 (k := 8) bX12_see_0 rfl
def dX12_see_9 := dk180 (k := 9) (x := 20) bX12_see_0 rfl rfl
def dX12_see_12 := dk27 (k := 12) bX12_see_0 rfl
def dX12_see_13 := dk51 (k := 13) bX12_see_0 rfl
def dX12_see_14 := dk17 (k := 14) (x := 255) bX12_see_0 rfl (by decide)
def dX12_see_17 := dk126 (k := 17) bX12_see_0 rfl
def dX12_see_18 := dk167 (k := 18) (x := 4) bX12_see_0 rfl (by decide)
def dX12_see_21 := dk2 (k := 21) bX12_see_0 rfl
def dX12_see_22 := dk172 (k := 22) bX12_see_0 rfl
theorem bX12_advance_0 : bL cX12_advance 0 [42, 42, 180, 0, 87, 182, 0, 90, 16, 32, 159, 0, 16, 42, 42, 180, 0, 87, 182, 0, 90, 16, 10, 160, 0, 16] := bL_of (by decide +kernel)
def dX12_advance_0 := dk42 (k := 0) bX12_advance_0 rfl
def dX12_advance_1 := dk42 (k := 1) bX12_advance_0 rfl
def dX12_advance_2 := dk180 (k := 2) (x := 87) bX12_advance_0 rfl rfl
def dX12_advance_5 := dk182 (k := 5) (x := 90) bX12_advance_0 rfl rfl
def dX12_advance_8 := dk16 (k := 8) (x := 32) bX12_advance_0 rfl (by decide)
def dX12_advance_10 := dk159 (k := 10) (x := 16) bX12_advance_0 rfl (by decide)
def dX12_advance_13 := dk42 (k := 13) bX12_advance_0 rfl
def dX12_advance_14 := dk42 (k := 14) bX12_advance_0 rfl
def dX12_advance_15 := dk180 (k := 15) (x := 87) bX12_advance_0 rfl rfl
def dX12_advance_18 := dk182 (k := 18) (x := 90) bX12_advance_0 rfl rfl
def dX12_advance_21 := dk16 (k := 21) (x := 10) bX12_advance_0 rfl (by decide)
def dX12_advance_23 := dk160 (k := 23) (x := 16) bX12_advance_0 rfl (by decide)
theorem bX12_advance_26 : bL cX12_advance 26 [42, 89, 180, 0, 87, 4, 96, 181, 0, 87, 167, 255, 220, 42, 42, 180, 0, 87, 181, 0, 94, 42, 42, 180, 0, 87] := bL_of (by decide +kernel)
def dX12_advance_26 := dk42 (k := 0) bX12_advance_26 rfl
def dX12_advance_27 := dk89 (k := 1) bX12_advance_26 rfl
def dX12_advance_28 := dk180 (k := 2) (x := 87) bX12_advance_26 rfl rfl
def dX12_advance_31 := dk4 (k := 5) bX12_advance_26 rfl
def dX12_advance_32 := dk96 (k := 6) bX12_advance_26 rfl
def dX12_advance_33 := dk181 (k := 7) (x := 87) bX12_advance_26 rfl rfl
def dX12_advance_36 := dk167 (k := 10) (x := (-36)) bX12_advance_26 rfl (by decide)
def dX12_advance_39 := dk42 (k := 13) bX12_advance_26 rfl
def dX12_advance_40 := dk42 (k := 14) bX12_advance_26 rfl
def dX12_advance_41 := dk180 (k := 15) (x := 87) bX12_advance_26 rfl rfl
def dX12_advance_44 := dk181 (k := 18) (x := 94) bX12_advance_26 rfl rfl
def dX12_advance_47 := dk42 (k := 21) bX12_advance_26 rfl
def dX12_advance_48 := dk42 (k := 22) bX12_advance_26 rfl
def dX12_advance_49 := dk180 (k := 23) (x := 87) bX12_advance_26 rfl rfl
theorem bX12_advance_52 : bL cX12_advance 52 [182, 0, 90, 60, 27, 2, 160, 0, 11, 42, 3, 181, 0, 97, 167, 0, 173, 27, 133, 20, 0, 100, 20, 0, 102] := bL_of (by decide +kernel)
def dX12_advance_52 := dk182 (k := 0) (x := 90) bX12_advance_52 rfl rfl
def dX12_advance_55 := dk60 (k := 3) bX12_advance_52 rfl
def dX12_advance_56 := dk27 (k := 4) bX12_advance_52 rfl
def dX12_advance_57 := dk2 (k := 5) bX12_advance_52 rfl
def dX12_advance_58 := dk160 (k := 6) (x := 11) bX12_advance_52 rfl (by decide)
def dX12_advance_61 := dk42 (k := 9) bX12_advance_52 rfl
def dX12_advance_62 := dk3 (k := 10) bX12_advance_52 rfl
def dX12_advance_63 := dk181 (k := 11) (x := 97) bX12_advance_52 rfl rfl
def dX12_advance_66 := dk167 (k := 14) (x := 173) bX12_advance_52 rfl (by decide)
def dX12_advance_69 := dk27 (k := 17) bX12_advance_52 rfl
def dX12_advance_70 := dk133 (k := 18) bX12_advance_52 rfl
def dX12_advance_71 := dk20 (k := 19) (x := 100) bX12_advance_52 rfl rfl
def dX12_advance_74 := dk20 (k := 22) (x := 102) bX12_advance_52 rfl rfl
theorem bX12_advance_77 : bL cX12_advance 77 [184, 0, 65, 153, 0, 45, 42, 42, 180, 0, 87, 182, 0, 90, 133, 20, 0, 100, 20, 0, 102, 184, 0, 65] := bL_of (by decide +kernel)
def dX12_advance_77 := dk184 (k := 0) (x := 65) bX12_advance_77 rfl rfl
def dX12_advance_80 := dk153 (k := 3) (x := 45) bX12_advance_77 rfl (by decide)
def dX12_advance_83 := dk42 (k := 6) bX12_advance_77 rfl
def dX12_advance_84 := dk42 (k := 7) bX12_advance_77 rfl
def dX12_advance_85 := dk180 (k := 8) (x := 87) bX12_advance_77 rfl rfl
def dX12_advance_88 := dk182 (k := 11) (x := 90) bX12_advance_77 rfl rfl
def dX12_advance_91 := dk133 (k := 14) bX12_advance_77 rfl
def dX12_advance_92 := dk20 (k := 15) (x := 100) bX12_advance_77 rfl rfl
def dX12_advance_95 := dk20 (k := 18) (x := 102) bX12_advance_77 rfl rfl
def dX12_advance_98 := dk184 (k := 21) (x := 65) bX12_advance_77 rfl rfl
theorem bX12_advance_101 : bL cX12_advance 101 [153, 0, 16, 42, 89, 180, 0, 87, 4, 96, 181, 0, 87, 167, 255, 225, 42, 4, 181, 0, 97, 167, 0, 117] := bL_of (by decide +kernel)
def dX12_advance_101 := dk153 (k := 0) (x := 16) bX12_advance_101 rfl (by decide)
def dX12_advance_104 := dk42 (k := 3) bX12_advance_101 rfl
def dX12_advance_105 := dk89 (k := 4) bX12_advance_101 rfl
def dX12_advance_106 := dk180 (k := 5) (x := 87) bX12_advance_101 rfl rfl
def dX12_advance_109 := dk4 (k := 8) bX12_advance_101 rfl
def dX12_advance_110 := dk96 (k := 9) bX12_advance_101 rfl
def dX12_advance_111 := dk181 (k := 10) (x := 87) bX12_advance_101 rfl rfl
def dX12_advance_114 := dk167 (k := 13) (x := (-31)) bX12_advance_101 rfl (by decide)
def dX12_advance_117 := dk42 (k := 16) bX12_advance_101 rfl
def dX12_advance_118 := dk4 (k := 17) bX12_advance_101 rfl
def dX12_advance_119 := dk181 (k := 18) (x := 97) bX12_advance_101 rfl rfl
def dX12_advance_122 := dk167 (k := 21) (x := 117) bX12_advance_101 rfl (by decide)
theorem bX12_advance_125 : bL cX12_advance 125 [27, 133, 20, 0, 104, 20, 0, 106, 184, 0, 65, 153, 0, 78, 42, 3, 181, 0, 108, 42, 42, 180, 0, 87] := bL_of (by decide +kernel)
def dX12_advance_125 := dk27 (k := 0) bX12_advance_125 rfl
def dX12_advance_126 := dk133 (k := 1) bX12_advance_125 rfl
def dX12_advance_127 := dk20 (k := 2) (x := 104) bX12_advance_125 rfl rfl
def dX12_advance_130 := dk20 (k := 5) (x := 106) bX12_advance_125 rfl rfl
def dX12_advance_133 := dk184 (k := 8) (x := 65) bX12_advance_125 rfl rfl
def dX12_advance_136 := dk153 (k := 11) (x := 78) bX12_advance_125 rfl (by decide)
def dX12_advance_139 := dk42 (k := 14) bX12_advance_125 rfl
def dX12_advance_140 := dk3 (k := 15) bX12_advance_125 rfl
def dX12_advance_141 := dk181 (k := 16) (x := 108) bX12_advance_125 rfl rfl
def dX12_advance_144 := dk42 (k := 19) bX12_advance_125 rfl
def dX12_advance_145 := dk42 (k := 20) bX12_advance_125 rfl
def dX12_advance_146 := dk180 (k := 21) (x := 87) bX12_advance_125 rfl rfl
theorem bX12_advance_149 : bL cX12_advance 149 [182, 0, 90, 133, 20, 0, 104, 20, 0, 106, 184, 0, 65, 153, 0, 44, 42, 18, 111, 16, 10, 42, 180, 0, 108] := bL_of (by decide +kernel)
def dX12_advance_149 := dk182 (k := 0) (x := 90) bX12_advance_149 rfl rfl
def dX12_advance_152 := dk133 (k := 3) bX12_advance_149 rfl
def dX12_advance_153 := dk20 (k := 4) (x := 104) bX12_advance_149 rfl rfl
def dX12_advance_156 := dk20 (k := 7) (x := 106) bX12_advance_149 rfl rfl
def dX12_advance_159 := dk184 (k := 10) (x := 65) bX12_advance_149 rfl rfl
def dX12_advance_162 := dk153 (k := 13) (x := 44) bX12_advance_149 rfl (by decide)
def dX12_advance_165 := dk42 (k := 16) bX12_advance_149 rfl
def dX12_advance_166 := dk18 (k := 17) (x := 111) bX12_advance_149 rfl rfl
def dX12_advance_168 := dk16 (k := 19) (x := 10) bX12_advance_149 rfl (by decide)
def dX12_advance_170 := dk42 (k := 21) bX12_advance_149 rfl
def dX12_advance_171 := dk180 (k := 22) (x := 108) bX12_advance_149 rfl rfl
theorem bX12_advance_174 : bL cX12_advance 174 [104, 42, 42, 180, 0, 87, 182, 0, 90, 96, 16, 48, 100, 184, 0, 112, 181, 0, 108, 42, 89, 180, 0, 87] := bL_of (by decide +kernel)
def dX12_advance_174 := dk104 (k := 0) bX12_advance_174 rfl
def dX12_advance_175 := dk42 (k := 1) bX12_advance_174 rfl
def dX12_advance_176 := dk42 (k := 2) bX12_advance_174 rfl
def dX12_advance_177 := dk180 (k := 3) (x := 87) bX12_advance_174 rfl rfl
def dX12_advance_180 := dk182 (k := 6) (x := 90) bX12_advance_174 rfl rfl
def dX12_advance_183 := dk96 (k := 9) bX12_advance_174 rfl
def dX12_advance_184 := dk16 (k := 10) (x := 48) bX12_advance_174 rfl (by decide)
def dX12_advance_186 := dk100 (k := 12) bX12_advance_174 rfl
def dX12_advance_187 := dk184 (k := 13) (x := 112) bX12_advance_174 rfl rfl
def dX12_advance_190 := dk181 (k := 16) (x := 108) bX12_advance_174 rfl rfl
def dX12_advance_193 := dk42 (k := 19) bX12_advance_174 rfl
def dX12_advance_194 := dk89 (k := 20) bX12_advance_174 rfl
def dX12_advance_195 := dk180 (k := 21) (x := 87) bX12_advance_174 rfl rfl
theorem bX12_advance_198 : bL cX12_advance 198 [4, 96, 181, 0, 87, 167, 255, 197, 42, 5, 181, 0, 97, 167, 0, 28, 42, 27, 16, 59, 160, 0, 7, 6] := bL_of (by decide +kernel)
def dX12_advance_198 := dk4 (k := 0) bX12_advance_198 rfl
def dX12_advance_199 := dk96 (k := 1) bX12_advance_198 rfl
def dX12_advance_200 := dk181 (k := 2) (x := 87) bX12_advance_198 rfl rfl
def dX12_advance_203 := dk167 (k := 5) (x := (-59)) bX12_advance_198 rfl (by decide)
def dX12_advance_206 := dk42 (k := 8) bX12_advance_198 rfl
def dX12_advance_207 := dk5 (k := 9) bX12_advance_198 rfl
def dX12_advance_208 := dk181 (k := 10) (x := 97) bX12_advance_198 rfl rfl
def dX12_advance_211 := dk167 (k := 13) (x := 28) bX12_advance_198 rfl (by decide)
def dX12_advance_214 := dk42 (k := 16) bX12_advance_198 rfl
def dX12_advance_215 := dk27 (k := 17) bX12_advance_198 rfl
def dX12_advance_216 := dk16 (k := 18) (x := 59) bX12_advance_198 rfl (by decide)
def dX12_advance_218 := dk160 (k := 20) (x := 7) bX12_advance_198 rfl (by decide)
def dX12_advance_221 := dk6 (k := 23) bX12_advance_198 rfl
theorem bX12_advance_222 : bL cX12_advance 222 [167, 0, 4, 7, 181, 0, 97, 42, 89, 180, 0, 87, 4, 96, 181, 0, 87, 177] := bL_of (by decide +kernel)
def dX12_advance_222 := dk167 (k := 0) (x := 4) bX12_advance_222 rfl (by decide)
def dX12_advance_225 := dk7 (k := 3) bX12_advance_222 rfl
def dX12_advance_226 := dk181 (k := 4) (x := 97) bX12_advance_222 rfl rfl
def dX12_advance_229 := dk42 (k := 7) bX12_advance_222 rfl
def dX12_advance_230 := dk89 (k := 8) bX12_advance_222 rfl
def dX12_advance_231 := dk180 (k := 9) (x := 87) bX12_advance_222 rfl rfl
def dX12_advance_234 := dk4 (k := 12) bX12_advance_222 rfl
def dX12_advance_235 := dk96 (k := 13) bX12_advance_222 rfl
def dX12_advance_236 := dk181 (k := 14) (x := 87) bX12_advance_222 rfl rfl
def dX12_advance_239 := dk177 (k := 17) bX12_advance_222 rfl
theorem bX12_good_0 : bL cX12_good 0 [42, 180, 0, 118, 154, 0, 7, 4, 167, 0, 4, 3, 172] := bL_of (by decide +kernel)
def dX12_good_0 := dk42 (k := 0) bX12_good_0 rfl
def dX12_good_1 := dk180 (k := 1) (x := 118) bX12_good_0 rfl rfl
def dX12_good_4 := dk154 (k := 4) (x := 7) bX12_good_0 rfl (by decide)
def dX12_good_7 := dk4 (k := 7) bX12_good_0 rfl
def dX12_good_8 := dk167 (k := 8) (x := 4) bX12_good_0 rfl (by decide)
def dX12_good_11 := dk3 (k := 11) bX12_good_0 rfl
def dX12_good_12 := dk172 (k := 12) bX12_good_0 rfl
theorem bX12_errs_0 : bL cX12_errs 0 [42, 182, 0, 121, 154, 0, 4, 177, 42, 27, 181, 0, 118, 42, 42, 180, 0, 94, 181, 0, 27, 177] := bL_of (by decide +kernel)
def dX12_errs_0 := dk42 (k := 0) bX12_errs_0 rfl
def dX12_errs_1 := dk182 (k := 1) (x := 121) bX12_errs_0 rfl rfl
def dX12_errs_4 := dk154 (k := 4) (x := 4) bX12_errs_0 rfl (by decide)
def dX12_errs_7 := dk177 (k := 7) bX12_errs_0 rfl
def dX12_errs_8 := dk42 (k := 8) bX12_errs_0 rfl
def dX12_errs_9 := dk27 (k := 9) bX12_errs_0 rfl
def dX12_errs_10 := dk181 (k := 10) (x := 118) bX12_errs_0 rfl rfl
def dX12_errs_13 := dk42 (k := 13) bX12_errs_0 rfl
def dX12_errs_14 := dk42 (k := 14) bX12_errs_0 rfl
def dX12_errs_15 := dk180 (k := 15) (x := 94) bX12_errs_0 rfl rfl
def dX12_errs_18 := dk181 (k := 18) (x := 27) bX12_errs_0 rfl rfl
def dX12_errs_21 := dk177 (k := 21) bX12_errs_0 rfl
theorem bX12_is_0 : bL cX12_is 0 [42, 182, 0, 121, 153, 0, 31, 42, 180, 0, 97, 4, 160, 0, 23, 42, 180, 0, 87, 42, 180, 0, 94, 100] := bL_of (by decide +kernel)
def dX12_is_0 := dk42 (k := 0) bX12_is_0 rfl
def dX12_is_1 := dk182 (k := 1) (x := 121) bX12_is_0 rfl rfl
def dX12_is_4 := dk153 (k := 4) (x := 31) bX12_is_0 rfl (by decide)
def dX12_is_7 := dk42 (k := 7) bX12_is_0 rfl
def dX12_is_8 := dk180 (k := 8) (x := 97) bX12_is_0 rfl rfl
def dX12_is_11 := dk4 (k := 11) bX12_is_0 rfl
def dX12_is_12 := dk160 (k := 12) (x := 23) bX12_is_0 rfl (by decide)
def dX12_is_15 := dk42 (k := 15) bX12_is_0 rfl
def dX12_is_16 := dk180 (k := 16) (x := 87) bX12_is_0 rfl rfl
def dX12_is_19 := dk42 (k := 19) bX12_is_0 rfl
def dX12_is_20 := dk180 (k := 20) (x := 94) bX12_is_0 rfl rfl
def dX12_is_23 := dk100 (k := 23) bX12_is_0 rfl
theorem bX12_is_24 : bL cX12_is 24 [43, 182, 0, 124, 160, 0, 7, 4, 167, 0, 4, 3, 61, 3, 62, 29, 43, 182, 0, 124, 162, 0, 38, 28] := bL_of (by decide +kernel)
def dX12_is_24 := dk43 (k := 0) bX12_is_24 rfl
def dX12_is_25 := dk182 (k := 1) (x := 124) bX12_is_24 rfl rfl
def dX12_is_28 := dk160 (k := 4) (x := 7) bX12_is_24 rfl (by decide)
def dX12_is_31 := dk4 (k := 7) bX12_is_24 rfl
def dX12_is_32 := dk167 (k := 8) (x := 4) bX12_is_24 rfl (by decide)
def dX12_is_35 := dk3 (k := 11) bX12_is_24 rfl
def dX12_is_36 := dk61 (k := 12) bX12_is_24 rfl
def dX12_is_37 := dk3 (k := 13) bX12_is_24 rfl
def dX12_is_38 := dk62 (k := 14) bX12_is_24 rfl
def dX12_is_39 := dk29 (k := 15) bX12_is_24 rfl
def dX12_is_40 := dk43 (k := 16) bX12_is_24 rfl
def dX12_is_41 := dk182 (k := 17) (x := 124) bX12_is_24 rfl rfl
def dX12_is_44 := dk162 (k := 20) (x := 38) bX12_is_24 rfl (by decide)
def dX12_is_47 := dk28 (k := 23) bX12_is_24 rfl
theorem bX12_is_48 : bL cX12_is 48 [153, 0, 34, 42, 180, 0, 20, 42, 180, 0, 94, 29, 96, 51, 43, 29, 182, 0, 129, 160, 0, 7, 4, 167, 0, 4] := bL_of (by decide +kernel)
def dX12_is_48 := dk153 (k := 0) (x := 34) bX12_is_48 rfl (by decide)
def dX12_is_51 := dk42 (k := 3) bX12_is_48 rfl
def dX12_is_52 := dk180 (k := 4) (x := 20) bX12_is_48 rfl rfl
def dX12_is_55 := dk42 (k := 7) bX12_is_48 rfl
def dX12_is_56 := dk180 (k := 8) (x := 94) bX12_is_48 rfl rfl
def dX12_is_59 := dk29 (k := 11) bX12_is_48 rfl
def dX12_is_60 := dk96 (k := 12) bX12_is_48 rfl
def dX12_is_61 := dk51 (k := 13) bX12_is_48 rfl
def dX12_is_62 := dk43 (k := 14) bX12_is_48 rfl
def dX12_is_63 := dk29 (k := 15) bX12_is_48 rfl
def dX12_is_64 := dk182 (k := 16) (x := 129) bX12_is_48 rfl rfl
def dX12_is_67 := dk160 (k := 19) (x := 7) bX12_is_48 rfl (by decide)
def dX12_is_70 := dk4 (k := 22) bX12_is_48 rfl
def dX12_is_71 := dk167 (k := 23) (x := 4) bX12_is_48 rfl (by decide)
theorem bX12_is_74 : bL cX12_is 74 [3, 61, 132, 3, 1, 167, 255, 216, 28, 172] := bL_of (by decide +kernel)
def dX12_is_74 := dk3 (k := 0) bX12_is_74 rfl
def dX12_is_75 := dk61 (k := 1) bX12_is_74 rfl
theorem dX12_is_76 : decode cX12_is 76 = .ok (.iinc 3 1, 3) := dk132 (k := 2) bX12_is_74 rfl rfl (by decide)
def dX12_is_79 := dk167 (k := 5) (x := (-40)) bX12_is_74 rfl (by decide)
def dX12_is_82 := dk28 (k := 8) bX12_is_74 rfl
def dX12_is_83 := dk172 (k := 9) bX12_is_74 rfl
theorem bX12_takes_0 : bL cX12_takes 0 [42, 43, 182, 0, 133, 61, 28, 153, 0, 7, 42, 182, 0, 137, 28, 172] := bL_of (by decide +kernel)
def dX12_takes_0 := dk42 (k := 0) bX12_takes_0 rfl
def dX12_takes_1 := dk43 (k := 1) bX12_takes_0 rfl
def dX12_takes_2 := dk182 (k := 2) (x := 133) bX12_takes_0 rfl rfl
def dX12_takes_5 := dk61 (k := 5) bX12_takes_0 rfl
def dX12_takes_6 := dk28 (k := 6) bX12_takes_0 rfl
def dX12_takes_7 := dk153 (k := 7) (x := 7) bX12_takes_0 rfl (by decide)
def dX12_takes_10 := dk42 (k := 10) bX12_takes_0 rfl
def dX12_takes_11 := dk182 (k := 11) (x := 137) bX12_takes_0 rfl rfl
def dX12_takes_14 := dk28 (k := 14) bX12_takes_0 rfl
def dX12_takes_15 := dk172 (k := 15) bX12_takes_0 rfl
theorem bX12_needs_0 : bL cX12_needs 0 [42, 43, 182, 0, 140, 154, 0, 8, 42, 4, 182, 0, 143, 177] := bL_of (by decide +kernel)
def dX12_needs_0 := dk42 (k := 0) bX12_needs_0 rfl
def dX12_needs_1 := dk43 (k := 1) bX12_needs_0 rfl
def dX12_needs_2 := dk182 (k := 2) (x := 140) bX12_needs_0 rfl rfl
def dX12_needs_5 := dk154 (k := 5) (x := 8) bX12_needs_0 rfl (by decide)
def dX12_needs_8 := dk42 (k := 8) bX12_needs_0 rfl
def dX12_needs_9 := dk4 (k := 9) bX12_needs_0 rfl
def dX12_needs_10 := dk182 (k := 10) (x := 143) bX12_needs_0 rfl rfl
def dX12_needs_13 := dk177 (k := 13) bX12_needs_0 rfl
theorem bX12_number_0 : bL cX12_number 0 [42, 182, 0, 121, 153, 0, 16, 42, 180, 0, 97, 5, 159, 0, 8, 42, 4, 182, 0, 143, 42, 182, 0, 121] := bL_of (by decide +kernel)
def dX12_number_0 := dk42 (k := 0) bX12_number_0 rfl
def dX12_number_1 := dk182 (k := 1) (x := 121) bX12_number_0 rfl rfl
def dX12_number_4 := dk153 (k := 4) (x := 16) bX12_number_0 rfl (by decide)
def dX12_number_7 := dk42 (k := 7) bX12_number_0 rfl
def dX12_number_8 := dk180 (k := 8) (x := 97) bX12_number_0 rfl rfl
def dX12_number_11 := dk5 (k := 11) bX12_number_0 rfl
def dX12_number_12 := dk159 (k := 12) (x := 8) bX12_number_0 rfl (by decide)
def dX12_number_15 := dk42 (k := 15) bX12_number_0 rfl
def dX12_number_16 := dk4 (k := 16) bX12_number_0 rfl
def dX12_number_17 := dk182 (k := 17) (x := 143) bX12_number_0 rfl rfl
def dX12_number_20 := dk42 (k := 20) bX12_number_0 rfl
def dX12_number_21 := dk182 (k := 21) (x := 121) bX12_number_0 rfl rfl
theorem bX12_number_24 : bL cX12_number 24 [153, 0, 23, 42, 180, 0, 108, 133, 27, 133, 28, 133, 184, 0, 65, 154, 0, 8, 42, 5, 182, 0, 143, 42] := bL_of (by decide +kernel)
def dX12_number_24 := dk153 (k := 0) (x := 23) bX12_number_24 rfl (by decide)
def dX12_number_27 := dk42 (k := 3) bX12_number_24 rfl
def dX12_number_28 := dk180 (k := 4) (x := 108) bX12_number_24 rfl rfl
def dX12_number_31 := dk133 (k := 7) bX12_number_24 rfl
def dX12_number_32 := dk27 (k := 8) bX12_number_24 rfl
def dX12_number_33 := dk133 (k := 9) bX12_number_24 rfl
def dX12_number_34 := dk28 (k := 10) bX12_number_24 rfl
def dX12_number_35 := dk133 (k := 11) bX12_number_24 rfl
def dX12_number_36 := dk184 (k := 12) (x := 65) bX12_number_24 rfl rfl
def dX12_number_39 := dk154 (k := 15) (x := 8) bX12_number_24 rfl (by decide)
def dX12_number_42 := dk42 (k := 18) bX12_number_24 rfl
def dX12_number_43 := dk5 (k := 19) bX12_number_24 rfl
def dX12_number_44 := dk182 (k := 20) (x := 143) bX12_number_24 rfl rfl
def dX12_number_47 := dk42 (k := 23) bX12_number_24 rfl
theorem bX12_number_48 : bL cX12_number 48 [182, 0, 121, 154, 0, 5, 3, 172, 42, 180, 0, 108, 62, 42, 182, 0, 137, 29, 172] := bL_of (by decide +kernel)
def dX12_number_48 := dk182 (k := 0) (x := 121) bX12_number_48 rfl rfl
def dX12_number_51 := dk154 (k := 3) (x := 5) bX12_number_48 rfl (by decide)
def dX12_number_54 := dk3 (k := 6) bX12_number_48 rfl
def dX12_number_55 := dk172 (k := 7) bX12_number_48 rfl
def dX12_number_56 := dk42 (k := 8) bX12_number_48 rfl
def dX12_number_57 := dk180 (k := 9) (x := 108) bX12_number_48 rfl rfl
def dX12_number_60 := dk62 (k := 12) bX12_number_48 rfl
def dX12_number_61 := dk42 (k := 13) bX12_number_48 rfl
def dX12_number_62 := dk182 (k := 14) (x := 137) bX12_number_48 rfl rfl
def dX12_number_65 := dk29 (k := 17) bX12_number_48 rfl
def dX12_number_66 := dk172 (k := 18) bX12_number_48 rfl
theorem bX12_told_0 : bL cX12_told 0 [42, 43, 182, 0, 147, 42, 28, 29, 182, 0, 151, 172] := bL_of (by decide +kernel)
def dX12_told_0 := dk42 (k := 0) bX12_told_0 rfl
def dX12_told_1 := dk43 (k := 1) bX12_told_0 rfl
def dX12_told_2 := dk182 (k := 2) (x := 147) bX12_told_0 rfl rfl
def dX12_told_5 := dk42 (k := 5) bX12_told_0 rfl
def dX12_told_6 := dk28 (k := 6) bX12_told_0 rfl
def dX12_told_7 := dk29 (k := 7) bX12_told_0 rfl
def dX12_told_8 := dk182 (k := 8) (x := 151) bX12_told_0 rfl rfl
def dX12_told_11 := dk172 (k := 11) bX12_told_0 rfl
theorem bX12_fault_0 : bL cX12_fault 0 [27, 154, 0, 10, 42, 180, 0, 118, 167, 0, 16, 27, 4, 160, 0, 10, 42, 180, 0, 27, 167, 0, 4, 2] := bL_of (by decide +kernel)
def dX12_fault_0 := dk27 (k := 0) bX12_fault_0 rfl
def dX12_fault_1 := dk154 (k := 1) (x := 10) bX12_fault_0 rfl (by decide)
def dX12_fault_4 := dk42 (k := 4) bX12_fault_0 rfl
def dX12_fault_5 := dk180 (k := 5) (x := 118) bX12_fault_0 rfl rfl
def dX12_fault_8 := dk167 (k := 8) (x := 16) bX12_fault_0 rfl (by decide)
def dX12_fault_11 := dk27 (k := 11) bX12_fault_0 rfl
def dX12_fault_12 := dk4 (k := 12) bX12_fault_0 rfl
def dX12_fault_13 := dk160 (k := 13) (x := 10) bX12_fault_0 rfl (by decide)
def dX12_fault_16 := dk42 (k := 16) bX12_fault_0 rfl
def dX12_fault_17 := dk180 (k := 17) (x := 27) bX12_fault_0 rfl rfl
def dX12_fault_20 := dk167 (k := 20) (x := 4) bX12_fault_0 rfl (by decide)
def dX12_fault_23 := dk2 (k := 23) bX12_fault_0 rfl
theorem bX12_fault_24 : bL cX12_fault 24 [172] := bL_of (by decide +kernel)
def dX12_fault_24 := dk172 (k := 0) bX12_fault_24 rfl
theorem bX12_readFirst_0 : bL cX12_readFirst 0 [42, 18, 154, 182, 0, 147, 42, 182, 0, 121, 153, 0, 104, 42, 180, 0, 97, 5, 159, 0, 13, 42, 180, 0, 31] := bL_of (by decide +kernel)
def dX12_readFirst_0 := dk42 (k := 0) bX12_readFirst_0 rfl
def dX12_readFirst_1 := dk18 (k := 1) (x := 154) bX12_readFirst_0 rfl rfl
def dX12_readFirst_3 := dk182 (k := 3) (x := 147) bX12_readFirst_0 rfl rfl
def dX12_readFirst_6 := dk42 (k := 6) bX12_readFirst_0 rfl
def dX12_readFirst_7 := dk182 (k := 7) (x := 121) bX12_readFirst_0 rfl rfl
def dX12_readFirst_10 := dk153 (k := 10) (x := 104) bX12_readFirst_0 rfl (by decide)
def dX12_readFirst_13 := dk42 (k := 13) bX12_readFirst_0 rfl
def dX12_readFirst_14 := dk180 (k := 14) (x := 97) bX12_readFirst_0 rfl rfl
def dX12_readFirst_17 := dk5 (k := 17) bX12_readFirst_0 rfl
def dX12_readFirst_18 := dk159 (k := 18) (x := 13) bX12_readFirst_0 rfl (by decide)
def dX12_readFirst_21 := dk42 (k := 21) bX12_readFirst_0 rfl
def dX12_readFirst_22 := dk180 (k := 22) (x := 31) bX12_readFirst_0 rfl rfl
theorem bX12_readFirst_25 : bL cX12_readFirst 25 [3, 46, 6, 162, 0, 86, 42, 180, 0, 97, 5, 160, 0, 34, 42, 180, 0, 108, 133, 9, 20, 0, 156, 184, 0, 65] := bL_of (by decide +kernel)
def dX12_readFirst_25 := dk3 (k := 0) bX12_readFirst_25 rfl
def dX12_readFirst_26 := dk46 (k := 1) bX12_readFirst_25 rfl
def dX12_readFirst_27 := dk6 (k := 2) bX12_readFirst_25 rfl
def dX12_readFirst_28 := dk162 (k := 3) (x := 86) bX12_readFirst_25 rfl (by decide)
def dX12_readFirst_31 := dk42 (k := 6) bX12_readFirst_25 rfl
def dX12_readFirst_32 := dk180 (k := 7) (x := 97) bX12_readFirst_25 rfl rfl
def dX12_readFirst_35 := dk5 (k := 10) bX12_readFirst_25 rfl
def dX12_readFirst_36 := dk160 (k := 11) (x := 34) bX12_readFirst_25 rfl (by decide)
def dX12_readFirst_39 := dk42 (k := 14) bX12_readFirst_25 rfl
def dX12_readFirst_40 := dk180 (k := 15) (x := 108) bX12_readFirst_25 rfl rfl
def dX12_readFirst_43 := dk133 (k := 18) bX12_readFirst_25 rfl
def dX12_readFirst_44 := dk9 (k := 19) bX12_readFirst_25 rfl
def dX12_readFirst_45 := dk20 (k := 20) (x := 156) bX12_readFirst_25 rfl rfl
def dX12_readFirst_48 := dk184 (k := 23) (x := 65) bX12_readFirst_25 rfl rfl
theorem bX12_readFirst_51 : bL cX12_readFirst 51 [153, 0, 19, 42, 180, 0, 31, 3, 46, 16, 10, 160, 0, 8, 42, 6, 182, 0, 143, 42, 3, 16, 40, 182, 0, 151] := bL_of (by decide +kernel)
def dX12_readFirst_51 := dk153 (k := 0) (x := 19) bX12_readFirst_51 rfl (by decide)
def dX12_readFirst_54 := dk42 (k := 3) bX12_readFirst_51 rfl
def dX12_readFirst_55 := dk180 (k := 4) (x := 31) bX12_readFirst_51 rfl rfl
def dX12_readFirst_58 := dk3 (k := 7) bX12_readFirst_51 rfl
def dX12_readFirst_59 := dk46 (k := 8) bX12_readFirst_51 rfl
def dX12_readFirst_60 := dk16 (k := 9) (x := 10) bX12_readFirst_51 rfl (by decide)
def dX12_readFirst_62 := dk160 (k := 11) (x := 8) bX12_readFirst_51 rfl (by decide)
def dX12_readFirst_65 := dk42 (k := 14) bX12_readFirst_51 rfl
def dX12_readFirst_66 := dk6 (k := 15) bX12_readFirst_51 rfl
def dX12_readFirst_67 := dk182 (k := 16) (x := 143) bX12_readFirst_51 rfl rfl
def dX12_readFirst_70 := dk42 (k := 19) bX12_readFirst_51 rfl
def dX12_readFirst_71 := dk3 (k := 20) bX12_readFirst_51 rfl
def dX12_readFirst_72 := dk16 (k := 21) (x := 40) bX12_readFirst_51 rfl (by decide)
def dX12_readFirst_74 := dk182 (k := 23) (x := 151) bX12_readFirst_51 rfl rfl
theorem bX12_readFirst_77 : bL cX12_readFirst 77 [60, 42, 182, 0, 121, 154, 0, 4, 177, 42, 180, 0, 31, 16, 9, 42, 180, 0, 31, 3, 46, 96, 27, 79] := bL_of (by decide +kernel)
def dX12_readFirst_77 := dk60 (k := 0) bX12_readFirst_77 rfl
def dX12_readFirst_78 := dk42 (k := 1) bX12_readFirst_77 rfl
def dX12_readFirst_79 := dk182 (k := 2) (x := 121) bX12_readFirst_77 rfl rfl
def dX12_readFirst_82 := dk154 (k := 5) (x := 4) bX12_readFirst_77 rfl (by decide)
def dX12_readFirst_85 := dk177 (k := 8) bX12_readFirst_77 rfl
def dX12_readFirst_86 := dk42 (k := 9) bX12_readFirst_77 rfl
def dX12_readFirst_87 := dk180 (k := 10) (x := 31) bX12_readFirst_77 rfl rfl
def dX12_readFirst_90 := dk16 (k := 13) (x := 9) bX12_readFirst_77 rfl (by decide)
def dX12_readFirst_92 := dk42 (k := 15) bX12_readFirst_77 rfl
def dX12_readFirst_93 := dk180 (k := 16) (x := 31) bX12_readFirst_77 rfl rfl
def dX12_readFirst_96 := dk3 (k := 19) bX12_readFirst_77 rfl
def dX12_readFirst_97 := dk46 (k := 20) bX12_readFirst_77 rfl
def dX12_readFirst_98 := dk96 (k := 21) bX12_readFirst_77 rfl
def dX12_readFirst_99 := dk27 (k := 22) bX12_readFirst_77 rfl
def dX12_readFirst_100 := dk79 (k := 23) bX12_readFirst_77 rfl
theorem bX12_readFirst_101 : bL cX12_readFirst 101 [42, 180, 0, 31, 3, 92, 46, 4, 96, 79, 167, 255, 151, 42, 180, 0, 31, 4, 42, 18, 158, 3, 16, 40] := bL_of (by decide +kernel)
def dX12_readFirst_101 := dk42 (k := 0) bX12_readFirst_101 rfl
def dX12_readFirst_102 := dk180 (k := 1) (x := 31) bX12_readFirst_101 rfl rfl
def dX12_readFirst_105 := dk3 (k := 4) bX12_readFirst_101 rfl
def dX12_readFirst_106 := dk92 (k := 5) bX12_readFirst_101 rfl
def dX12_readFirst_107 := dk46 (k := 6) bX12_readFirst_101 rfl
def dX12_readFirst_108 := dk4 (k := 7) bX12_readFirst_101 rfl
def dX12_readFirst_109 := dk96 (k := 8) bX12_readFirst_101 rfl
def dX12_readFirst_110 := dk79 (k := 9) bX12_readFirst_101 rfl
def dX12_readFirst_111 := dk167 (k := 10) (x := (-105)) bX12_readFirst_101 rfl (by decide)
def dX12_readFirst_114 := dk42 (k := 13) bX12_readFirst_101 rfl
def dX12_readFirst_115 := dk180 (k := 14) (x := 31) bX12_readFirst_101 rfl rfl
def dX12_readFirst_118 := dk4 (k := 17) bX12_readFirst_101 rfl
def dX12_readFirst_119 := dk42 (k := 18) bX12_readFirst_101 rfl
def dX12_readFirst_120 := dk18 (k := 19) (x := 158) bX12_readFirst_101 rfl rfl
def dX12_readFirst_122 := dk3 (k := 21) bX12_readFirst_101 rfl
def dX12_readFirst_123 := dk16 (k := 22) (x := 40) bX12_readFirst_101 rfl (by decide)
theorem bX12_readFirst_125 : bL cX12_readFirst 125 [182, 0, 160, 79, 42, 180, 0, 31, 5, 42, 18, 164, 4, 16, 40, 182, 0, 160, 79, 42, 180, 0, 31, 6] := bL_of (by decide +kernel)
def dX12_readFirst_125 := dk182 (k := 0) (x := 160) bX12_readFirst_125 rfl rfl
def dX12_readFirst_128 := dk79 (k := 3) bX12_readFirst_125 rfl
def dX12_readFirst_129 := dk42 (k := 4) bX12_readFirst_125 rfl
def dX12_readFirst_130 := dk180 (k := 5) (x := 31) bX12_readFirst_125 rfl rfl
def dX12_readFirst_133 := dk5 (k := 8) bX12_readFirst_125 rfl
def dX12_readFirst_134 := dk42 (k := 9) bX12_readFirst_125 rfl
def dX12_readFirst_135 := dk18 (k := 10) (x := 164) bX12_readFirst_125 rfl rfl
def dX12_readFirst_137 := dk4 (k := 12) bX12_readFirst_125 rfl
def dX12_readFirst_138 := dk16 (k := 13) (x := 40) bX12_readFirst_125 rfl (by decide)
def dX12_readFirst_140 := dk182 (k := 15) (x := 160) bX12_readFirst_125 rfl rfl
def dX12_readFirst_143 := dk79 (k := 18) bX12_readFirst_125 rfl
def dX12_readFirst_144 := dk42 (k := 19) bX12_readFirst_125 rfl
def dX12_readFirst_145 := dk180 (k := 20) (x := 31) bX12_readFirst_125 rfl rfl
def dX12_readFirst_148 := dk6 (k := 23) bX12_readFirst_125 rfl
theorem bX12_readFirst_149 : bL cX12_readFirst 149 [42, 18, 166, 4, 17, 3, 231, 182, 0, 160, 79, 42, 180, 0, 31, 7, 42, 18, 168, 182, 0, 140, 153, 0, 7] := bL_of (by decide +kernel)
def dX12_readFirst_149 := dk42 (k := 0) bX12_readFirst_149 rfl
def dX12_readFirst_150 := dk18 (k := 1) (x := 166) bX12_readFirst_149 rfl rfl
def dX12_readFirst_152 := dk4 (k := 3) bX12_readFirst_149 rfl
def dX12_readFirst_153 := dk17 (k := 4) (x := 999) bX12_readFirst_149 rfl (by decide)
def dX12_readFirst_156 := dk182 (k := 7) (x := 160) bX12_readFirst_149 rfl rfl
def dX12_readFirst_159 := dk79 (k := 10) bX12_readFirst_149 rfl
def dX12_readFirst_160 := dk42 (k := 11) bX12_readFirst_149 rfl
def dX12_readFirst_161 := dk180 (k := 12) (x := 31) bX12_readFirst_149 rfl rfl
def dX12_readFirst_164 := dk7 (k := 15) bX12_readFirst_149 rfl
def dX12_readFirst_165 := dk42 (k := 16) bX12_readFirst_149 rfl
def dX12_readFirst_166 := dk18 (k := 17) (x := 168) bX12_readFirst_149 rfl rfl
def dX12_readFirst_168 := dk182 (k := 19) (x := 140) bX12_readFirst_149 rfl rfl
def dX12_readFirst_171 := dk153 (k := 22) (x := 7) bX12_readFirst_149 rfl (by decide)
theorem bX12_readFirst_174 : bL cX12_readFirst 174 [4, 167, 0, 4, 3, 79, 42, 180, 0, 31, 7, 46, 154, 0, 9, 42, 18, 170, 182, 0, 147, 177] := bL_of (by decide +kernel)
def dX12_readFirst_174 := dk4 (k := 0) bX12_readFirst_174 rfl
def dX12_readFirst_175 := dk167 (k := 1) (x := 4) bX12_readFirst_174 rfl (by decide)
def dX12_readFirst_178 := dk3 (k := 4) bX12_readFirst_174 rfl
def dX12_readFirst_179 := dk79 (k := 5) bX12_readFirst_174 rfl
def dX12_readFirst_180 := dk42 (k := 6) bX12_readFirst_174 rfl
def dX12_readFirst_181 := dk180 (k := 7) (x := 31) bX12_readFirst_174 rfl rfl
def dX12_readFirst_184 := dk7 (k := 10) bX12_readFirst_174 rfl
def dX12_readFirst_185 := dk46 (k := 11) bX12_readFirst_174 rfl
def dX12_readFirst_186 := dk154 (k := 12) (x := 9) bX12_readFirst_174 rfl (by decide)
def dX12_readFirst_189 := dk42 (k := 15) bX12_readFirst_174 rfl
def dX12_readFirst_190 := dk18 (k := 16) (x := 170) bX12_readFirst_174 rfl rfl
def dX12_readFirst_192 := dk182 (k := 18) (x := 147) bX12_readFirst_174 rfl rfl
def dX12_readFirst_195 := dk177 (k := 21) bX12_readFirst_174 rfl
theorem bX12_readFolk_0 : bL cX12_readFolk 0 [42, 180, 0, 31, 16, 6, 46, 60, 16, 19, 16, 7, 27, 104, 96, 61, 42, 18, 172, 182, 0, 147, 42, 180, 0, 31] := bL_of (by decide +kernel)
def dX12_readFolk_0 := dk42 (k := 0) bX12_readFolk_0 rfl
def dX12_readFolk_1 := dk180 (k := 1) (x := 31) bX12_readFolk_0 rfl rfl
def dX12_readFolk_4 := dk16 (k := 4) (x := 6) bX12_readFolk_0 rfl (by decide)
def dX12_readFolk_6 := dk46 (k := 6) bX12_readFolk_0 rfl
def dX12_readFolk_7 := dk60 (k := 7) bX12_readFolk_0 rfl
def dX12_readFolk_8 := dk16 (k := 8) (x := 19) bX12_readFolk_0 rfl (by decide)
def dX12_readFolk_10 := dk16 (k := 10) (x := 7) bX12_readFolk_0 rfl (by decide)
def dX12_readFolk_12 := dk27 (k := 12) bX12_readFolk_0 rfl
def dX12_readFolk_13 := dk104 (k := 13) bX12_readFolk_0 rfl
def dX12_readFolk_14 := dk96 (k := 14) bX12_readFolk_0 rfl
def dX12_readFolk_15 := dk61 (k := 15) bX12_readFolk_0 rfl
def dX12_readFolk_16 := dk42 (k := 16) bX12_readFolk_0 rfl
def dX12_readFolk_17 := dk18 (k := 17) (x := 172) bX12_readFolk_0 rfl rfl
def dX12_readFolk_19 := dk182 (k := 19) (x := 147) bX12_readFolk_0 rfl rfl
def dX12_readFolk_22 := dk42 (k := 22) bX12_readFolk_0 rfl
def dX12_readFolk_23 := dk180 (k := 23) (x := 31) bX12_readFolk_0 rfl rfl
theorem bX12_readFolk_26 : bL cX12_readFolk 26 [28, 3, 96, 42, 3, 42, 180, 0, 31, 3, 46, 4, 100, 182, 0, 151, 79, 42, 180, 0, 31, 28, 4, 96] := bL_of (by decide +kernel)
def dX12_readFolk_26 := dk28 (k := 0) bX12_readFolk_26 rfl
def dX12_readFolk_27 := dk3 (k := 1) bX12_readFolk_26 rfl
def dX12_readFolk_28 := dk96 (k := 2) bX12_readFolk_26 rfl
def dX12_readFolk_29 := dk42 (k := 3) bX12_readFolk_26 rfl
def dX12_readFolk_30 := dk3 (k := 4) bX12_readFolk_26 rfl
def dX12_readFolk_31 := dk42 (k := 5) bX12_readFolk_26 rfl
def dX12_readFolk_32 := dk180 (k := 6) (x := 31) bX12_readFolk_26 rfl rfl
def dX12_readFolk_35 := dk3 (k := 9) bX12_readFolk_26 rfl
def dX12_readFolk_36 := dk46 (k := 10) bX12_readFolk_26 rfl
def dX12_readFolk_37 := dk4 (k := 11) bX12_readFolk_26 rfl
def dX12_readFolk_38 := dk100 (k := 12) bX12_readFolk_26 rfl
def dX12_readFolk_39 := dk182 (k := 13) (x := 151) bX12_readFolk_26 rfl rfl
def dX12_readFolk_42 := dk79 (k := 16) bX12_readFolk_26 rfl
def dX12_readFolk_43 := dk42 (k := 17) bX12_readFolk_26 rfl
def dX12_readFolk_44 := dk180 (k := 18) (x := 31) bX12_readFolk_26 rfl rfl
def dX12_readFolk_47 := dk28 (k := 21) bX12_readFolk_26 rfl
def dX12_readFolk_48 := dk4 (k := 22) bX12_readFolk_26 rfl
def dX12_readFolk_49 := dk96 (k := 23) bX12_readFolk_26 rfl
theorem bX12_readFolk_50 : bL cX12_readFolk 50 [42, 18, 166, 4, 16, 99, 182, 0, 160, 79, 42, 180, 0, 31, 28, 5, 96, 42, 18, 173, 3, 16, 9, 182, 0, 160] := bL_of (by decide +kernel)
def dX12_readFolk_50 := dk42 (k := 0) bX12_readFolk_50 rfl
def dX12_readFolk_51 := dk18 (k := 1) (x := 166) bX12_readFolk_50 rfl rfl
def dX12_readFolk_53 := dk4 (k := 3) bX12_readFolk_50 rfl
def dX12_readFolk_54 := dk16 (k := 4) (x := 99) bX12_readFolk_50 rfl (by decide)
def dX12_readFolk_56 := dk182 (k := 6) (x := 160) bX12_readFolk_50 rfl rfl
def dX12_readFolk_59 := dk79 (k := 9) bX12_readFolk_50 rfl
def dX12_readFolk_60 := dk42 (k := 10) bX12_readFolk_50 rfl
def dX12_readFolk_61 := dk180 (k := 11) (x := 31) bX12_readFolk_50 rfl rfl
def dX12_readFolk_64 := dk28 (k := 14) bX12_readFolk_50 rfl
def dX12_readFolk_65 := dk5 (k := 15) bX12_readFolk_50 rfl
def dX12_readFolk_66 := dk96 (k := 16) bX12_readFolk_50 rfl
def dX12_readFolk_67 := dk42 (k := 17) bX12_readFolk_50 rfl
def dX12_readFolk_68 := dk18 (k := 18) (x := 173) bX12_readFolk_50 rfl rfl
def dX12_readFolk_70 := dk3 (k := 20) bX12_readFolk_50 rfl
def dX12_readFolk_71 := dk16 (k := 21) (x := 9) bX12_readFolk_50 rfl (by decide)
def dX12_readFolk_73 := dk182 (k := 23) (x := 160) bX12_readFolk_50 rfl rfl
theorem bX12_readFolk_76 : bL cX12_readFolk 76 [79, 42, 180, 0, 31, 28, 6, 96, 42, 18, 158, 3, 16, 9, 182, 0, 160, 79, 42, 180, 0, 31, 28, 7] := bL_of (by decide +kernel)
def dX12_readFolk_76 := dk79 (k := 0) bX12_readFolk_76 rfl
def dX12_readFolk_77 := dk42 (k := 1) bX12_readFolk_76 rfl
def dX12_readFolk_78 := dk180 (k := 2) (x := 31) bX12_readFolk_76 rfl rfl
def dX12_readFolk_81 := dk28 (k := 5) bX12_readFolk_76 rfl
def dX12_readFolk_82 := dk6 (k := 6) bX12_readFolk_76 rfl
def dX12_readFolk_83 := dk96 (k := 7) bX12_readFolk_76 rfl
def dX12_readFolk_84 := dk42 (k := 8) bX12_readFolk_76 rfl
def dX12_readFolk_85 := dk18 (k := 9) (x := 158) bX12_readFolk_76 rfl rfl
def dX12_readFolk_87 := dk3 (k := 11) bX12_readFolk_76 rfl
def dX12_readFolk_88 := dk16 (k := 12) (x := 9) bX12_readFolk_76 rfl (by decide)
def dX12_readFolk_90 := dk182 (k := 14) (x := 160) bX12_readFolk_76 rfl rfl
def dX12_readFolk_93 := dk79 (k := 17) bX12_readFolk_76 rfl
def dX12_readFolk_94 := dk42 (k := 18) bX12_readFolk_76 rfl
def dX12_readFolk_95 := dk180 (k := 19) (x := 31) bX12_readFolk_76 rfl rfl
def dX12_readFolk_98 := dk28 (k := 22) bX12_readFolk_76 rfl
def dX12_readFolk_99 := dk7 (k := 23) bX12_readFolk_76 rfl
theorem bX12_readFolk_100 : bL cX12_readFolk 100 [96, 42, 18, 175, 3, 16, 9, 182, 0, 160, 79, 42, 180, 0, 31, 28, 8, 96, 3, 79, 42, 180, 0, 31] := bL_of (by decide +kernel)
def dX12_readFolk_100 := dk96 (k := 0) bX12_readFolk_100 rfl
def dX12_readFolk_101 := dk42 (k := 1) bX12_readFolk_100 rfl
def dX12_readFolk_102 := dk18 (k := 2) (x := 175) bX12_readFolk_100 rfl rfl
def dX12_readFolk_104 := dk3 (k := 4) bX12_readFolk_100 rfl
def dX12_readFolk_105 := dk16 (k := 5) (x := 9) bX12_readFolk_100 rfl (by decide)
def dX12_readFolk_107 := dk182 (k := 7) (x := 160) bX12_readFolk_100 rfl rfl
def dX12_readFolk_110 := dk79 (k := 10) bX12_readFolk_100 rfl
def dX12_readFolk_111 := dk42 (k := 11) bX12_readFolk_100 rfl
def dX12_readFolk_112 := dk180 (k := 12) (x := 31) bX12_readFolk_100 rfl rfl
def dX12_readFolk_115 := dk28 (k := 15) bX12_readFolk_100 rfl
def dX12_readFolk_116 := dk8 (k := 16) bX12_readFolk_100 rfl
def dX12_readFolk_117 := dk96 (k := 17) bX12_readFolk_100 rfl
def dX12_readFolk_118 := dk3 (k := 18) bX12_readFolk_100 rfl
def dX12_readFolk_119 := dk79 (k := 19) bX12_readFolk_100 rfl
def dX12_readFolk_120 := dk42 (k := 20) bX12_readFolk_100 rfl
def dX12_readFolk_121 := dk180 (k := 21) (x := 31) bX12_readFolk_100 rfl rfl
theorem bX12_readFolk_124 : bL cX12_readFolk 124 [28, 16, 6, 96, 3, 79, 42, 18, 177, 182, 0, 140, 153, 0, 85, 42, 180, 0, 31, 28, 8, 96, 42, 4] := bL_of (by decide +kernel)
def dX12_readFolk_124 := dk28 (k := 0) bX12_readFolk_124 rfl
def dX12_readFolk_125 := dk16 (k := 1) (x := 6) bX12_readFolk_124 rfl (by decide)
def dX12_readFolk_127 := dk96 (k := 3) bX12_readFolk_124 rfl
def dX12_readFolk_128 := dk3 (k := 4) bX12_readFolk_124 rfl
def dX12_readFolk_129 := dk79 (k := 5) bX12_readFolk_124 rfl
def dX12_readFolk_130 := dk42 (k := 6) bX12_readFolk_124 rfl
def dX12_readFolk_131 := dk18 (k := 7) (x := 177) bX12_readFolk_124 rfl rfl
def dX12_readFolk_133 := dk182 (k := 9) (x := 140) bX12_readFolk_124 rfl rfl
def dX12_readFolk_136 := dk153 (k := 12) (x := 85) bX12_readFolk_124 rfl (by decide)
def dX12_readFolk_139 := dk42 (k := 15) bX12_readFolk_124 rfl
def dX12_readFolk_140 := dk180 (k := 16) (x := 31) bX12_readFolk_124 rfl rfl
def dX12_readFolk_143 := dk28 (k := 19) bX12_readFolk_124 rfl
def dX12_readFolk_144 := dk8 (k := 20) bX12_readFolk_124 rfl
def dX12_readFolk_145 := dk96 (k := 21) bX12_readFolk_124 rfl
def dX12_readFolk_146 := dk42 (k := 22) bX12_readFolk_124 rfl
def dX12_readFolk_147 := dk4 (k := 23) bX12_readFolk_124 rfl
theorem bX12_readFolk_148 : bL cX12_readFolk 148 [16, 7, 182, 0, 151, 79, 42, 18, 179, 182, 0, 147, 42, 3, 27, 4, 100, 182, 0, 151, 62, 42, 182, 0, 121] := bL_of (by decide +kernel)
def dX12_readFolk_148 := dk16 (k := 0) (x := 7) bX12_readFolk_148 rfl (by decide)
def dX12_readFolk_150 := dk182 (k := 2) (x := 151) bX12_readFolk_148 rfl rfl
def dX12_readFolk_153 := dk79 (k := 5) bX12_readFolk_148 rfl
def dX12_readFolk_154 := dk42 (k := 6) bX12_readFolk_148 rfl
def dX12_readFolk_155 := dk18 (k := 7) (x := 179) bX12_readFolk_148 rfl rfl
def dX12_readFolk_157 := dk182 (k := 9) (x := 147) bX12_readFolk_148 rfl rfl
def dX12_readFolk_160 := dk42 (k := 12) bX12_readFolk_148 rfl
def dX12_readFolk_161 := dk3 (k := 13) bX12_readFolk_148 rfl
def dX12_readFolk_162 := dk27 (k := 14) bX12_readFolk_148 rfl
def dX12_readFolk_163 := dk4 (k := 15) bX12_readFolk_148 rfl
def dX12_readFolk_164 := dk100 (k := 16) bX12_readFolk_148 rfl
def dX12_readFolk_165 := dk182 (k := 17) (x := 151) bX12_readFolk_148 rfl rfl
def dX12_readFolk_168 := dk62 (k := 20) bX12_readFolk_148 rfl
def dX12_readFolk_169 := dk42 (k := 21) bX12_readFolk_148 rfl
def dX12_readFolk_170 := dk182 (k := 22) (x := 121) bX12_readFolk_148 rfl rfl
theorem bX12_readFolk_173 : bL cX12_readFolk 173 [154, 0, 4, 177, 42, 180, 0, 31, 28, 16, 6, 96, 92, 46, 4, 29, 120, 128, 79, 42, 180, 0, 31, 16, 19] := bL_of (by decide +kernel)
def dX12_readFolk_173 := dk154 (k := 0) (x := 4) bX12_readFolk_173 rfl (by decide)
def dX12_readFolk_176 := dk177 (k := 3) bX12_readFolk_173 rfl
def dX12_readFolk_177 := dk42 (k := 4) bX12_readFolk_173 rfl
def dX12_readFolk_178 := dk180 (k := 5) (x := 31) bX12_readFolk_173 rfl rfl
def dX12_readFolk_181 := dk28 (k := 8) bX12_readFolk_173 rfl
def dX12_readFolk_182 := dk16 (k := 9) (x := 6) bX12_readFolk_173 rfl (by decide)
def dX12_readFolk_184 := dk96 (k := 11) bX12_readFolk_173 rfl
def dX12_readFolk_185 := dk92 (k := 12) bX12_readFolk_173 rfl
def dX12_readFolk_186 := dk46 (k := 13) bX12_readFolk_173 rfl
def dX12_readFolk_187 := dk4 (k := 14) bX12_readFolk_173 rfl
def dX12_readFolk_188 := dk29 (k := 15) bX12_readFolk_173 rfl
def dX12_readFolk_189 := dk120 (k := 16) bX12_readFolk_173 rfl
def dX12_readFolk_190 := dk128 (k := 17) bX12_readFolk_173 rfl
def dX12_readFolk_191 := dk79 (k := 18) bX12_readFolk_173 rfl
def dX12_readFolk_192 := dk42 (k := 19) bX12_readFolk_173 rfl
def dX12_readFolk_193 := dk180 (k := 20) (x := 31) bX12_readFolk_173 rfl rfl
def dX12_readFolk_196 := dk16 (k := 23) (x := 19) bX12_readFolk_173 rfl (by decide)
theorem bX12_readFolk_198 : bL cX12_readFolk 198 [16, 7, 29, 104, 96, 16, 6, 96, 92, 46, 4, 27, 120, 128, 79, 42, 180, 0, 97, 6, 160, 255, 198, 42] := bL_of (by decide +kernel)
def dX12_readFolk_198 := dk16 (k := 0) (x := 7) bX12_readFolk_198 rfl (by decide)
def dX12_readFolk_200 := dk29 (k := 2) bX12_readFolk_198 rfl
def dX12_readFolk_201 := dk104 (k := 3) bX12_readFolk_198 rfl
def dX12_readFolk_202 := dk96 (k := 4) bX12_readFolk_198 rfl
def dX12_readFolk_203 := dk16 (k := 5) (x := 6) bX12_readFolk_198 rfl (by decide)
def dX12_readFolk_205 := dk96 (k := 7) bX12_readFolk_198 rfl
def dX12_readFolk_206 := dk92 (k := 8) bX12_readFolk_198 rfl
def dX12_readFolk_207 := dk46 (k := 9) bX12_readFolk_198 rfl
def dX12_readFolk_208 := dk4 (k := 10) bX12_readFolk_198 rfl
def dX12_readFolk_209 := dk27 (k := 11) bX12_readFolk_198 rfl
def dX12_readFolk_210 := dk120 (k := 12) bX12_readFolk_198 rfl
def dX12_readFolk_211 := dk128 (k := 13) bX12_readFolk_198 rfl
def dX12_readFolk_212 := dk79 (k := 14) bX12_readFolk_198 rfl
def dX12_readFolk_213 := dk42 (k := 15) bX12_readFolk_198 rfl
def dX12_readFolk_214 := dk180 (k := 16) (x := 97) bX12_readFolk_198 rfl rfl
def dX12_readFolk_217 := dk6 (k := 19) bX12_readFolk_198 rfl
def dX12_readFolk_218 := dk160 (k := 20) (x := (-58)) bX12_readFolk_198 rfl (by decide)
def dX12_readFolk_221 := dk42 (k := 23) bX12_readFolk_198 rfl
theorem bX12_readFolk_222 : bL cX12_readFolk 222 [180, 0, 31, 16, 6, 92, 46, 4, 96, 79, 177] := bL_of (by decide +kernel)
def dX12_readFolk_222 := dk180 (k := 0) (x := 31) bX12_readFolk_222 rfl rfl
def dX12_readFolk_225 := dk16 (k := 3) (x := 6) bX12_readFolk_222 rfl (by decide)
def dX12_readFolk_227 := dk92 (k := 5) bX12_readFolk_222 rfl
def dX12_readFolk_228 := dk46 (k := 6) bX12_readFolk_222 rfl
def dX12_readFolk_229 := dk4 (k := 7) bX12_readFolk_222 rfl
def dX12_readFolk_230 := dk96 (k := 8) bX12_readFolk_222 rfl
def dX12_readFolk_231 := dk79 (k := 9) bX12_readFolk_222 rfl
def dX12_readFolk_232 := dk177 (k := 10) bX12_readFolk_222 rfl
theorem bX12_readNext_0 : bL cX12_readNext 0 [42, 18, 181, 182, 0, 133, 154, 0, 17, 42, 18, 183, 182, 0, 133, 154, 0, 8, 42, 4, 182, 0, 143, 42] := bL_of (by decide +kernel)
def dX12_readNext_0 := dk42 (k := 0) bX12_readNext_0 rfl
def dX12_readNext_1 := dk18 (k := 1) (x := 181) bX12_readNext_0 rfl rfl
def dX12_readNext_3 := dk182 (k := 3) (x := 133) bX12_readNext_0 rfl rfl
def dX12_readNext_6 := dk154 (k := 6) (x := 17) bX12_readNext_0 rfl (by decide)
def dX12_readNext_9 := dk42 (k := 9) bX12_readNext_0 rfl
def dX12_readNext_10 := dk18 (k := 10) (x := 183) bX12_readNext_0 rfl rfl
def dX12_readNext_12 := dk182 (k := 12) (x := 133) bX12_readNext_0 rfl rfl
def dX12_readNext_15 := dk154 (k := 15) (x := 8) bX12_readNext_0 rfl (by decide)
def dX12_readNext_18 := dk42 (k := 18) bX12_readNext_0 rfl
def dX12_readNext_19 := dk4 (k := 19) bX12_readNext_0 rfl
def dX12_readNext_20 := dk182 (k := 20) (x := 143) bX12_readNext_0 rfl rfl
def dX12_readNext_23 := dk42 (k := 23) bX12_readNext_0 rfl
theorem bX12_readNext_24 : bL cX12_readNext 24 [18, 181, 182, 0, 133, 153, 0, 20, 42, 180, 0, 31, 16, 6, 46, 16, 8, 160, 0, 8, 42, 6, 182, 0, 143] := bL_of (by decide +kernel)
def dX12_readNext_24 := dk18 (k := 0) (x := 181) bX12_readNext_24 rfl rfl
def dX12_readNext_26 := dk182 (k := 2) (x := 133) bX12_readNext_24 rfl rfl
def dX12_readNext_29 := dk153 (k := 5) (x := 20) bX12_readNext_24 rfl (by decide)
def dX12_readNext_32 := dk42 (k := 8) bX12_readNext_24 rfl
def dX12_readNext_33 := dk180 (k := 9) (x := 31) bX12_readNext_24 rfl rfl
def dX12_readNext_36 := dk16 (k := 12) (x := 6) bX12_readNext_24 rfl (by decide)
def dX12_readNext_38 := dk46 (k := 14) bX12_readNext_24 rfl
def dX12_readNext_39 := dk16 (k := 15) (x := 8) bX12_readNext_24 rfl (by decide)
def dX12_readNext_41 := dk160 (k := 17) (x := 8) bX12_readNext_24 rfl (by decide)
def dX12_readNext_44 := dk42 (k := 20) bX12_readNext_24 rfl
def dX12_readNext_45 := dk6 (k := 21) bX12_readNext_24 rfl
def dX12_readNext_46 := dk182 (k := 22) (x := 143) bX12_readNext_24 rfl rfl
theorem bX12_readNext_49 : bL cX12_readNext 49 [42, 182, 0, 121, 154, 0, 4, 177, 42, 18, 181, 182, 0, 140, 153, 0, 10, 42, 182, 0, 185, 167, 0, 35] := bL_of (by decide +kernel)
def dX12_readNext_49 := dk42 (k := 0) bX12_readNext_49 rfl
def dX12_readNext_50 := dk182 (k := 1) (x := 121) bX12_readNext_49 rfl rfl
def dX12_readNext_53 := dk154 (k := 4) (x := 4) bX12_readNext_49 rfl (by decide)
def dX12_readNext_56 := dk177 (k := 7) bX12_readNext_49 rfl
def dX12_readNext_57 := dk42 (k := 8) bX12_readNext_49 rfl
def dX12_readNext_58 := dk18 (k := 9) (x := 181) bX12_readNext_49 rfl rfl
def dX12_readNext_60 := dk182 (k := 11) (x := 140) bX12_readNext_49 rfl rfl
def dX12_readNext_63 := dk153 (k := 14) (x := 10) bX12_readNext_49 rfl (by decide)
def dX12_readNext_66 := dk42 (k := 17) bX12_readNext_49 rfl
def dX12_readNext_67 := dk182 (k := 18) (x := 185) bX12_readNext_49 rfl rfl
def dX12_readNext_70 := dk167 (k := 21) (x := 35) bX12_readNext_49 rfl (by decide)
theorem bX12_readNext_73 : bL cX12_readNext 73 [42, 182, 0, 137, 42, 3, 42, 180, 0, 31, 3, 46, 4, 100, 182, 0, 151, 60, 42, 182, 0, 121, 153, 0, 10] := bL_of (by decide +kernel)
def dX12_readNext_73 := dk42 (k := 0) bX12_readNext_73 rfl
def dX12_readNext_74 := dk182 (k := 1) (x := 137) bX12_readNext_73 rfl rfl
def dX12_readNext_77 := dk42 (k := 4) bX12_readNext_73 rfl
def dX12_readNext_78 := dk3 (k := 5) bX12_readNext_73 rfl
def dX12_readNext_79 := dk42 (k := 6) bX12_readNext_73 rfl
def dX12_readNext_80 := dk180 (k := 7) (x := 31) bX12_readNext_73 rfl rfl
def dX12_readNext_83 := dk3 (k := 10) bX12_readNext_73 rfl
def dX12_readNext_84 := dk46 (k := 11) bX12_readNext_73 rfl
def dX12_readNext_85 := dk4 (k := 12) bX12_readNext_73 rfl
def dX12_readNext_86 := dk100 (k := 13) bX12_readNext_73 rfl
def dX12_readNext_87 := dk182 (k := 14) (x := 151) bX12_readNext_73 rfl rfl
def dX12_readNext_90 := dk60 (k := 17) bX12_readNext_73 rfl
def dX12_readNext_91 := dk42 (k := 18) bX12_readNext_73 rfl
def dX12_readNext_92 := dk182 (k := 19) (x := 121) bX12_readNext_73 rfl rfl
def dX12_readNext_95 := dk153 (k := 22) (x := 10) bX12_readNext_73 rfl (by decide)
theorem bX12_readNext_98 : bL cX12_readNext 98 [42, 180, 0, 31, 8, 27, 79, 177] := bL_of (by decide +kernel)
def dX12_readNext_98 := dk42 (k := 0) bX12_readNext_98 rfl
def dX12_readNext_99 := dk180 (k := 1) (x := 31) bX12_readNext_98 rfl rfl
def dX12_readNext_102 := dk8 (k := 4) bX12_readNext_98 rfl
def dX12_readNext_103 := dk27 (k := 5) bX12_readNext_98 rfl
def dX12_readNext_104 := dk79 (k := 6) bX12_readNext_98 rfl
def dX12_readNext_105 := dk177 (k := 7) bX12_readNext_98 rfl
theorem bX12_mount_0 : bL cX12_mount 0 [42, 42, 180, 0, 81, 181, 0, 84, 42, 3, 181, 0, 81, 42, 3, 181, 0, 87, 42, 3, 181, 0, 118, 42] := bL_of (by decide +kernel)
def dX12_mount_0 := dk42 (k := 0) bX12_mount_0 rfl
def dX12_mount_1 := dk42 (k := 1) bX12_mount_0 rfl
def dX12_mount_2 := dk180 (k := 2) (x := 81) bX12_mount_0 rfl rfl
def dX12_mount_5 := dk181 (k := 5) (x := 84) bX12_mount_0 rfl rfl
def dX12_mount_8 := dk42 (k := 8) bX12_mount_0 rfl
def dX12_mount_9 := dk3 (k := 9) bX12_mount_0 rfl
def dX12_mount_10 := dk181 (k := 10) (x := 81) bX12_mount_0 rfl rfl
def dX12_mount_13 := dk42 (k := 13) bX12_mount_0 rfl
def dX12_mount_14 := dk3 (k := 14) bX12_mount_0 rfl
def dX12_mount_15 := dk181 (k := 15) (x := 87) bX12_mount_0 rfl rfl
def dX12_mount_18 := dk42 (k := 18) bX12_mount_0 rfl
def dX12_mount_19 := dk3 (k := 19) bX12_mount_0 rfl
def dX12_mount_20 := dk181 (k := 20) (x := 118) bX12_mount_0 rfl rfl
def dX12_mount_23 := dk42 (k := 23) bX12_mount_0 rfl
theorem bX12_mount_24 : bL cX12_mount 24 [2, 181, 0, 27, 3, 60, 27, 17, 0, 135, 162, 0, 16, 42, 180, 0, 31, 27, 3, 79, 132, 1, 1, 167, 255, 239] := bL_of (by decide +kernel)
def dX12_mount_24 := dk2 (k := 0) bX12_mount_24 rfl
def dX12_mount_25 := dk181 (k := 1) (x := 27) bX12_mount_24 rfl rfl
def dX12_mount_28 := dk3 (k := 4) bX12_mount_24 rfl
def dX12_mount_29 := dk60 (k := 5) bX12_mount_24 rfl
def dX12_mount_30 := dk27 (k := 6) bX12_mount_24 rfl
def dX12_mount_31 := dk17 (k := 7) (x := 135) bX12_mount_24 rfl (by decide)
def dX12_mount_34 := dk162 (k := 10) (x := 16) bX12_mount_24 rfl (by decide)
def dX12_mount_37 := dk42 (k := 13) bX12_mount_24 rfl
def dX12_mount_38 := dk180 (k := 14) (x := 31) bX12_mount_24 rfl rfl
def dX12_mount_41 := dk27 (k := 17) bX12_mount_24 rfl
def dX12_mount_42 := dk3 (k := 18) bX12_mount_24 rfl
def dX12_mount_43 := dk79 (k := 19) bX12_mount_24 rfl
theorem dX12_mount_44 : decode cX12_mount 44 = .ok (.iinc 1 1, 3) := dk132 (k := 20) bX12_mount_24 rfl rfl (by decide)
def dX12_mount_47 := dk167 (k := 23) (x := (-17)) bX12_mount_24 rfl (by decide)
theorem bX12_mount_50 : bL cX12_mount 50 [42, 182, 0, 137, 42, 182, 0, 121, 153, 0, 76, 42, 180, 0, 97, 153, 0, 69, 42, 180, 0, 31, 16, 7] := bL_of (by decide +kernel)
def dX12_mount_50 := dk42 (k := 0) bX12_mount_50 rfl
def dX12_mount_51 := dk182 (k := 1) (x := 137) bX12_mount_50 rfl rfl
def dX12_mount_54 := dk42 (k := 4) bX12_mount_50 rfl
def dX12_mount_55 := dk182 (k := 5) (x := 121) bX12_mount_50 rfl rfl
def dX12_mount_58 := dk153 (k := 8) (x := 76) bX12_mount_50 rfl (by decide)
def dX12_mount_61 := dk42 (k := 11) bX12_mount_50 rfl
def dX12_mount_62 := dk180 (k := 12) (x := 97) bX12_mount_50 rfl rfl
def dX12_mount_65 := dk153 (k := 15) (x := 69) bX12_mount_50 rfl (by decide)
def dX12_mount_68 := dk42 (k := 18) bX12_mount_50 rfl
def dX12_mount_69 := dk180 (k := 19) (x := 31) bX12_mount_50 rfl rfl
def dX12_mount_72 := dk16 (k := 22) (x := 7) bX12_mount_50 rfl (by decide)
theorem bX12_mount_74 : bL cX12_mount 74 [46, 154, 0, 10, 42, 182, 0, 188, 167, 0, 7, 42, 182, 0, 191, 42, 182, 0, 121, 153, 0, 16, 42, 180, 0, 97] := bL_of (by decide +kernel)
def dX12_mount_74 := dk46 (k := 0) bX12_mount_74 rfl
def dX12_mount_75 := dk154 (k := 1) (x := 10) bX12_mount_74 rfl (by decide)
def dX12_mount_78 := dk42 (k := 4) bX12_mount_74 rfl
def dX12_mount_79 := dk182 (k := 5) (x := 188) bX12_mount_74 rfl rfl
def dX12_mount_82 := dk167 (k := 8) (x := 7) bX12_mount_74 rfl (by decide)
def dX12_mount_85 := dk42 (k := 11) bX12_mount_74 rfl
def dX12_mount_86 := dk182 (k := 12) (x := 191) bX12_mount_74 rfl rfl
def dX12_mount_89 := dk42 (k := 15) bX12_mount_74 rfl
def dX12_mount_90 := dk182 (k := 16) (x := 121) bX12_mount_74 rfl rfl
def dX12_mount_93 := dk153 (k := 19) (x := 16) bX12_mount_74 rfl (by decide)
def dX12_mount_96 := dk42 (k := 22) bX12_mount_74 rfl
def dX12_mount_97 := dk180 (k := 23) (x := 97) bX12_mount_74 rfl rfl
theorem bX12_mount_100 : bL cX12_mount 100 [6, 159, 0, 8, 42, 4, 182, 0, 143, 42, 182, 0, 121, 153, 0, 7, 42, 182, 0, 137, 42, 180, 0, 31] := bL_of (by decide +kernel)
def dX12_mount_100 := dk6 (k := 0) bX12_mount_100 rfl
def dX12_mount_101 := dk159 (k := 1) (x := 8) bX12_mount_100 rfl (by decide)
def dX12_mount_104 := dk42 (k := 4) bX12_mount_100 rfl
def dX12_mount_105 := dk4 (k := 5) bX12_mount_100 rfl
def dX12_mount_106 := dk182 (k := 6) (x := 143) bX12_mount_100 rfl rfl
def dX12_mount_109 := dk42 (k := 9) bX12_mount_100 rfl
def dX12_mount_110 := dk182 (k := 10) (x := 121) bX12_mount_100 rfl rfl
def dX12_mount_113 := dk153 (k := 13) (x := 7) bX12_mount_100 rfl (by decide)
def dX12_mount_116 := dk42 (k := 16) bX12_mount_100 rfl
def dX12_mount_117 := dk182 (k := 17) (x := 137) bX12_mount_100 rfl rfl
def dX12_mount_120 := dk42 (k := 20) bX12_mount_100 rfl
def dX12_mount_121 := dk180 (k := 21) (x := 31) bX12_mount_100 rfl rfl
theorem bX12_mount_124 : bL cX12_mount 124 [16, 7, 92, 46, 4, 96, 79, 167, 255, 179, 42, 182, 0, 121, 154, 0, 6, 16, 252, 172, 3, 60, 27, 17, 0, 135] := bL_of (by decide +kernel)
def dX12_mount_124 := dk16 (k := 0) (x := 7) bX12_mount_124 rfl (by decide)
def dX12_mount_126 := dk92 (k := 2) bX12_mount_124 rfl
def dX12_mount_127 := dk46 (k := 3) bX12_mount_124 rfl
def dX12_mount_128 := dk4 (k := 4) bX12_mount_124 rfl
def dX12_mount_129 := dk96 (k := 5) bX12_mount_124 rfl
def dX12_mount_130 := dk79 (k := 6) bX12_mount_124 rfl
def dX12_mount_131 := dk167 (k := 7) (x := (-77)) bX12_mount_124 rfl (by decide)
def dX12_mount_134 := dk42 (k := 10) bX12_mount_124 rfl
def dX12_mount_135 := dk182 (k := 11) (x := 121) bX12_mount_124 rfl rfl
def dX12_mount_138 := dk154 (k := 14) (x := 6) bX12_mount_124 rfl (by decide)
def dX12_mount_141 := dk16 (k := 17) (x := (-4)) bX12_mount_124 rfl (by decide)
def dX12_mount_143 := dk172 (k := 19) bX12_mount_124 rfl
def dX12_mount_144 := dk3 (k := 20) bX12_mount_124 rfl
def dX12_mount_145 := dk60 (k := 21) bX12_mount_124 rfl
def dX12_mount_146 := dk27 (k := 22) bX12_mount_124 rfl
def dX12_mount_147 := dk17 (k := 23) (x := 135) bX12_mount_124 rfl (by decide)
theorem bX12_mount_150 : bL cX12_mount 150 [162, 0, 21, 42, 180, 0, 9, 27, 42, 180, 0, 31, 27, 46, 79, 132, 1, 1, 167, 255, 234, 42, 180, 0, 9] := bL_of (by decide +kernel)
def dX12_mount_150 := dk162 (k := 0) (x := 21) bX12_mount_150 rfl (by decide)
def dX12_mount_153 := dk42 (k := 3) bX12_mount_150 rfl
def dX12_mount_154 := dk180 (k := 4) (x := 9) bX12_mount_150 rfl rfl
def dX12_mount_157 := dk27 (k := 7) bX12_mount_150 rfl
def dX12_mount_158 := dk42 (k := 8) bX12_mount_150 rfl
def dX12_mount_159 := dk180 (k := 9) (x := 31) bX12_mount_150 rfl rfl
def dX12_mount_162 := dk27 (k := 12) bX12_mount_150 rfl
def dX12_mount_163 := dk46 (k := 13) bX12_mount_150 rfl
def dX12_mount_164 := dk79 (k := 14) bX12_mount_150 rfl
theorem dX12_mount_165 : decode cX12_mount 165 = .ok (.iinc 1 1, 3) := dk132 (k := 15) bX12_mount_150 rfl rfl (by decide)
def dX12_mount_168 := dk167 (k := 18) (x := (-22)) bX12_mount_150 rfl (by decide)
def dX12_mount_171 := dk42 (k := 21) bX12_mount_150 rfl
def dX12_mount_172 := dk180 (k := 22) (x := 9) bX12_mount_150 rfl rfl
theorem bX12_mount_175 : bL cX12_mount 175 [16, 7, 46, 172] := bL_of (by decide +kernel)
def dX12_mount_175 := dk16 (k := 0) (x := 7) bX12_mount_175 rfl (by decide)
def dX12_mount_177 := dk46 (k := 2) bX12_mount_175 rfl
def dX12_mount_178 := dk172 (k := 3) bX12_mount_175 rfl
theorem bX12_asItIs_0 : bL cX12_asItIs 0 [3, 60, 27, 16, 10, 162, 0, 38, 42, 180, 0, 34, 27, 27, 42, 180, 0, 9, 3, 46, 162, 0, 15, 42] := bL_of (by decide +kernel)
def dX12_asItIs_0 := dk3 (k := 0) bX12_asItIs_0 rfl
def dX12_asItIs_1 := dk60 (k := 1) bX12_asItIs_0 rfl
def dX12_asItIs_2 := dk27 (k := 2) bX12_asItIs_0 rfl
def dX12_asItIs_3 := dk16 (k := 3) (x := 10) bX12_asItIs_0 rfl (by decide)
def dX12_asItIs_5 := dk162 (k := 5) (x := 38) bX12_asItIs_0 rfl (by decide)
def dX12_asItIs_8 := dk42 (k := 8) bX12_asItIs_0 rfl
def dX12_asItIs_9 := dk180 (k := 9) (x := 34) bX12_asItIs_0 rfl rfl
def dX12_asItIs_12 := dk27 (k := 12) bX12_asItIs_0 rfl
def dX12_asItIs_13 := dk27 (k := 13) bX12_asItIs_0 rfl
def dX12_asItIs_14 := dk42 (k := 14) bX12_asItIs_0 rfl
def dX12_asItIs_15 := dk180 (k := 15) (x := 9) bX12_asItIs_0 rfl rfl
def dX12_asItIs_18 := dk3 (k := 18) bX12_asItIs_0 rfl
def dX12_asItIs_19 := dk46 (k := 19) bX12_asItIs_0 rfl
def dX12_asItIs_20 := dk162 (k := 20) (x := 15) bX12_asItIs_0 rfl (by decide)
def dX12_asItIs_23 := dk42 (k := 23) bX12_asItIs_0 rfl
theorem bX12_asItIs_24 : bL cX12_asItIs 24 [180, 0, 9, 16, 9, 27, 96, 46, 167, 0, 4, 3, 79, 132, 1, 1, 167, 255, 218, 3, 60, 27, 42, 180, 0, 9] := bL_of (by decide +kernel)
def dX12_asItIs_24 := dk180 (k := 0) (x := 9) bX12_asItIs_24 rfl rfl
def dX12_asItIs_27 := dk16 (k := 3) (x := 9) bX12_asItIs_24 rfl (by decide)
def dX12_asItIs_29 := dk27 (k := 5) bX12_asItIs_24 rfl
def dX12_asItIs_30 := dk96 (k := 6) bX12_asItIs_24 rfl
def dX12_asItIs_31 := dk46 (k := 7) bX12_asItIs_24 rfl
def dX12_asItIs_32 := dk167 (k := 8) (x := 4) bX12_asItIs_24 rfl (by decide)
def dX12_asItIs_35 := dk3 (k := 11) bX12_asItIs_24 rfl
def dX12_asItIs_36 := dk79 (k := 12) bX12_asItIs_24 rfl
theorem dX12_asItIs_37 : decode cX12_asItIs 37 = .ok (.iinc 1 1, 3) := dk132 (k := 13) bX12_asItIs_24 rfl rfl (by decide)
def dX12_asItIs_40 := dk167 (k := 16) (x := (-38)) bX12_asItIs_24 rfl (by decide)
def dX12_asItIs_43 := dk3 (k := 19) bX12_asItIs_24 rfl
def dX12_asItIs_44 := dk60 (k := 20) bX12_asItIs_24 rfl
def dX12_asItIs_45 := dk27 (k := 21) bX12_asItIs_24 rfl
def dX12_asItIs_46 := dk42 (k := 22) bX12_asItIs_24 rfl
def dX12_asItIs_47 := dk180 (k := 23) (x := 9) bX12_asItIs_24 rfl rfl
theorem bX12_asItIs_50 : bL cX12_asItIs 50 [16, 8, 46, 162, 0, 45, 42, 180, 0, 9, 16, 75, 27, 96, 46, 154, 0, 11, 42, 182, 0, 194, 87, 167, 0, 19] := bL_of (by decide +kernel)
def dX12_asItIs_50 := dk16 (k := 0) (x := 8) bX12_asItIs_50 rfl (by decide)
def dX12_asItIs_52 := dk46 (k := 2) bX12_asItIs_50 rfl
def dX12_asItIs_53 := dk162 (k := 3) (x := 45) bX12_asItIs_50 rfl (by decide)
def dX12_asItIs_56 := dk42 (k := 6) bX12_asItIs_50 rfl
def dX12_asItIs_57 := dk180 (k := 7) (x := 9) bX12_asItIs_50 rfl rfl
def dX12_asItIs_60 := dk16 (k := 10) (x := 75) bX12_asItIs_50 rfl (by decide)
def dX12_asItIs_62 := dk27 (k := 12) bX12_asItIs_50 rfl
def dX12_asItIs_63 := dk96 (k := 13) bX12_asItIs_50 rfl
def dX12_asItIs_64 := dk46 (k := 14) bX12_asItIs_50 rfl
def dX12_asItIs_65 := dk154 (k := 15) (x := 11) bX12_asItIs_50 rfl (by decide)
def dX12_asItIs_68 := dk42 (k := 18) bX12_asItIs_50 rfl
def dX12_asItIs_69 := dk182 (k := 19) (x := 194) bX12_asItIs_50 rfl rfl
def dX12_asItIs_72 := dk87 (k := 22) bX12_asItIs_50 rfl
def dX12_asItIs_73 := dk167 (k := 23) (x := 19) bX12_asItIs_50 rfl (by decide)
theorem bX12_asItIs_76 : bL cX12_asItIs 76 [42, 42, 180, 0, 9, 16, 75, 27, 96, 46, 4, 100, 182, 0, 197, 87, 132, 1, 1, 167, 255, 206, 177] := bL_of (by decide +kernel)
def dX12_asItIs_76 := dk42 (k := 0) bX12_asItIs_76 rfl
def dX12_asItIs_77 := dk42 (k := 1) bX12_asItIs_76 rfl
def dX12_asItIs_78 := dk180 (k := 2) (x := 9) bX12_asItIs_76 rfl rfl
def dX12_asItIs_81 := dk16 (k := 5) (x := 75) bX12_asItIs_76 rfl (by decide)
def dX12_asItIs_83 := dk27 (k := 7) bX12_asItIs_76 rfl
def dX12_asItIs_84 := dk96 (k := 8) bX12_asItIs_76 rfl
def dX12_asItIs_85 := dk46 (k := 9) bX12_asItIs_76 rfl
def dX12_asItIs_86 := dk4 (k := 10) bX12_asItIs_76 rfl
def dX12_asItIs_87 := dk100 (k := 11) bX12_asItIs_76 rfl
def dX12_asItIs_88 := dk182 (k := 12) (x := 197) bX12_asItIs_76 rfl rfl
def dX12_asItIs_91 := dk87 (k := 15) bX12_asItIs_76 rfl
theorem dX12_asItIs_92 : decode cX12_asItIs 92 = .ok (.iinc 1 1, 3) := dk132 (k := 16) bX12_asItIs_76 rfl rfl (by decide)
def dX12_asItIs_95 := dk167 (k := 19) (x := (-50)) bX12_asItIs_76 rfl (by decide)
def dX12_asItIs_98 := dk177 (k := 22) bX12_asItIs_76 rfl
theorem bX12_topCell_0 : bL cX12_topCell 0 [3, 60, 4, 61, 28, 42, 180, 0, 9, 3, 46, 162, 0, 51, 42, 180, 0, 34, 28, 46, 42, 180, 0, 34] := bL_of (by decide +kernel)
def dX12_topCell_0 := dk3 (k := 0) bX12_topCell_0 rfl
def dX12_topCell_1 := dk60 (k := 1) bX12_topCell_0 rfl
def dX12_topCell_2 := dk4 (k := 2) bX12_topCell_0 rfl
def dX12_topCell_3 := dk61 (k := 3) bX12_topCell_0 rfl
def dX12_topCell_4 := dk28 (k := 4) bX12_topCell_0 rfl
def dX12_topCell_5 := dk42 (k := 5) bX12_topCell_0 rfl
def dX12_topCell_6 := dk180 (k := 6) (x := 9) bX12_topCell_0 rfl rfl
def dX12_topCell_9 := dk3 (k := 9) bX12_topCell_0 rfl
def dX12_topCell_10 := dk46 (k := 10) bX12_topCell_0 rfl
def dX12_topCell_11 := dk162 (k := 11) (x := 51) bX12_topCell_0 rfl (by decide)
def dX12_topCell_14 := dk42 (k := 14) bX12_topCell_0 rfl
def dX12_topCell_15 := dk180 (k := 15) (x := 34) bX12_topCell_0 rfl rfl
def dX12_topCell_18 := dk28 (k := 18) bX12_topCell_0 rfl
def dX12_topCell_19 := dk46 (k := 19) bX12_topCell_0 rfl
def dX12_topCell_20 := dk42 (k := 20) bX12_topCell_0 rfl
def dX12_topCell_21 := dk180 (k := 21) (x := 34) bX12_topCell_0 rfl rfl
theorem bX12_topCell_24 : bL cX12_topCell 24 [27, 46, 163, 0, 28, 42, 180, 0, 34, 28, 46, 42, 180, 0, 34, 27, 46, 160, 0, 15, 42, 180, 0, 9] := bL_of (by decide +kernel)
def dX12_topCell_24 := dk27 (k := 0) bX12_topCell_24 rfl
def dX12_topCell_25 := dk46 (k := 1) bX12_topCell_24 rfl
def dX12_topCell_26 := dk163 (k := 2) (x := 28) bX12_topCell_24 rfl (by decide)
def dX12_topCell_29 := dk42 (k := 5) bX12_topCell_24 rfl
def dX12_topCell_30 := dk180 (k := 6) (x := 34) bX12_topCell_24 rfl rfl
def dX12_topCell_33 := dk28 (k := 9) bX12_topCell_24 rfl
def dX12_topCell_34 := dk46 (k := 10) bX12_topCell_24 rfl
def dX12_topCell_35 := dk42 (k := 11) bX12_topCell_24 rfl
def dX12_topCell_36 := dk180 (k := 12) (x := 34) bX12_topCell_24 rfl rfl
def dX12_topCell_39 := dk27 (k := 15) bX12_topCell_24 rfl
def dX12_topCell_40 := dk46 (k := 16) bX12_topCell_24 rfl
def dX12_topCell_41 := dk160 (k := 17) (x := 15) bX12_topCell_24 rfl (by decide)
def dX12_topCell_44 := dk42 (k := 20) bX12_topCell_24 rfl
def dX12_topCell_45 := dk180 (k := 21) (x := 9) bX12_topCell_24 rfl rfl
theorem bX12_topCell_48 : bL cX12_topCell 48 [7, 46, 4, 160, 0, 5, 28, 60, 132, 2, 1, 167, 255, 201, 27, 172] := bL_of (by decide +kernel)
def dX12_topCell_48 := dk7 (k := 0) bX12_topCell_48 rfl
def dX12_topCell_49 := dk46 (k := 1) bX12_topCell_48 rfl
def dX12_topCell_50 := dk4 (k := 2) bX12_topCell_48 rfl
def dX12_topCell_51 := dk160 (k := 3) (x := 5) bX12_topCell_48 rfl (by decide)
def dX12_topCell_54 := dk28 (k := 6) bX12_topCell_48 rfl
def dX12_topCell_55 := dk60 (k := 7) bX12_topCell_48 rfl
theorem dX12_topCell_56 : decode cX12_topCell 56 = .ok (.iinc 2 1, 3) := dk132 (k := 8) bX12_topCell_48 rfl rfl (by decide)
def dX12_topCell_59 := dk167 (k := 11) (x := (-55)) bX12_topCell_48 rfl (by decide)
def dX12_topCell_62 := dk27 (k := 14) bX12_topCell_48 rfl
def dX12_topCell_63 := dk172 (k := 15) bX12_topCell_48 rfl
theorem bX12_take0_0 : bL cX12_take0 0 [42, 182, 0, 200, 60, 42, 180, 0, 34, 27, 46, 154, 0, 5, 3, 172, 42, 180, 0, 34, 27, 92, 46, 4] := bL_of (by decide +kernel)
def dX12_take0_0 := dk42 (k := 0) bX12_take0_0 rfl
def dX12_take0_1 := dk182 (k := 1) (x := 200) bX12_take0_0 rfl rfl
def dX12_take0_4 := dk60 (k := 4) bX12_take0_0 rfl
def dX12_take0_5 := dk42 (k := 5) bX12_take0_0 rfl
def dX12_take0_6 := dk180 (k := 6) (x := 34) bX12_take0_0 rfl rfl
def dX12_take0_9 := dk27 (k := 9) bX12_take0_0 rfl
def dX12_take0_10 := dk46 (k := 10) bX12_take0_0 rfl
def dX12_take0_11 := dk154 (k := 11) (x := 5) bX12_take0_0 rfl (by decide)
def dX12_take0_14 := dk3 (k := 14) bX12_take0_0 rfl
def dX12_take0_15 := dk172 (k := 15) bX12_take0_0 rfl
def dX12_take0_16 := dk42 (k := 16) bX12_take0_0 rfl
def dX12_take0_17 := dk180 (k := 17) (x := 34) bX12_take0_0 rfl rfl
def dX12_take0_20 := dk27 (k := 20) bX12_take0_0 rfl
def dX12_take0_21 := dk92 (k := 21) bX12_take0_0 rfl
def dX12_take0_22 := dk46 (k := 22) bX12_take0_0 rfl
def dX12_take0_23 := dk4 (k := 23) bX12_take0_0 rfl
theorem bX12_take0_24 : bL cX12_take0 24 [100, 79, 4, 172] := bL_of (by decide +kernel)
def dX12_take0_24 := dk100 (k := 0) bX12_take0_24 rfl
def dX12_take0_25 := dk79 (k := 1) bX12_take0_24 rfl
def dX12_take0_26 := dk4 (k := 2) bX12_take0_24 rfl
def dX12_take0_27 := dk172 (k := 3) bX12_take0_24 rfl
theorem bX12_falls_0 : bL cX12_falls 0 [42, 28, 133, 182, 0, 203, 153, 0, 31, 42, 180, 0, 34, 27, 46, 4, 96, 42, 180, 0, 34, 28, 46, 100] := bL_of (by decide +kernel)
def dX12_falls_0 := dk42 (k := 0) bX12_falls_0 rfl
def dX12_falls_1 := dk28 (k := 1) bX12_falls_0 rfl
def dX12_falls_2 := dk133 (k := 2) bX12_falls_0 rfl
def dX12_falls_3 := dk182 (k := 3) (x := 203) bX12_falls_0 rfl rfl
def dX12_falls_6 := dk153 (k := 6) (x := 31) bX12_falls_0 rfl (by decide)
def dX12_falls_9 := dk42 (k := 9) bX12_falls_0 rfl
def dX12_falls_10 := dk180 (k := 10) (x := 34) bX12_falls_0 rfl rfl
def dX12_falls_13 := dk27 (k := 13) bX12_falls_0 rfl
def dX12_falls_14 := dk46 (k := 14) bX12_falls_0 rfl
def dX12_falls_15 := dk4 (k := 15) bX12_falls_0 rfl
def dX12_falls_16 := dk96 (k := 16) bX12_falls_0 rfl
def dX12_falls_17 := dk42 (k := 17) bX12_falls_0 rfl
def dX12_falls_18 := dk180 (k := 18) (x := 34) bX12_falls_0 rfl rfl
def dX12_falls_21 := dk28 (k := 21) bX12_falls_0 rfl
def dX12_falls_22 := dk46 (k := 22) bX12_falls_0 rfl
def dX12_falls_23 := dk100 (k := 23) bX12_falls_0 rfl
theorem bX12_falls_24 : bL cX12_falls 24 [42, 180, 0, 9, 5, 46, 164, 0, 7, 4, 167, 0, 4, 3, 172] := bL_of (by decide +kernel)
def dX12_falls_24 := dk42 (k := 0) bX12_falls_24 rfl
def dX12_falls_25 := dk180 (k := 1) (x := 9) bX12_falls_24 rfl rfl
def dX12_falls_28 := dk5 (k := 4) bX12_falls_24 rfl
def dX12_falls_29 := dk46 (k := 5) bX12_falls_24 rfl
def dX12_falls_30 := dk164 (k := 6) (x := 7) bX12_falls_24 rfl (by decide)
def dX12_falls_33 := dk4 (k := 9) bX12_falls_24 rfl
def dX12_falls_34 := dk167 (k := 10) (x := 4) bX12_falls_24 rfl (by decide)
def dX12_falls_37 := dk3 (k := 13) bX12_falls_24 rfl
def dX12_falls_38 := dk172 (k := 14) bX12_falls_24 rfl
theorem bX12_slideOf_0 : bL cX12_slideOf 0 [27, 61, 42, 28, 28, 4, 100, 182, 0, 207, 154, 0, 14, 42, 28, 28, 4, 96, 182, 0, 207, 153, 0, 67] := bL_of (by decide +kernel)
def dX12_slideOf_0 := dk27 (k := 0) bX12_slideOf_0 rfl
def dX12_slideOf_1 := dk61 (k := 1) bX12_slideOf_0 rfl
def dX12_slideOf_2 := dk42 (k := 2) bX12_slideOf_0 rfl
def dX12_slideOf_3 := dk28 (k := 3) bX12_slideOf_0 rfl
def dX12_slideOf_4 := dk28 (k := 4) bX12_slideOf_0 rfl
def dX12_slideOf_5 := dk4 (k := 5) bX12_slideOf_0 rfl
def dX12_slideOf_6 := dk100 (k := 6) bX12_slideOf_0 rfl
def dX12_slideOf_7 := dk182 (k := 7) (x := 207) bX12_slideOf_0 rfl rfl
def dX12_slideOf_10 := dk154 (k := 10) (x := 14) bX12_slideOf_0 rfl (by decide)
def dX12_slideOf_13 := dk42 (k := 13) bX12_slideOf_0 rfl
def dX12_slideOf_14 := dk28 (k := 14) bX12_slideOf_0 rfl
def dX12_slideOf_15 := dk28 (k := 15) bX12_slideOf_0 rfl
def dX12_slideOf_16 := dk4 (k := 16) bX12_slideOf_0 rfl
def dX12_slideOf_17 := dk96 (k := 17) bX12_slideOf_0 rfl
def dX12_slideOf_18 := dk182 (k := 18) (x := 207) bX12_slideOf_0 rfl rfl
def dX12_slideOf_21 := dk153 (k := 21) (x := 67) bX12_slideOf_0 rfl (by decide)
theorem bX12_slideOf_24 : bL cX12_slideOf 24 [42, 28, 28, 4, 100, 182, 0, 207, 153, 0, 37, 42, 28, 28, 4, 96, 182, 0, 207, 153, 0, 22, 42, 180, 0, 34] := bL_of (by decide +kernel)
def dX12_slideOf_24 := dk42 (k := 0) bX12_slideOf_24 rfl
def dX12_slideOf_25 := dk28 (k := 1) bX12_slideOf_24 rfl
def dX12_slideOf_26 := dk28 (k := 2) bX12_slideOf_24 rfl
def dX12_slideOf_27 := dk4 (k := 3) bX12_slideOf_24 rfl
def dX12_slideOf_28 := dk100 (k := 4) bX12_slideOf_24 rfl
def dX12_slideOf_29 := dk182 (k := 5) (x := 207) bX12_slideOf_24 rfl rfl
def dX12_slideOf_32 := dk153 (k := 8) (x := 37) bX12_slideOf_24 rfl (by decide)
def dX12_slideOf_35 := dk42 (k := 11) bX12_slideOf_24 rfl
def dX12_slideOf_36 := dk28 (k := 12) bX12_slideOf_24 rfl
def dX12_slideOf_37 := dk28 (k := 13) bX12_slideOf_24 rfl
def dX12_slideOf_38 := dk4 (k := 14) bX12_slideOf_24 rfl
def dX12_slideOf_39 := dk96 (k := 15) bX12_slideOf_24 rfl
def dX12_slideOf_40 := dk182 (k := 16) (x := 207) bX12_slideOf_24 rfl rfl
def dX12_slideOf_43 := dk153 (k := 19) (x := 22) bX12_slideOf_24 rfl (by decide)
def dX12_slideOf_46 := dk42 (k := 22) bX12_slideOf_24 rfl
def dX12_slideOf_47 := dk180 (k := 23) (x := 34) bX12_slideOf_24 rfl rfl
theorem bX12_slideOf_50 : bL cX12_slideOf 50 [28, 4, 100, 46, 42, 180, 0, 34, 28, 4, 96, 46, 163, 0, 7, 4, 167, 0, 4, 3, 62, 29, 153, 0, 9] := bL_of (by decide +kernel)
def dX12_slideOf_50 := dk28 (k := 0) bX12_slideOf_50 rfl
def dX12_slideOf_51 := dk4 (k := 1) bX12_slideOf_50 rfl
def dX12_slideOf_52 := dk100 (k := 2) bX12_slideOf_50 rfl
def dX12_slideOf_53 := dk46 (k := 3) bX12_slideOf_50 rfl
def dX12_slideOf_54 := dk42 (k := 4) bX12_slideOf_50 rfl
def dX12_slideOf_55 := dk180 (k := 5) (x := 34) bX12_slideOf_50 rfl rfl
def dX12_slideOf_58 := dk28 (k := 8) bX12_slideOf_50 rfl
def dX12_slideOf_59 := dk4 (k := 9) bX12_slideOf_50 rfl
def dX12_slideOf_60 := dk96 (k := 10) bX12_slideOf_50 rfl
def dX12_slideOf_61 := dk46 (k := 11) bX12_slideOf_50 rfl
def dX12_slideOf_62 := dk163 (k := 12) (x := 7) bX12_slideOf_50 rfl (by decide)
def dX12_slideOf_65 := dk4 (k := 15) bX12_slideOf_50 rfl
def dX12_slideOf_66 := dk167 (k := 16) (x := 4) bX12_slideOf_50 rfl (by decide)
def dX12_slideOf_69 := dk3 (k := 19) bX12_slideOf_50 rfl
def dX12_slideOf_70 := dk62 (k := 20) bX12_slideOf_50 rfl
def dX12_slideOf_71 := dk29 (k := 21) bX12_slideOf_50 rfl
def dX12_slideOf_72 := dk153 (k := 22) (x := 9) bX12_slideOf_50 rfl (by decide)
theorem bX12_slideOf_75 : bL cX12_slideOf 75 [28, 4, 100, 167, 0, 6, 28, 4, 96, 61, 167, 255, 173, 42, 180, 0, 34, 28, 46, 16, 99, 160, 0, 7] := bL_of (by decide +kernel)
def dX12_slideOf_75 := dk28 (k := 0) bX12_slideOf_75 rfl
def dX12_slideOf_76 := dk4 (k := 1) bX12_slideOf_75 rfl
def dX12_slideOf_77 := dk100 (k := 2) bX12_slideOf_75 rfl
def dX12_slideOf_78 := dk167 (k := 3) (x := 6) bX12_slideOf_75 rfl (by decide)
def dX12_slideOf_81 := dk28 (k := 6) bX12_slideOf_75 rfl
def dX12_slideOf_82 := dk4 (k := 7) bX12_slideOf_75 rfl
def dX12_slideOf_83 := dk96 (k := 8) bX12_slideOf_75 rfl
def dX12_slideOf_84 := dk61 (k := 9) bX12_slideOf_75 rfl
def dX12_slideOf_85 := dk167 (k := 10) (x := (-83)) bX12_slideOf_75 rfl (by decide)
def dX12_slideOf_88 := dk42 (k := 13) bX12_slideOf_75 rfl
def dX12_slideOf_89 := dk180 (k := 14) (x := 34) bX12_slideOf_75 rfl rfl
def dX12_slideOf_92 := dk28 (k := 17) bX12_slideOf_75 rfl
def dX12_slideOf_93 := dk46 (k := 18) bX12_slideOf_75 rfl
def dX12_slideOf_94 := dk16 (k := 19) (x := 99) bX12_slideOf_75 rfl (by decide)
def dX12_slideOf_96 := dk160 (k := 21) (x := 7) bX12_slideOf_75 rfl (by decide)
theorem bX12_slideOf_99 : bL cX12_slideOf 99 [2, 167, 0, 4, 28, 172] := bL_of (by decide +kernel)
def dX12_slideOf_99 := dk2 (k := 0) bX12_slideOf_99 rfl
def dX12_slideOf_100 := dk167 (k := 1) (x := 4) bX12_slideOf_99 rfl (by decide)
def dX12_slideOf_103 := dk28 (k := 4) bX12_slideOf_99 rfl
def dX12_slideOf_104 := dk172 (k := 5) bX12_slideOf_99 rfl
theorem bX12_heap0_0 : bL cX12_heap0 0 [42, 27, 182, 0, 211, 61, 28, 2, 159, 0, 13, 42, 180, 0, 34, 28, 92, 46, 4, 96, 79, 28, 172] := bL_of (by decide +kernel)
def dX12_heap0_0 := dk42 (k := 0) bX12_heap0_0 rfl
def dX12_heap0_1 := dk27 (k := 1) bX12_heap0_0 rfl
def dX12_heap0_2 := dk182 (k := 2) (x := 211) bX12_heap0_0 rfl rfl
def dX12_heap0_5 := dk61 (k := 5) bX12_heap0_0 rfl
def dX12_heap0_6 := dk28 (k := 6) bX12_heap0_0 rfl
def dX12_heap0_7 := dk2 (k := 7) bX12_heap0_0 rfl
def dX12_heap0_8 := dk159 (k := 8) (x := 13) bX12_heap0_0 rfl (by decide)
def dX12_heap0_11 := dk42 (k := 11) bX12_heap0_0 rfl
def dX12_heap0_12 := dk180 (k := 12) (x := 34) bX12_heap0_0 rfl rfl
def dX12_heap0_15 := dk28 (k := 15) bX12_heap0_0 rfl
def dX12_heap0_16 := dk92 (k := 16) bX12_heap0_0 rfl
def dX12_heap0_17 := dk46 (k := 17) bX12_heap0_0 rfl
def dX12_heap0_18 := dk4 (k := 18) bX12_heap0_0 rfl
def dX12_heap0_19 := dk96 (k := 19) bX12_heap0_0 rfl
def dX12_heap0_20 := dk79 (k := 20) bX12_heap0_0 rfl
def dX12_heap0_21 := dk28 (k := 21) bX12_heap0_0 rfl
def dX12_heap0_22 := dk172 (k := 22) bX12_heap0_0 rfl
theorem bX12_isDark_0 : bL cX12_isDark 0 [28, 158, 0, 7, 2, 167, 0, 4, 4, 62, 28, 184, 0, 214, 54, 4, 27, 29, 96, 54, 5, 4, 54, 6] := bL_of (by decide +kernel)
def dX12_isDark_0 := dk28 (k := 0) bX12_isDark_0 rfl
def dX12_isDark_1 := dk158 (k := 1) (x := 7) bX12_isDark_0 rfl (by decide)
def dX12_isDark_4 := dk2 (k := 4) bX12_isDark_0 rfl
def dX12_isDark_5 := dk167 (k := 5) (x := 4) bX12_isDark_0 rfl (by decide)
def dX12_isDark_8 := dk4 (k := 8) bX12_isDark_0 rfl
def dX12_isDark_9 := dk62 (k := 9) bX12_isDark_0 rfl
def dX12_isDark_10 := dk28 (k := 10) bX12_isDark_0 rfl
def dX12_isDark_11 := dk184 (k := 11) (x := 214) bX12_isDark_0 rfl rfl
def dX12_isDark_14 := dk54 (k := 14) (x := 4) bX12_isDark_0 rfl rfl
def dX12_isDark_16 := dk27 (k := 16) bX12_isDark_0 rfl
def dX12_isDark_17 := dk29 (k := 17) bX12_isDark_0 rfl
def dX12_isDark_18 := dk96 (k := 18) bX12_isDark_0 rfl
def dX12_isDark_19 := dk54 (k := 19) (x := 5) bX12_isDark_0 rfl rfl
def dX12_isDark_21 := dk4 (k := 21) bX12_isDark_0 rfl
def dX12_isDark_22 := dk54 (k := 22) (x := 6) bX12_isDark_0 rfl rfl
theorem bX12_isDark_24 : bL cX12_isDark 24 [42, 21, 5, 133, 182, 0, 203, 153, 0, 39, 42, 180, 0, 34, 21, 5, 46, 42, 180, 0, 34, 27, 46, 100] := bL_of (by decide +kernel)
def dX12_isDark_24 := dk42 (k := 0) bX12_isDark_24 rfl
def dX12_isDark_25 := dk21 (k := 1) (x := 5) bX12_isDark_24 rfl rfl
def dX12_isDark_27 := dk133 (k := 3) bX12_isDark_24 rfl
def dX12_isDark_28 := dk182 (k := 4) (x := 203) bX12_isDark_24 rfl rfl
def dX12_isDark_31 := dk153 (k := 7) (x := 39) bX12_isDark_24 rfl (by decide)
def dX12_isDark_34 := dk42 (k := 10) bX12_isDark_24 rfl
def dX12_isDark_35 := dk180 (k := 11) (x := 34) bX12_isDark_24 rfl rfl
def dX12_isDark_38 := dk21 (k := 14) (x := 5) bX12_isDark_24 rfl rfl
def dX12_isDark_40 := dk46 (k := 16) bX12_isDark_24 rfl
def dX12_isDark_41 := dk42 (k := 17) bX12_isDark_24 rfl
def dX12_isDark_42 := dk180 (k := 18) (x := 34) bX12_isDark_24 rfl rfl
def dX12_isDark_45 := dk27 (k := 21) bX12_isDark_24 rfl
def dX12_isDark_46 := dk46 (k := 22) bX12_isDark_24 rfl
def dX12_isDark_47 := dk100 (k := 23) bX12_isDark_24 rfl
theorem bX12_isDark_48 : bL cX12_isDark 48 [21, 4, 21, 6, 104, 164, 0, 5, 4, 172, 21, 5, 29, 96, 54, 5, 132, 6, 1, 167, 255, 213, 3, 172] := bL_of (by decide +kernel)
def dX12_isDark_48 := dk21 (k := 0) (x := 4) bX12_isDark_48 rfl rfl
def dX12_isDark_50 := dk21 (k := 2) (x := 6) bX12_isDark_48 rfl rfl
def dX12_isDark_52 := dk104 (k := 4) bX12_isDark_48 rfl
def dX12_isDark_53 := dk164 (k := 5) (x := 5) bX12_isDark_48 rfl (by decide)
def dX12_isDark_56 := dk4 (k := 8) bX12_isDark_48 rfl
def dX12_isDark_57 := dk172 (k := 9) bX12_isDark_48 rfl
def dX12_isDark_58 := dk21 (k := 10) (x := 5) bX12_isDark_48 rfl rfl
def dX12_isDark_60 := dk29 (k := 12) bX12_isDark_48 rfl
def dX12_isDark_61 := dk96 (k := 13) bX12_isDark_48 rfl
def dX12_isDark_62 := dk54 (k := 14) (x := 5) bX12_isDark_48 rfl rfl
theorem dX12_isDark_64 : decode cX12_isDark 64 = .ok (.iinc 6 1, 3) := dk132 (k := 16) bX12_isDark_48 rfl rfl (by decide)
def dX12_isDark_67 := dk167 (k := 19) (x := (-43)) bX12_isDark_48 rfl (by decide)
def dX12_isDark_70 := dk3 (k := 22) bX12_isDark_48 rfl
def dX12_isDark_71 := dk172 (k := 23) bX12_isDark_48 rfl
theorem bX12_lightOf_0 : bL cX12_lightOf 0 [3, 61, 16, 247, 62, 29, 16, 9, 163, 0, 30, 28, 29, 153, 0, 16, 42, 27, 29, 182, 0, 217, 154, 0, 7] := bL_of (by decide +kernel)
def dX12_lightOf_0 := dk3 (k := 0) bX12_lightOf_0 rfl
def dX12_lightOf_1 := dk61 (k := 1) bX12_lightOf_0 rfl
def dX12_lightOf_2 := dk16 (k := 2) (x := (-9)) bX12_lightOf_0 rfl (by decide)
def dX12_lightOf_4 := dk62 (k := 4) bX12_lightOf_0 rfl
def dX12_lightOf_5 := dk29 (k := 5) bX12_lightOf_0 rfl
def dX12_lightOf_6 := dk16 (k := 6) (x := 9) bX12_lightOf_0 rfl (by decide)
def dX12_lightOf_8 := dk163 (k := 8) (x := 30) bX12_lightOf_0 rfl (by decide)
def dX12_lightOf_11 := dk28 (k := 11) bX12_lightOf_0 rfl
def dX12_lightOf_12 := dk29 (k := 12) bX12_lightOf_0 rfl
def dX12_lightOf_13 := dk153 (k := 13) (x := 16) bX12_lightOf_0 rfl (by decide)
def dX12_lightOf_16 := dk42 (k := 16) bX12_lightOf_0 rfl
def dX12_lightOf_17 := dk27 (k := 17) bX12_lightOf_0 rfl
def dX12_lightOf_18 := dk29 (k := 18) bX12_lightOf_0 rfl
def dX12_lightOf_19 := dk182 (k := 19) (x := 217) bX12_lightOf_0 rfl rfl
def dX12_lightOf_22 := dk154 (k := 22) (x := 7) bX12_lightOf_0 rfl (by decide)
theorem bX12_lightOf_25 : bL cX12_lightOf 25 [4, 167, 0, 4, 3, 96, 61, 132, 3, 1, 167, 255, 226, 28, 172] := bL_of (by decide +kernel)
def dX12_lightOf_25 := dk4 (k := 0) bX12_lightOf_25 rfl
def dX12_lightOf_26 := dk167 (k := 1) (x := 4) bX12_lightOf_25 rfl (by decide)
def dX12_lightOf_29 := dk3 (k := 4) bX12_lightOf_25 rfl
def dX12_lightOf_30 := dk96 (k := 5) bX12_lightOf_25 rfl
def dX12_lightOf_31 := dk61 (k := 6) bX12_lightOf_25 rfl
theorem dX12_lightOf_32 : decode cX12_lightOf 32 = .ok (.iinc 3 1, 3) := dk132 (k := 7) bX12_lightOf_25 rfl rfl (by decide)
def dX12_lightOf_35 := dk167 (k := 10) (x := (-30)) bX12_lightOf_25 rfl (by decide)
def dX12_lightOf_38 := dk28 (k := 13) bX12_lightOf_25 rfl
def dX12_lightOf_39 := dk172 (k := 14) bX12_lightOf_25 rfl
theorem bX12_snowSet_0 : bL cX12_snowSet 0 [3, 60, 3, 61, 28, 42, 180, 0, 9, 3, 46, 162, 0, 34, 27, 42, 180, 0, 34, 28, 46, 42, 180, 0, 9] := bL_of (by decide +kernel)
def dX12_snowSet_0 := dk3 (k := 0) bX12_snowSet_0 rfl
def dX12_snowSet_1 := dk60 (k := 1) bX12_snowSet_0 rfl
def dX12_snowSet_2 := dk3 (k := 2) bX12_snowSet_0 rfl
def dX12_snowSet_3 := dk61 (k := 3) bX12_snowSet_0 rfl
def dX12_snowSet_4 := dk28 (k := 4) bX12_snowSet_0 rfl
def dX12_snowSet_5 := dk42 (k := 5) bX12_snowSet_0 rfl
def dX12_snowSet_6 := dk180 (k := 6) (x := 9) bX12_snowSet_0 rfl rfl
def dX12_snowSet_9 := dk3 (k := 9) bX12_snowSet_0 rfl
def dX12_snowSet_10 := dk46 (k := 10) bX12_snowSet_0 rfl
def dX12_snowSet_11 := dk162 (k := 11) (x := 34) bX12_snowSet_0 rfl (by decide)
def dX12_snowSet_14 := dk27 (k := 14) bX12_snowSet_0 rfl
def dX12_snowSet_15 := dk42 (k := 15) bX12_snowSet_0 rfl
def dX12_snowSet_16 := dk180 (k := 16) (x := 34) bX12_snowSet_0 rfl rfl
def dX12_snowSet_19 := dk28 (k := 19) bX12_snowSet_0 rfl
def dX12_snowSet_20 := dk46 (k := 20) bX12_snowSet_0 rfl
def dX12_snowSet_21 := dk42 (k := 21) bX12_snowSet_0 rfl
def dX12_snowSet_22 := dk180 (k := 22) (x := 9) bX12_snowSet_0 rfl rfl
theorem bX12_snowSet_25 : bL cX12_snowSet 25 [4, 46, 161, 0, 9, 4, 28, 120, 167, 0, 4, 3, 128, 60, 132, 2, 1, 167, 255, 218, 27, 172] := bL_of (by decide +kernel)
def dX12_snowSet_25 := dk4 (k := 0) bX12_snowSet_25 rfl
def dX12_snowSet_26 := dk46 (k := 1) bX12_snowSet_25 rfl
def dX12_snowSet_27 := dk161 (k := 2) (x := 9) bX12_snowSet_25 rfl (by decide)
def dX12_snowSet_30 := dk4 (k := 5) bX12_snowSet_25 rfl
def dX12_snowSet_31 := dk28 (k := 6) bX12_snowSet_25 rfl
def dX12_snowSet_32 := dk120 (k := 7) bX12_snowSet_25 rfl
def dX12_snowSet_33 := dk167 (k := 8) (x := 4) bX12_snowSet_25 rfl (by decide)
def dX12_snowSet_36 := dk3 (k := 11) bX12_snowSet_25 rfl
def dX12_snowSet_37 := dk128 (k := 12) bX12_snowSet_25 rfl
def dX12_snowSet_38 := dk60 (k := 13) bX12_snowSet_25 rfl
theorem dX12_snowSet_39 : decode cX12_snowSet 39 = .ok (.iinc 2 1, 3) := dk132 (k := 14) bX12_snowSet_25 rfl rfl (by decide)
def dX12_snowSet_42 := dk167 (k := 17) (x := (-38)) bX12_snowSet_25 rfl (by decide)
def dX12_snowSet_45 := dk27 (k := 20) bX12_snowSet_25 rfl
def dX12_snowSet_46 := dk172 (k := 21) bX12_snowSet_25 rfl
theorem bX12_gainOf_0 : bL cX12_gainOf 0 [42, 27, 5, 182, 0, 220, 42, 42, 27, 3, 182, 0, 220, 182, 0, 223, 104, 42, 27, 6, 182, 0, 220, 42] := bL_of (by decide +kernel)
def dX12_gainOf_0 := dk42 (k := 0) bX12_gainOf_0 rfl
def dX12_gainOf_1 := dk27 (k := 1) bX12_gainOf_0 rfl
def dX12_gainOf_2 := dk5 (k := 2) bX12_gainOf_0 rfl
def dX12_gainOf_3 := dk182 (k := 3) (x := 220) bX12_gainOf_0 rfl rfl
def dX12_gainOf_6 := dk42 (k := 6) bX12_gainOf_0 rfl
def dX12_gainOf_7 := dk42 (k := 7) bX12_gainOf_0 rfl
def dX12_gainOf_8 := dk27 (k := 8) bX12_gainOf_0 rfl
def dX12_gainOf_9 := dk3 (k := 9) bX12_gainOf_0 rfl
def dX12_gainOf_10 := dk182 (k := 10) (x := 220) bX12_gainOf_0 rfl rfl
def dX12_gainOf_13 := dk182 (k := 13) (x := 223) bX12_gainOf_0 rfl rfl
def dX12_gainOf_16 := dk104 (k := 16) bX12_gainOf_0 rfl
def dX12_gainOf_17 := dk42 (k := 17) bX12_gainOf_0 rfl
def dX12_gainOf_18 := dk27 (k := 18) bX12_gainOf_0 rfl
def dX12_gainOf_19 := dk6 (k := 19) bX12_gainOf_0 rfl
def dX12_gainOf_20 := dk182 (k := 20) (x := 220) bX12_gainOf_0 rfl rfl
def dX12_gainOf_23 := dk42 (k := 23) bX12_gainOf_0 rfl
theorem bX12_gainOf_24 : bL cX12_gainOf 24 [182, 0, 226, 184, 0, 229, 104, 96, 42, 27, 7, 182, 0, 220, 42, 180, 0, 34, 42, 182, 0, 200, 46, 104] := bL_of (by decide +kernel)
def dX12_gainOf_24 := dk182 (k := 0) (x := 226) bX12_gainOf_24 rfl rfl
def dX12_gainOf_27 := dk184 (k := 3) (x := 229) bX12_gainOf_24 rfl rfl
def dX12_gainOf_30 := dk104 (k := 6) bX12_gainOf_24 rfl
def dX12_gainOf_31 := dk96 (k := 7) bX12_gainOf_24 rfl
def dX12_gainOf_32 := dk42 (k := 8) bX12_gainOf_24 rfl
def dX12_gainOf_33 := dk27 (k := 9) bX12_gainOf_24 rfl
def dX12_gainOf_34 := dk7 (k := 10) bX12_gainOf_24 rfl
def dX12_gainOf_35 := dk182 (k := 11) (x := 220) bX12_gainOf_24 rfl rfl
def dX12_gainOf_38 := dk42 (k := 14) bX12_gainOf_24 rfl
def dX12_gainOf_39 := dk180 (k := 15) (x := 34) bX12_gainOf_24 rfl rfl
def dX12_gainOf_42 := dk42 (k := 18) bX12_gainOf_24 rfl
def dX12_gainOf_43 := dk182 (k := 19) (x := 200) bX12_gainOf_24 rfl rfl
def dX12_gainOf_46 := dk46 (k := 22) bX12_gainOf_24 rfl
def dX12_gainOf_47 := dk104 (k := 23) bX12_gainOf_24 rfl
theorem bX12_gainOf_48 : bL cX12_gainOf 48 [96, 172] := bL_of (by decide +kernel)
def dX12_gainOf_48 := dk96 (k := 0) bX12_gainOf_48 rfl
def dX12_gainOf_49 := dk172 (k := 1) bX12_gainOf_48 rfl
theorem bX12_gainOfAll_0 : bL cX12_gainOfAll 0 [3, 60, 3, 61, 28, 42, 180, 0, 9, 16, 6, 46, 162, 0, 17, 27, 42, 28, 182, 0, 232, 96, 60, 132, 2, 1] := bL_of (by decide +kernel)
def dX12_gainOfAll_0 := dk3 (k := 0) bX12_gainOfAll_0 rfl
def dX12_gainOfAll_1 := dk60 (k := 1) bX12_gainOfAll_0 rfl
def dX12_gainOfAll_2 := dk3 (k := 2) bX12_gainOfAll_0 rfl
def dX12_gainOfAll_3 := dk61 (k := 3) bX12_gainOfAll_0 rfl
def dX12_gainOfAll_4 := dk28 (k := 4) bX12_gainOfAll_0 rfl
def dX12_gainOfAll_5 := dk42 (k := 5) bX12_gainOfAll_0 rfl
def dX12_gainOfAll_6 := dk180 (k := 6) (x := 9) bX12_gainOfAll_0 rfl rfl
def dX12_gainOfAll_9 := dk16 (k := 9) (x := 6) bX12_gainOfAll_0 rfl (by decide)
def dX12_gainOfAll_11 := dk46 (k := 11) bX12_gainOfAll_0 rfl
def dX12_gainOfAll_12 := dk162 (k := 12) (x := 17) bX12_gainOfAll_0 rfl (by decide)
def dX12_gainOfAll_15 := dk27 (k := 15) bX12_gainOfAll_0 rfl
def dX12_gainOfAll_16 := dk42 (k := 16) bX12_gainOfAll_0 rfl
def dX12_gainOfAll_17 := dk28 (k := 17) bX12_gainOfAll_0 rfl
def dX12_gainOfAll_18 := dk182 (k := 18) (x := 232) bX12_gainOfAll_0 rfl rfl
def dX12_gainOfAll_21 := dk96 (k := 21) bX12_gainOfAll_0 rfl
def dX12_gainOfAll_22 := dk60 (k := 22) bX12_gainOfAll_0 rfl
theorem dX12_gainOfAll_23 : decode cX12_gainOfAll 23 = .ok (.iinc 2 1, 3) := dk132 (k := 23) bX12_gainOfAll_0 rfl rfl (by decide)
theorem bX12_gainOfAll_26 : bL cX12_gainOfAll 26 [167, 255, 234, 27, 172] := bL_of (by decide +kernel)
def dX12_gainOfAll_26 := dk167 (k := 0) (x := (-22)) bX12_gainOfAll_26 rfl (by decide)
def dX12_gainOfAll_29 := dk27 (k := 3) bX12_gainOfAll_26 rfl
def dX12_gainOfAll_30 := dk172 (k := 4) bX12_gainOfAll_26 rfl
theorem bX12_folk_0 : bL cX12_folk 0 [42, 27, 133, 182, 0, 235, 153, 0, 24, 28, 133, 9, 20, 0, 238, 184, 0, 65, 153, 0, 12, 42, 27, 28] := bL_of (by decide +kernel)
def dX12_folk_0 := dk42 (k := 0) bX12_folk_0 rfl
def dX12_folk_1 := dk27 (k := 1) bX12_folk_0 rfl
def dX12_folk_2 := dk133 (k := 2) bX12_folk_0 rfl
def dX12_folk_3 := dk182 (k := 3) (x := 235) bX12_folk_0 rfl rfl
def dX12_folk_6 := dk153 (k := 6) (x := 24) bX12_folk_0 rfl (by decide)
def dX12_folk_9 := dk28 (k := 9) bX12_folk_0 rfl
def dX12_folk_10 := dk133 (k := 10) bX12_folk_0 rfl
def dX12_folk_11 := dk9 (k := 11) bX12_folk_0 rfl
def dX12_folk_12 := dk20 (k := 12) (x := 238) bX12_folk_0 rfl rfl
def dX12_folk_15 := dk184 (k := 15) (x := 65) bX12_folk_0 rfl rfl
def dX12_folk_18 := dk153 (k := 18) (x := 12) bX12_folk_0 rfl (by decide)
def dX12_folk_21 := dk42 (k := 21) bX12_folk_0 rfl
def dX12_folk_22 := dk27 (k := 22) bX12_folk_0 rfl
def dX12_folk_23 := dk28 (k := 23) bX12_folk_0 rfl
theorem bX12_folk_24 : bL cX12_folk 24 [182, 0, 220, 167, 0, 5, 16, 254, 172] := bL_of (by decide +kernel)
def dX12_folk_24 := dk182 (k := 0) (x := 220) bX12_folk_24 rfl rfl
def dX12_folk_27 := dk167 (k := 3) (x := 5) bX12_folk_24 rfl (by decide)
def dX12_folk_30 := dk16 (k := 6) (x := (-2)) bX12_folk_24 rfl (by decide)
def dX12_folk_32 := dk172 (k := 8) bX12_folk_24 rfl
theorem bX12_height_0 : bL cX12_height 0 [42, 27, 133, 182, 0, 203, 154, 0, 6, 16, 254, 172, 42, 182, 0, 240, 42, 180, 0, 34, 27, 46, 172] := bL_of (by decide +kernel)
def dX12_height_0 := dk42 (k := 0) bX12_height_0 rfl
def dX12_height_1 := dk27 (k := 1) bX12_height_0 rfl
def dX12_height_2 := dk133 (k := 2) bX12_height_0 rfl
def dX12_height_3 := dk182 (k := 3) (x := 203) bX12_height_0 rfl rfl
def dX12_height_6 := dk154 (k := 6) (x := 6) bX12_height_0 rfl (by decide)
def dX12_height_9 := dk16 (k := 9) (x := (-2)) bX12_height_0 rfl (by decide)
def dX12_height_11 := dk172 (k := 11) bX12_height_0 rfl
def dX12_height_12 := dk42 (k := 12) bX12_height_0 rfl
def dX12_height_13 := dk182 (k := 13) (x := 240) bX12_height_0 rfl rfl
def dX12_height_16 := dk42 (k := 16) bX12_height_0 rfl
def dX12_height_17 := dk180 (k := 17) (x := 34) bX12_height_0 rfl rfl
def dX12_height_20 := dk27 (k := 20) bX12_height_0 rfl
def dX12_height_21 := dk46 (k := 21) bX12_height_0 rfl
def dX12_height_22 := dk172 (k := 22) bX12_height_0 rfl
theorem bX12_shade_0 : bL cX12_shade 0 [42, 27, 133, 182, 0, 203, 153, 0, 11, 28, 133, 184, 0, 243, 154, 0, 6, 16, 254, 172, 42, 182, 0, 240] := bL_of (by decide +kernel)
def dX12_shade_0 := dk42 (k := 0) bX12_shade_0 rfl
def dX12_shade_1 := dk27 (k := 1) bX12_shade_0 rfl
def dX12_shade_2 := dk133 (k := 2) bX12_shade_0 rfl
def dX12_shade_3 := dk182 (k := 3) (x := 203) bX12_shade_0 rfl rfl
def dX12_shade_6 := dk153 (k := 6) (x := 11) bX12_shade_0 rfl (by decide)
def dX12_shade_9 := dk28 (k := 9) bX12_shade_0 rfl
def dX12_shade_10 := dk133 (k := 10) bX12_shade_0 rfl
def dX12_shade_11 := dk184 (k := 11) (x := 243) bX12_shade_0 rfl rfl
def dX12_shade_14 := dk154 (k := 14) (x := 6) bX12_shade_0 rfl (by decide)
def dX12_shade_17 := dk16 (k := 17) (x := (-2)) bX12_shade_0 rfl (by decide)
def dX12_shade_19 := dk172 (k := 19) bX12_shade_0 rfl
def dX12_shade_20 := dk42 (k := 20) bX12_shade_0 rfl
def dX12_shade_21 := dk182 (k := 21) (x := 240) bX12_shade_0 rfl rfl
theorem bX12_shade_24 : bL cX12_shade 24 [42, 27, 28, 182, 0, 217, 153, 0, 7, 4, 167, 0, 4, 3, 172] := bL_of (by decide +kernel)
def dX12_shade_24 := dk42 (k := 0) bX12_shade_24 rfl
def dX12_shade_25 := dk27 (k := 1) bX12_shade_24 rfl
def dX12_shade_26 := dk28 (k := 2) bX12_shade_24 rfl
def dX12_shade_27 := dk182 (k := 3) (x := 217) bX12_shade_24 rfl rfl
def dX12_shade_30 := dk153 (k := 6) (x := 7) bX12_shade_24 rfl (by decide)
def dX12_shade_33 := dk4 (k := 9) bX12_shade_24 rfl
def dX12_shade_34 := dk167 (k := 10) (x := 4) bX12_shade_24 rfl (by decide)
def dX12_shade_37 := dk3 (k := 13) bX12_shade_24 rfl
def dX12_shade_38 := dk172 (k := 14) bX12_shade_24 rfl
theorem bX12_light_0 : bL cX12_light 0 [42, 27, 133, 182, 0, 203, 154, 0, 6, 16, 254, 172, 42, 182, 0, 240, 42, 27, 182, 0, 223, 172] := bL_of (by decide +kernel)
def dX12_light_0 := dk42 (k := 0) bX12_light_0 rfl
def dX12_light_1 := dk27 (k := 1) bX12_light_0 rfl
def dX12_light_2 := dk133 (k := 2) bX12_light_0 rfl
def dX12_light_3 := dk182 (k := 3) (x := 203) bX12_light_0 rfl rfl
def dX12_light_6 := dk154 (k := 6) (x := 6) bX12_light_0 rfl (by decide)
def dX12_light_9 := dk16 (k := 9) (x := (-2)) bX12_light_0 rfl (by decide)
def dX12_light_11 := dk172 (k := 11) bX12_light_0 rfl
def dX12_light_12 := dk42 (k := 12) bX12_light_0 rfl
def dX12_light_13 := dk182 (k := 13) (x := 240) bX12_light_0 rfl rfl
def dX12_light_16 := dk42 (k := 16) bX12_light_0 rfl
def dX12_light_17 := dk27 (k := 17) bX12_light_0 rfl
def dX12_light_18 := dk182 (k := 18) (x := 223) bX12_light_0 rfl rfl
def dX12_light_21 := dk172 (k := 21) bX12_light_0 rfl
theorem bX12_dark_0 : bL cX12_dark 0 [42, 182, 0, 73, 153, 0, 11, 27, 133, 184, 0, 243, 154, 0, 6, 16, 254, 172, 42, 182, 0, 240, 3, 61] := bL_of (by decide +kernel)
def dX12_dark_0 := dk42 (k := 0) bX12_dark_0 rfl
def dX12_dark_1 := dk182 (k := 1) (x := 73) bX12_dark_0 rfl rfl
def dX12_dark_4 := dk153 (k := 4) (x := 11) bX12_dark_0 rfl (by decide)
def dX12_dark_7 := dk27 (k := 7) bX12_dark_0 rfl
def dX12_dark_8 := dk133 (k := 8) bX12_dark_0 rfl
def dX12_dark_9 := dk184 (k := 9) (x := 243) bX12_dark_0 rfl rfl
def dX12_dark_12 := dk154 (k := 12) (x := 6) bX12_dark_0 rfl (by decide)
def dX12_dark_15 := dk16 (k := 15) (x := (-2)) bX12_dark_0 rfl (by decide)
def dX12_dark_17 := dk172 (k := 17) bX12_dark_0 rfl
def dX12_dark_18 := dk42 (k := 18) bX12_dark_0 rfl
def dX12_dark_19 := dk182 (k := 19) (x := 240) bX12_dark_0 rfl rfl
def dX12_dark_22 := dk3 (k := 22) bX12_dark_0 rfl
def dX12_dark_23 := dk61 (k := 23) bX12_dark_0 rfl
theorem bX12_dark_24 : bL cX12_dark 24 [3, 62, 29, 42, 180, 0, 9, 3, 46, 162, 0, 28, 28, 42, 29, 27, 182, 0, 217, 153, 0, 9, 4, 29] := bL_of (by decide +kernel)
def dX12_dark_24 := dk3 (k := 0) bX12_dark_24 rfl
def dX12_dark_25 := dk62 (k := 1) bX12_dark_24 rfl
def dX12_dark_26 := dk29 (k := 2) bX12_dark_24 rfl
def dX12_dark_27 := dk42 (k := 3) bX12_dark_24 rfl
def dX12_dark_28 := dk180 (k := 4) (x := 9) bX12_dark_24 rfl rfl
def dX12_dark_31 := dk3 (k := 7) bX12_dark_24 rfl
def dX12_dark_32 := dk46 (k := 8) bX12_dark_24 rfl
def dX12_dark_33 := dk162 (k := 9) (x := 28) bX12_dark_24 rfl (by decide)
def dX12_dark_36 := dk28 (k := 12) bX12_dark_24 rfl
def dX12_dark_37 := dk42 (k := 13) bX12_dark_24 rfl
def dX12_dark_38 := dk29 (k := 14) bX12_dark_24 rfl
def dX12_dark_39 := dk27 (k := 15) bX12_dark_24 rfl
def dX12_dark_40 := dk182 (k := 16) (x := 217) bX12_dark_24 rfl rfl
def dX12_dark_43 := dk153 (k := 19) (x := 9) bX12_dark_24 rfl (by decide)
def dX12_dark_46 := dk4 (k := 22) bX12_dark_24 rfl
def dX12_dark_47 := dk29 (k := 23) bX12_dark_24 rfl
theorem bX12_dark_48 : bL cX12_dark 48 [120, 167, 0, 4, 3, 128, 61, 132, 3, 1, 167, 255, 224, 28, 172] := bL_of (by decide +kernel)
def dX12_dark_48 := dk120 (k := 0) bX12_dark_48 rfl
def dX12_dark_49 := dk167 (k := 1) (x := 4) bX12_dark_48 rfl (by decide)
def dX12_dark_52 := dk3 (k := 4) bX12_dark_48 rfl
def dX12_dark_53 := dk128 (k := 5) bX12_dark_48 rfl
def dX12_dark_54 := dk61 (k := 6) bX12_dark_48 rfl
theorem dX12_dark_55 : decode cX12_dark 55 = .ok (.iinc 3 1, 3) := dk132 (k := 7) bX12_dark_48 rfl rfl (by decide)
def dX12_dark_58 := dk167 (k := 10) (x := (-32)) bX12_dark_48 rfl (by decide)
def dX12_dark_61 := dk28 (k := 13) bX12_dark_48 rfl
def dX12_dark_62 := dk172 (k := 14) bX12_dark_48 rfl
theorem bX12_snow_0 : bL cX12_snow 0 [42, 182, 0, 73, 154, 0, 6, 16, 254, 172, 42, 182, 0, 240, 42, 182, 0, 226, 172] := bL_of (by decide +kernel)
def dX12_snow_0 := dk42 (k := 0) bX12_snow_0 rfl
def dX12_snow_1 := dk182 (k := 1) (x := 73) bX12_snow_0 rfl rfl
def dX12_snow_4 := dk154 (k := 4) (x := 6) bX12_snow_0 rfl (by decide)
def dX12_snow_7 := dk16 (k := 7) (x := (-2)) bX12_snow_0 rfl (by decide)
def dX12_snow_9 := dk172 (k := 9) bX12_snow_0 rfl
def dX12_snow_10 := dk42 (k := 10) bX12_snow_0 rfl
def dX12_snow_11 := dk182 (k := 11) (x := 240) bX12_snow_0 rfl rfl
def dX12_snow_14 := dk42 (k := 14) bX12_snow_0 rfl
def dX12_snow_15 := dk182 (k := 15) (x := 226) bX12_snow_0 rfl rfl
def dX12_snow_18 := dk172 (k := 18) bX12_snow_0 rfl
theorem bX12_top_0 : bL cX12_top 0 [42, 182, 0, 73, 154, 0, 6, 16, 254, 172, 42, 182, 0, 240, 42, 182, 0, 200, 172] := bL_of (by decide +kernel)
def dX12_top_0 := dk42 (k := 0) bX12_top_0 rfl
def dX12_top_1 := dk182 (k := 1) (x := 73) bX12_top_0 rfl rfl
def dX12_top_4 := dk154 (k := 4) (x := 6) bX12_top_0 rfl (by decide)
def dX12_top_7 := dk16 (k := 7) (x := (-2)) bX12_top_0 rfl (by decide)
def dX12_top_9 := dk172 (k := 9) bX12_top_0 rfl
def dX12_top_10 := dk42 (k := 10) bX12_top_0 rfl
def dX12_top_11 := dk182 (k := 11) (x := 240) bX12_top_0 rfl rfl
def dX12_top_14 := dk42 (k := 14) bX12_top_0 rfl
def dX12_top_15 := dk182 (k := 15) (x := 200) bX12_top_0 rfl rfl
def dX12_top_18 := dk172 (k := 18) bX12_top_0 rfl
theorem bX12_gain_0 : bL cX12_gain 0 [42, 27, 133, 182, 0, 235, 154, 0, 7, 17, 252, 24, 172, 42, 182, 0, 240, 42, 27, 182, 0, 232, 172] := bL_of (by decide +kernel)
def dX12_gain_0 := dk42 (k := 0) bX12_gain_0 rfl
def dX12_gain_1 := dk27 (k := 1) bX12_gain_0 rfl
def dX12_gain_2 := dk133 (k := 2) bX12_gain_0 rfl
def dX12_gain_3 := dk182 (k := 3) (x := 235) bX12_gain_0 rfl rfl
def dX12_gain_6 := dk154 (k := 6) (x := 7) bX12_gain_0 rfl (by decide)
def dX12_gain_9 := dk17 (k := 9) (x := (-1000)) bX12_gain_0 rfl (by decide)
def dX12_gain_12 := dk172 (k := 12) bX12_gain_0 rfl
def dX12_gain_13 := dk42 (k := 13) bX12_gain_0 rfl
def dX12_gain_14 := dk182 (k := 14) (x := 240) bX12_gain_0 rfl rfl
def dX12_gain_17 := dk42 (k := 17) bX12_gain_0 rfl
def dX12_gain_18 := dk27 (k := 18) bX12_gain_0 rfl
def dX12_gain_19 := dk182 (k := 19) (x := 232) bX12_gain_0 rfl rfl
def dX12_gain_22 := dk172 (k := 22) bX12_gain_0 rfl
theorem bX12_hopesOf_0 : bL cX12_hopesOf 0 [42, 182, 0, 240, 42, 27, 182, 0, 232, 62, 3, 54, 4, 21, 4, 28, 162, 0, 14, 42, 182, 0, 194, 87] := bL_of (by decide +kernel)
def dX12_hopesOf_0 := dk42 (k := 0) bX12_hopesOf_0 rfl
def dX12_hopesOf_1 := dk182 (k := 1) (x := 240) bX12_hopesOf_0 rfl rfl
def dX12_hopesOf_4 := dk42 (k := 4) bX12_hopesOf_0 rfl
def dX12_hopesOf_5 := dk27 (k := 5) bX12_hopesOf_0 rfl
def dX12_hopesOf_6 := dk182 (k := 6) (x := 232) bX12_hopesOf_0 rfl rfl
def dX12_hopesOf_9 := dk62 (k := 9) bX12_hopesOf_0 rfl
def dX12_hopesOf_10 := dk3 (k := 10) bX12_hopesOf_0 rfl
def dX12_hopesOf_11 := dk54 (k := 11) (x := 4) bX12_hopesOf_0 rfl rfl
def dX12_hopesOf_13 := dk21 (k := 13) (x := 4) bX12_hopesOf_0 rfl rfl
def dX12_hopesOf_15 := dk28 (k := 15) bX12_hopesOf_0 rfl
def dX12_hopesOf_16 := dk162 (k := 16) (x := 14) bX12_hopesOf_0 rfl (by decide)
def dX12_hopesOf_19 := dk42 (k := 19) bX12_hopesOf_0 rfl
def dX12_hopesOf_20 := dk182 (k := 20) (x := 194) bX12_hopesOf_0 rfl rfl
def dX12_hopesOf_23 := dk87 (k := 23) bX12_hopesOf_0 rfl
theorem bX12_hopesOf_24 : bL cX12_hopesOf 24 [132, 4, 1, 167, 255, 242, 42, 27, 182, 0, 232, 29, 100, 172] := bL_of (by decide +kernel)
theorem dX12_hopesOf_24 : decode cX12_hopesOf 24 = .ok (.iinc 4 1, 3) := dk132 (k := 0) bX12_hopesOf_24 rfl rfl (by decide)
def dX12_hopesOf_27 := dk167 (k := 3) (x := (-14)) bX12_hopesOf_24 rfl (by decide)
def dX12_hopesOf_30 := dk42 (k := 6) bX12_hopesOf_24 rfl
def dX12_hopesOf_31 := dk27 (k := 7) bX12_hopesOf_24 rfl
def dX12_hopesOf_32 := dk182 (k := 8) (x := 232) bX12_hopesOf_24 rfl rfl
def dX12_hopesOf_35 := dk29 (k := 11) bX12_hopesOf_24 rfl
def dX12_hopesOf_36 := dk100 (k := 12) bX12_hopesOf_24 rfl
def dX12_hopesOf_37 := dk172 (k := 13) bX12_hopesOf_24 rfl
theorem bX12_hopes_0 : bL cX12_hopes 0 [42, 27, 133, 182, 0, 235, 153, 0, 24, 28, 133, 9, 20, 0, 246, 184, 0, 65, 153, 0, 12, 42, 27, 28] := bL_of (by decide +kernel)
def dX12_hopes_0 := dk42 (k := 0) bX12_hopes_0 rfl
def dX12_hopes_1 := dk27 (k := 1) bX12_hopes_0 rfl
def dX12_hopes_2 := dk133 (k := 2) bX12_hopes_0 rfl
def dX12_hopes_3 := dk182 (k := 3) (x := 235) bX12_hopes_0 rfl rfl
def dX12_hopes_6 := dk153 (k := 6) (x := 24) bX12_hopes_0 rfl (by decide)
def dX12_hopes_9 := dk28 (k := 9) bX12_hopes_0 rfl
def dX12_hopes_10 := dk133 (k := 10) bX12_hopes_0 rfl
def dX12_hopes_11 := dk9 (k := 11) bX12_hopes_0 rfl
def dX12_hopes_12 := dk20 (k := 12) (x := 246) bX12_hopes_0 rfl rfl
def dX12_hopes_15 := dk184 (k := 15) (x := 65) bX12_hopes_0 rfl rfl
def dX12_hopes_18 := dk153 (k := 18) (x := 12) bX12_hopes_0 rfl (by decide)
def dX12_hopes_21 := dk42 (k := 21) bX12_hopes_0 rfl
def dX12_hopes_22 := dk27 (k := 22) bX12_hopes_0 rfl
def dX12_hopes_23 := dk28 (k := 23) bX12_hopes_0 rfl
theorem bX12_hopes_24 : bL cX12_hopes 24 [182, 0, 248, 167, 0, 6, 17, 252, 24, 172] := bL_of (by decide +kernel)
def dX12_hopes_24 := dk182 (k := 0) (x := 248) bX12_hopes_24 rfl rfl
def dX12_hopes_27 := dk167 (k := 3) (x := 6) bX12_hopes_24 rfl (by decide)
def dX12_hopes_30 := dk17 (k := 6) (x := (-1000)) bX12_hopes_24 rfl (by decide)
def dX12_hopes_33 := dk172 (k := 9) bX12_hopes_24 rfl
theorem bX12_wishes_0 : bL cX12_wishes 0 [42, 27, 133, 182, 0, 235, 154, 0, 6, 16, 254, 172, 3, 61, 4, 62, 29, 16, 20, 163, 0, 30, 42, 27] := bL_of (by decide +kernel)
def dX12_wishes_0 := dk42 (k := 0) bX12_wishes_0 rfl
def dX12_wishes_1 := dk27 (k := 1) bX12_wishes_0 rfl
def dX12_wishes_2 := dk133 (k := 2) bX12_wishes_0 rfl
def dX12_wishes_3 := dk182 (k := 3) (x := 235) bX12_wishes_0 rfl rfl
def dX12_wishes_6 := dk154 (k := 6) (x := 6) bX12_wishes_0 rfl (by decide)
def dX12_wishes_9 := dk16 (k := 9) (x := (-2)) bX12_wishes_0 rfl (by decide)
def dX12_wishes_11 := dk172 (k := 11) bX12_wishes_0 rfl
def dX12_wishes_12 := dk3 (k := 12) bX12_wishes_0 rfl
def dX12_wishes_13 := dk61 (k := 13) bX12_wishes_0 rfl
def dX12_wishes_14 := dk4 (k := 14) bX12_wishes_0 rfl
def dX12_wishes_15 := dk62 (k := 15) bX12_wishes_0 rfl
def dX12_wishes_16 := dk29 (k := 16) bX12_wishes_0 rfl
def dX12_wishes_17 := dk16 (k := 17) (x := 20) bX12_wishes_0 rfl (by decide)
def dX12_wishes_19 := dk163 (k := 19) (x := 30) bX12_wishes_0 rfl (by decide)
def dX12_wishes_22 := dk42 (k := 22) bX12_wishes_0 rfl
def dX12_wishes_23 := dk27 (k := 23) bX12_wishes_0 rfl
theorem bX12_wishes_24 : bL cX12_wishes 24 [29, 182, 0, 248, 42, 27, 28, 182, 0, 248, 164, 0, 7, 29, 167, 0, 4, 28, 61, 132, 3, 1, 167, 255, 226] := bL_of (by decide +kernel)
def dX12_wishes_24 := dk29 (k := 0) bX12_wishes_24 rfl
def dX12_wishes_25 := dk182 (k := 1) (x := 248) bX12_wishes_24 rfl rfl
def dX12_wishes_28 := dk42 (k := 4) bX12_wishes_24 rfl
def dX12_wishes_29 := dk27 (k := 5) bX12_wishes_24 rfl
def dX12_wishes_30 := dk28 (k := 6) bX12_wishes_24 rfl
def dX12_wishes_31 := dk182 (k := 7) (x := 248) bX12_wishes_24 rfl rfl
def dX12_wishes_34 := dk164 (k := 10) (x := 7) bX12_wishes_24 rfl (by decide)
def dX12_wishes_37 := dk29 (k := 13) bX12_wishes_24 rfl
def dX12_wishes_38 := dk167 (k := 14) (x := 4) bX12_wishes_24 rfl (by decide)
def dX12_wishes_41 := dk28 (k := 17) bX12_wishes_24 rfl
def dX12_wishes_42 := dk61 (k := 18) bX12_wishes_24 rfl
theorem dX12_wishes_43 : decode cX12_wishes 43 = .ok (.iinc 3 1, 3) := dk132 (k := 19) bX12_wishes_24 rfl rfl (by decide)
def dX12_wishes_46 := dk167 (k := 22) (x := (-30)) bX12_wishes_24 rfl (by decide)
theorem bX12_wishes_49 : bL cX12_wishes 49 [28, 172] := bL_of (by decide +kernel)
def dX12_wishes_49 := dk28 (k := 0) bX12_wishes_49 rfl
def dX12_wishes_50 := dk172 (k := 1) bX12_wishes_49 rfl
theorem bX12_gains_0 : bL cX12_gains 0 [42, 182, 0, 73, 154, 0, 6, 16, 254, 172, 42, 182, 0, 240, 42, 182, 0, 251, 172] := bL_of (by decide +kernel)
def dX12_gains_0 := dk42 (k := 0) bX12_gains_0 rfl
def dX12_gains_1 := dk182 (k := 1) (x := 73) bX12_gains_0 rfl rfl
def dX12_gains_4 := dk154 (k := 4) (x := 6) bX12_gains_0 rfl (by decide)
def dX12_gains_7 := dk16 (k := 7) (x := (-2)) bX12_gains_0 rfl (by decide)
def dX12_gains_9 := dk172 (k := 9) bX12_gains_0 rfl
def dX12_gains_10 := dk42 (k := 10) bX12_gains_0 rfl
def dX12_gains_11 := dk182 (k := 11) (x := 240) bX12_gains_0 rfl rfl
def dX12_gains_14 := dk42 (k := 14) bX12_gains_0 rfl
def dX12_gains_15 := dk182 (k := 15) (x := 251) bX12_gains_0 rfl rfl
def dX12_gains_18 := dk172 (k := 18) bX12_gains_0 rfl
theorem bX12_keepAct_0 : bL cX12_keepAct 0 [42, 180, 0, 9, 16, 75, 42, 180, 0, 9, 16, 8, 46, 96, 27, 79, 42, 180, 0, 9, 16, 8, 92, 46] := bL_of (by decide +kernel)
def dX12_keepAct_0 := dk42 (k := 0) bX12_keepAct_0 rfl
def dX12_keepAct_1 := dk180 (k := 1) (x := 9) bX12_keepAct_0 rfl rfl
def dX12_keepAct_4 := dk16 (k := 4) (x := 75) bX12_keepAct_0 rfl (by decide)
def dX12_keepAct_6 := dk42 (k := 6) bX12_keepAct_0 rfl
def dX12_keepAct_7 := dk180 (k := 7) (x := 9) bX12_keepAct_0 rfl rfl
def dX12_keepAct_10 := dk16 (k := 10) (x := 8) bX12_keepAct_0 rfl (by decide)
def dX12_keepAct_12 := dk46 (k := 12) bX12_keepAct_0 rfl
def dX12_keepAct_13 := dk96 (k := 13) bX12_keepAct_0 rfl
def dX12_keepAct_14 := dk27 (k := 14) bX12_keepAct_0 rfl
def dX12_keepAct_15 := dk79 (k := 15) bX12_keepAct_0 rfl
def dX12_keepAct_16 := dk42 (k := 16) bX12_keepAct_0 rfl
def dX12_keepAct_17 := dk180 (k := 17) (x := 9) bX12_keepAct_0 rfl rfl
def dX12_keepAct_20 := dk16 (k := 20) (x := 8) bX12_keepAct_0 rfl (by decide)
def dX12_keepAct_22 := dk92 (k := 22) bX12_keepAct_0 rfl
def dX12_keepAct_23 := dk46 (k := 23) bX12_keepAct_0 rfl
theorem bX12_keepAct_24 : bL cX12_keepAct 24 [4, 96, 79, 177] := bL_of (by decide +kernel)
def dX12_keepAct_24 := dk4 (k := 0) bX12_keepAct_24 rfl
def dX12_keepAct_25 := dk96 (k := 1) bX12_keepAct_24 rfl
def dX12_keepAct_26 := dk79 (k := 2) bX12_keepAct_24 rfl
def dX12_keepAct_27 := dk177 (k := 3) bX12_keepAct_24 rfl
theorem bX12_take_0 : bL cX12_take 0 [42, 182, 0, 73, 154, 0, 6, 16, 254, 172, 42, 182, 0, 240, 42, 182, 0, 200, 60, 42, 180, 0, 34, 27] := bL_of (by decide +kernel)
def dX12_take_0 := dk42 (k := 0) bX12_take_0 rfl
def dX12_take_1 := dk182 (k := 1) (x := 73) bX12_take_0 rfl rfl
def dX12_take_4 := dk154 (k := 4) (x := 6) bX12_take_0 rfl (by decide)
def dX12_take_7 := dk16 (k := 7) (x := (-2)) bX12_take_0 rfl (by decide)
def dX12_take_9 := dk172 (k := 9) bX12_take_0 rfl
def dX12_take_10 := dk42 (k := 10) bX12_take_0 rfl
def dX12_take_11 := dk182 (k := 11) (x := 240) bX12_take_0 rfl rfl
def dX12_take_14 := dk42 (k := 14) bX12_take_0 rfl
def dX12_take_15 := dk182 (k := 15) (x := 200) bX12_take_0 rfl rfl
def dX12_take_18 := dk60 (k := 18) bX12_take_0 rfl
def dX12_take_19 := dk42 (k := 19) bX12_take_0 rfl
def dX12_take_20 := dk180 (k := 20) (x := 34) bX12_take_0 rfl rfl
def dX12_take_23 := dk27 (k := 23) bX12_take_0 rfl
theorem bX12_take_24 : bL cX12_take 24 [46, 153, 0, 15, 42, 180, 0, 9, 16, 8, 46, 16, 60, 160, 0, 6, 16, 251, 172, 42, 3, 182, 0, 254] := bL_of (by decide +kernel)
def dX12_take_24 := dk46 (k := 0) bX12_take_24 rfl
def dX12_take_25 := dk153 (k := 1) (x := 15) bX12_take_24 rfl (by decide)
def dX12_take_28 := dk42 (k := 4) bX12_take_24 rfl
def dX12_take_29 := dk180 (k := 5) (x := 9) bX12_take_24 rfl rfl
def dX12_take_32 := dk16 (k := 8) (x := 8) bX12_take_24 rfl (by decide)
def dX12_take_34 := dk46 (k := 10) bX12_take_24 rfl
def dX12_take_35 := dk16 (k := 11) (x := 60) bX12_take_24 rfl (by decide)
def dX12_take_37 := dk160 (k := 13) (x := 6) bX12_take_24 rfl (by decide)
def dX12_take_40 := dk16 (k := 16) (x := (-5)) bX12_take_24 rfl (by decide)
def dX12_take_42 := dk172 (k := 18) bX12_take_24 rfl
def dX12_take_43 := dk42 (k := 19) bX12_take_24 rfl
def dX12_take_44 := dk3 (k := 20) bX12_take_24 rfl
def dX12_take_45 := dk182 (k := 21) (x := 254) bX12_take_24 rfl rfl
theorem bX12_take_48 : bL cX12_take 48 [27, 172] := bL_of (by decide +kernel)
def dX12_take_48 := dk27 (k := 0) bX12_take_48 rfl
def dX12_take_49 := dk172 (k := 1) bX12_take_48 rfl
theorem bX12_heap_0 : bL cX12_heap 0 [42, 27, 133, 182, 0, 203, 154, 0, 6, 16, 254, 172, 42, 182, 0, 240, 42, 27, 182, 0, 211, 61, 28, 2] := bL_of (by decide +kernel)
def dX12_heap_0 := dk42 (k := 0) bX12_heap_0 rfl
def dX12_heap_1 := dk27 (k := 1) bX12_heap_0 rfl
def dX12_heap_2 := dk133 (k := 2) bX12_heap_0 rfl
def dX12_heap_3 := dk182 (k := 3) (x := 203) bX12_heap_0 rfl rfl
def dX12_heap_6 := dk154 (k := 6) (x := 6) bX12_heap_0 rfl (by decide)
def dX12_heap_9 := dk16 (k := 9) (x := (-2)) bX12_heap_0 rfl (by decide)
def dX12_heap_11 := dk172 (k := 11) bX12_heap_0 rfl
def dX12_heap_12 := dk42 (k := 12) bX12_heap_0 rfl
def dX12_heap_13 := dk182 (k := 13) (x := 240) bX12_heap_0 rfl rfl
def dX12_heap_16 := dk42 (k := 16) bX12_heap_0 rfl
def dX12_heap_17 := dk27 (k := 17) bX12_heap_0 rfl
def dX12_heap_18 := dk182 (k := 18) (x := 211) bX12_heap_0 rfl rfl
def dX12_heap_21 := dk61 (k := 21) bX12_heap_0 rfl
def dX12_heap_22 := dk28 (k := 22) bX12_heap_0 rfl
def dX12_heap_23 := dk2 (k := 23) bX12_heap_0 rfl
theorem bX12_heap_24 : bL cX12_heap 24 [159, 0, 15, 42, 180, 0, 9, 16, 8, 46, 16, 60, 160, 0, 6, 16, 251, 172, 42, 4, 27, 96, 182, 0, 254] := bL_of (by decide +kernel)
def dX12_heap_24 := dk159 (k := 0) (x := 15) bX12_heap_24 rfl (by decide)
def dX12_heap_27 := dk42 (k := 3) bX12_heap_24 rfl
def dX12_heap_28 := dk180 (k := 4) (x := 9) bX12_heap_24 rfl rfl
def dX12_heap_31 := dk16 (k := 7) (x := 8) bX12_heap_24 rfl (by decide)
def dX12_heap_33 := dk46 (k := 9) bX12_heap_24 rfl
def dX12_heap_34 := dk16 (k := 10) (x := 60) bX12_heap_24 rfl (by decide)
def dX12_heap_36 := dk160 (k := 12) (x := 6) bX12_heap_24 rfl (by decide)
def dX12_heap_39 := dk16 (k := 15) (x := (-5)) bX12_heap_24 rfl (by decide)
def dX12_heap_41 := dk172 (k := 17) bX12_heap_24 rfl
def dX12_heap_42 := dk42 (k := 18) bX12_heap_24 rfl
def dX12_heap_43 := dk4 (k := 19) bX12_heap_24 rfl
def dX12_heap_44 := dk27 (k := 20) bX12_heap_24 rfl
def dX12_heap_45 := dk96 (k := 21) bX12_heap_24 rfl
def dX12_heap_46 := dk182 (k := 22) (x := 254) bX12_heap_24 rfl rfl
theorem bX12_heap_49 : bL cX12_heap 49 [28, 172] := bL_of (by decide +kernel)
def dX12_heap_49 := dk28 (k := 0) bX12_heap_49 rfl
def dX12_heap_50 := dk172 (k := 1) bX12_heap_49 rfl
theorem bX12_slides_0 : bL cX12_slides 0 [42, 27, 133, 182, 0, 203, 154, 0, 6, 16, 254, 172, 42, 182, 0, 240, 42, 27, 182, 0, 211, 172] := bL_of (by decide +kernel)
def dX12_slides_0 := dk42 (k := 0) bX12_slides_0 rfl
def dX12_slides_1 := dk27 (k := 1) bX12_slides_0 rfl
def dX12_slides_2 := dk133 (k := 2) bX12_slides_0 rfl
def dX12_slides_3 := dk182 (k := 3) (x := 203) bX12_slides_0 rfl rfl
def dX12_slides_6 := dk154 (k := 6) (x := 6) bX12_slides_0 rfl (by decide)
def dX12_slides_9 := dk16 (k := 9) (x := (-2)) bX12_slides_0 rfl (by decide)
def dX12_slides_11 := dk172 (k := 11) bX12_slides_0 rfl
def dX12_slides_12 := dk42 (k := 12) bX12_slides_0 rfl
def dX12_slides_13 := dk182 (k := 13) (x := 240) bX12_slides_0 rfl rfl
def dX12_slides_16 := dk42 (k := 16) bX12_slides_0 rfl
def dX12_slides_17 := dk27 (k := 17) bX12_slides_0 rfl
def dX12_slides_18 := dk182 (k := 18) (x := 211) bX12_slides_0 rfl rfl
def dX12_slides_21 := dk172 (k := 21) bX12_slides_0 rfl
theorem bX12_undo_0 : bL cX12_undo 0 [42, 182, 0, 73, 154, 0, 6, 16, 254, 172, 42, 180, 0, 9, 16, 8, 46, 154, 0, 6, 16, 251, 172, 42] := bL_of (by decide +kernel)
def dX12_undo_0 := dk42 (k := 0) bX12_undo_0 rfl
def dX12_undo_1 := dk182 (k := 1) (x := 73) bX12_undo_0 rfl rfl
def dX12_undo_4 := dk154 (k := 4) (x := 6) bX12_undo_0 rfl (by decide)
def dX12_undo_7 := dk16 (k := 7) (x := (-2)) bX12_undo_0 rfl (by decide)
def dX12_undo_9 := dk172 (k := 9) bX12_undo_0 rfl
def dX12_undo_10 := dk42 (k := 10) bX12_undo_0 rfl
def dX12_undo_11 := dk180 (k := 11) (x := 9) bX12_undo_0 rfl rfl
def dX12_undo_14 := dk16 (k := 14) (x := 8) bX12_undo_0 rfl (by decide)
def dX12_undo_16 := dk46 (k := 16) bX12_undo_0 rfl
def dX12_undo_17 := dk154 (k := 17) (x := 6) bX12_undo_0 rfl (by decide)
def dX12_undo_20 := dk16 (k := 20) (x := (-5)) bX12_undo_0 rfl (by decide)
def dX12_undo_22 := dk172 (k := 22) bX12_undo_0 rfl
def dX12_undo_23 := dk42 (k := 23) bX12_undo_0 rfl
theorem bX12_undo_24 : bL cX12_undo 24 [180, 0, 9, 16, 8, 92, 46, 4, 100, 79, 42, 180, 0, 9, 16, 8, 46, 172] := bL_of (by decide +kernel)
def dX12_undo_24 := dk180 (k := 0) (x := 9) bX12_undo_24 rfl rfl
def dX12_undo_27 := dk16 (k := 3) (x := 8) bX12_undo_24 rfl (by decide)
def dX12_undo_29 := dk92 (k := 5) bX12_undo_24 rfl
def dX12_undo_30 := dk46 (k := 6) bX12_undo_24 rfl
def dX12_undo_31 := dk4 (k := 7) bX12_undo_24 rfl
def dX12_undo_32 := dk100 (k := 8) bX12_undo_24 rfl
def dX12_undo_33 := dk79 (k := 9) bX12_undo_24 rfl
def dX12_undo_34 := dk42 (k := 10) bX12_undo_24 rfl
def dX12_undo_35 := dk180 (k := 11) (x := 9) bX12_undo_24 rfl rfl
def dX12_undo_38 := dk16 (k := 14) (x := 8) bX12_undo_24 rfl (by decide)
def dX12_undo_40 := dk46 (k := 16) bX12_undo_24 rfl
def dX12_undo_41 := dk172 (k := 17) bX12_undo_24 rfl
theorem bX12_anew_0 : bL cX12_anew 0 [42, 182, 0, 73, 154, 0, 6, 16, 254, 172, 42, 180, 0, 9, 16, 8, 46, 60, 42, 180, 0, 9, 16, 8] := bL_of (by decide +kernel)
def dX12_anew_0 := dk42 (k := 0) bX12_anew_0 rfl
def dX12_anew_1 := dk182 (k := 1) (x := 73) bX12_anew_0 rfl rfl
def dX12_anew_4 := dk154 (k := 4) (x := 6) bX12_anew_0 rfl (by decide)
def dX12_anew_7 := dk16 (k := 7) (x := (-2)) bX12_anew_0 rfl (by decide)
def dX12_anew_9 := dk172 (k := 9) bX12_anew_0 rfl
def dX12_anew_10 := dk42 (k := 10) bX12_anew_0 rfl
def dX12_anew_11 := dk180 (k := 11) (x := 9) bX12_anew_0 rfl rfl
def dX12_anew_14 := dk16 (k := 14) (x := 8) bX12_anew_0 rfl (by decide)
def dX12_anew_16 := dk46 (k := 16) bX12_anew_0 rfl
def dX12_anew_17 := dk60 (k := 17) bX12_anew_0 rfl
def dX12_anew_18 := dk42 (k := 18) bX12_anew_0 rfl
def dX12_anew_19 := dk180 (k := 19) (x := 9) bX12_anew_0 rfl rfl
def dX12_anew_22 := dk16 (k := 22) (x := 8) bX12_anew_0 rfl (by decide)
theorem bX12_anew_24 : bL cX12_anew 24 [3, 79, 27, 172] := bL_of (by decide +kernel)
def dX12_anew_24 := dk3 (k := 0) bX12_anew_24 rfl
def dX12_anew_25 := dk79 (k := 1) bX12_anew_24 rfl
def dX12_anew_26 := dk27 (k := 2) bX12_anew_24 rfl
def dX12_anew_27 := dk172 (k := 3) bX12_anew_24 rfl
theorem bX12_willingSet_0 : bL cX12_willingSet 0 [3, 60, 42, 182, 0, 200, 61, 42, 180, 0, 34, 28, 46, 154, 0, 5, 3, 172, 3, 62, 29, 42, 180, 0, 9] := bL_of (by decide +kernel)
def dX12_willingSet_0 := dk3 (k := 0) bX12_willingSet_0 rfl
def dX12_willingSet_1 := dk60 (k := 1) bX12_willingSet_0 rfl
def dX12_willingSet_2 := dk42 (k := 2) bX12_willingSet_0 rfl
def dX12_willingSet_3 := dk182 (k := 3) (x := 200) bX12_willingSet_0 rfl rfl
def dX12_willingSet_6 := dk61 (k := 6) bX12_willingSet_0 rfl
def dX12_willingSet_7 := dk42 (k := 7) bX12_willingSet_0 rfl
def dX12_willingSet_8 := dk180 (k := 8) (x := 34) bX12_willingSet_0 rfl rfl
def dX12_willingSet_11 := dk28 (k := 11) bX12_willingSet_0 rfl
def dX12_willingSet_12 := dk46 (k := 12) bX12_willingSet_0 rfl
def dX12_willingSet_13 := dk154 (k := 13) (x := 5) bX12_willingSet_0 rfl (by decide)
def dX12_willingSet_16 := dk3 (k := 16) bX12_willingSet_0 rfl
def dX12_willingSet_17 := dk172 (k := 17) bX12_willingSet_0 rfl
def dX12_willingSet_18 := dk3 (k := 18) bX12_willingSet_0 rfl
def dX12_willingSet_19 := dk62 (k := 19) bX12_willingSet_0 rfl
def dX12_willingSet_20 := dk29 (k := 20) bX12_willingSet_0 rfl
def dX12_willingSet_21 := dk42 (k := 21) bX12_willingSet_0 rfl
def dX12_willingSet_22 := dk180 (k := 22) (x := 9) bX12_willingSet_0 rfl rfl
theorem bX12_willingSet_25 : bL cX12_willingSet 25 [16, 6, 46, 162, 0, 56, 42, 29, 182, 0, 232, 54, 4, 42, 180, 0, 34, 28, 92, 46, 4, 100, 79, 27] := bL_of (by decide +kernel)
def dX12_willingSet_25 := dk16 (k := 0) (x := 6) bX12_willingSet_25 rfl (by decide)
def dX12_willingSet_27 := dk46 (k := 2) bX12_willingSet_25 rfl
def dX12_willingSet_28 := dk162 (k := 3) (x := 56) bX12_willingSet_25 rfl (by decide)
def dX12_willingSet_31 := dk42 (k := 6) bX12_willingSet_25 rfl
def dX12_willingSet_32 := dk29 (k := 7) bX12_willingSet_25 rfl
def dX12_willingSet_33 := dk182 (k := 8) (x := 232) bX12_willingSet_25 rfl rfl
def dX12_willingSet_36 := dk54 (k := 11) (x := 4) bX12_willingSet_25 rfl rfl
def dX12_willingSet_38 := dk42 (k := 13) bX12_willingSet_25 rfl
def dX12_willingSet_39 := dk180 (k := 14) (x := 34) bX12_willingSet_25 rfl rfl
def dX12_willingSet_42 := dk28 (k := 17) bX12_willingSet_25 rfl
def dX12_willingSet_43 := dk92 (k := 18) bX12_willingSet_25 rfl
def dX12_willingSet_44 := dk46 (k := 19) bX12_willingSet_25 rfl
def dX12_willingSet_45 := dk4 (k := 20) bX12_willingSet_25 rfl
def dX12_willingSet_46 := dk100 (k := 21) bX12_willingSet_25 rfl
def dX12_willingSet_47 := dk79 (k := 22) bX12_willingSet_25 rfl
def dX12_willingSet_48 := dk27 (k := 23) bX12_willingSet_25 rfl
theorem bX12_willingSet_49 : bL cX12_willingSet 49 [42, 29, 182, 0, 232, 21, 4, 164, 0, 9, 4, 29, 120, 167, 0, 4, 3, 128, 60, 42, 180, 0, 34, 28] := bL_of (by decide +kernel)
def dX12_willingSet_49 := dk42 (k := 0) bX12_willingSet_49 rfl
def dX12_willingSet_50 := dk29 (k := 1) bX12_willingSet_49 rfl
def dX12_willingSet_51 := dk182 (k := 2) (x := 232) bX12_willingSet_49 rfl rfl
def dX12_willingSet_54 := dk21 (k := 5) (x := 4) bX12_willingSet_49 rfl rfl
def dX12_willingSet_56 := dk164 (k := 7) (x := 9) bX12_willingSet_49 rfl (by decide)
def dX12_willingSet_59 := dk4 (k := 10) bX12_willingSet_49 rfl
def dX12_willingSet_60 := dk29 (k := 11) bX12_willingSet_49 rfl
def dX12_willingSet_61 := dk120 (k := 12) bX12_willingSet_49 rfl
def dX12_willingSet_62 := dk167 (k := 13) (x := 4) bX12_willingSet_49 rfl (by decide)
def dX12_willingSet_65 := dk3 (k := 16) bX12_willingSet_49 rfl
def dX12_willingSet_66 := dk128 (k := 17) bX12_willingSet_49 rfl
def dX12_willingSet_67 := dk60 (k := 18) bX12_willingSet_49 rfl
def dX12_willingSet_68 := dk42 (k := 19) bX12_willingSet_49 rfl
def dX12_willingSet_69 := dk180 (k := 20) (x := 34) bX12_willingSet_49 rfl rfl
def dX12_willingSet_72 := dk28 (k := 23) bX12_willingSet_49 rfl
theorem bX12_willingSet_73 : bL cX12_willingSet 73 [92, 46, 4, 96, 79, 132, 3, 1, 167, 255, 195, 27, 172] := bL_of (by decide +kernel)
def dX12_willingSet_73 := dk92 (k := 0) bX12_willingSet_73 rfl
def dX12_willingSet_74 := dk46 (k := 1) bX12_willingSet_73 rfl
def dX12_willingSet_75 := dk4 (k := 2) bX12_willingSet_73 rfl
def dX12_willingSet_76 := dk96 (k := 3) bX12_willingSet_73 rfl
def dX12_willingSet_77 := dk79 (k := 4) bX12_willingSet_73 rfl
theorem dX12_willingSet_78 : decode cX12_willingSet 78 = .ok (.iinc 3 1, 3) := dk132 (k := 5) bX12_willingSet_73 rfl rfl (by decide)
def dX12_willingSet_81 := dk167 (k := 8) (x := (-61)) bX12_willingSet_73 rfl (by decide)
def dX12_willingSet_84 := dk27 (k := 11) bX12_willingSet_73 rfl
def dX12_willingSet_85 := dk172 (k := 12) bX12_willingSet_73 rfl
theorem bX12_signing_0 : bL cX12_signing 0 [27, 28, 2, 130, 126, 62, 4, 54, 4, 21, 4, 153, 0, 88, 3, 54, 4, 3, 54, 5, 21, 5, 42, 180, 0, 9] := bL_of (by decide +kernel)
def dX12_signing_0 := dk27 (k := 0) bX12_signing_0 rfl
def dX12_signing_1 := dk28 (k := 1) bX12_signing_0 rfl
def dX12_signing_2 := dk2 (k := 2) bX12_signing_0 rfl
def dX12_signing_3 := dk130 (k := 3) bX12_signing_0 rfl
def dX12_signing_4 := dk126 (k := 4) bX12_signing_0 rfl
def dX12_signing_5 := dk62 (k := 5) bX12_signing_0 rfl
def dX12_signing_6 := dk4 (k := 6) bX12_signing_0 rfl
def dX12_signing_7 := dk54 (k := 7) (x := 4) bX12_signing_0 rfl rfl
def dX12_signing_9 := dk21 (k := 9) (x := 4) bX12_signing_0 rfl rfl
def dX12_signing_11 := dk153 (k := 11) (x := 88) bX12_signing_0 rfl (by decide)
def dX12_signing_14 := dk3 (k := 14) bX12_signing_0 rfl
def dX12_signing_15 := dk54 (k := 15) (x := 4) bX12_signing_0 rfl rfl
def dX12_signing_17 := dk3 (k := 17) bX12_signing_0 rfl
def dX12_signing_18 := dk54 (k := 18) (x := 5) bX12_signing_0 rfl rfl
def dX12_signing_20 := dk21 (k := 20) (x := 5) bX12_signing_0 rfl rfl
def dX12_signing_22 := dk42 (k := 22) bX12_signing_0 rfl
def dX12_signing_23 := dk180 (k := 23) (x := 9) bX12_signing_0 rfl rfl
theorem bX12_signing_26 : bL cX12_signing 26 [16, 6, 46, 162, 0, 67, 29, 28, 128, 21, 5, 184, 1, 1, 4, 159, 0, 49, 42, 21, 5, 8, 182, 0, 220] := bL_of (by decide +kernel)
def dX12_signing_26 := dk16 (k := 0) (x := 6) bX12_signing_26 rfl (by decide)
def dX12_signing_28 := dk46 (k := 2) bX12_signing_26 rfl
def dX12_signing_29 := dk162 (k := 3) (x := 67) bX12_signing_26 rfl (by decide)
def dX12_signing_32 := dk29 (k := 6) bX12_signing_26 rfl
def dX12_signing_33 := dk28 (k := 7) bX12_signing_26 rfl
def dX12_signing_34 := dk128 (k := 8) bX12_signing_26 rfl
def dX12_signing_35 := dk21 (k := 9) (x := 5) bX12_signing_26 rfl rfl
def dX12_signing_37 := dk184 (k := 11) (x := 257) bX12_signing_26 rfl rfl
def dX12_signing_40 := dk4 (k := 14) bX12_signing_26 rfl
def dX12_signing_41 := dk159 (k := 15) (x := 49) bX12_signing_26 rfl (by decide)
def dX12_signing_44 := dk42 (k := 18) bX12_signing_26 rfl
def dX12_signing_45 := dk21 (k := 19) (x := 5) bX12_signing_26 rfl rfl
def dX12_signing_47 := dk8 (k := 21) bX12_signing_26 rfl
def dX12_signing_48 := dk182 (k := 22) (x := 220) bX12_signing_26 rfl rfl
theorem bX12_signing_51 : bL cX12_signing 51 [153, 0, 39, 29, 42, 21, 5, 16, 6, 182, 0, 220, 126, 184, 0, 229, 42, 21, 5, 8, 182, 0, 220, 162, 0, 6] := bL_of (by decide +kernel)
def dX12_signing_51 := dk153 (k := 0) (x := 39) bX12_signing_51 rfl (by decide)
def dX12_signing_54 := dk29 (k := 3) bX12_signing_51 rfl
def dX12_signing_55 := dk42 (k := 4) bX12_signing_51 rfl
def dX12_signing_56 := dk21 (k := 5) (x := 5) bX12_signing_51 rfl rfl
def dX12_signing_58 := dk16 (k := 7) (x := 6) bX12_signing_51 rfl (by decide)
def dX12_signing_60 := dk182 (k := 9) (x := 220) bX12_signing_51 rfl rfl
def dX12_signing_63 := dk126 (k := 12) bX12_signing_51 rfl
def dX12_signing_64 := dk184 (k := 13) (x := 229) bX12_signing_51 rfl rfl
def dX12_signing_67 := dk42 (k := 16) bX12_signing_51 rfl
def dX12_signing_68 := dk21 (k := 17) (x := 5) bX12_signing_51 rfl rfl
def dX12_signing_70 := dk8 (k := 19) bX12_signing_51 rfl
def dX12_signing_71 := dk182 (k := 20) (x := 220) bX12_signing_51 rfl rfl
def dX12_signing_74 := dk162 (k := 23) (x := 6) bX12_signing_51 rfl (by decide)
theorem bX12_signing_77 : bL cX12_signing 77 [167, 0, 13, 29, 4, 21, 5, 120, 128, 62, 4, 54, 4, 132, 5, 1, 167, 255, 183, 167, 255, 169, 29, 172] := bL_of (by decide +kernel)
def dX12_signing_77 := dk167 (k := 0) (x := 13) bX12_signing_77 rfl (by decide)
def dX12_signing_80 := dk29 (k := 3) bX12_signing_77 rfl
def dX12_signing_81 := dk4 (k := 4) bX12_signing_77 rfl
def dX12_signing_82 := dk21 (k := 5) (x := 5) bX12_signing_77 rfl rfl
def dX12_signing_84 := dk120 (k := 7) bX12_signing_77 rfl
def dX12_signing_85 := dk128 (k := 8) bX12_signing_77 rfl
def dX12_signing_86 := dk62 (k := 9) bX12_signing_77 rfl
def dX12_signing_87 := dk4 (k := 10) bX12_signing_77 rfl
def dX12_signing_88 := dk54 (k := 11) (x := 4) bX12_signing_77 rfl rfl
theorem dX12_signing_90 : decode cX12_signing 90 = .ok (.iinc 5 1, 3) := dk132 (k := 13) bX12_signing_77 rfl rfl (by decide)
def dX12_signing_93 := dk167 (k := 16) (x := (-73)) bX12_signing_77 rfl (by decide)
def dX12_signing_96 := dk167 (k := 19) (x := (-87)) bX12_signing_77 rfl (by decide)
def dX12_signing_99 := dk29 (k := 22) bX12_signing_77 rfl
def dX12_signing_100 := dk172 (k := 23) bX12_signing_77 rfl
theorem bX12_namesOf_0 : bL cX12_namesOf 0 [3, 61, 3, 62, 29, 42, 180, 0, 9, 16, 6, 46, 162, 0, 24, 28, 27, 29, 184, 1, 1, 42, 29, 4] := bL_of (by decide +kernel)
def dX12_namesOf_0 := dk3 (k := 0) bX12_namesOf_0 rfl
def dX12_namesOf_1 := dk61 (k := 1) bX12_namesOf_0 rfl
def dX12_namesOf_2 := dk3 (k := 2) bX12_namesOf_0 rfl
def dX12_namesOf_3 := dk62 (k := 3) bX12_namesOf_0 rfl
def dX12_namesOf_4 := dk29 (k := 4) bX12_namesOf_0 rfl
def dX12_namesOf_5 := dk42 (k := 5) bX12_namesOf_0 rfl
def dX12_namesOf_6 := dk180 (k := 6) (x := 9) bX12_namesOf_0 rfl rfl
def dX12_namesOf_9 := dk16 (k := 9) (x := 6) bX12_namesOf_0 rfl (by decide)
def dX12_namesOf_11 := dk46 (k := 11) bX12_namesOf_0 rfl
def dX12_namesOf_12 := dk162 (k := 12) (x := 24) bX12_namesOf_0 rfl (by decide)
def dX12_namesOf_15 := dk28 (k := 15) bX12_namesOf_0 rfl
def dX12_namesOf_16 := dk27 (k := 16) bX12_namesOf_0 rfl
def dX12_namesOf_17 := dk29 (k := 17) bX12_namesOf_0 rfl
def dX12_namesOf_18 := dk184 (k := 18) (x := 257) bX12_namesOf_0 rfl rfl
def dX12_namesOf_21 := dk42 (k := 21) bX12_namesOf_0 rfl
def dX12_namesOf_22 := dk29 (k := 22) bX12_namesOf_0 rfl
def dX12_namesOf_23 := dk4 (k := 23) bX12_namesOf_0 rfl
theorem bX12_namesOf_24 : bL cX12_namesOf 24 [182, 0, 220, 104, 96, 61, 132, 3, 1, 167, 255, 227, 28, 172] := bL_of (by decide +kernel)
def dX12_namesOf_24 := dk182 (k := 0) (x := 220) bX12_namesOf_24 rfl rfl
def dX12_namesOf_27 := dk104 (k := 3) bX12_namesOf_24 rfl
def dX12_namesOf_28 := dk96 (k := 4) bX12_namesOf_24 rfl
def dX12_namesOf_29 := dk61 (k := 5) bX12_namesOf_24 rfl
theorem dX12_namesOf_30 : decode cX12_namesOf 30 = .ok (.iinc 3 1, 3) := dk132 (k := 6) bX12_namesOf_24 rfl rfl (by decide)
def dX12_namesOf_33 := dk167 (k := 9) (x := (-29)) bX12_namesOf_24 rfl (by decide)
def dX12_namesOf_36 := dk28 (k := 12) bX12_namesOf_24 rfl
def dX12_namesOf_37 := dk172 (k := 13) bX12_namesOf_24 rfl
theorem bX12_isEnough_0 : bL cX12_isEnough 0 [42, 27, 182, 1, 4, 42, 180, 0, 9, 6, 46, 161, 0, 7, 4, 167, 0, 4, 3, 172] := bL_of (by decide +kernel)
def dX12_isEnough_0 := dk42 (k := 0) bX12_isEnough_0 rfl
def dX12_isEnough_1 := dk27 (k := 1) bX12_isEnough_0 rfl
def dX12_isEnough_2 := dk182 (k := 2) (x := 260) bX12_isEnough_0 rfl rfl
def dX12_isEnough_5 := dk42 (k := 5) bX12_isEnough_0 rfl
def dX12_isEnough_6 := dk180 (k := 6) (x := 9) bX12_isEnough_0 rfl rfl
def dX12_isEnough_9 := dk6 (k := 9) bX12_isEnough_0 rfl
def dX12_isEnough_10 := dk46 (k := 10) bX12_isEnough_0 rfl
def dX12_isEnough_11 := dk161 (k := 11) (x := 7) bX12_isEnough_0 rfl (by decide)
def dX12_isEnough_14 := dk4 (k := 14) bX12_isEnough_0 rfl
def dX12_isEnough_15 := dk167 (k := 15) (x := 4) bX12_isEnough_0 rfl (by decide)
def dX12_isEnough_18 := dk3 (k := 18) bX12_isEnough_0 rfl
def dX12_isEnough_19 := dk172 (k := 19) bX12_isEnough_0 rfl
theorem bX12_willing_0 : bL cX12_willing 0 [42, 182, 0, 73, 154, 0, 6, 16, 254, 172, 42, 182, 0, 240, 42, 182, 1, 7, 172] := bL_of (by decide +kernel)
def dX12_willing_0 := dk42 (k := 0) bX12_willing_0 rfl
def dX12_willing_1 := dk182 (k := 1) (x := 73) bX12_willing_0 rfl rfl
def dX12_willing_4 := dk154 (k := 4) (x := 6) bX12_willing_0 rfl (by decide)
def dX12_willing_7 := dk16 (k := 7) (x := (-2)) bX12_willing_0 rfl (by decide)
def dX12_willing_9 := dk172 (k := 9) bX12_willing_0 rfl
def dX12_willing_10 := dk42 (k := 10) bX12_willing_0 rfl
def dX12_willing_11 := dk182 (k := 11) (x := 240) bX12_willing_0 rfl rfl
def dX12_willing_14 := dk42 (k := 14) bX12_willing_0 rfl
def dX12_willing_15 := dk182 (k := 15) (x := 263) bX12_willing_0 rfl rfl
def dX12_willing_18 := dk172 (k := 18) bX12_willing_0 rfl
theorem bX12_signers_0 : bL cX12_signers 0 [42, 27, 182, 1, 10, 154, 0, 6, 16, 254, 172, 42, 182, 0, 240, 42, 42, 182, 1, 7, 27, 128, 3, 182, 1, 14] := bL_of (by decide +kernel)
def dX12_signers_0 := dk42 (k := 0) bX12_signers_0 rfl
def dX12_signers_1 := dk27 (k := 1) bX12_signers_0 rfl
def dX12_signers_2 := dk182 (k := 2) (x := 266) bX12_signers_0 rfl rfl
def dX12_signers_5 := dk154 (k := 5) (x := 6) bX12_signers_0 rfl (by decide)
def dX12_signers_8 := dk16 (k := 8) (x := (-2)) bX12_signers_0 rfl (by decide)
def dX12_signers_10 := dk172 (k := 10) bX12_signers_0 rfl
def dX12_signers_11 := dk42 (k := 11) bX12_signers_0 rfl
def dX12_signers_12 := dk182 (k := 12) (x := 240) bX12_signers_0 rfl rfl
def dX12_signers_15 := dk42 (k := 15) bX12_signers_0 rfl
def dX12_signers_16 := dk42 (k := 16) bX12_signers_0 rfl
def dX12_signers_17 := dk182 (k := 17) (x := 263) bX12_signers_0 rfl rfl
def dX12_signers_20 := dk27 (k := 20) bX12_signers_0 rfl
def dX12_signers_21 := dk128 (k := 21) bX12_signers_0 rfl
def dX12_signers_22 := dk3 (k := 22) bX12_signers_0 rfl
def dX12_signers_23 := dk182 (k := 23) (x := 270) bX12_signers_0 rfl rfl
theorem bX12_signers_26 : bL cX12_signers 26 [172] := bL_of (by decide +kernel)
def dX12_signers_26 := dk172 (k := 0) bX12_signers_26 rfl
theorem bX12_names_0 : bL cX12_names 0 [42, 27, 182, 1, 10, 154, 0, 6, 16, 254, 172, 42, 182, 0, 240, 42, 42, 42, 182, 1, 7, 27, 128, 3] := bL_of (by decide +kernel)
def dX12_names_0 := dk42 (k := 0) bX12_names_0 rfl
def dX12_names_1 := dk27 (k := 1) bX12_names_0 rfl
def dX12_names_2 := dk182 (k := 2) (x := 266) bX12_names_0 rfl rfl
def dX12_names_5 := dk154 (k := 5) (x := 6) bX12_names_0 rfl (by decide)
def dX12_names_8 := dk16 (k := 8) (x := (-2)) bX12_names_0 rfl (by decide)
def dX12_names_10 := dk172 (k := 10) bX12_names_0 rfl
def dX12_names_11 := dk42 (k := 11) bX12_names_0 rfl
def dX12_names_12 := dk182 (k := 12) (x := 240) bX12_names_0 rfl rfl
def dX12_names_15 := dk42 (k := 15) bX12_names_0 rfl
def dX12_names_16 := dk42 (k := 16) bX12_names_0 rfl
def dX12_names_17 := dk42 (k := 17) bX12_names_0 rfl
def dX12_names_18 := dk182 (k := 18) (x := 263) bX12_names_0 rfl rfl
def dX12_names_21 := dk27 (k := 21) bX12_names_0 rfl
def dX12_names_22 := dk128 (k := 22) bX12_names_0 rfl
def dX12_names_23 := dk3 (k := 23) bX12_names_0 rfl
theorem bX12_names_24 : bL cX12_names 24 [182, 1, 14, 182, 1, 4, 172] := bL_of (by decide +kernel)
def dX12_names_24 := dk182 (k := 0) (x := 270) bX12_names_24 rfl rfl
def dX12_names_27 := dk182 (k := 3) (x := 260) bX12_names_24 rfl rfl
def dX12_names_30 := dk172 (k := 6) bX12_names_24 rfl
theorem bX12_firstSet_0 : bL cX12_firstSet 0 [42, 182, 0, 240, 42, 182, 1, 7, 60, 2, 61, 3, 62, 29, 42, 182, 0, 77, 163, 0, 42, 28, 2, 159, 0, 14] := bL_of (by decide +kernel)
def dX12_firstSet_0 := dk42 (k := 0) bX12_firstSet_0 rfl
def dX12_firstSet_1 := dk182 (k := 1) (x := 240) bX12_firstSet_0 rfl rfl
def dX12_firstSet_4 := dk42 (k := 4) bX12_firstSet_0 rfl
def dX12_firstSet_5 := dk182 (k := 5) (x := 263) bX12_firstSet_0 rfl rfl
def dX12_firstSet_8 := dk60 (k := 8) bX12_firstSet_0 rfl
def dX12_firstSet_9 := dk2 (k := 9) bX12_firstSet_0 rfl
def dX12_firstSet_10 := dk61 (k := 10) bX12_firstSet_0 rfl
def dX12_firstSet_11 := dk3 (k := 11) bX12_firstSet_0 rfl
def dX12_firstSet_12 := dk62 (k := 12) bX12_firstSet_0 rfl
def dX12_firstSet_13 := dk29 (k := 13) bX12_firstSet_0 rfl
def dX12_firstSet_14 := dk42 (k := 14) bX12_firstSet_0 rfl
def dX12_firstSet_15 := dk182 (k := 15) (x := 77) bX12_firstSet_0 rfl rfl
def dX12_firstSet_18 := dk163 (k := 18) (x := 42) bX12_firstSet_0 rfl (by decide)
def dX12_firstSet_21 := dk28 (k := 21) bX12_firstSet_0 rfl
def dX12_firstSet_22 := dk2 (k := 22) bX12_firstSet_0 rfl
def dX12_firstSet_23 := dk159 (k := 23) (x := 14) bX12_firstSet_0 rfl (by decide)
theorem bX12_firstSet_26 : bL cX12_firstSet 26 [29, 184, 0, 229, 28, 184, 0, 229, 162, 0, 20, 42, 42, 27, 29, 128, 3, 182, 1, 14, 182, 1, 17, 153, 0, 5] := bL_of (by decide +kernel)
def dX12_firstSet_26 := dk29 (k := 0) bX12_firstSet_26 rfl
def dX12_firstSet_27 := dk184 (k := 1) (x := 229) bX12_firstSet_26 rfl rfl
def dX12_firstSet_30 := dk28 (k := 4) bX12_firstSet_26 rfl
def dX12_firstSet_31 := dk184 (k := 5) (x := 229) bX12_firstSet_26 rfl rfl
def dX12_firstSet_34 := dk162 (k := 8) (x := 20) bX12_firstSet_26 rfl (by decide)
def dX12_firstSet_37 := dk42 (k := 11) bX12_firstSet_26 rfl
def dX12_firstSet_38 := dk42 (k := 12) bX12_firstSet_26 rfl
def dX12_firstSet_39 := dk27 (k := 13) bX12_firstSet_26 rfl
def dX12_firstSet_40 := dk29 (k := 14) bX12_firstSet_26 rfl
def dX12_firstSet_41 := dk128 (k := 15) bX12_firstSet_26 rfl
def dX12_firstSet_42 := dk3 (k := 16) bX12_firstSet_26 rfl
def dX12_firstSet_43 := dk182 (k := 17) (x := 270) bX12_firstSet_26 rfl rfl
def dX12_firstSet_46 := dk182 (k := 20) (x := 273) bX12_firstSet_26 rfl rfl
def dX12_firstSet_49 := dk153 (k := 23) (x := 5) bX12_firstSet_26 rfl (by decide)
theorem bX12_firstSet_52 : bL cX12_firstSet 52 [29, 61, 132, 3, 1, 167, 255, 212, 28, 172] := bL_of (by decide +kernel)
def dX12_firstSet_52 := dk29 (k := 0) bX12_firstSet_52 rfl
def dX12_firstSet_53 := dk61 (k := 1) bX12_firstSet_52 rfl
theorem dX12_firstSet_54 : decode cX12_firstSet 54 = .ok (.iinc 3 1, 3) := dk132 (k := 2) bX12_firstSet_52 rfl rfl (by decide)
def dX12_firstSet_57 := dk167 (k := 5) (x := (-44)) bX12_firstSet_52 rfl (by decide)
def dX12_firstSet_60 := dk28 (k := 8) bX12_firstSet_52 rfl
def dX12_firstSet_61 := dk172 (k := 9) bX12_firstSet_52 rfl
theorem bX12_first_0 : bL cX12_first 0 [42, 182, 0, 73, 154, 0, 6, 16, 254, 172, 42, 182, 1, 20, 60, 27, 2, 160, 0, 7, 2, 167, 0, 7] := bL_of (by decide +kernel)
def dX12_first_0 := dk42 (k := 0) bX12_first_0 rfl
def dX12_first_1 := dk182 (k := 1) (x := 73) bX12_first_0 rfl rfl
def dX12_first_4 := dk154 (k := 4) (x := 6) bX12_first_0 rfl (by decide)
def dX12_first_7 := dk16 (k := 7) (x := (-2)) bX12_first_0 rfl (by decide)
def dX12_first_9 := dk172 (k := 9) bX12_first_0 rfl
def dX12_first_10 := dk42 (k := 10) bX12_first_0 rfl
def dX12_first_11 := dk182 (k := 11) (x := 276) bX12_first_0 rfl rfl
def dX12_first_14 := dk60 (k := 14) bX12_first_0 rfl
def dX12_first_15 := dk27 (k := 15) bX12_first_0 rfl
def dX12_first_16 := dk2 (k := 16) bX12_first_0 rfl
def dX12_first_17 := dk160 (k := 17) (x := 7) bX12_first_0 rfl (by decide)
def dX12_first_20 := dk2 (k := 20) bX12_first_0 rfl
def dX12_first_21 := dk167 (k := 21) (x := 7) bX12_first_0 rfl (by decide)
theorem bX12_first_24 : bL cX12_first 24 [27, 184, 0, 229, 172] := bL_of (by decide +kernel)
def dX12_first_24 := dk27 (k := 0) bX12_first_24 rfl
def dX12_first_25 := dk184 (k := 1) (x := 229) bX12_first_24 rfl rfl
def dX12_first_28 := dk172 (k := 4) bX12_first_24 rfl
theorem bX12_firsts_0 : bL cX12_firsts 0 [42, 182, 0, 73, 153, 0, 10, 42, 182, 1, 20, 167, 0, 5, 16, 254, 172] := bL_of (by decide +kernel)
def dX12_firsts_0 := dk42 (k := 0) bX12_firsts_0 rfl
def dX12_firsts_1 := dk182 (k := 1) (x := 73) bX12_firsts_0 rfl rfl
def dX12_firsts_4 := dk153 (k := 4) (x := 10) bX12_firsts_0 rfl (by decide)
def dX12_firsts_7 := dk42 (k := 7) bX12_firsts_0 rfl
def dX12_firsts_8 := dk182 (k := 8) (x := 276) bX12_firsts_0 rfl rfl
def dX12_firsts_11 := dk167 (k := 11) (x := 5) bX12_firsts_0 rfl (by decide)
def dX12_firsts_14 := dk16 (k := 14) (x := (-2)) bX12_firsts_0 rfl (by decide)
def dX12_firsts_16 := dk172 (k := 16) bX12_firsts_0 rfl
theorem bX12_next_0 : bL cX12_next 0 [42, 27, 182, 1, 10, 154, 0, 6, 16, 254, 172, 42, 182, 0, 240, 42, 182, 1, 7, 27, 128, 61, 42, 42] := bL_of (by decide +kernel)
def dX12_next_0 := dk42 (k := 0) bX12_next_0 rfl
def dX12_next_1 := dk27 (k := 1) bX12_next_0 rfl
def dX12_next_2 := dk182 (k := 2) (x := 266) bX12_next_0 rfl rfl
def dX12_next_5 := dk154 (k := 5) (x := 6) bX12_next_0 rfl (by decide)
def dX12_next_8 := dk16 (k := 8) (x := (-2)) bX12_next_0 rfl (by decide)
def dX12_next_10 := dk172 (k := 10) bX12_next_0 rfl
def dX12_next_11 := dk42 (k := 11) bX12_next_0 rfl
def dX12_next_12 := dk182 (k := 12) (x := 240) bX12_next_0 rfl rfl
def dX12_next_15 := dk42 (k := 15) bX12_next_0 rfl
def dX12_next_16 := dk182 (k := 16) (x := 263) bX12_next_0 rfl rfl
def dX12_next_19 := dk27 (k := 19) bX12_next_0 rfl
def dX12_next_20 := dk128 (k := 20) bX12_next_0 rfl
def dX12_next_21 := dk61 (k := 21) bX12_next_0 rfl
def dX12_next_22 := dk42 (k := 22) bX12_next_0 rfl
def dX12_next_23 := dk42 (k := 23) bX12_next_0 rfl
theorem bX12_next_24 : bL cX12_next 24 [28, 3, 182, 1, 14, 182, 1, 4, 62, 2, 54, 4, 3, 54, 5, 21, 5, 42, 180, 0, 9, 16, 6, 46] := bL_of (by decide +kernel)
def dX12_next_24 := dk28 (k := 0) bX12_next_24 rfl
def dX12_next_25 := dk3 (k := 1) bX12_next_24 rfl
def dX12_next_26 := dk182 (k := 2) (x := 270) bX12_next_24 rfl rfl
def dX12_next_29 := dk182 (k := 5) (x := 260) bX12_next_24 rfl rfl
def dX12_next_32 := dk62 (k := 8) bX12_next_24 rfl
def dX12_next_33 := dk2 (k := 9) bX12_next_24 rfl
def dX12_next_34 := dk54 (k := 10) (x := 4) bX12_next_24 rfl rfl
def dX12_next_36 := dk3 (k := 12) bX12_next_24 rfl
def dX12_next_37 := dk54 (k := 13) (x := 5) bX12_next_24 rfl rfl
def dX12_next_39 := dk21 (k := 15) (x := 5) bX12_next_24 rfl rfl
def dX12_next_41 := dk42 (k := 17) bX12_next_24 rfl
def dX12_next_42 := dk180 (k := 18) (x := 9) bX12_next_24 rfl rfl
def dX12_next_45 := dk16 (k := 21) (x := 6) bX12_next_24 rfl (by decide)
def dX12_next_47 := dk46 (k := 23) bX12_next_24 rfl
theorem bX12_next_48 : bL cX12_next 48 [162, 0, 42, 42, 42, 28, 4, 21, 5, 120, 128, 3, 182, 1, 14, 182, 1, 4, 54, 6, 21, 6, 29, 163, 0, 6] := bL_of (by decide +kernel)
def dX12_next_48 := dk162 (k := 0) (x := 42) bX12_next_48 rfl (by decide)
def dX12_next_51 := dk42 (k := 3) bX12_next_48 rfl
def dX12_next_52 := dk42 (k := 4) bX12_next_48 rfl
def dX12_next_53 := dk28 (k := 5) bX12_next_48 rfl
def dX12_next_54 := dk4 (k := 6) bX12_next_48 rfl
def dX12_next_55 := dk21 (k := 7) (x := 5) bX12_next_48 rfl rfl
def dX12_next_57 := dk120 (k := 9) bX12_next_48 rfl
def dX12_next_58 := dk128 (k := 10) bX12_next_48 rfl
def dX12_next_59 := dk3 (k := 11) bX12_next_48 rfl
def dX12_next_60 := dk182 (k := 12) (x := 270) bX12_next_48 rfl rfl
def dX12_next_63 := dk182 (k := 15) (x := 260) bX12_next_48 rfl rfl
def dX12_next_66 := dk54 (k := 18) (x := 6) bX12_next_48 rfl rfl
def dX12_next_68 := dk21 (k := 20) (x := 6) bX12_next_48 rfl rfl
def dX12_next_70 := dk29 (k := 22) bX12_next_48 rfl
def dX12_next_71 := dk163 (k := 23) (x := 6) bX12_next_48 rfl (by decide)
theorem bX12_next_74 : bL cX12_next 74 [167, 0, 10, 21, 6, 62, 21, 5, 54, 4, 132, 5, 1, 167, 255, 208, 21, 4, 172] := bL_of (by decide +kernel)
def dX12_next_74 := dk167 (k := 0) (x := 10) bX12_next_74 rfl (by decide)
def dX12_next_77 := dk21 (k := 3) (x := 6) bX12_next_74 rfl rfl
def dX12_next_79 := dk62 (k := 5) bX12_next_74 rfl
def dX12_next_80 := dk21 (k := 6) (x := 5) bX12_next_74 rfl rfl
def dX12_next_82 := dk54 (k := 8) (x := 4) bX12_next_74 rfl rfl
theorem dX12_next_84 : decode cX12_next 84 = .ok (.iinc 5 1, 3) := dk132 (k := 10) bX12_next_74 rfl rfl (by decide)
def dX12_next_87 := dk167 (k := 13) (x := (-48)) bX12_next_74 rfl (by decide)
def dX12_next_90 := dk21 (k := 16) (x := 4) bX12_next_74 rfl rfl
def dX12_next_92 := dk172 (k := 18) bX12_next_74 rfl
theorem bX12_needed_0 : bL cX12_needed 0 [42, 182, 0, 73, 154, 0, 6, 16, 254, 172, 42, 182, 0, 240, 42, 182, 1, 7, 60, 42, 42, 27, 3, 182, 1, 14] := bL_of (by decide +kernel)
def dX12_needed_0 := dk42 (k := 0) bX12_needed_0 rfl
def dX12_needed_1 := dk182 (k := 1) (x := 73) bX12_needed_0 rfl rfl
def dX12_needed_4 := dk154 (k := 4) (x := 6) bX12_needed_0 rfl (by decide)
def dX12_needed_7 := dk16 (k := 7) (x := (-2)) bX12_needed_0 rfl (by decide)
def dX12_needed_9 := dk172 (k := 9) bX12_needed_0 rfl
def dX12_needed_10 := dk42 (k := 10) bX12_needed_0 rfl
def dX12_needed_11 := dk182 (k := 11) (x := 240) bX12_needed_0 rfl rfl
def dX12_needed_14 := dk42 (k := 14) bX12_needed_0 rfl
def dX12_needed_15 := dk182 (k := 15) (x := 263) bX12_needed_0 rfl rfl
def dX12_needed_18 := dk60 (k := 18) bX12_needed_0 rfl
def dX12_needed_19 := dk42 (k := 19) bX12_needed_0 rfl
def dX12_needed_20 := dk42 (k := 20) bX12_needed_0 rfl
def dX12_needed_21 := dk27 (k := 21) bX12_needed_0 rfl
def dX12_needed_22 := dk3 (k := 22) bX12_needed_0 rfl
def dX12_needed_23 := dk182 (k := 23) (x := 270) bX12_needed_0 rfl rfl
theorem bX12_needed_26 : bL cX12_needed 26 [182, 1, 17, 154, 0, 5, 3, 172, 3, 61, 3, 62, 29, 42, 180, 0, 9, 16, 6, 46, 162, 0, 34, 28] := bL_of (by decide +kernel)
def dX12_needed_26 := dk182 (k := 0) (x := 273) bX12_needed_26 rfl rfl
def dX12_needed_29 := dk154 (k := 3) (x := 5) bX12_needed_26 rfl (by decide)
def dX12_needed_32 := dk3 (k := 6) bX12_needed_26 rfl
def dX12_needed_33 := dk172 (k := 7) bX12_needed_26 rfl
def dX12_needed_34 := dk3 (k := 8) bX12_needed_26 rfl
def dX12_needed_35 := dk61 (k := 9) bX12_needed_26 rfl
def dX12_needed_36 := dk3 (k := 10) bX12_needed_26 rfl
def dX12_needed_37 := dk62 (k := 11) bX12_needed_26 rfl
def dX12_needed_38 := dk29 (k := 12) bX12_needed_26 rfl
def dX12_needed_39 := dk42 (k := 13) bX12_needed_26 rfl
def dX12_needed_40 := dk180 (k := 14) (x := 9) bX12_needed_26 rfl rfl
def dX12_needed_43 := dk16 (k := 17) (x := 6) bX12_needed_26 rfl (by decide)
def dX12_needed_45 := dk46 (k := 19) bX12_needed_26 rfl
def dX12_needed_46 := dk162 (k := 20) (x := 34) bX12_needed_26 rfl (by decide)
def dX12_needed_49 := dk28 (k := 23) bX12_needed_26 rfl
theorem bX12_needed_50 : bL cX12_needed 50 [42, 42, 27, 4, 29, 120, 182, 1, 14, 182, 1, 17, 153, 0, 7, 3, 167, 0, 6, 4, 29, 120, 128, 61] := bL_of (by decide +kernel)
def dX12_needed_50 := dk42 (k := 0) bX12_needed_50 rfl
def dX12_needed_51 := dk42 (k := 1) bX12_needed_50 rfl
def dX12_needed_52 := dk27 (k := 2) bX12_needed_50 rfl
def dX12_needed_53 := dk4 (k := 3) bX12_needed_50 rfl
def dX12_needed_54 := dk29 (k := 4) bX12_needed_50 rfl
def dX12_needed_55 := dk120 (k := 5) bX12_needed_50 rfl
def dX12_needed_56 := dk182 (k := 6) (x := 270) bX12_needed_50 rfl rfl
def dX12_needed_59 := dk182 (k := 9) (x := 273) bX12_needed_50 rfl rfl
def dX12_needed_62 := dk153 (k := 12) (x := 7) bX12_needed_50 rfl (by decide)
def dX12_needed_65 := dk3 (k := 15) bX12_needed_50 rfl
def dX12_needed_66 := dk167 (k := 16) (x := 6) bX12_needed_50 rfl (by decide)
def dX12_needed_69 := dk4 (k := 19) bX12_needed_50 rfl
def dX12_needed_70 := dk29 (k := 20) bX12_needed_50 rfl
def dX12_needed_71 := dk120 (k := 21) bX12_needed_50 rfl
def dX12_needed_72 := dk128 (k := 22) bX12_needed_50 rfl
def dX12_needed_73 := dk61 (k := 23) bX12_needed_50 rfl
theorem bX12_needed_74 : bL cX12_needed 74 [132, 3, 1, 167, 255, 217, 28, 172] := bL_of (by decide +kernel)
theorem dX12_needed_74 : decode cX12_needed 74 = .ok (.iinc 3 1, 3) := dk132 (k := 0) bX12_needed_74 rfl rfl (by decide)
def dX12_needed_77 := dk167 (k := 3) (x := (-39)) bX12_needed_74 rfl (by decide)
def dX12_needed_80 := dk28 (k := 6) bX12_needed_74 rfl
def dX12_needed_81 := dk172 (k := 7) bX12_needed_74 rfl
theorem bX12_pair_0 : bL cX12_pair 0 [17, 1, 0, 26, 104, 27, 96, 172] := bL_of (by decide +kernel)
def dX12_pair_0 := dk17 (k := 0) (x := 256) bX12_pair_0 rfl (by decide)
def dX12_pair_3 := dk26 (k := 3) bX12_pair_0 rfl
def dX12_pair_4 := dk104 (k := 4) bX12_pair_0 rfl
def dX12_pair_5 := dk27 (k := 5) bX12_pair_0 rfl
def dX12_pair_6 := dk96 (k := 6) bX12_pair_0 rfl
def dX12_pair_7 := dk172 (k := 7) bX12_pair_0 rfl
theorem bX12_isWinners_0 : bL cX12_isWinners 0 [26, 5, 112, 27, 160, 0, 7, 4, 167, 0, 4, 3, 172] := bL_of (by decide +kernel)
def dX12_isWinners_0 := dk26 (k := 0) bX12_isWinners_0 rfl
def dX12_isWinners_1 := dk5 (k := 1) bX12_isWinners_0 rfl
def dX12_isWinners_2 := dk112 (k := 2) bX12_isWinners_0 rfl
def dX12_isWinners_3 := dk27 (k := 3) bX12_isWinners_0 rfl
def dX12_isWinners_4 := dk160 (k := 4) (x := 7) bX12_isWinners_0 rfl (by decide)
def dX12_isWinners_7 := dk4 (k := 7) bX12_isWinners_0 rfl
def dX12_isWinners_8 := dk167 (k := 8) (x := 4) bX12_isWinners_0 rfl (by decide)
def dX12_isWinners_11 := dk3 (k := 11) bX12_isWinners_0 rfl
def dX12_isWinners_12 := dk172 (k := 12) bX12_isWinners_0 rfl
theorem bX12_endBy_0 : bL cX12_endBy 0 [27, 184, 0, 229, 28, 184, 0, 229, 96, 54, 6, 21, 6, 5, 29, 104, 42, 180, 0, 9, 16, 6, 46, 184, 0, 112] := bL_of (by decide +kernel)
def dX12_endBy_0 := dk27 (k := 0) bX12_endBy_0 rfl
def dX12_endBy_1 := dk184 (k := 1) (x := 229) bX12_endBy_0 rfl rfl
def dX12_endBy_4 := dk28 (k := 4) bX12_endBy_0 rfl
def dX12_endBy_5 := dk184 (k := 5) (x := 229) bX12_endBy_0 rfl rfl
def dX12_endBy_8 := dk96 (k := 8) bX12_endBy_0 rfl
def dX12_endBy_9 := dk54 (k := 9) (x := 6) bX12_endBy_0 rfl rfl
def dX12_endBy_11 := dk21 (k := 11) (x := 6) bX12_endBy_0 rfl rfl
def dX12_endBy_13 := dk5 (k := 13) bX12_endBy_0 rfl
def dX12_endBy_14 := dk29 (k := 14) bX12_endBy_0 rfl
def dX12_endBy_15 := dk104 (k := 15) bX12_endBy_0 rfl
def dX12_endBy_16 := dk42 (k := 16) bX12_endBy_0 rfl
def dX12_endBy_17 := dk180 (k := 17) (x := 9) bX12_endBy_0 rfl rfl
def dX12_endBy_20 := dk16 (k := 20) (x := 6) bX12_endBy_0 rfl (by decide)
def dX12_endBy_22 := dk46 (k := 22) bX12_endBy_0 rfl
def dX12_endBy_23 := dk184 (k := 23) (x := 112) bX12_endBy_0 rfl rfl
theorem bX12_endBy_26 : bL cX12_endBy 26 [161, 0, 17, 42, 42, 21, 5, 27, 128, 28, 182, 1, 14, 182, 1, 17, 172, 21, 6, 21, 4, 184, 1, 23] := bL_of (by decide +kernel)
def dX12_endBy_26 := dk161 (k := 0) (x := 17) bX12_endBy_26 rfl (by decide)
def dX12_endBy_29 := dk42 (k := 3) bX12_endBy_26 rfl
def dX12_endBy_30 := dk42 (k := 4) bX12_endBy_26 rfl
def dX12_endBy_31 := dk21 (k := 5) (x := 5) bX12_endBy_26 rfl rfl
def dX12_endBy_33 := dk27 (k := 7) bX12_endBy_26 rfl
def dX12_endBy_34 := dk128 (k := 8) bX12_endBy_26 rfl
def dX12_endBy_35 := dk28 (k := 9) bX12_endBy_26 rfl
def dX12_endBy_36 := dk182 (k := 10) (x := 270) bX12_endBy_26 rfl rfl
def dX12_endBy_39 := dk182 (k := 13) (x := 273) bX12_endBy_26 rfl rfl
def dX12_endBy_42 := dk172 (k := 16) bX12_endBy_26 rfl
def dX12_endBy_43 := dk21 (k := 17) (x := 6) bX12_endBy_26 rfl rfl
def dX12_endBy_45 := dk21 (k := 19) (x := 4) bX12_endBy_26 rfl rfl
def dX12_endBy_47 := dk184 (k := 21) (x := 279) bX12_endBy_26 rfl rfl
theorem bX12_endBy_50 : bL cX12_endBy 50 [54, 7, 3, 54, 8, 21, 8, 42, 180, 0, 9, 16, 6, 46, 162, 0, 74, 27, 28, 128, 21, 8, 184, 1, 1] := bL_of (by decide +kernel)
def dX12_endBy_50 := dk54 (k := 0) (x := 7) bX12_endBy_50 rfl rfl
def dX12_endBy_52 := dk3 (k := 2) bX12_endBy_50 rfl
def dX12_endBy_53 := dk54 (k := 3) (x := 8) bX12_endBy_50 rfl rfl
def dX12_endBy_55 := dk21 (k := 5) (x := 8) bX12_endBy_50 rfl rfl
def dX12_endBy_57 := dk42 (k := 7) bX12_endBy_50 rfl
def dX12_endBy_58 := dk180 (k := 8) (x := 9) bX12_endBy_50 rfl rfl
def dX12_endBy_61 := dk16 (k := 11) (x := 6) bX12_endBy_50 rfl (by decide)
def dX12_endBy_63 := dk46 (k := 13) bX12_endBy_50 rfl
def dX12_endBy_64 := dk162 (k := 14) (x := 74) bX12_endBy_50 rfl (by decide)
def dX12_endBy_67 := dk27 (k := 17) bX12_endBy_50 rfl
def dX12_endBy_68 := dk28 (k := 18) bX12_endBy_50 rfl
def dX12_endBy_69 := dk128 (k := 19) bX12_endBy_50 rfl
def dX12_endBy_70 := dk21 (k := 20) (x := 8) bX12_endBy_50 rfl rfl
def dX12_endBy_72 := dk184 (k := 22) (x := 257) bX12_endBy_50 rfl rfl
theorem bX12_endBy_75 : bL cX12_endBy 75 [4, 160, 0, 6, 167, 0, 53, 21, 7, 153, 0, 21, 42, 180, 0, 38, 27, 4, 21, 8, 120, 128, 28, 184, 1, 26] := bL_of (by decide +kernel)
def dX12_endBy_75 := dk4 (k := 0) bX12_endBy_75 rfl
def dX12_endBy_76 := dk160 (k := 1) (x := 6) bX12_endBy_75 rfl (by decide)
def dX12_endBy_79 := dk167 (k := 4) (x := 53) bX12_endBy_75 rfl (by decide)
def dX12_endBy_82 := dk21 (k := 7) (x := 7) bX12_endBy_75 rfl rfl
def dX12_endBy_84 := dk153 (k := 9) (x := 21) bX12_endBy_75 rfl (by decide)
def dX12_endBy_87 := dk42 (k := 12) bX12_endBy_75 rfl
def dX12_endBy_88 := dk180 (k := 13) (x := 38) bX12_endBy_75 rfl rfl
def dX12_endBy_91 := dk27 (k := 16) bX12_endBy_75 rfl
def dX12_endBy_92 := dk4 (k := 17) bX12_endBy_75 rfl
def dX12_endBy_93 := dk21 (k := 18) (x := 8) bX12_endBy_75 rfl rfl
def dX12_endBy_95 := dk120 (k := 20) bX12_endBy_75 rfl
def dX12_endBy_96 := dk128 (k := 21) bX12_endBy_75 rfl
def dX12_endBy_97 := dk28 (k := 22) bX12_endBy_75 rfl
def dX12_endBy_98 := dk184 (k := 23) (x := 282) bX12_endBy_75 rfl rfl
theorem bX12_endBy_101 : bL cX12_endBy 101 [51, 167, 0, 18, 42, 180, 0, 38, 27, 28, 4, 21, 8, 120, 128, 184, 1, 26, 51, 54, 9, 21, 9, 21, 7] := bL_of (by decide +kernel)
def dX12_endBy_101 := dk51 (k := 0) bX12_endBy_101 rfl
def dX12_endBy_102 := dk167 (k := 1) (x := 18) bX12_endBy_101 rfl (by decide)
def dX12_endBy_105 := dk42 (k := 4) bX12_endBy_101 rfl
def dX12_endBy_106 := dk180 (k := 5) (x := 38) bX12_endBy_101 rfl rfl
def dX12_endBy_109 := dk27 (k := 8) bX12_endBy_101 rfl
def dX12_endBy_110 := dk28 (k := 9) bX12_endBy_101 rfl
def dX12_endBy_111 := dk4 (k := 10) bX12_endBy_101 rfl
def dX12_endBy_112 := dk21 (k := 11) (x := 8) bX12_endBy_101 rfl rfl
def dX12_endBy_114 := dk120 (k := 13) bX12_endBy_101 rfl
def dX12_endBy_115 := dk128 (k := 14) bX12_endBy_101 rfl
def dX12_endBy_116 := dk184 (k := 15) (x := 282) bX12_endBy_101 rfl rfl
def dX12_endBy_119 := dk51 (k := 18) bX12_endBy_101 rfl
def dX12_endBy_120 := dk54 (k := 19) (x := 9) bX12_endBy_101 rfl rfl
def dX12_endBy_122 := dk21 (k := 21) (x := 9) bX12_endBy_101 rfl rfl
def dX12_endBy_124 := dk21 (k := 23) (x := 7) bX12_endBy_101 rfl rfl
theorem bX12_endBy_126 : bL cX12_endBy 126 [160, 0, 6, 21, 7, 172, 132, 8, 1, 167, 255, 176, 21, 7, 154, 0, 7, 4, 167, 0, 4, 3, 172] := bL_of (by decide +kernel)
def dX12_endBy_126 := dk160 (k := 0) (x := 6) bX12_endBy_126 rfl (by decide)
def dX12_endBy_129 := dk21 (k := 3) (x := 7) bX12_endBy_126 rfl rfl
def dX12_endBy_131 := dk172 (k := 5) bX12_endBy_126 rfl
theorem dX12_endBy_132 : decode cX12_endBy 132 = .ok (.iinc 8 1, 3) := dk132 (k := 6) bX12_endBy_126 rfl rfl (by decide)
def dX12_endBy_135 := dk167 (k := 9) (x := (-80)) bX12_endBy_126 rfl (by decide)
def dX12_endBy_138 := dk21 (k := 12) (x := 7) bX12_endBy_126 rfl rfl
def dX12_endBy_140 := dk154 (k := 14) (x := 7) bX12_endBy_126 rfl (by decide)
def dX12_endBy_143 := dk4 (k := 17) bX12_endBy_126 rfl
def dX12_endBy_144 := dk167 (k := 18) (x := 4) bX12_endBy_126 rfl (by decide)
def dX12_endBy_147 := dk3 (k := 21) bX12_endBy_126 rfl
def dX12_endBy_148 := dk172 (k := 22) bX12_endBy_126 rfl
theorem bX12_playBy_0 : bL cX12_playBy 0 [42, 182, 0, 240, 42, 182, 1, 7, 62, 42, 182, 0, 77, 54, 4, 21, 4, 155, 0, 57, 42, 182, 0, 77] := bL_of (by decide +kernel)
def dX12_playBy_0 := dk42 (k := 0) bX12_playBy_0 rfl
def dX12_playBy_1 := dk182 (k := 1) (x := 240) bX12_playBy_0 rfl rfl
def dX12_playBy_4 := dk42 (k := 4) bX12_playBy_0 rfl
def dX12_playBy_5 := dk182 (k := 5) (x := 263) bX12_playBy_0 rfl rfl
def dX12_playBy_8 := dk62 (k := 8) bX12_playBy_0 rfl
def dX12_playBy_9 := dk42 (k := 9) bX12_playBy_0 rfl
def dX12_playBy_10 := dk182 (k := 10) (x := 77) bX12_playBy_0 rfl rfl
def dX12_playBy_13 := dk54 (k := 13) (x := 4) bX12_playBy_0 rfl rfl
def dX12_playBy_15 := dk21 (k := 15) (x := 4) bX12_playBy_0 rfl rfl
def dX12_playBy_17 := dk155 (k := 17) (x := 57) bX12_playBy_0 rfl (by decide)
def dX12_playBy_20 := dk42 (k := 20) bX12_playBy_0 rfl
def dX12_playBy_21 := dk182 (k := 21) (x := 77) bX12_playBy_0 rfl rfl
theorem bX12_playBy_24 : bL cX12_playBy 24 [54, 5, 21, 5, 155, 0, 40, 21, 4, 21, 5, 126, 154, 0, 26, 42, 180, 0, 38, 21, 4, 21, 5, 184, 1, 26] := bL_of (by decide +kernel)
def dX12_playBy_24 := dk54 (k := 0) (x := 5) bX12_playBy_24 rfl rfl
def dX12_playBy_26 := dk21 (k := 2) (x := 5) bX12_playBy_24 rfl rfl
def dX12_playBy_28 := dk155 (k := 4) (x := 40) bX12_playBy_24 rfl (by decide)
def dX12_playBy_31 := dk21 (k := 7) (x := 4) bX12_playBy_24 rfl rfl
def dX12_playBy_33 := dk21 (k := 9) (x := 5) bX12_playBy_24 rfl rfl
def dX12_playBy_35 := dk126 (k := 11) bX12_playBy_24 rfl
def dX12_playBy_36 := dk154 (k := 12) (x := 26) bX12_playBy_24 rfl (by decide)
def dX12_playBy_39 := dk42 (k := 15) bX12_playBy_24 rfl
def dX12_playBy_40 := dk180 (k := 16) (x := 38) bX12_playBy_24 rfl rfl
def dX12_playBy_43 := dk21 (k := 19) (x := 4) bX12_playBy_24 rfl rfl
def dX12_playBy_45 := dk21 (k := 21) (x := 5) bX12_playBy_24 rfl rfl
def dX12_playBy_47 := dk184 (k := 23) (x := 282) bX12_playBy_24 rfl rfl
theorem bX12_playBy_50 : bL cX12_playBy 50 [42, 21, 4, 21, 5, 27, 28, 29, 182, 1, 29, 84, 132, 5, 255, 167, 255, 217, 132, 4, 255, 167, 255, 200] := bL_of (by decide +kernel)
def dX12_playBy_50 := dk42 (k := 0) bX12_playBy_50 rfl
def dX12_playBy_51 := dk21 (k := 1) (x := 4) bX12_playBy_50 rfl rfl
def dX12_playBy_53 := dk21 (k := 3) (x := 5) bX12_playBy_50 rfl rfl
def dX12_playBy_55 := dk27 (k := 5) bX12_playBy_50 rfl
def dX12_playBy_56 := dk28 (k := 6) bX12_playBy_50 rfl
def dX12_playBy_57 := dk29 (k := 7) bX12_playBy_50 rfl
def dX12_playBy_58 := dk182 (k := 8) (x := 285) bX12_playBy_50 rfl rfl
def dX12_playBy_61 := dk84 (k := 11) bX12_playBy_50 rfl
theorem dX12_playBy_62 : decode cX12_playBy 62 = .ok (.iinc 5 (-1), 3) := dk132 (k := 12) bX12_playBy_50 rfl rfl (by decide)
def dX12_playBy_65 := dk167 (k := 15) (x := (-39)) bX12_playBy_50 rfl (by decide)
theorem dX12_playBy_68 : decode cX12_playBy 68 = .ok (.iinc 4 (-1), 3) := dk132 (k := 18) bX12_playBy_50 rfl rfl (by decide)
def dX12_playBy_71 := dk167 (k := 21) (x := (-56)) bX12_playBy_50 rfl (by decide)
theorem bX12_playBy_74 : bL cX12_playBy 74 [42, 180, 0, 38, 3, 51, 172] := bL_of (by decide +kernel)
def dX12_playBy_74 := dk42 (k := 0) bX12_playBy_74 rfl
def dX12_playBy_75 := dk180 (k := 1) (x := 38) bX12_playBy_74 rfl rfl
def dX12_playBy_78 := dk3 (k := 4) bX12_playBy_74 rfl
def dX12_playBy_79 := dk51 (k := 5) bX12_playBy_74 rfl
def dX12_playBy_80 := dk172 (k := 6) bX12_playBy_74 rfl
theorem bX12_play_0 : bL cX12_play 0 [42, 182, 0, 73, 153, 0, 42, 27, 133, 9, 20, 1, 33, 184, 0, 65, 153, 0, 30, 28, 133, 9, 10, 184, 0, 65] := bL_of (by decide +kernel)
def dX12_play_0 := dk42 (k := 0) bX12_play_0 rfl
def dX12_play_1 := dk182 (k := 1) (x := 73) bX12_play_0 rfl rfl
def dX12_play_4 := dk153 (k := 4) (x := 42) bX12_play_0 rfl (by decide)
def dX12_play_7 := dk27 (k := 7) bX12_play_0 rfl
def dX12_play_8 := dk133 (k := 8) bX12_play_0 rfl
def dX12_play_9 := dk9 (k := 9) bX12_play_0 rfl
def dX12_play_10 := dk20 (k := 10) (x := 289) bX12_play_0 rfl rfl
def dX12_play_13 := dk184 (k := 13) (x := 65) bX12_play_0 rfl rfl
def dX12_play_16 := dk153 (k := 16) (x := 30) bX12_play_0 rfl (by decide)
def dX12_play_19 := dk28 (k := 19) bX12_play_0 rfl
def dX12_play_20 := dk133 (k := 20) bX12_play_0 rfl
def dX12_play_21 := dk9 (k := 21) bX12_play_0 rfl
def dX12_play_22 := dk10 (k := 22) bX12_play_0 rfl
def dX12_play_23 := dk184 (k := 23) (x := 65) bX12_play_0 rfl rfl
theorem bX12_play_26 : bL cX12_play 26 [153, 0, 20, 42, 27, 28, 182, 1, 35, 153, 0, 7, 4, 167, 0, 9, 3, 167, 0, 5, 16, 254, 172] := bL_of (by decide +kernel)
def dX12_play_26 := dk153 (k := 0) (x := 20) bX12_play_26 rfl (by decide)
def dX12_play_29 := dk42 (k := 3) bX12_play_26 rfl
def dX12_play_30 := dk27 (k := 4) bX12_play_26 rfl
def dX12_play_31 := dk28 (k := 5) bX12_play_26 rfl
def dX12_play_32 := dk182 (k := 6) (x := 291) bX12_play_26 rfl rfl
def dX12_play_35 := dk153 (k := 9) (x := 7) bX12_play_26 rfl (by decide)
def dX12_play_38 := dk4 (k := 12) bX12_play_26 rfl
def dX12_play_39 := dk167 (k := 13) (x := 9) bX12_play_26 rfl (by decide)
def dX12_play_42 := dk3 (k := 16) bX12_play_26 rfl
def dX12_play_43 := dk167 (k := 17) (x := 5) bX12_play_26 rfl (by decide)
def dX12_play_46 := dk16 (k := 20) (x := (-2)) bX12_play_26 rfl (by decide)
def dX12_play_48 := dk172 (k := 22) bX12_play_26 rfl
theorem bX12_moves_0 : bL cX12_moves 0 [42, 182, 0, 73, 153, 0, 25, 27, 133, 9, 20, 1, 33, 184, 0, 65, 153, 0, 13, 28, 133, 9, 10, 184, 0, 65] := bL_of (by decide +kernel)
def dX12_moves_0 := dk42 (k := 0) bX12_moves_0 rfl
def dX12_moves_1 := dk182 (k := 1) (x := 73) bX12_moves_0 rfl rfl
def dX12_moves_4 := dk153 (k := 4) (x := 25) bX12_moves_0 rfl (by decide)
def dX12_moves_7 := dk27 (k := 7) bX12_moves_0 rfl
def dX12_moves_8 := dk133 (k := 8) bX12_moves_0 rfl
def dX12_moves_9 := dk9 (k := 9) bX12_moves_0 rfl
def dX12_moves_10 := dk20 (k := 10) (x := 289) bX12_moves_0 rfl rfl
def dX12_moves_13 := dk184 (k := 13) (x := 65) bX12_moves_0 rfl rfl
def dX12_moves_16 := dk153 (k := 16) (x := 13) bX12_moves_0 rfl (by decide)
def dX12_moves_19 := dk28 (k := 19) bX12_moves_0 rfl
def dX12_moves_20 := dk133 (k := 20) bX12_moves_0 rfl
def dX12_moves_21 := dk9 (k := 21) bX12_moves_0 rfl
def dX12_moves_22 := dk10 (k := 22) bX12_moves_0 rfl
def dX12_moves_23 := dk184 (k := 23) (x := 65) bX12_moves_0 rfl rfl
theorem bX12_moves_26 : bL cX12_moves 26 [154, 0, 6, 16, 254, 172, 27, 153, 0, 13, 42, 180, 0, 9, 16, 6, 46, 154, 0, 5, 2, 172, 42, 27] := bL_of (by decide +kernel)
def dX12_moves_26 := dk154 (k := 0) (x := 6) bX12_moves_26 rfl (by decide)
def dX12_moves_29 := dk16 (k := 3) (x := (-2)) bX12_moves_26 rfl (by decide)
def dX12_moves_31 := dk172 (k := 5) bX12_moves_26 rfl
def dX12_moves_32 := dk27 (k := 6) bX12_moves_26 rfl
def dX12_moves_33 := dk153 (k := 7) (x := 13) bX12_moves_26 rfl (by decide)
def dX12_moves_36 := dk42 (k := 10) bX12_moves_26 rfl
def dX12_moves_37 := dk180 (k := 11) (x := 9) bX12_moves_26 rfl rfl
def dX12_moves_40 := dk16 (k := 14) (x := 6) bX12_moves_26 rfl (by decide)
def dX12_moves_42 := dk46 (k := 16) bX12_moves_26 rfl
def dX12_moves_43 := dk154 (k := 17) (x := 5) bX12_moves_26 rfl (by decide)
def dX12_moves_46 := dk2 (k := 20) bX12_moves_26 rfl
def dX12_moves_47 := dk172 (k := 21) bX12_moves_26 rfl
def dX12_moves_48 := dk42 (k := 22) bX12_moves_26 rfl
def dX12_moves_49 := dk27 (k := 23) bX12_moves_26 rfl
theorem bX12_moves_50 : bL cX12_moves 50 [28, 182, 1, 35, 87, 3, 28, 184, 1, 23, 62, 3, 54, 4, 21, 4, 42, 180, 0, 9, 16, 6, 46, 162, 0, 49] := bL_of (by decide +kernel)
def dX12_moves_50 := dk28 (k := 0) bX12_moves_50 rfl
def dX12_moves_51 := dk182 (k := 1) (x := 291) bX12_moves_50 rfl rfl
def dX12_moves_54 := dk87 (k := 4) bX12_moves_50 rfl
def dX12_moves_55 := dk3 (k := 5) bX12_moves_50 rfl
def dX12_moves_56 := dk28 (k := 6) bX12_moves_50 rfl
def dX12_moves_57 := dk184 (k := 7) (x := 279) bX12_moves_50 rfl rfl
def dX12_moves_60 := dk62 (k := 10) bX12_moves_50 rfl
def dX12_moves_61 := dk3 (k := 11) bX12_moves_50 rfl
def dX12_moves_62 := dk54 (k := 12) (x := 4) bX12_moves_50 rfl rfl
def dX12_moves_64 := dk21 (k := 14) (x := 4) bX12_moves_50 rfl rfl
def dX12_moves_66 := dk42 (k := 16) bX12_moves_50 rfl
def dX12_moves_67 := dk180 (k := 17) (x := 9) bX12_moves_50 rfl rfl
def dX12_moves_70 := dk16 (k := 20) (x := 6) bX12_moves_50 rfl (by decide)
def dX12_moves_72 := dk46 (k := 22) bX12_moves_50 rfl
def dX12_moves_73 := dk162 (k := 23) (x := 49) bX12_moves_50 rfl (by decide)
theorem bX12_moves_76 : bL cX12_moves 76 [29, 153, 0, 19, 42, 180, 0, 38, 4, 21, 4, 120, 3, 184, 1, 26, 51, 167, 0, 16, 42, 180, 0, 38] := bL_of (by decide +kernel)
def dX12_moves_76 := dk29 (k := 0) bX12_moves_76 rfl
def dX12_moves_77 := dk153 (k := 1) (x := 19) bX12_moves_76 rfl (by decide)
def dX12_moves_80 := dk42 (k := 4) bX12_moves_76 rfl
def dX12_moves_81 := dk180 (k := 5) (x := 38) bX12_moves_76 rfl rfl
def dX12_moves_84 := dk4 (k := 8) bX12_moves_76 rfl
def dX12_moves_85 := dk21 (k := 9) (x := 4) bX12_moves_76 rfl rfl
def dX12_moves_87 := dk120 (k := 11) bX12_moves_76 rfl
def dX12_moves_88 := dk3 (k := 12) bX12_moves_76 rfl
def dX12_moves_89 := dk184 (k := 13) (x := 282) bX12_moves_76 rfl rfl
def dX12_moves_92 := dk51 (k := 16) bX12_moves_76 rfl
def dX12_moves_93 := dk167 (k := 17) (x := 16) bX12_moves_76 rfl (by decide)
def dX12_moves_96 := dk42 (k := 20) bX12_moves_76 rfl
def dX12_moves_97 := dk180 (k := 21) (x := 38) bX12_moves_76 rfl rfl
theorem bX12_moves_100 : bL cX12_moves 100 [3, 4, 21, 4, 120, 184, 1, 26, 51, 29, 160, 0, 6, 21, 4, 172, 132, 4, 1, 167, 255, 201, 3, 172] := bL_of (by decide +kernel)
def dX12_moves_100 := dk3 (k := 0) bX12_moves_100 rfl
def dX12_moves_101 := dk4 (k := 1) bX12_moves_100 rfl
def dX12_moves_102 := dk21 (k := 2) (x := 4) bX12_moves_100 rfl rfl
def dX12_moves_104 := dk120 (k := 4) bX12_moves_100 rfl
def dX12_moves_105 := dk184 (k := 5) (x := 282) bX12_moves_100 rfl rfl
def dX12_moves_108 := dk51 (k := 8) bX12_moves_100 rfl
def dX12_moves_109 := dk29 (k := 9) bX12_moves_100 rfl
def dX12_moves_110 := dk160 (k := 10) (x := 6) bX12_moves_100 rfl (by decide)
def dX12_moves_113 := dk21 (k := 13) (x := 4) bX12_moves_100 rfl rfl
def dX12_moves_115 := dk172 (k := 15) bX12_moves_100 rfl
theorem dX12_moves_116 : decode cX12_moves 116 = .ok (.iinc 4 1, 3) := dk132 (k := 16) bX12_moves_100 rfl rfl (by decide)
def dX12_moves_119 := dk167 (k := 19) (x := (-55)) bX12_moves_100 rfl (by decide)
def dX12_moves_122 := dk3 (k := 22) bX12_moves_100 rfl
def dX12_moves_123 := dk172 (k := 23) bX12_moves_100 rfl
theorem bX12_steps_0 : bL cX12_steps 0 [28, 27, 100, 26, 27, 100, 28, 26, 100, 184, 0, 112, 96, 172] := bL_of (by decide +kernel)
def dX12_steps_0 := dk28 (k := 0) bX12_steps_0 rfl
def dX12_steps_1 := dk27 (k := 1) bX12_steps_0 rfl
def dX12_steps_2 := dk100 (k := 2) bX12_steps_0 rfl
def dX12_steps_3 := dk26 (k := 3) bX12_steps_0 rfl
def dX12_steps_4 := dk27 (k := 4) bX12_steps_0 rfl
def dX12_steps_5 := dk100 (k := 5) bX12_steps_0 rfl
def dX12_steps_6 := dk28 (k := 6) bX12_steps_0 rfl
def dX12_steps_7 := dk26 (k := 7) bX12_steps_0 rfl
def dX12_steps_8 := dk100 (k := 8) bX12_steps_0 rfl
def dX12_steps_9 := dk184 (k := 9) (x := 112) bX12_steps_0 rfl rfl
def dX12_steps_12 := dk96 (k := 12) bX12_steps_0 rfl
def dX12_steps_13 := dk172 (k := 13) bX12_steps_0 rfl
theorem bX12_namesOn_0 : bL cX12_namesOn 0 [3, 54, 6, 3, 54, 7, 21, 7, 42, 180, 0, 9, 16, 6, 46, 162, 0, 73, 21, 6, 27, 21, 7, 184, 1, 1] := bL_of (by decide +kernel)
def dX12_namesOn_0 := dk3 (k := 0) bX12_namesOn_0 rfl
def dX12_namesOn_1 := dk54 (k := 1) (x := 6) bX12_namesOn_0 rfl rfl
def dX12_namesOn_3 := dk3 (k := 3) bX12_namesOn_0 rfl
def dX12_namesOn_4 := dk54 (k := 4) (x := 7) bX12_namesOn_0 rfl rfl
def dX12_namesOn_6 := dk21 (k := 6) (x := 7) bX12_namesOn_0 rfl rfl
def dX12_namesOn_8 := dk42 (k := 8) bX12_namesOn_0 rfl
def dX12_namesOn_9 := dk180 (k := 9) (x := 9) bX12_namesOn_0 rfl rfl
def dX12_namesOn_12 := dk16 (k := 12) (x := 6) bX12_namesOn_0 rfl (by decide)
def dX12_namesOn_14 := dk46 (k := 14) bX12_namesOn_0 rfl
def dX12_namesOn_15 := dk162 (k := 15) (x := 73) bX12_namesOn_0 rfl (by decide)
def dX12_namesOn_18 := dk21 (k := 18) (x := 6) bX12_namesOn_0 rfl rfl
def dX12_namesOn_20 := dk27 (k := 20) bX12_namesOn_0 rfl
def dX12_namesOn_21 := dk21 (k := 21) (x := 7) bX12_namesOn_0 rfl rfl
def dX12_namesOn_23 := dk184 (k := 23) (x := 257) bX12_namesOn_0 rfl rfl
theorem bX12_namesOn_26 : bL cX12_namesOn 26 [4, 160, 0, 51, 42, 21, 7, 3, 182, 0, 220, 133, 28, 133, 29, 133, 184, 0, 65, 154, 0, 23, 42, 21, 7] := bL_of (by decide +kernel)
def dX12_namesOn_26 := dk4 (k := 0) bX12_namesOn_26 rfl
def dX12_namesOn_27 := dk160 (k := 1) (x := 51) bX12_namesOn_26 rfl (by decide)
def dX12_namesOn_30 := dk42 (k := 4) bX12_namesOn_26 rfl
def dX12_namesOn_31 := dk21 (k := 5) (x := 7) bX12_namesOn_26 rfl rfl
def dX12_namesOn_33 := dk3 (k := 7) bX12_namesOn_26 rfl
def dX12_namesOn_34 := dk182 (k := 8) (x := 220) bX12_namesOn_26 rfl rfl
def dX12_namesOn_37 := dk133 (k := 11) bX12_namesOn_26 rfl
def dX12_namesOn_38 := dk28 (k := 12) bX12_namesOn_26 rfl
def dX12_namesOn_39 := dk133 (k := 13) bX12_namesOn_26 rfl
def dX12_namesOn_40 := dk29 (k := 14) bX12_namesOn_26 rfl
def dX12_namesOn_41 := dk133 (k := 15) bX12_namesOn_26 rfl
def dX12_namesOn_42 := dk184 (k := 16) (x := 65) bX12_namesOn_26 rfl rfl
def dX12_namesOn_45 := dk154 (k := 19) (x := 23) bX12_namesOn_26 rfl (by decide)
def dX12_namesOn_48 := dk42 (k := 22) bX12_namesOn_26 rfl
def dX12_namesOn_49 := dk21 (k := 23) (x := 7) bX12_namesOn_26 rfl rfl
theorem bX12_namesOn_51 : bL cX12_namesOn 51 [3, 182, 0, 220, 133, 21, 4, 133, 21, 5, 133, 184, 0, 65, 153, 0, 13, 42, 21, 7, 4, 182, 0, 220] := bL_of (by decide +kernel)
def dX12_namesOn_51 := dk3 (k := 0) bX12_namesOn_51 rfl
def dX12_namesOn_52 := dk182 (k := 1) (x := 220) bX12_namesOn_51 rfl rfl
def dX12_namesOn_55 := dk133 (k := 4) bX12_namesOn_51 rfl
def dX12_namesOn_56 := dk21 (k := 5) (x := 4) bX12_namesOn_51 rfl rfl
def dX12_namesOn_58 := dk133 (k := 7) bX12_namesOn_51 rfl
def dX12_namesOn_59 := dk21 (k := 8) (x := 5) bX12_namesOn_51 rfl rfl
def dX12_namesOn_61 := dk133 (k := 10) bX12_namesOn_51 rfl
def dX12_namesOn_62 := dk184 (k := 11) (x := 65) bX12_namesOn_51 rfl rfl
def dX12_namesOn_65 := dk153 (k := 14) (x := 13) bX12_namesOn_51 rfl (by decide)
def dX12_namesOn_68 := dk42 (k := 17) bX12_namesOn_51 rfl
def dX12_namesOn_69 := dk21 (k := 18) (x := 7) bX12_namesOn_51 rfl rfl
def dX12_namesOn_71 := dk4 (k := 20) bX12_namesOn_51 rfl
def dX12_namesOn_72 := dk182 (k := 21) (x := 220) bX12_namesOn_51 rfl rfl
theorem bX12_namesOn_75 : bL cX12_namesOn 75 [167, 0, 4, 3, 96, 54, 6, 132, 7, 1, 167, 255, 177, 21, 6, 172] := bL_of (by decide +kernel)
def dX12_namesOn_75 := dk167 (k := 0) (x := 4) bX12_namesOn_75 rfl (by decide)
def dX12_namesOn_78 := dk3 (k := 3) bX12_namesOn_75 rfl
def dX12_namesOn_79 := dk96 (k := 4) bX12_namesOn_75 rfl
def dX12_namesOn_80 := dk54 (k := 5) (x := 6) bX12_namesOn_75 rfl rfl
theorem dX12_namesOn_82 : decode cX12_namesOn 82 = .ok (.iinc 7 1, 3) := dk132 (k := 7) bX12_namesOn_75 rfl rfl (by decide)
def dX12_namesOn_85 := dk167 (k := 10) (x := (-79)) bX12_namesOn_75 rfl (by decide)
def dX12_namesOn_88 := dk21 (k := 13) (x := 6) bX12_namesOn_75 rfl rfl
def dX12_namesOn_90 := dk172 (k := 15) bX12_namesOn_75 rfl
theorem bX12_roundOf_0 : bL cX12_roundOf 0 [42, 182, 0, 240, 42, 182, 1, 7, 62, 19, 1, 38, 54, 4, 3, 54, 5, 21, 5, 27, 163, 0, 84, 27] := bL_of (by decide +kernel)
def dX12_roundOf_0 := dk42 (k := 0) bX12_roundOf_0 rfl
def dX12_roundOf_1 := dk182 (k := 1) (x := 240) bX12_roundOf_0 rfl rfl
def dX12_roundOf_4 := dk42 (k := 4) bX12_roundOf_0 rfl
def dX12_roundOf_5 := dk182 (k := 5) (x := 263) bX12_roundOf_0 rfl rfl
def dX12_roundOf_8 := dk62 (k := 8) bX12_roundOf_0 rfl
def dX12_roundOf_9 := dk19 (k := 9) (x := 294) bX12_roundOf_0 rfl rfl
def dX12_roundOf_12 := dk54 (k := 12) (x := 4) bX12_roundOf_0 rfl rfl
def dX12_roundOf_14 := dk3 (k := 14) bX12_roundOf_0 rfl
def dX12_roundOf_15 := dk54 (k := 15) (x := 5) bX12_roundOf_0 rfl rfl
def dX12_roundOf_17 := dk21 (k := 17) (x := 5) bX12_roundOf_0 rfl rfl
def dX12_roundOf_19 := dk27 (k := 19) bX12_roundOf_0 rfl
def dX12_roundOf_20 := dk163 (k := 20) (x := 84) bX12_roundOf_0 rfl (by decide)
def dX12_roundOf_23 := dk27 (k := 23) bX12_roundOf_0 rfl
theorem bX12_roundOf_24 : bL cX12_roundOf 24 [54, 6, 21, 6, 42, 180, 0, 9, 3, 46, 162, 0, 64, 27, 21, 5, 21, 6, 184, 1, 39, 21, 4, 162, 0, 45] := bL_of (by decide +kernel)
def dX12_roundOf_24 := dk54 (k := 0) (x := 6) bX12_roundOf_24 rfl rfl
def dX12_roundOf_26 := dk21 (k := 2) (x := 6) bX12_roundOf_24 rfl rfl
def dX12_roundOf_28 := dk42 (k := 4) bX12_roundOf_24 rfl
def dX12_roundOf_29 := dk180 (k := 5) (x := 9) bX12_roundOf_24 rfl rfl
def dX12_roundOf_32 := dk3 (k := 8) bX12_roundOf_24 rfl
def dX12_roundOf_33 := dk46 (k := 9) bX12_roundOf_24 rfl
def dX12_roundOf_34 := dk162 (k := 10) (x := 64) bX12_roundOf_24 rfl (by decide)
def dX12_roundOf_37 := dk27 (k := 13) bX12_roundOf_24 rfl
def dX12_roundOf_38 := dk21 (k := 14) (x := 5) bX12_roundOf_24 rfl rfl
def dX12_roundOf_40 := dk21 (k := 16) (x := 6) bX12_roundOf_24 rfl rfl
def dX12_roundOf_42 := dk184 (k := 18) (x := 295) bX12_roundOf_24 rfl rfl
def dX12_roundOf_45 := dk21 (k := 21) (x := 4) bX12_roundOf_24 rfl rfl
def dX12_roundOf_47 := dk162 (k := 23) (x := 45) bX12_roundOf_24 rfl (by decide)
theorem bX12_roundOf_50 : bL cX12_roundOf 50 [42, 29, 21, 5, 21, 6, 21, 5, 21, 6, 182, 1, 43, 28, 162, 0, 6, 167, 0, 25, 27, 21, 5, 21, 6] := bL_of (by decide +kernel)
def dX12_roundOf_50 := dk42 (k := 0) bX12_roundOf_50 rfl
def dX12_roundOf_51 := dk29 (k := 1) bX12_roundOf_50 rfl
def dX12_roundOf_52 := dk21 (k := 2) (x := 5) bX12_roundOf_50 rfl rfl
def dX12_roundOf_54 := dk21 (k := 4) (x := 6) bX12_roundOf_50 rfl rfl
def dX12_roundOf_56 := dk21 (k := 6) (x := 5) bX12_roundOf_50 rfl rfl
def dX12_roundOf_58 := dk21 (k := 8) (x := 6) bX12_roundOf_50 rfl rfl
def dX12_roundOf_60 := dk182 (k := 10) (x := 299) bX12_roundOf_50 rfl rfl
def dX12_roundOf_63 := dk28 (k := 13) bX12_roundOf_50 rfl
def dX12_roundOf_64 := dk162 (k := 14) (x := 6) bX12_roundOf_50 rfl (by decide)
def dX12_roundOf_67 := dk167 (k := 17) (x := 25) bX12_roundOf_50 rfl (by decide)
def dX12_roundOf_70 := dk27 (k := 20) bX12_roundOf_50 rfl
def dX12_roundOf_71 := dk21 (k := 21) (x := 5) bX12_roundOf_50 rfl rfl
def dX12_roundOf_73 := dk21 (k := 23) (x := 6) bX12_roundOf_50 rfl rfl
theorem bX12_roundOf_75 : bL cX12_roundOf 75 [184, 1, 39, 54, 4, 42, 21, 5, 181, 1, 47, 42, 21, 6, 181, 1, 50, 132, 6, 1, 167, 255, 187, 132, 5, 1] := bL_of (by decide +kernel)
def dX12_roundOf_75 := dk184 (k := 0) (x := 295) bX12_roundOf_75 rfl rfl
def dX12_roundOf_78 := dk54 (k := 3) (x := 4) bX12_roundOf_75 rfl rfl
def dX12_roundOf_80 := dk42 (k := 5) bX12_roundOf_75 rfl
def dX12_roundOf_81 := dk21 (k := 6) (x := 5) bX12_roundOf_75 rfl rfl
def dX12_roundOf_83 := dk181 (k := 8) (x := 303) bX12_roundOf_75 rfl rfl
def dX12_roundOf_86 := dk42 (k := 11) bX12_roundOf_75 rfl
def dX12_roundOf_87 := dk21 (k := 12) (x := 6) bX12_roundOf_75 rfl rfl
def dX12_roundOf_89 := dk181 (k := 14) (x := 306) bX12_roundOf_75 rfl rfl
theorem dX12_roundOf_92 : decode cX12_roundOf 92 = .ok (.iinc 6 1, 3) := dk132 (k := 17) bX12_roundOf_75 rfl rfl (by decide)
def dX12_roundOf_95 := dk167 (k := 20) (x := (-69)) bX12_roundOf_75 rfl (by decide)
theorem dX12_roundOf_98 : decode cX12_roundOf 98 = .ok (.iinc 5 1, 3) := dk132 (k := 23) bX12_roundOf_75 rfl rfl (by decide)
theorem bX12_roundOf_101 : bL cX12_roundOf 101 [167, 255, 172, 21, 4, 172] := bL_of (by decide +kernel)
def dX12_roundOf_101 := dk167 (k := 0) (x := (-84)) bX12_roundOf_101 rfl (by decide)
def dX12_roundOf_104 := dk21 (k := 3) (x := 4) bX12_roundOf_101 rfl rfl
def dX12_roundOf_106 := dk172 (k := 5) bX12_roundOf_101 rfl
theorem bX12_isRound_0 : bL cX12_isRound 0 [42, 27, 133, 182, 0, 203, 153, 0, 19, 28, 133, 10, 20, 1, 53, 184, 0, 65, 153, 0, 7, 4, 167, 0, 4] := bL_of (by decide +kernel)
def dX12_isRound_0 := dk42 (k := 0) bX12_isRound_0 rfl
def dX12_isRound_1 := dk27 (k := 1) bX12_isRound_0 rfl
def dX12_isRound_2 := dk133 (k := 2) bX12_isRound_0 rfl
def dX12_isRound_3 := dk182 (k := 3) (x := 203) bX12_isRound_0 rfl rfl
def dX12_isRound_6 := dk153 (k := 6) (x := 19) bX12_isRound_0 rfl (by decide)
def dX12_isRound_9 := dk28 (k := 9) bX12_isRound_0 rfl
def dX12_isRound_10 := dk133 (k := 10) bX12_isRound_0 rfl
def dX12_isRound_11 := dk10 (k := 11) bX12_isRound_0 rfl
def dX12_isRound_12 := dk20 (k := 12) (x := 309) bX12_isRound_0 rfl rfl
def dX12_isRound_15 := dk184 (k := 15) (x := 65) bX12_isRound_0 rfl rfl
def dX12_isRound_18 := dk153 (k := 18) (x := 7) bX12_isRound_0 rfl (by decide)
def dX12_isRound_21 := dk4 (k := 21) bX12_isRound_0 rfl
def dX12_isRound_22 := dk167 (k := 22) (x := 4) bX12_isRound_0 rfl (by decide)
theorem bX12_isRound_25 : bL cX12_isRound 25 [3, 172] := bL_of (by decide +kernel)
def dX12_isRound_25 := dk3 (k := 0) bX12_isRound_25 rfl
def dX12_isRound_26 := dk172 (k := 1) bX12_isRound_25 rfl
theorem bX12_round_0 : bL cX12_round 0 [42, 27, 28, 182, 1, 55, 154, 0, 6, 16, 254, 172, 42, 27, 28, 182, 1, 58, 62, 29, 19, 1, 38, 160, 0, 7] := bL_of (by decide +kernel)
def dX12_round_0 := dk42 (k := 0) bX12_round_0 rfl
def dX12_round_1 := dk27 (k := 1) bX12_round_0 rfl
def dX12_round_2 := dk28 (k := 2) bX12_round_0 rfl
def dX12_round_3 := dk182 (k := 3) (x := 311) bX12_round_0 rfl rfl
def dX12_round_6 := dk154 (k := 6) (x := 6) bX12_round_0 rfl (by decide)
def dX12_round_9 := dk16 (k := 9) (x := (-2)) bX12_round_0 rfl (by decide)
def dX12_round_11 := dk172 (k := 11) bX12_round_0 rfl
def dX12_round_12 := dk42 (k := 12) bX12_round_0 rfl
def dX12_round_13 := dk27 (k := 13) bX12_round_0 rfl
def dX12_round_14 := dk28 (k := 14) bX12_round_0 rfl
def dX12_round_15 := dk182 (k := 15) (x := 314) bX12_round_0 rfl rfl
def dX12_round_18 := dk62 (k := 18) bX12_round_0 rfl
def dX12_round_19 := dk29 (k := 19) bX12_round_0 rfl
def dX12_round_20 := dk19 (k := 20) (x := 294) bX12_round_0 rfl rfl
def dX12_round_23 := dk160 (k := 23) (x := 7) bX12_round_0 rfl (by decide)
theorem bX12_round_26 : bL cX12_round 26 [2, 167, 0, 4, 29, 172] := bL_of (by decide +kernel)
def dX12_round_26 := dk2 (k := 0) bX12_round_26 rfl
def dX12_round_27 := dk167 (k := 1) (x := 4) bX12_round_26 rfl (by decide)
def dX12_round_30 := dk29 (k := 4) bX12_round_26 rfl
def dX12_round_31 := dk172 (k := 5) bX12_round_26 rfl
theorem bX12_goes_0 : bL cX12_goes 0 [42, 27, 28, 182, 1, 55, 153, 0, 13, 29, 133, 9, 10, 184, 0, 65, 154, 0, 6, 16, 254, 172, 42, 27] := bL_of (by decide +kernel)
def dX12_goes_0 := dk42 (k := 0) bX12_goes_0 rfl
def dX12_goes_1 := dk27 (k := 1) bX12_goes_0 rfl
def dX12_goes_2 := dk28 (k := 2) bX12_goes_0 rfl
def dX12_goes_3 := dk182 (k := 3) (x := 311) bX12_goes_0 rfl rfl
def dX12_goes_6 := dk153 (k := 6) (x := 13) bX12_goes_0 rfl (by decide)
def dX12_goes_9 := dk29 (k := 9) bX12_goes_0 rfl
def dX12_goes_10 := dk133 (k := 10) bX12_goes_0 rfl
def dX12_goes_11 := dk9 (k := 11) bX12_goes_0 rfl
def dX12_goes_12 := dk10 (k := 12) bX12_goes_0 rfl
def dX12_goes_13 := dk184 (k := 13) (x := 65) bX12_goes_0 rfl rfl
def dX12_goes_16 := dk154 (k := 16) (x := 6) bX12_goes_0 rfl (by decide)
def dX12_goes_19 := dk16 (k := 19) (x := (-2)) bX12_goes_0 rfl (by decide)
def dX12_goes_21 := dk172 (k := 21) bX12_goes_0 rfl
def dX12_goes_22 := dk42 (k := 22) bX12_goes_0 rfl
def dX12_goes_23 := dk27 (k := 23) bX12_goes_0 rfl
theorem bX12_goes_24 : bL cX12_goes 24 [28, 182, 1, 58, 19, 1, 38, 160, 0, 5, 2, 172, 29, 154, 0, 10, 42, 180, 1, 47, 167, 0, 7, 42] := bL_of (by decide +kernel)
def dX12_goes_24 := dk28 (k := 0) bX12_goes_24 rfl
def dX12_goes_25 := dk182 (k := 1) (x := 314) bX12_goes_24 rfl rfl
def dX12_goes_28 := dk19 (k := 4) (x := 294) bX12_goes_24 rfl rfl
def dX12_goes_31 := dk160 (k := 7) (x := 5) bX12_goes_24 rfl (by decide)
def dX12_goes_34 := dk2 (k := 10) bX12_goes_24 rfl
def dX12_goes_35 := dk172 (k := 11) bX12_goes_24 rfl
def dX12_goes_36 := dk29 (k := 12) bX12_goes_24 rfl
def dX12_goes_37 := dk154 (k := 13) (x := 10) bX12_goes_24 rfl (by decide)
def dX12_goes_40 := dk42 (k := 16) bX12_goes_24 rfl
def dX12_goes_41 := dk180 (k := 17) (x := 303) bX12_goes_24 rfl rfl
def dX12_goes_44 := dk167 (k := 20) (x := 7) bX12_goes_24 rfl (by decide)
def dX12_goes_47 := dk42 (k := 23) bX12_goes_24 rfl
theorem bX12_goes_48 : bL cX12_goes 48 [180, 1, 50, 172] := bL_of (by decide +kernel)
def dX12_goes_48 := dk180 (k := 0) (x := 306) bX12_goes_48 rfl rfl
def dX12_goes_51 := dk172 (k := 3) bX12_goes_48 rfl
theorem bX12_two_0 : bL cX12_two 0 [42, 27, 29, 182, 1, 55, 153, 0, 12, 42, 28, 133, 182, 0, 203, 154, 0, 6, 16, 254, 172, 42, 182, 0, 240] := bL_of (by decide +kernel)
def dX12_two_0 := dk42 (k := 0) bX12_two_0 rfl
def dX12_two_1 := dk27 (k := 1) bX12_two_0 rfl
def dX12_two_2 := dk29 (k := 2) bX12_two_0 rfl
def dX12_two_3 := dk182 (k := 3) (x := 311) bX12_two_0 rfl rfl
def dX12_two_6 := dk153 (k := 6) (x := 12) bX12_two_0 rfl (by decide)
def dX12_two_9 := dk42 (k := 9) bX12_two_0 rfl
def dX12_two_10 := dk28 (k := 10) bX12_two_0 rfl
def dX12_two_11 := dk133 (k := 11) bX12_two_0 rfl
def dX12_two_12 := dk182 (k := 12) (x := 203) bX12_two_0 rfl rfl
def dX12_two_15 := dk154 (k := 15) (x := 6) bX12_two_0 rfl (by decide)
def dX12_two_18 := dk16 (k := 18) (x := (-2)) bX12_two_0 rfl (by decide)
def dX12_two_20 := dk172 (k := 20) bX12_two_0 rfl
def dX12_two_21 := dk42 (k := 21) bX12_two_0 rfl
def dX12_two_22 := dk182 (k := 22) (x := 240) bX12_two_0 rfl rfl
theorem bX12_two_25 : bL cX12_two 25 [42, 182, 1, 7, 54, 4, 19, 1, 38, 54, 5, 3, 54, 6, 21, 6, 27, 163, 0, 124, 27, 54, 7, 21, 7] := bL_of (by decide +kernel)
def dX12_two_25 := dk42 (k := 0) bX12_two_25 rfl
def dX12_two_26 := dk182 (k := 1) (x := 263) bX12_two_25 rfl rfl
def dX12_two_29 := dk54 (k := 4) (x := 4) bX12_two_25 rfl rfl
def dX12_two_31 := dk19 (k := 6) (x := 294) bX12_two_25 rfl rfl
def dX12_two_34 := dk54 (k := 9) (x := 5) bX12_two_25 rfl rfl
def dX12_two_36 := dk3 (k := 11) bX12_two_25 rfl
def dX12_two_37 := dk54 (k := 12) (x := 6) bX12_two_25 rfl rfl
def dX12_two_39 := dk21 (k := 14) (x := 6) bX12_two_25 rfl rfl
def dX12_two_41 := dk27 (k := 16) bX12_two_25 rfl
def dX12_two_42 := dk163 (k := 17) (x := 124) bX12_two_25 rfl (by decide)
def dX12_two_45 := dk27 (k := 20) bX12_two_25 rfl
def dX12_two_46 := dk54 (k := 21) (x := 7) bX12_two_25 rfl rfl
def dX12_two_48 := dk21 (k := 23) (x := 7) bX12_two_25 rfl rfl
theorem bX12_two_50 : bL cX12_two 50 [42, 180, 0, 9, 3, 46, 162, 0, 104, 27, 21, 6, 21, 7, 184, 1, 39, 21, 5, 161, 0, 6, 167, 0, 82] := bL_of (by decide +kernel)
def dX12_two_50 := dk42 (k := 0) bX12_two_50 rfl
def dX12_two_51 := dk180 (k := 1) (x := 9) bX12_two_50 rfl rfl
def dX12_two_54 := dk3 (k := 4) bX12_two_50 rfl
def dX12_two_55 := dk46 (k := 5) bX12_two_50 rfl
def dX12_two_56 := dk162 (k := 6) (x := 104) bX12_two_50 rfl (by decide)
def dX12_two_59 := dk27 (k := 9) bX12_two_50 rfl
def dX12_two_60 := dk21 (k := 10) (x := 6) bX12_two_50 rfl rfl
def dX12_two_62 := dk21 (k := 12) (x := 7) bX12_two_50 rfl rfl
def dX12_two_64 := dk184 (k := 14) (x := 295) bX12_two_50 rfl rfl
def dX12_two_67 := dk21 (k := 17) (x := 5) bX12_two_50 rfl rfl
def dX12_two_69 := dk161 (k := 19) (x := 6) bX12_two_50 rfl (by decide)
def dX12_two_72 := dk167 (k := 22) (x := 82) bX12_two_50 rfl (by decide)
theorem bX12_two_75 : bL cX12_two 75 [3, 54, 8, 21, 8, 28, 163, 0, 73, 28, 54, 9, 21, 9, 42, 180, 0, 9, 3, 46, 162, 0, 53, 42] := bL_of (by decide +kernel)
def dX12_two_75 := dk3 (k := 0) bX12_two_75 rfl
def dX12_two_76 := dk54 (k := 1) (x := 8) bX12_two_75 rfl rfl
def dX12_two_78 := dk21 (k := 3) (x := 8) bX12_two_75 rfl rfl
def dX12_two_80 := dk28 (k := 5) bX12_two_75 rfl
def dX12_two_81 := dk163 (k := 6) (x := 73) bX12_two_75 rfl (by decide)
def dX12_two_84 := dk28 (k := 9) bX12_two_75 rfl
def dX12_two_85 := dk54 (k := 10) (x := 9) bX12_two_75 rfl rfl
def dX12_two_87 := dk21 (k := 12) (x := 9) bX12_two_75 rfl rfl
def dX12_two_89 := dk42 (k := 14) bX12_two_75 rfl
def dX12_two_90 := dk180 (k := 15) (x := 9) bX12_two_75 rfl rfl
def dX12_two_93 := dk3 (k := 18) bX12_two_75 rfl
def dX12_two_94 := dk46 (k := 19) bX12_two_75 rfl
def dX12_two_95 := dk162 (k := 20) (x := 53) bX12_two_75 rfl (by decide)
def dX12_two_98 := dk42 (k := 23) bX12_two_75 rfl
theorem bX12_two_99 : bL cX12_two 99 [21, 4, 21, 6, 21, 7, 21, 8, 21, 9, 182, 1, 43, 29, 161, 0, 29, 21, 5, 27, 21, 6, 21, 7] := bL_of (by decide +kernel)
def dX12_two_99 := dk21 (k := 0) (x := 4) bX12_two_99 rfl rfl
def dX12_two_101 := dk21 (k := 2) (x := 6) bX12_two_99 rfl rfl
def dX12_two_103 := dk21 (k := 4) (x := 7) bX12_two_99 rfl rfl
def dX12_two_105 := dk21 (k := 6) (x := 8) bX12_two_99 rfl rfl
def dX12_two_107 := dk21 (k := 8) (x := 9) bX12_two_99 rfl rfl
def dX12_two_109 := dk182 (k := 10) (x := 299) bX12_two_99 rfl rfl
def dX12_two_112 := dk29 (k := 13) bX12_two_99 rfl
def dX12_two_113 := dk161 (k := 14) (x := 29) bX12_two_99 rfl (by decide)
def dX12_two_116 := dk21 (k := 17) (x := 5) bX12_two_99 rfl rfl
def dX12_two_118 := dk27 (k := 19) bX12_two_99 rfl
def dX12_two_119 := dk21 (k := 20) (x := 6) bX12_two_99 rfl rfl
def dX12_two_121 := dk21 (k := 22) (x := 7) bX12_two_99 rfl rfl
theorem bX12_two_123 : bL cX12_two 123 [184, 1, 39, 28, 21, 8, 21, 9, 184, 1, 39, 184, 1, 61, 184, 0, 112, 54, 5, 132, 9, 1, 167, 255, 198] := bL_of (by decide +kernel)
def dX12_two_123 := dk184 (k := 0) (x := 295) bX12_two_123 rfl rfl
def dX12_two_126 := dk28 (k := 3) bX12_two_123 rfl
def dX12_two_127 := dk21 (k := 4) (x := 8) bX12_two_123 rfl rfl
def dX12_two_129 := dk21 (k := 6) (x := 9) bX12_two_123 rfl rfl
def dX12_two_131 := dk184 (k := 8) (x := 295) bX12_two_123 rfl rfl
def dX12_two_134 := dk184 (k := 11) (x := 317) bX12_two_123 rfl rfl
def dX12_two_137 := dk184 (k := 14) (x := 112) bX12_two_123 rfl rfl
def dX12_two_140 := dk54 (k := 17) (x := 5) bX12_two_123 rfl rfl
theorem dX12_two_142 : decode cX12_two 142 = .ok (.iinc 9 1, 3) := dk132 (k := 19) bX12_two_123 rfl rfl (by decide)
def dX12_two_145 := dk167 (k := 22) (x := (-58)) bX12_two_123 rfl (by decide)
theorem bX12_two_148 : bL cX12_two 148 [132, 8, 1, 167, 255, 183, 132, 7, 1, 167, 255, 147, 132, 6, 1, 167, 255, 132, 21, 5, 19, 1, 38, 160, 0, 7] := bL_of (by decide +kernel)
theorem dX12_two_148 : decode cX12_two 148 = .ok (.iinc 8 1, 3) := dk132 (k := 0) bX12_two_148 rfl rfl (by decide)
def dX12_two_151 := dk167 (k := 3) (x := (-73)) bX12_two_148 rfl (by decide)
theorem dX12_two_154 : decode cX12_two 154 = .ok (.iinc 7 1, 3) := dk132 (k := 6) bX12_two_148 rfl rfl (by decide)
def dX12_two_157 := dk167 (k := 9) (x := (-109)) bX12_two_148 rfl (by decide)
theorem dX12_two_160 : decode cX12_two 160 = .ok (.iinc 6 1, 3) := dk132 (k := 12) bX12_two_148 rfl rfl (by decide)
def dX12_two_163 := dk167 (k := 15) (x := (-124)) bX12_two_148 rfl (by decide)
def dX12_two_166 := dk21 (k := 18) (x := 5) bX12_two_148 rfl rfl
def dX12_two_168 := dk19 (k := 20) (x := 294) bX12_two_148 rfl rfl
def dX12_two_171 := dk160 (k := 23) (x := 7) bX12_two_148 rfl (by decide)
theorem bX12_two_174 : bL cX12_two 174 [2, 167, 0, 5, 21, 5, 172] := bL_of (by decide +kernel)
def dX12_two_174 := dk2 (k := 0) bX12_two_174 rfl
def dX12_two_175 := dk167 (k := 1) (x := 5) bX12_two_174 rfl (by decide)
def dX12_two_178 := dk21 (k := 4) (x := 5) bX12_two_174 rfl rfl
def dX12_two_180 := dk172 (k := 6) bX12_two_174 rfl
theorem bX12_isLower_0 : bL cX12_isLower 0 [42, 27, 133, 182, 0, 203, 153, 0, 22, 42, 180, 0, 34, 27, 46, 42, 180, 0, 34, 28, 46, 162, 0, 7] := bL_of (by decide +kernel)
def dX12_isLower_0 := dk42 (k := 0) bX12_isLower_0 rfl
def dX12_isLower_1 := dk27 (k := 1) bX12_isLower_0 rfl
def dX12_isLower_2 := dk133 (k := 2) bX12_isLower_0 rfl
def dX12_isLower_3 := dk182 (k := 3) (x := 203) bX12_isLower_0 rfl rfl
def dX12_isLower_6 := dk153 (k := 6) (x := 22) bX12_isLower_0 rfl (by decide)
def dX12_isLower_9 := dk42 (k := 9) bX12_isLower_0 rfl
def dX12_isLower_10 := dk180 (k := 10) (x := 34) bX12_isLower_0 rfl rfl
def dX12_isLower_13 := dk27 (k := 13) bX12_isLower_0 rfl
def dX12_isLower_14 := dk46 (k := 14) bX12_isLower_0 rfl
def dX12_isLower_15 := dk42 (k := 15) bX12_isLower_0 rfl
def dX12_isLower_16 := dk180 (k := 16) (x := 34) bX12_isLower_0 rfl rfl
def dX12_isLower_19 := dk28 (k := 19) bX12_isLower_0 rfl
def dX12_isLower_20 := dk46 (k := 20) bX12_isLower_0 rfl
def dX12_isLower_21 := dk162 (k := 21) (x := 7) bX12_isLower_0 rfl (by decide)
theorem bX12_isLower_24 : bL cX12_isLower 24 [4, 167, 0, 4, 3, 172] := bL_of (by decide +kernel)
def dX12_isLower_24 := dk4 (k := 0) bX12_isLower_24 rfl
def dX12_isLower_25 := dk167 (k := 1) (x := 4) bX12_isLower_24 rfl (by decide)
def dX12_isLower_28 := dk3 (k := 4) bX12_isLower_24 rfl
def dX12_isLower_29 := dk172 (k := 5) bX12_isLower_24 rfl
theorem bX12_flowOf_0 : bL cX12_flowOf 0 [27, 61, 42, 28, 4, 100, 28, 182, 1, 64, 154, 0, 14, 42, 28, 4, 96, 28, 182, 1, 64, 153, 0, 67] := bL_of (by decide +kernel)
def dX12_flowOf_0 := dk27 (k := 0) bX12_flowOf_0 rfl
def dX12_flowOf_1 := dk61 (k := 1) bX12_flowOf_0 rfl
def dX12_flowOf_2 := dk42 (k := 2) bX12_flowOf_0 rfl
def dX12_flowOf_3 := dk28 (k := 3) bX12_flowOf_0 rfl
def dX12_flowOf_4 := dk4 (k := 4) bX12_flowOf_0 rfl
def dX12_flowOf_5 := dk100 (k := 5) bX12_flowOf_0 rfl
def dX12_flowOf_6 := dk28 (k := 6) bX12_flowOf_0 rfl
def dX12_flowOf_7 := dk182 (k := 7) (x := 320) bX12_flowOf_0 rfl rfl
def dX12_flowOf_10 := dk154 (k := 10) (x := 14) bX12_flowOf_0 rfl (by decide)
def dX12_flowOf_13 := dk42 (k := 13) bX12_flowOf_0 rfl
def dX12_flowOf_14 := dk28 (k := 14) bX12_flowOf_0 rfl
def dX12_flowOf_15 := dk4 (k := 15) bX12_flowOf_0 rfl
def dX12_flowOf_16 := dk96 (k := 16) bX12_flowOf_0 rfl
def dX12_flowOf_17 := dk28 (k := 17) bX12_flowOf_0 rfl
def dX12_flowOf_18 := dk182 (k := 18) (x := 320) bX12_flowOf_0 rfl rfl
def dX12_flowOf_21 := dk153 (k := 21) (x := 67) bX12_flowOf_0 rfl (by decide)
theorem bX12_flowOf_24 : bL cX12_flowOf 24 [42, 28, 4, 100, 28, 182, 1, 64, 153, 0, 37, 42, 28, 4, 96, 28, 182, 1, 64, 153, 0, 22, 42, 180, 0, 34] := bL_of (by decide +kernel)
def dX12_flowOf_24 := dk42 (k := 0) bX12_flowOf_24 rfl
def dX12_flowOf_25 := dk28 (k := 1) bX12_flowOf_24 rfl
def dX12_flowOf_26 := dk4 (k := 2) bX12_flowOf_24 rfl
def dX12_flowOf_27 := dk100 (k := 3) bX12_flowOf_24 rfl
def dX12_flowOf_28 := dk28 (k := 4) bX12_flowOf_24 rfl
def dX12_flowOf_29 := dk182 (k := 5) (x := 320) bX12_flowOf_24 rfl rfl
def dX12_flowOf_32 := dk153 (k := 8) (x := 37) bX12_flowOf_24 rfl (by decide)
def dX12_flowOf_35 := dk42 (k := 11) bX12_flowOf_24 rfl
def dX12_flowOf_36 := dk28 (k := 12) bX12_flowOf_24 rfl
def dX12_flowOf_37 := dk4 (k := 13) bX12_flowOf_24 rfl
def dX12_flowOf_38 := dk96 (k := 14) bX12_flowOf_24 rfl
def dX12_flowOf_39 := dk28 (k := 15) bX12_flowOf_24 rfl
def dX12_flowOf_40 := dk182 (k := 16) (x := 320) bX12_flowOf_24 rfl rfl
def dX12_flowOf_43 := dk153 (k := 19) (x := 22) bX12_flowOf_24 rfl (by decide)
def dX12_flowOf_46 := dk42 (k := 22) bX12_flowOf_24 rfl
def dX12_flowOf_47 := dk180 (k := 23) (x := 34) bX12_flowOf_24 rfl rfl
theorem bX12_flowOf_50 : bL cX12_flowOf 50 [28, 4, 100, 46, 42, 180, 0, 34, 28, 4, 96, 46, 163, 0, 7, 4, 167, 0, 4, 3, 62, 29, 153, 0, 9] := bL_of (by decide +kernel)
def dX12_flowOf_50 := dk28 (k := 0) bX12_flowOf_50 rfl
def dX12_flowOf_51 := dk4 (k := 1) bX12_flowOf_50 rfl
def dX12_flowOf_52 := dk100 (k := 2) bX12_flowOf_50 rfl
def dX12_flowOf_53 := dk46 (k := 3) bX12_flowOf_50 rfl
def dX12_flowOf_54 := dk42 (k := 4) bX12_flowOf_50 rfl
def dX12_flowOf_55 := dk180 (k := 5) (x := 34) bX12_flowOf_50 rfl rfl
def dX12_flowOf_58 := dk28 (k := 8) bX12_flowOf_50 rfl
def dX12_flowOf_59 := dk4 (k := 9) bX12_flowOf_50 rfl
def dX12_flowOf_60 := dk96 (k := 10) bX12_flowOf_50 rfl
def dX12_flowOf_61 := dk46 (k := 11) bX12_flowOf_50 rfl
def dX12_flowOf_62 := dk163 (k := 12) (x := 7) bX12_flowOf_50 rfl (by decide)
def dX12_flowOf_65 := dk4 (k := 15) bX12_flowOf_50 rfl
def dX12_flowOf_66 := dk167 (k := 16) (x := 4) bX12_flowOf_50 rfl (by decide)
def dX12_flowOf_69 := dk3 (k := 19) bX12_flowOf_50 rfl
def dX12_flowOf_70 := dk62 (k := 20) bX12_flowOf_50 rfl
def dX12_flowOf_71 := dk29 (k := 21) bX12_flowOf_50 rfl
def dX12_flowOf_72 := dk153 (k := 22) (x := 9) bX12_flowOf_50 rfl (by decide)
theorem bX12_flowOf_75 : bL cX12_flowOf 75 [28, 4, 100, 167, 0, 6, 28, 4, 96, 61, 167, 255, 173, 28, 172] := bL_of (by decide +kernel)
def dX12_flowOf_75 := dk28 (k := 0) bX12_flowOf_75 rfl
def dX12_flowOf_76 := dk4 (k := 1) bX12_flowOf_75 rfl
def dX12_flowOf_77 := dk100 (k := 2) bX12_flowOf_75 rfl
def dX12_flowOf_78 := dk167 (k := 3) (x := 6) bX12_flowOf_75 rfl (by decide)
def dX12_flowOf_81 := dk28 (k := 6) bX12_flowOf_75 rfl
def dX12_flowOf_82 := dk4 (k := 7) bX12_flowOf_75 rfl
def dX12_flowOf_83 := dk96 (k := 8) bX12_flowOf_75 rfl
def dX12_flowOf_84 := dk61 (k := 9) bX12_flowOf_75 rfl
def dX12_flowOf_85 := dk167 (k := 10) (x := (-83)) bX12_flowOf_75 rfl (by decide)
def dX12_flowOf_88 := dk28 (k := 13) bX12_flowOf_75 rfl
def dX12_flowOf_89 := dk172 (k := 14) bX12_flowOf_75 rfl
theorem bX12_flows_0 : bL cX12_flows 0 [42, 27, 133, 182, 0, 203, 154, 0, 6, 16, 254, 172, 42, 182, 0, 240, 42, 27, 182, 1, 67, 172] := bL_of (by decide +kernel)
def dX12_flows_0 := dk42 (k := 0) bX12_flows_0 rfl
def dX12_flows_1 := dk27 (k := 1) bX12_flows_0 rfl
def dX12_flows_2 := dk133 (k := 2) bX12_flows_0 rfl
def dX12_flows_3 := dk182 (k := 3) (x := 203) bX12_flows_0 rfl rfl
def dX12_flows_6 := dk154 (k := 6) (x := 6) bX12_flows_0 rfl (by decide)
def dX12_flows_9 := dk16 (k := 9) (x := (-2)) bX12_flows_0 rfl (by decide)
def dX12_flows_11 := dk172 (k := 11) bX12_flows_0 rfl
def dX12_flows_12 := dk42 (k := 12) bX12_flows_0 rfl
def dX12_flows_13 := dk182 (k := 13) (x := 240) bX12_flows_0 rfl rfl
def dX12_flows_16 := dk42 (k := 16) bX12_flows_0 rfl
def dX12_flows_17 := dk27 (k := 17) bX12_flows_0 rfl
def dX12_flows_18 := dk182 (k := 18) (x := 323) bX12_flows_0 rfl rfl
def dX12_flows_21 := dk172 (k := 21) bX12_flows_0 rfl
theorem bX12_basin_0 : bL cX12_basin 0 [42, 27, 133, 182, 0, 203, 154, 0, 6, 16, 254, 172, 42, 182, 0, 240, 3, 61, 3, 62, 29, 42, 180, 0, 9] := bL_of (by decide +kernel)
def dX12_basin_0 := dk42 (k := 0) bX12_basin_0 rfl
def dX12_basin_1 := dk27 (k := 1) bX12_basin_0 rfl
def dX12_basin_2 := dk133 (k := 2) bX12_basin_0 rfl
def dX12_basin_3 := dk182 (k := 3) (x := 203) bX12_basin_0 rfl rfl
def dX12_basin_6 := dk154 (k := 6) (x := 6) bX12_basin_0 rfl (by decide)
def dX12_basin_9 := dk16 (k := 9) (x := (-2)) bX12_basin_0 rfl (by decide)
def dX12_basin_11 := dk172 (k := 11) bX12_basin_0 rfl
def dX12_basin_12 := dk42 (k := 12) bX12_basin_0 rfl
def dX12_basin_13 := dk182 (k := 13) (x := 240) bX12_basin_0 rfl rfl
def dX12_basin_16 := dk3 (k := 16) bX12_basin_0 rfl
def dX12_basin_17 := dk61 (k := 17) bX12_basin_0 rfl
def dX12_basin_18 := dk3 (k := 18) bX12_basin_0 rfl
def dX12_basin_19 := dk62 (k := 19) bX12_basin_0 rfl
def dX12_basin_20 := dk29 (k := 20) bX12_basin_0 rfl
def dX12_basin_21 := dk42 (k := 21) bX12_basin_0 rfl
def dX12_basin_22 := dk180 (k := 22) (x := 9) bX12_basin_0 rfl rfl
theorem bX12_basin_25 : bL cX12_basin 25 [3, 46, 162, 0, 28, 28, 42, 29, 182, 1, 67, 27, 160, 0, 9, 4, 29, 120, 167, 0, 4, 3, 128, 61] := bL_of (by decide +kernel)
def dX12_basin_25 := dk3 (k := 0) bX12_basin_25 rfl
def dX12_basin_26 := dk46 (k := 1) bX12_basin_25 rfl
def dX12_basin_27 := dk162 (k := 2) (x := 28) bX12_basin_25 rfl (by decide)
def dX12_basin_30 := dk28 (k := 5) bX12_basin_25 rfl
def dX12_basin_31 := dk42 (k := 6) bX12_basin_25 rfl
def dX12_basin_32 := dk29 (k := 7) bX12_basin_25 rfl
def dX12_basin_33 := dk182 (k := 8) (x := 323) bX12_basin_25 rfl rfl
def dX12_basin_36 := dk27 (k := 11) bX12_basin_25 rfl
def dX12_basin_37 := dk160 (k := 12) (x := 9) bX12_basin_25 rfl (by decide)
def dX12_basin_40 := dk4 (k := 15) bX12_basin_25 rfl
def dX12_basin_41 := dk29 (k := 16) bX12_basin_25 rfl
def dX12_basin_42 := dk120 (k := 17) bX12_basin_25 rfl
def dX12_basin_43 := dk167 (k := 18) (x := 4) bX12_basin_25 rfl (by decide)
def dX12_basin_46 := dk3 (k := 21) bX12_basin_25 rfl
def dX12_basin_47 := dk128 (k := 22) bX12_basin_25 rfl
def dX12_basin_48 := dk61 (k := 23) bX12_basin_25 rfl
theorem bX12_basin_49 : bL cX12_basin 49 [132, 3, 1, 167, 255, 224, 28, 172] := bL_of (by decide +kernel)
theorem dX12_basin_49 : decode cX12_basin 49 = .ok (.iinc 3 1, 3) := dk132 (k := 0) bX12_basin_49 rfl rfl (by decide)
def dX12_basin_52 := dk167 (k := 3) (x := (-32)) bX12_basin_49 rfl (by decide)
def dX12_basin_55 := dk28 (k := 6) bX12_basin_49 rfl
def dX12_basin_56 := dk172 (k := 7) bX12_basin_49 rfl
theorem bX12_cliffs_0 : bL cX12_cliffs 0 [42, 182, 0, 73, 154, 0, 6, 16, 254, 172, 42, 182, 0, 240, 3, 60, 4, 61, 28, 42, 180, 0, 9, 3] := bL_of (by decide +kernel)
def dX12_cliffs_0 := dk42 (k := 0) bX12_cliffs_0 rfl
def dX12_cliffs_1 := dk182 (k := 1) (x := 73) bX12_cliffs_0 rfl rfl
def dX12_cliffs_4 := dk154 (k := 4) (x := 6) bX12_cliffs_0 rfl (by decide)
def dX12_cliffs_7 := dk16 (k := 7) (x := (-2)) bX12_cliffs_0 rfl (by decide)
def dX12_cliffs_9 := dk172 (k := 9) bX12_cliffs_0 rfl
def dX12_cliffs_10 := dk42 (k := 10) bX12_cliffs_0 rfl
def dX12_cliffs_11 := dk182 (k := 11) (x := 240) bX12_cliffs_0 rfl rfl
def dX12_cliffs_14 := dk3 (k := 14) bX12_cliffs_0 rfl
def dX12_cliffs_15 := dk60 (k := 15) bX12_cliffs_0 rfl
def dX12_cliffs_16 := dk4 (k := 16) bX12_cliffs_0 rfl
def dX12_cliffs_17 := dk61 (k := 17) bX12_cliffs_0 rfl
def dX12_cliffs_18 := dk28 (k := 18) bX12_cliffs_0 rfl
def dX12_cliffs_19 := dk42 (k := 19) bX12_cliffs_0 rfl
def dX12_cliffs_20 := dk180 (k := 20) (x := 9) bX12_cliffs_0 rfl rfl
def dX12_cliffs_23 := dk3 (k := 23) bX12_cliffs_0 rfl
theorem bX12_cliffs_24 : bL cX12_cliffs 24 [46, 162, 0, 44, 27, 42, 180, 0, 34, 28, 46, 42, 180, 0, 34, 28, 4, 100, 46, 100, 184, 0, 214, 42] := bL_of (by decide +kernel)
def dX12_cliffs_24 := dk46 (k := 0) bX12_cliffs_24 rfl
def dX12_cliffs_25 := dk162 (k := 1) (x := 44) bX12_cliffs_24 rfl (by decide)
def dX12_cliffs_28 := dk27 (k := 4) bX12_cliffs_24 rfl
def dX12_cliffs_29 := dk42 (k := 5) bX12_cliffs_24 rfl
def dX12_cliffs_30 := dk180 (k := 6) (x := 34) bX12_cliffs_24 rfl rfl
def dX12_cliffs_33 := dk28 (k := 9) bX12_cliffs_24 rfl
def dX12_cliffs_34 := dk46 (k := 10) bX12_cliffs_24 rfl
def dX12_cliffs_35 := dk42 (k := 11) bX12_cliffs_24 rfl
def dX12_cliffs_36 := dk180 (k := 12) (x := 34) bX12_cliffs_24 rfl rfl
def dX12_cliffs_39 := dk28 (k := 15) bX12_cliffs_24 rfl
def dX12_cliffs_40 := dk4 (k := 16) bX12_cliffs_24 rfl
def dX12_cliffs_41 := dk100 (k := 17) bX12_cliffs_24 rfl
def dX12_cliffs_42 := dk46 (k := 18) bX12_cliffs_24 rfl
def dX12_cliffs_43 := dk100 (k := 19) bX12_cliffs_24 rfl
def dX12_cliffs_44 := dk184 (k := 20) (x := 214) bX12_cliffs_24 rfl rfl
def dX12_cliffs_47 := dk42 (k := 23) bX12_cliffs_24 rfl
theorem bX12_cliffs_48 : bL cX12_cliffs 48 [180, 0, 9, 5, 46, 164, 0, 7, 4, 167, 0, 4, 3, 96, 60, 132, 2, 1, 167, 255, 208, 27, 172] := bL_of (by decide +kernel)
def dX12_cliffs_48 := dk180 (k := 0) (x := 9) bX12_cliffs_48 rfl rfl
def dX12_cliffs_51 := dk5 (k := 3) bX12_cliffs_48 rfl
def dX12_cliffs_52 := dk46 (k := 4) bX12_cliffs_48 rfl
def dX12_cliffs_53 := dk164 (k := 5) (x := 7) bX12_cliffs_48 rfl (by decide)
def dX12_cliffs_56 := dk4 (k := 8) bX12_cliffs_48 rfl
def dX12_cliffs_57 := dk167 (k := 9) (x := 4) bX12_cliffs_48 rfl (by decide)
def dX12_cliffs_60 := dk3 (k := 12) bX12_cliffs_48 rfl
def dX12_cliffs_61 := dk96 (k := 13) bX12_cliffs_48 rfl
def dX12_cliffs_62 := dk60 (k := 14) bX12_cliffs_48 rfl
theorem dX12_cliffs_63 : decode cX12_cliffs 63 = .ok (.iinc 2 1, 3) := dk132 (k := 15) bX12_cliffs_48 rfl rfl (by decide)
def dX12_cliffs_66 := dk167 (k := 18) (x := (-48)) bX12_cliffs_48 rfl (by decide)
def dX12_cliffs_69 := dk27 (k := 21) bX12_cliffs_48 rfl
def dX12_cliffs_70 := dk172 (k := 22) bX12_cliffs_48 rfl
theorem bX12_springs_0 : bL cX12_springs 0 [42, 182, 0, 73, 154, 0, 6, 16, 254, 172, 42, 182, 0, 240, 3, 60, 3, 61, 28, 42, 180, 0, 9, 3] := bL_of (by decide +kernel)
def dX12_springs_0 := dk42 (k := 0) bX12_springs_0 rfl
def dX12_springs_1 := dk182 (k := 1) (x := 73) bX12_springs_0 rfl rfl
def dX12_springs_4 := dk154 (k := 4) (x := 6) bX12_springs_0 rfl (by decide)
def dX12_springs_7 := dk16 (k := 7) (x := (-2)) bX12_springs_0 rfl (by decide)
def dX12_springs_9 := dk172 (k := 9) bX12_springs_0 rfl
def dX12_springs_10 := dk42 (k := 10) bX12_springs_0 rfl
def dX12_springs_11 := dk182 (k := 11) (x := 240) bX12_springs_0 rfl rfl
def dX12_springs_14 := dk3 (k := 14) bX12_springs_0 rfl
def dX12_springs_15 := dk60 (k := 15) bX12_springs_0 rfl
def dX12_springs_16 := dk3 (k := 16) bX12_springs_0 rfl
def dX12_springs_17 := dk61 (k := 17) bX12_springs_0 rfl
def dX12_springs_18 := dk28 (k := 18) bX12_springs_0 rfl
def dX12_springs_19 := dk42 (k := 19) bX12_springs_0 rfl
def dX12_springs_20 := dk180 (k := 20) (x := 9) bX12_springs_0 rfl rfl
def dX12_springs_23 := dk3 (k := 23) bX12_springs_0 rfl
theorem bX12_springs_24 : bL cX12_springs 24 [46, 162, 0, 19, 27, 4, 42, 28, 182, 1, 67, 120, 128, 60, 132, 2, 1, 167, 255, 233, 27, 172] := bL_of (by decide +kernel)
def dX12_springs_24 := dk46 (k := 0) bX12_springs_24 rfl
def dX12_springs_25 := dk162 (k := 1) (x := 19) bX12_springs_24 rfl (by decide)
def dX12_springs_28 := dk27 (k := 4) bX12_springs_24 rfl
def dX12_springs_29 := dk4 (k := 5) bX12_springs_24 rfl
def dX12_springs_30 := dk42 (k := 6) bX12_springs_24 rfl
def dX12_springs_31 := dk28 (k := 7) bX12_springs_24 rfl
def dX12_springs_32 := dk182 (k := 8) (x := 323) bX12_springs_24 rfl rfl
def dX12_springs_35 := dk120 (k := 11) bX12_springs_24 rfl
def dX12_springs_36 := dk128 (k := 12) bX12_springs_24 rfl
def dX12_springs_37 := dk60 (k := 13) bX12_springs_24 rfl
theorem dX12_springs_38 : decode cX12_springs 38 = .ok (.iinc 2 1, 3) := dk132 (k := 14) bX12_springs_24 rfl rfl (by decide)
def dX12_springs_41 := dk167 (k := 17) (x := (-23)) bX12_springs_24 rfl (by decide)
def dX12_springs_44 := dk27 (k := 20) bX12_springs_24 rfl
def dX12_springs_45 := dk172 (k := 21) bX12_springs_24 rfl
theorem bX12_isSeen_0 : bL cX12_isSeen 0 [28, 27, 100, 184, 0, 214, 62, 4, 54, 4, 21, 4, 29, 162, 0, 60, 42, 180, 0, 34, 28, 27, 164, 0, 10] := bL_of (by decide +kernel)
def dX12_isSeen_0 := dk28 (k := 0) bX12_isSeen_0 rfl
def dX12_isSeen_1 := dk27 (k := 1) bX12_isSeen_0 rfl
def dX12_isSeen_2 := dk100 (k := 2) bX12_isSeen_0 rfl
def dX12_isSeen_3 := dk184 (k := 3) (x := 214) bX12_isSeen_0 rfl rfl
def dX12_isSeen_6 := dk62 (k := 6) bX12_isSeen_0 rfl
def dX12_isSeen_7 := dk4 (k := 7) bX12_isSeen_0 rfl
def dX12_isSeen_8 := dk54 (k := 8) (x := 4) bX12_isSeen_0 rfl rfl
def dX12_isSeen_10 := dk21 (k := 10) (x := 4) bX12_isSeen_0 rfl rfl
def dX12_isSeen_12 := dk29 (k := 12) bX12_isSeen_0 rfl
def dX12_isSeen_13 := dk162 (k := 13) (x := 60) bX12_isSeen_0 rfl (by decide)
def dX12_isSeen_16 := dk42 (k := 16) bX12_isSeen_0 rfl
def dX12_isSeen_17 := dk180 (k := 17) (x := 34) bX12_isSeen_0 rfl rfl
def dX12_isSeen_20 := dk28 (k := 20) bX12_isSeen_0 rfl
def dX12_isSeen_21 := dk27 (k := 21) bX12_isSeen_0 rfl
def dX12_isSeen_22 := dk164 (k := 22) (x := 10) bX12_isSeen_0 rfl (by decide)
theorem bX12_isSeen_25 : bL cX12_isSeen 25 [27, 21, 4, 96, 167, 0, 7, 27, 21, 4, 100, 46, 42, 180, 0, 34, 27, 46, 100, 29, 104, 42, 180, 0, 34] := bL_of (by decide +kernel)
def dX12_isSeen_25 := dk27 (k := 0) bX12_isSeen_25 rfl
def dX12_isSeen_26 := dk21 (k := 1) (x := 4) bX12_isSeen_25 rfl rfl
def dX12_isSeen_28 := dk96 (k := 3) bX12_isSeen_25 rfl
def dX12_isSeen_29 := dk167 (k := 4) (x := 7) bX12_isSeen_25 rfl (by decide)
def dX12_isSeen_32 := dk27 (k := 7) bX12_isSeen_25 rfl
def dX12_isSeen_33 := dk21 (k := 8) (x := 4) bX12_isSeen_25 rfl rfl
def dX12_isSeen_35 := dk100 (k := 10) bX12_isSeen_25 rfl
def dX12_isSeen_36 := dk46 (k := 11) bX12_isSeen_25 rfl
def dX12_isSeen_37 := dk42 (k := 12) bX12_isSeen_25 rfl
def dX12_isSeen_38 := dk180 (k := 13) (x := 34) bX12_isSeen_25 rfl rfl
def dX12_isSeen_41 := dk27 (k := 16) bX12_isSeen_25 rfl
def dX12_isSeen_42 := dk46 (k := 17) bX12_isSeen_25 rfl
def dX12_isSeen_43 := dk100 (k := 18) bX12_isSeen_25 rfl
def dX12_isSeen_44 := dk29 (k := 19) bX12_isSeen_25 rfl
def dX12_isSeen_45 := dk104 (k := 20) bX12_isSeen_25 rfl
def dX12_isSeen_46 := dk42 (k := 21) bX12_isSeen_25 rfl
def dX12_isSeen_47 := dk180 (k := 22) (x := 34) bX12_isSeen_25 rfl rfl
theorem bX12_isSeen_50 : bL cX12_isSeen 50 [28, 46, 42, 180, 0, 34, 27, 46, 100, 21, 4, 104, 164, 0, 5, 3, 172, 132, 4, 1, 167, 255, 196, 4] := bL_of (by decide +kernel)
def dX12_isSeen_50 := dk28 (k := 0) bX12_isSeen_50 rfl
def dX12_isSeen_51 := dk46 (k := 1) bX12_isSeen_50 rfl
def dX12_isSeen_52 := dk42 (k := 2) bX12_isSeen_50 rfl
def dX12_isSeen_53 := dk180 (k := 3) (x := 34) bX12_isSeen_50 rfl rfl
def dX12_isSeen_56 := dk27 (k := 6) bX12_isSeen_50 rfl
def dX12_isSeen_57 := dk46 (k := 7) bX12_isSeen_50 rfl
def dX12_isSeen_58 := dk100 (k := 8) bX12_isSeen_50 rfl
def dX12_isSeen_59 := dk21 (k := 9) (x := 4) bX12_isSeen_50 rfl rfl
def dX12_isSeen_61 := dk104 (k := 11) bX12_isSeen_50 rfl
def dX12_isSeen_62 := dk164 (k := 12) (x := 5) bX12_isSeen_50 rfl (by decide)
def dX12_isSeen_65 := dk3 (k := 15) bX12_isSeen_50 rfl
def dX12_isSeen_66 := dk172 (k := 16) bX12_isSeen_50 rfl
theorem dX12_isSeen_67 : decode cX12_isSeen 67 = .ok (.iinc 4 1, 3) := dk132 (k := 17) bX12_isSeen_50 rfl rfl (by decide)
def dX12_isSeen_70 := dk167 (k := 20) (x := (-60)) bX12_isSeen_50 rfl (by decide)
def dX12_isSeen_73 := dk4 (k := 23) bX12_isSeen_50 rfl
theorem bX12_isSeen_74 : bL cX12_isSeen 74 [172] := bL_of (by decide +kernel)
def dX12_isSeen_74 := dk172 (k := 0) bX12_isSeen_74 rfl
theorem bX12_seenFrom_0 : bL cX12_seenFrom 0 [3, 61, 3, 62, 29, 42, 180, 0, 9, 3, 46, 162, 0, 28, 28, 42, 27, 29, 182, 1, 70, 153, 0, 9] := bL_of (by decide +kernel)
def dX12_seenFrom_0 := dk3 (k := 0) bX12_seenFrom_0 rfl
def dX12_seenFrom_1 := dk61 (k := 1) bX12_seenFrom_0 rfl
def dX12_seenFrom_2 := dk3 (k := 2) bX12_seenFrom_0 rfl
def dX12_seenFrom_3 := dk62 (k := 3) bX12_seenFrom_0 rfl
def dX12_seenFrom_4 := dk29 (k := 4) bX12_seenFrom_0 rfl
def dX12_seenFrom_5 := dk42 (k := 5) bX12_seenFrom_0 rfl
def dX12_seenFrom_6 := dk180 (k := 6) (x := 9) bX12_seenFrom_0 rfl rfl
def dX12_seenFrom_9 := dk3 (k := 9) bX12_seenFrom_0 rfl
def dX12_seenFrom_10 := dk46 (k := 10) bX12_seenFrom_0 rfl
def dX12_seenFrom_11 := dk162 (k := 11) (x := 28) bX12_seenFrom_0 rfl (by decide)
def dX12_seenFrom_14 := dk28 (k := 14) bX12_seenFrom_0 rfl
def dX12_seenFrom_15 := dk42 (k := 15) bX12_seenFrom_0 rfl
def dX12_seenFrom_16 := dk27 (k := 16) bX12_seenFrom_0 rfl
def dX12_seenFrom_17 := dk29 (k := 17) bX12_seenFrom_0 rfl
def dX12_seenFrom_18 := dk182 (k := 18) (x := 326) bX12_seenFrom_0 rfl rfl
def dX12_seenFrom_21 := dk153 (k := 21) (x := 9) bX12_seenFrom_0 rfl (by decide)
theorem bX12_seenFrom_24 : bL cX12_seenFrom 24 [4, 29, 120, 167, 0, 4, 3, 128, 61, 132, 3, 1, 167, 255, 224, 28, 172] := bL_of (by decide +kernel)
def dX12_seenFrom_24 := dk4 (k := 0) bX12_seenFrom_24 rfl
def dX12_seenFrom_25 := dk29 (k := 1) bX12_seenFrom_24 rfl
def dX12_seenFrom_26 := dk120 (k := 2) bX12_seenFrom_24 rfl
def dX12_seenFrom_27 := dk167 (k := 3) (x := 4) bX12_seenFrom_24 rfl (by decide)
def dX12_seenFrom_30 := dk3 (k := 6) bX12_seenFrom_24 rfl
def dX12_seenFrom_31 := dk128 (k := 7) bX12_seenFrom_24 rfl
def dX12_seenFrom_32 := dk61 (k := 8) bX12_seenFrom_24 rfl
theorem dX12_seenFrom_33 : decode cX12_seenFrom 33 = .ok (.iinc 3 1, 3) := dk132 (k := 9) bX12_seenFrom_24 rfl rfl (by decide)
def dX12_seenFrom_36 := dk167 (k := 12) (x := (-32)) bX12_seenFrom_24 rfl (by decide)
def dX12_seenFrom_39 := dk28 (k := 15) bX12_seenFrom_24 rfl
def dX12_seenFrom_40 := dk172 (k := 16) bX12_seenFrom_24 rfl
theorem bX12_sees_0 : bL cX12_sees 0 [42, 27, 133, 182, 0, 203, 154, 0, 6, 16, 254, 172, 42, 182, 0, 240, 42, 27, 182, 1, 73, 172] := bL_of (by decide +kernel)
def dX12_sees_0 := dk42 (k := 0) bX12_sees_0 rfl
def dX12_sees_1 := dk27 (k := 1) bX12_sees_0 rfl
def dX12_sees_2 := dk133 (k := 2) bX12_sees_0 rfl
def dX12_sees_3 := dk182 (k := 3) (x := 203) bX12_sees_0 rfl rfl
def dX12_sees_6 := dk154 (k := 6) (x := 6) bX12_sees_0 rfl (by decide)
def dX12_sees_9 := dk16 (k := 9) (x := (-2)) bX12_sees_0 rfl (by decide)
def dX12_sees_11 := dk172 (k := 11) bX12_sees_0 rfl
def dX12_sees_12 := dk42 (k := 12) bX12_sees_0 rfl
def dX12_sees_13 := dk182 (k := 13) (x := 240) bX12_sees_0 rfl rfl
def dX12_sees_16 := dk42 (k := 16) bX12_sees_0 rfl
def dX12_sees_17 := dk27 (k := 17) bX12_sees_0 rfl
def dX12_sees_18 := dk182 (k := 18) (x := 329) bX12_sees_0 rfl rfl
def dX12_sees_21 := dk172 (k := 21) bX12_sees_0 rfl
theorem bX12_lookout_0 : bL cX12_lookout 0 [42, 182, 0, 73, 154, 0, 6, 16, 254, 172, 42, 182, 0, 240, 3, 60, 4, 61, 28, 42, 180, 0, 9, 3] := bL_of (by decide +kernel)
def dX12_lookout_0 := dk42 (k := 0) bX12_lookout_0 rfl
def dX12_lookout_1 := dk182 (k := 1) (x := 73) bX12_lookout_0 rfl rfl
def dX12_lookout_4 := dk154 (k := 4) (x := 6) bX12_lookout_0 rfl (by decide)
def dX12_lookout_7 := dk16 (k := 7) (x := (-2)) bX12_lookout_0 rfl (by decide)
def dX12_lookout_9 := dk172 (k := 9) bX12_lookout_0 rfl
def dX12_lookout_10 := dk42 (k := 10) bX12_lookout_0 rfl
def dX12_lookout_11 := dk182 (k := 11) (x := 240) bX12_lookout_0 rfl rfl
def dX12_lookout_14 := dk3 (k := 14) bX12_lookout_0 rfl
def dX12_lookout_15 := dk60 (k := 15) bX12_lookout_0 rfl
def dX12_lookout_16 := dk4 (k := 16) bX12_lookout_0 rfl
def dX12_lookout_17 := dk61 (k := 17) bX12_lookout_0 rfl
def dX12_lookout_18 := dk28 (k := 18) bX12_lookout_0 rfl
def dX12_lookout_19 := dk42 (k := 19) bX12_lookout_0 rfl
def dX12_lookout_20 := dk180 (k := 20) (x := 9) bX12_lookout_0 rfl rfl
def dX12_lookout_23 := dk3 (k := 23) bX12_lookout_0 rfl
theorem bX12_lookout_24 : bL cX12_lookout 24 [46, 162, 0, 34, 42, 28, 182, 1, 73, 184, 0, 229, 42, 27, 182, 1, 73, 184, 0, 229, 164, 0, 7, 28] := bL_of (by decide +kernel)
def dX12_lookout_24 := dk46 (k := 0) bX12_lookout_24 rfl
def dX12_lookout_25 := dk162 (k := 1) (x := 34) bX12_lookout_24 rfl (by decide)
def dX12_lookout_28 := dk42 (k := 4) bX12_lookout_24 rfl
def dX12_lookout_29 := dk28 (k := 5) bX12_lookout_24 rfl
def dX12_lookout_30 := dk182 (k := 6) (x := 329) bX12_lookout_24 rfl rfl
def dX12_lookout_33 := dk184 (k := 9) (x := 229) bX12_lookout_24 rfl rfl
def dX12_lookout_36 := dk42 (k := 12) bX12_lookout_24 rfl
def dX12_lookout_37 := dk27 (k := 13) bX12_lookout_24 rfl
def dX12_lookout_38 := dk182 (k := 14) (x := 329) bX12_lookout_24 rfl rfl
def dX12_lookout_41 := dk184 (k := 17) (x := 229) bX12_lookout_24 rfl rfl
def dX12_lookout_44 := dk164 (k := 20) (x := 7) bX12_lookout_24 rfl (by decide)
def dX12_lookout_47 := dk28 (k := 23) bX12_lookout_24 rfl
theorem bX12_lookout_48 : bL cX12_lookout 48 [167, 0, 4, 27, 60, 132, 2, 1, 167, 255, 218, 27, 172] := bL_of (by decide +kernel)
def dX12_lookout_48 := dk167 (k := 0) (x := 4) bX12_lookout_48 rfl (by decide)
def dX12_lookout_51 := dk27 (k := 3) bX12_lookout_48 rfl
def dX12_lookout_52 := dk60 (k := 4) bX12_lookout_48 rfl
theorem dX12_lookout_53 : decode cX12_lookout 53 = .ok (.iinc 2 1, 3) := dk132 (k := 5) bX12_lookout_48 rfl rfl (by decide)
def dX12_lookout_56 := dk167 (k := 8) (x := (-38)) bX12_lookout_48 rfl (by decide)
def dX12_lookout_59 := dk27 (k := 11) bX12_lookout_48 rfl
def dX12_lookout_60 := dk172 (k := 12) bX12_lookout_48 rfl
theorem bX12_votesFor_0 : bL cX12_votesFor 0 [3, 62, 3, 54, 4, 21, 4, 42, 180, 0, 9, 16, 6, 46, 162, 0, 79, 42, 180, 0, 34, 27, 92, 46] := bL_of (by decide +kernel)
def dX12_votesFor_0 := dk3 (k := 0) bX12_votesFor_0 rfl
def dX12_votesFor_1 := dk62 (k := 1) bX12_votesFor_0 rfl
def dX12_votesFor_2 := dk3 (k := 2) bX12_votesFor_0 rfl
def dX12_votesFor_3 := dk54 (k := 3) (x := 4) bX12_votesFor_0 rfl rfl
def dX12_votesFor_5 := dk21 (k := 5) (x := 4) bX12_votesFor_0 rfl rfl
def dX12_votesFor_7 := dk42 (k := 7) bX12_votesFor_0 rfl
def dX12_votesFor_8 := dk180 (k := 8) (x := 9) bX12_votesFor_0 rfl rfl
def dX12_votesFor_11 := dk16 (k := 11) (x := 6) bX12_votesFor_0 rfl (by decide)
def dX12_votesFor_13 := dk46 (k := 13) bX12_votesFor_0 rfl
def dX12_votesFor_14 := dk162 (k := 14) (x := 79) bX12_votesFor_0 rfl (by decide)
def dX12_votesFor_17 := dk42 (k := 17) bX12_votesFor_0 rfl
def dX12_votesFor_18 := dk180 (k := 18) (x := 34) bX12_votesFor_0 rfl rfl
def dX12_votesFor_21 := dk27 (k := 21) bX12_votesFor_0 rfl
def dX12_votesFor_22 := dk92 (k := 22) bX12_votesFor_0 rfl
def dX12_votesFor_23 := dk46 (k := 23) bX12_votesFor_0 rfl
theorem bX12_votesFor_24 : bL cX12_votesFor 24 [4, 100, 79, 42, 21, 4, 182, 0, 232, 54, 5, 42, 180, 0, 34, 27, 92, 46, 4, 96, 79, 42, 180, 0, 34] := bL_of (by decide +kernel)
def dX12_votesFor_24 := dk4 (k := 0) bX12_votesFor_24 rfl
def dX12_votesFor_25 := dk100 (k := 1) bX12_votesFor_24 rfl
def dX12_votesFor_26 := dk79 (k := 2) bX12_votesFor_24 rfl
def dX12_votesFor_27 := dk42 (k := 3) bX12_votesFor_24 rfl
def dX12_votesFor_28 := dk21 (k := 4) (x := 4) bX12_votesFor_24 rfl rfl
def dX12_votesFor_30 := dk182 (k := 6) (x := 232) bX12_votesFor_24 rfl rfl
def dX12_votesFor_33 := dk54 (k := 9) (x := 5) bX12_votesFor_24 rfl rfl
def dX12_votesFor_35 := dk42 (k := 11) bX12_votesFor_24 rfl
def dX12_votesFor_36 := dk180 (k := 12) (x := 34) bX12_votesFor_24 rfl rfl
def dX12_votesFor_39 := dk27 (k := 15) bX12_votesFor_24 rfl
def dX12_votesFor_40 := dk92 (k := 16) bX12_votesFor_24 rfl
def dX12_votesFor_41 := dk46 (k := 17) bX12_votesFor_24 rfl
def dX12_votesFor_42 := dk4 (k := 18) bX12_votesFor_24 rfl
def dX12_votesFor_43 := dk96 (k := 19) bX12_votesFor_24 rfl
def dX12_votesFor_44 := dk79 (k := 20) bX12_votesFor_24 rfl
def dX12_votesFor_45 := dk42 (k := 21) bX12_votesFor_24 rfl
def dX12_votesFor_46 := dk180 (k := 22) (x := 34) bX12_votesFor_24 rfl rfl
theorem bX12_votesFor_49 : bL cX12_votesFor 49 [28, 92, 46, 4, 100, 79, 29, 21, 5, 42, 21, 4, 182, 0, 232, 164, 0, 10, 4, 21, 4, 120, 167, 0, 4] := bL_of (by decide +kernel)
def dX12_votesFor_49 := dk28 (k := 0) bX12_votesFor_49 rfl
def dX12_votesFor_50 := dk92 (k := 1) bX12_votesFor_49 rfl
def dX12_votesFor_51 := dk46 (k := 2) bX12_votesFor_49 rfl
def dX12_votesFor_52 := dk4 (k := 3) bX12_votesFor_49 rfl
def dX12_votesFor_53 := dk100 (k := 4) bX12_votesFor_49 rfl
def dX12_votesFor_54 := dk79 (k := 5) bX12_votesFor_49 rfl
def dX12_votesFor_55 := dk29 (k := 6) bX12_votesFor_49 rfl
def dX12_votesFor_56 := dk21 (k := 7) (x := 5) bX12_votesFor_49 rfl rfl
def dX12_votesFor_58 := dk42 (k := 9) bX12_votesFor_49 rfl
def dX12_votesFor_59 := dk21 (k := 10) (x := 4) bX12_votesFor_49 rfl rfl
def dX12_votesFor_61 := dk182 (k := 12) (x := 232) bX12_votesFor_49 rfl rfl
def dX12_votesFor_64 := dk164 (k := 15) (x := 10) bX12_votesFor_49 rfl (by decide)
def dX12_votesFor_67 := dk4 (k := 18) bX12_votesFor_49 rfl
def dX12_votesFor_68 := dk21 (k := 19) (x := 4) bX12_votesFor_49 rfl rfl
def dX12_votesFor_70 := dk120 (k := 21) bX12_votesFor_49 rfl
def dX12_votesFor_71 := dk167 (k := 22) (x := 4) bX12_votesFor_49 rfl (by decide)
theorem bX12_votesFor_74 : bL cX12_votesFor 74 [3, 128, 62, 42, 180, 0, 34, 28, 92, 46, 4, 96, 79, 132, 4, 1, 167, 255, 171, 29, 172] := bL_of (by decide +kernel)
def dX12_votesFor_74 := dk3 (k := 0) bX12_votesFor_74 rfl
def dX12_votesFor_75 := dk128 (k := 1) bX12_votesFor_74 rfl
def dX12_votesFor_76 := dk62 (k := 2) bX12_votesFor_74 rfl
def dX12_votesFor_77 := dk42 (k := 3) bX12_votesFor_74 rfl
def dX12_votesFor_78 := dk180 (k := 4) (x := 34) bX12_votesFor_74 rfl rfl
def dX12_votesFor_81 := dk28 (k := 7) bX12_votesFor_74 rfl
def dX12_votesFor_82 := dk92 (k := 8) bX12_votesFor_74 rfl
def dX12_votesFor_83 := dk46 (k := 9) bX12_votesFor_74 rfl
def dX12_votesFor_84 := dk4 (k := 10) bX12_votesFor_74 rfl
def dX12_votesFor_85 := dk96 (k := 11) bX12_votesFor_74 rfl
def dX12_votesFor_86 := dk79 (k := 12) bX12_votesFor_74 rfl
theorem dX12_votesFor_87 : decode cX12_votesFor 87 = .ok (.iinc 4 1, 3) := dk132 (k := 13) bX12_votesFor_74 rfl rfl (by decide)
def dX12_votesFor_90 := dk167 (k := 16) (x := (-85)) bX12_votesFor_74 rfl (by decide)
def dX12_votesFor_93 := dk29 (k := 19) bX12_votesFor_74 rfl
def dX12_votesFor_94 := dk172 (k := 20) bX12_votesFor_74 rfl
theorem bX12_votes_0 : bL cX12_votes 0 [42, 27, 133, 182, 0, 203, 153, 0, 12, 42, 28, 133, 182, 0, 203, 154, 0, 6, 16, 254, 172, 42, 182, 0, 240] := bL_of (by decide +kernel)
def dX12_votes_0 := dk42 (k := 0) bX12_votes_0 rfl
def dX12_votes_1 := dk27 (k := 1) bX12_votes_0 rfl
def dX12_votes_2 := dk133 (k := 2) bX12_votes_0 rfl
def dX12_votes_3 := dk182 (k := 3) (x := 203) bX12_votes_0 rfl rfl
def dX12_votes_6 := dk153 (k := 6) (x := 12) bX12_votes_0 rfl (by decide)
def dX12_votes_9 := dk42 (k := 9) bX12_votes_0 rfl
def dX12_votes_10 := dk28 (k := 10) bX12_votes_0 rfl
def dX12_votes_11 := dk133 (k := 11) bX12_votes_0 rfl
def dX12_votes_12 := dk182 (k := 12) (x := 203) bX12_votes_0 rfl rfl
def dX12_votes_15 := dk154 (k := 15) (x := 6) bX12_votes_0 rfl (by decide)
def dX12_votes_18 := dk16 (k := 18) (x := (-2)) bX12_votes_0 rfl (by decide)
def dX12_votes_20 := dk172 (k := 20) bX12_votes_0 rfl
def dX12_votes_21 := dk42 (k := 21) bX12_votes_0 rfl
def dX12_votes_22 := dk182 (k := 22) (x := 240) bX12_votes_0 rfl rfl
theorem bX12_votes_25 : bL cX12_votes 25 [42, 180, 0, 34, 27, 46, 153, 0, 12, 42, 180, 0, 34, 28, 46, 154, 0, 8, 16, 254, 167, 0, 9, 42] := bL_of (by decide +kernel)
def dX12_votes_25 := dk42 (k := 0) bX12_votes_25 rfl
def dX12_votes_26 := dk180 (k := 1) (x := 34) bX12_votes_25 rfl rfl
def dX12_votes_29 := dk27 (k := 4) bX12_votes_25 rfl
def dX12_votes_30 := dk46 (k := 5) bX12_votes_25 rfl
def dX12_votes_31 := dk153 (k := 6) (x := 12) bX12_votes_25 rfl (by decide)
def dX12_votes_34 := dk42 (k := 9) bX12_votes_25 rfl
def dX12_votes_35 := dk180 (k := 10) (x := 34) bX12_votes_25 rfl rfl
def dX12_votes_38 := dk28 (k := 13) bX12_votes_25 rfl
def dX12_votes_39 := dk46 (k := 14) bX12_votes_25 rfl
def dX12_votes_40 := dk154 (k := 15) (x := 8) bX12_votes_25 rfl (by decide)
def dX12_votes_43 := dk16 (k := 18) (x := (-2)) bX12_votes_25 rfl (by decide)
def dX12_votes_45 := dk167 (k := 20) (x := 9) bX12_votes_25 rfl (by decide)
def dX12_votes_48 := dk42 (k := 23) bX12_votes_25 rfl
theorem bX12_votes_49 : bL cX12_votes 49 [27, 28, 182, 1, 76, 172] := bL_of (by decide +kernel)
def dX12_votes_49 := dk27 (k := 0) bX12_votes_49 rfl
def dX12_votes_50 := dk28 (k := 1) bX12_votes_49 rfl
def dX12_votes_51 := dk182 (k := 2) (x := 332) bX12_votes_49 rfl rfl
def dX12_votes_54 := dk172 (k := 5) bX12_votes_49 rfl
theorem bX12_elected_0 : bL cX12_elected 0 [42, 182, 0, 73, 154, 0, 6, 16, 254, 172, 42, 182, 0, 240, 3, 60, 27, 42, 180, 0, 9, 3, 46, 162, 0, 90] := bL_of (by decide +kernel)
def dX12_elected_0 := dk42 (k := 0) bX12_elected_0 rfl
def dX12_elected_1 := dk182 (k := 1) (x := 73) bX12_elected_0 rfl rfl
def dX12_elected_4 := dk154 (k := 4) (x := 6) bX12_elected_0 rfl (by decide)
def dX12_elected_7 := dk16 (k := 7) (x := (-2)) bX12_elected_0 rfl (by decide)
def dX12_elected_9 := dk172 (k := 9) bX12_elected_0 rfl
def dX12_elected_10 := dk42 (k := 10) bX12_elected_0 rfl
def dX12_elected_11 := dk182 (k := 11) (x := 240) bX12_elected_0 rfl rfl
def dX12_elected_14 := dk3 (k := 14) bX12_elected_0 rfl
def dX12_elected_15 := dk60 (k := 15) bX12_elected_0 rfl
def dX12_elected_16 := dk27 (k := 16) bX12_elected_0 rfl
def dX12_elected_17 := dk42 (k := 17) bX12_elected_0 rfl
def dX12_elected_18 := dk180 (k := 18) (x := 9) bX12_elected_0 rfl rfl
def dX12_elected_21 := dk3 (k := 21) bX12_elected_0 rfl
def dX12_elected_22 := dk46 (k := 22) bX12_elected_0 rfl
def dX12_elected_23 := dk162 (k := 23) (x := 90) bX12_elected_0 rfl (by decide)
theorem bX12_elected_26 : bL cX12_elected 26 [42, 180, 0, 34, 27, 46, 158, 0, 7, 4, 167, 0, 4, 3, 61, 3, 62, 29, 42, 180, 0, 9, 3, 46] := bL_of (by decide +kernel)
def dX12_elected_26 := dk42 (k := 0) bX12_elected_26 rfl
def dX12_elected_27 := dk180 (k := 1) (x := 34) bX12_elected_26 rfl rfl
def dX12_elected_30 := dk27 (k := 4) bX12_elected_26 rfl
def dX12_elected_31 := dk46 (k := 5) bX12_elected_26 rfl
def dX12_elected_32 := dk158 (k := 6) (x := 7) bX12_elected_26 rfl (by decide)
def dX12_elected_35 := dk4 (k := 9) bX12_elected_26 rfl
def dX12_elected_36 := dk167 (k := 10) (x := 4) bX12_elected_26 rfl (by decide)
def dX12_elected_39 := dk3 (k := 13) bX12_elected_26 rfl
def dX12_elected_40 := dk61 (k := 14) bX12_elected_26 rfl
def dX12_elected_41 := dk3 (k := 15) bX12_elected_26 rfl
def dX12_elected_42 := dk62 (k := 16) bX12_elected_26 rfl
def dX12_elected_43 := dk29 (k := 17) bX12_elected_26 rfl
def dX12_elected_44 := dk42 (k := 18) bX12_elected_26 rfl
def dX12_elected_45 := dk180 (k := 19) (x := 9) bX12_elected_26 rfl rfl
def dX12_elected_48 := dk3 (k := 22) bX12_elected_26 rfl
def dX12_elected_49 := dk46 (k := 23) bX12_elected_26 rfl
theorem bX12_elected_50 : bL cX12_elected 50 [162, 0, 51, 28, 153, 0, 47, 42, 180, 0, 34, 29, 46, 153, 0, 26, 42, 42, 27, 29, 182, 1, 76, 182, 1, 4] := bL_of (by decide +kernel)
def dX12_elected_50 := dk162 (k := 0) (x := 51) bX12_elected_50 rfl (by decide)
def dX12_elected_53 := dk28 (k := 3) bX12_elected_50 rfl
def dX12_elected_54 := dk153 (k := 4) (x := 47) bX12_elected_50 rfl (by decide)
def dX12_elected_57 := dk42 (k := 7) bX12_elected_50 rfl
def dX12_elected_58 := dk180 (k := 8) (x := 34) bX12_elected_50 rfl rfl
def dX12_elected_61 := dk29 (k := 11) bX12_elected_50 rfl
def dX12_elected_62 := dk46 (k := 12) bX12_elected_50 rfl
def dX12_elected_63 := dk153 (k := 13) (x := 26) bX12_elected_50 rfl (by decide)
def dX12_elected_66 := dk42 (k := 16) bX12_elected_50 rfl
def dX12_elected_67 := dk42 (k := 17) bX12_elected_50 rfl
def dX12_elected_68 := dk27 (k := 18) bX12_elected_50 rfl
def dX12_elected_69 := dk29 (k := 19) bX12_elected_50 rfl
def dX12_elected_70 := dk182 (k := 20) (x := 332) bX12_elected_50 rfl rfl
def dX12_elected_73 := dk182 (k := 23) (x := 260) bX12_elected_50 rfl rfl
theorem bX12_elected_76 : bL cX12_elected 76 [42, 42, 29, 27, 182, 1, 76, 182, 1, 4, 161, 0, 7, 4, 167, 0, 4, 3, 61, 132, 3, 1, 167, 255, 201] := bL_of (by decide +kernel)
def dX12_elected_76 := dk42 (k := 0) bX12_elected_76 rfl
def dX12_elected_77 := dk42 (k := 1) bX12_elected_76 rfl
def dX12_elected_78 := dk29 (k := 2) bX12_elected_76 rfl
def dX12_elected_79 := dk27 (k := 3) bX12_elected_76 rfl
def dX12_elected_80 := dk182 (k := 4) (x := 332) bX12_elected_76 rfl rfl
def dX12_elected_83 := dk182 (k := 7) (x := 260) bX12_elected_76 rfl rfl
def dX12_elected_86 := dk161 (k := 10) (x := 7) bX12_elected_76 rfl (by decide)
def dX12_elected_89 := dk4 (k := 13) bX12_elected_76 rfl
def dX12_elected_90 := dk167 (k := 14) (x := 4) bX12_elected_76 rfl (by decide)
def dX12_elected_93 := dk3 (k := 17) bX12_elected_76 rfl
def dX12_elected_94 := dk61 (k := 18) bX12_elected_76 rfl
theorem dX12_elected_95 : decode cX12_elected 95 = .ok (.iinc 3 1, 3) := dk132 (k := 19) bX12_elected_76 rfl rfl (by decide)
def dX12_elected_98 := dk167 (k := 22) (x := (-55)) bX12_elected_76 rfl (by decide)
theorem bX12_elected_101 : bL cX12_elected 101 [28, 153, 0, 5, 27, 172, 132, 1, 1, 167, 255, 162, 2, 172] := bL_of (by decide +kernel)
def dX12_elected_101 := dk28 (k := 0) bX12_elected_101 rfl
def dX12_elected_102 := dk153 (k := 1) (x := 5) bX12_elected_101 rfl (by decide)
def dX12_elected_105 := dk27 (k := 4) bX12_elected_101 rfl
def dX12_elected_106 := dk172 (k := 5) bX12_elected_101 rfl
theorem dX12_elected_107 : decode cX12_elected 107 = .ok (.iinc 1 1, 3) := dk132 (k := 6) bX12_elected_101 rfl rfl (by decide)
def dX12_elected_110 := dk167 (k := 9) (x := (-94)) bX12_elected_101 rfl (by decide)
def dX12_elected_113 := dk2 (k := 12) bX12_elected_101 rfl
def dX12_elected_114 := dk172 (k := 13) bX12_elected_101 rfl
theorem bX12_best_0 : bL cX12_best 0 [42, 182, 0, 73, 154, 0, 6, 16, 254, 172, 42, 182, 0, 240, 2, 60, 19, 1, 79, 61, 3, 62, 29, 42] := bL_of (by decide +kernel)
def dX12_best_0 := dk42 (k := 0) bX12_best_0 rfl
def dX12_best_1 := dk182 (k := 1) (x := 73) bX12_best_0 rfl rfl
def dX12_best_4 := dk154 (k := 4) (x := 6) bX12_best_0 rfl (by decide)
def dX12_best_7 := dk16 (k := 7) (x := (-2)) bX12_best_0 rfl (by decide)
def dX12_best_9 := dk172 (k := 9) bX12_best_0 rfl
def dX12_best_10 := dk42 (k := 10) bX12_best_0 rfl
def dX12_best_11 := dk182 (k := 11) (x := 240) bX12_best_0 rfl rfl
def dX12_best_14 := dk2 (k := 14) bX12_best_0 rfl
def dX12_best_15 := dk60 (k := 15) bX12_best_0 rfl
def dX12_best_16 := dk19 (k := 16) (x := 335) bX12_best_0 rfl rfl
def dX12_best_19 := dk61 (k := 19) bX12_best_0 rfl
def dX12_best_20 := dk3 (k := 20) bX12_best_0 rfl
def dX12_best_21 := dk62 (k := 21) bX12_best_0 rfl
def dX12_best_22 := dk29 (k := 22) bX12_best_0 rfl
def dX12_best_23 := dk42 (k := 23) bX12_best_0 rfl
theorem bX12_best_24 : bL cX12_best 24 [180, 0, 9, 3, 46, 162, 0, 61, 42, 180, 0, 34, 29, 46, 154, 0, 6, 167, 0, 43, 42, 180, 0, 34] := bL_of (by decide +kernel)
def dX12_best_24 := dk180 (k := 0) (x := 9) bX12_best_24 rfl rfl
def dX12_best_27 := dk3 (k := 3) bX12_best_24 rfl
def dX12_best_28 := dk46 (k := 4) bX12_best_24 rfl
def dX12_best_29 := dk162 (k := 5) (x := 61) bX12_best_24 rfl (by decide)
def dX12_best_32 := dk42 (k := 8) bX12_best_24 rfl
def dX12_best_33 := dk180 (k := 9) (x := 34) bX12_best_24 rfl rfl
def dX12_best_36 := dk29 (k := 12) bX12_best_24 rfl
def dX12_best_37 := dk46 (k := 13) bX12_best_24 rfl
def dX12_best_38 := dk154 (k := 14) (x := 6) bX12_best_24 rfl (by decide)
def dX12_best_41 := dk167 (k := 17) (x := 43) bX12_best_24 rfl (by decide)
def dX12_best_44 := dk42 (k := 20) bX12_best_24 rfl
def dX12_best_45 := dk180 (k := 21) (x := 34) bX12_best_24 rfl rfl
theorem bX12_best_48 : bL cX12_best 48 [29, 92, 46, 4, 100, 79, 42, 182, 0, 251, 54, 4, 42, 180, 0, 34, 29, 92, 46, 4, 96, 79, 21, 4] := bL_of (by decide +kernel)
def dX12_best_48 := dk29 (k := 0) bX12_best_48 rfl
def dX12_best_49 := dk92 (k := 1) bX12_best_48 rfl
def dX12_best_50 := dk46 (k := 2) bX12_best_48 rfl
def dX12_best_51 := dk4 (k := 3) bX12_best_48 rfl
def dX12_best_52 := dk100 (k := 4) bX12_best_48 rfl
def dX12_best_53 := dk79 (k := 5) bX12_best_48 rfl
def dX12_best_54 := dk42 (k := 6) bX12_best_48 rfl
def dX12_best_55 := dk182 (k := 7) (x := 251) bX12_best_48 rfl rfl
def dX12_best_58 := dk54 (k := 10) (x := 4) bX12_best_48 rfl rfl
def dX12_best_60 := dk42 (k := 12) bX12_best_48 rfl
def dX12_best_61 := dk180 (k := 13) (x := 34) bX12_best_48 rfl rfl
def dX12_best_64 := dk29 (k := 16) bX12_best_48 rfl
def dX12_best_65 := dk92 (k := 17) bX12_best_48 rfl
def dX12_best_66 := dk46 (k := 18) bX12_best_48 rfl
def dX12_best_67 := dk4 (k := 19) bX12_best_48 rfl
def dX12_best_68 := dk96 (k := 20) bX12_best_48 rfl
def dX12_best_69 := dk79 (k := 21) bX12_best_48 rfl
def dX12_best_70 := dk21 (k := 22) (x := 4) bX12_best_48 rfl rfl
theorem bX12_best_72 : bL cX12_best 72 [28, 163, 0, 6, 167, 0, 8, 21, 4, 61, 29, 60, 132, 3, 1, 167, 255, 191, 27, 172] := bL_of (by decide +kernel)
def dX12_best_72 := dk28 (k := 0) bX12_best_72 rfl
def dX12_best_73 := dk163 (k := 1) (x := 6) bX12_best_72 rfl (by decide)
def dX12_best_76 := dk167 (k := 4) (x := 8) bX12_best_72 rfl (by decide)
def dX12_best_79 := dk21 (k := 7) (x := 4) bX12_best_72 rfl rfl
def dX12_best_81 := dk61 (k := 9) bX12_best_72 rfl
def dX12_best_82 := dk29 (k := 10) bX12_best_72 rfl
def dX12_best_83 := dk60 (k := 11) bX12_best_72 rfl
theorem dX12_best_84 : decode cX12_best 84 = .ok (.iinc 3 1, 3) := dk132 (k := 12) bX12_best_72 rfl rfl (by decide)
def dX12_best_87 := dk167 (k := 15) (x := (-65)) bX12_best_72 rfl (by decide)
def dX12_best_90 := dk27 (k := 18) bX12_best_72 rfl
def dX12_best_91 := dk172 (k := 19) bX12_best_72 rfl
theorem bX12_takeRow_0 : bL cX12_takeRow 0 [3, 61, 28, 27, 162, 0, 40, 42, 180, 0, 34, 42, 180, 0, 41, 28, 46, 46, 154, 0, 5, 28, 172, 42] := bL_of (by decide +kernel)
def dX12_takeRow_0 := dk3 (k := 0) bX12_takeRow_0 rfl
def dX12_takeRow_1 := dk61 (k := 1) bX12_takeRow_0 rfl
def dX12_takeRow_2 := dk28 (k := 2) bX12_takeRow_0 rfl
def dX12_takeRow_3 := dk27 (k := 3) bX12_takeRow_0 rfl
def dX12_takeRow_4 := dk162 (k := 4) (x := 40) bX12_takeRow_0 rfl (by decide)
def dX12_takeRow_7 := dk42 (k := 7) bX12_takeRow_0 rfl
def dX12_takeRow_8 := dk180 (k := 8) (x := 34) bX12_takeRow_0 rfl rfl
def dX12_takeRow_11 := dk42 (k := 11) bX12_takeRow_0 rfl
def dX12_takeRow_12 := dk180 (k := 12) (x := 41) bX12_takeRow_0 rfl rfl
def dX12_takeRow_15 := dk28 (k := 15) bX12_takeRow_0 rfl
def dX12_takeRow_16 := dk46 (k := 16) bX12_takeRow_0 rfl
def dX12_takeRow_17 := dk46 (k := 17) bX12_takeRow_0 rfl
def dX12_takeRow_18 := dk154 (k := 18) (x := 5) bX12_takeRow_0 rfl (by decide)
def dX12_takeRow_21 := dk28 (k := 21) bX12_takeRow_0 rfl
def dX12_takeRow_22 := dk172 (k := 22) bX12_takeRow_0 rfl
def dX12_takeRow_23 := dk42 (k := 23) bX12_takeRow_0 rfl
theorem bX12_takeRow_24 : bL cX12_takeRow 24 [180, 0, 34, 42, 180, 0, 41, 28, 46, 92, 46, 4, 100, 79, 132, 2, 1, 167, 255, 217, 27, 172] := bL_of (by decide +kernel)
def dX12_takeRow_24 := dk180 (k := 0) (x := 34) bX12_takeRow_24 rfl rfl
def dX12_takeRow_27 := dk42 (k := 3) bX12_takeRow_24 rfl
def dX12_takeRow_28 := dk180 (k := 4) (x := 41) bX12_takeRow_24 rfl rfl
def dX12_takeRow_31 := dk28 (k := 7) bX12_takeRow_24 rfl
def dX12_takeRow_32 := dk46 (k := 8) bX12_takeRow_24 rfl
def dX12_takeRow_33 := dk92 (k := 9) bX12_takeRow_24 rfl
def dX12_takeRow_34 := dk46 (k := 10) bX12_takeRow_24 rfl
def dX12_takeRow_35 := dk4 (k := 11) bX12_takeRow_24 rfl
def dX12_takeRow_36 := dk100 (k := 12) bX12_takeRow_24 rfl
def dX12_takeRow_37 := dk79 (k := 13) bX12_takeRow_24 rfl
theorem dX12_takeRow_38 : decode cX12_takeRow 38 = .ok (.iinc 2 1, 3) := dk132 (k := 14) bX12_takeRow_24 rfl rfl (by decide)
def dX12_takeRow_41 := dk167 (k := 17) (x := (-39)) bX12_takeRow_24 rfl (by decide)
def dX12_takeRow_44 := dk27 (k := 20) bX12_takeRow_24 rfl
def dX12_takeRow_45 := dk172 (k := 21) bX12_takeRow_24 rfl
theorem bX12_nextRow_0 : bL cX12_nextRow 0 [27, 4, 100, 61, 28, 155, 0, 68, 42, 180, 0, 41, 28, 46, 42, 180, 0, 9, 3, 46, 4, 100, 160, 0, 6] := bL_of (by decide +kernel)
def dX12_nextRow_0 := dk27 (k := 0) bX12_nextRow_0 rfl
def dX12_nextRow_1 := dk4 (k := 1) bX12_nextRow_0 rfl
def dX12_nextRow_2 := dk100 (k := 2) bX12_nextRow_0 rfl
def dX12_nextRow_3 := dk61 (k := 3) bX12_nextRow_0 rfl
def dX12_nextRow_4 := dk28 (k := 4) bX12_nextRow_0 rfl
def dX12_nextRow_5 := dk155 (k := 5) (x := 68) bX12_nextRow_0 rfl (by decide)
def dX12_nextRow_8 := dk42 (k := 8) bX12_nextRow_0 rfl
def dX12_nextRow_9 := dk180 (k := 9) (x := 41) bX12_nextRow_0 rfl rfl
def dX12_nextRow_12 := dk28 (k := 12) bX12_nextRow_0 rfl
def dX12_nextRow_13 := dk46 (k := 13) bX12_nextRow_0 rfl
def dX12_nextRow_14 := dk42 (k := 14) bX12_nextRow_0 rfl
def dX12_nextRow_15 := dk180 (k := 15) (x := 9) bX12_nextRow_0 rfl rfl
def dX12_nextRow_18 := dk3 (k := 18) bX12_nextRow_0 rfl
def dX12_nextRow_19 := dk46 (k := 19) bX12_nextRow_0 rfl
def dX12_nextRow_20 := dk4 (k := 20) bX12_nextRow_0 rfl
def dX12_nextRow_21 := dk100 (k := 21) bX12_nextRow_0 rfl
def dX12_nextRow_22 := dk160 (k := 22) (x := 6) bX12_nextRow_0 rfl (by decide)
theorem bX12_nextRow_25 : bL cX12_nextRow 25 [167, 0, 42, 42, 180, 0, 41, 28, 92, 46, 4, 96, 79, 28, 4, 96, 62, 29, 27, 162, 0, 21, 42, 180, 0, 41] := bL_of (by decide +kernel)
def dX12_nextRow_25 := dk167 (k := 0) (x := 42) bX12_nextRow_25 rfl (by decide)
def dX12_nextRow_28 := dk42 (k := 3) bX12_nextRow_25 rfl
def dX12_nextRow_29 := dk180 (k := 4) (x := 41) bX12_nextRow_25 rfl rfl
def dX12_nextRow_32 := dk28 (k := 7) bX12_nextRow_25 rfl
def dX12_nextRow_33 := dk92 (k := 8) bX12_nextRow_25 rfl
def dX12_nextRow_34 := dk46 (k := 9) bX12_nextRow_25 rfl
def dX12_nextRow_35 := dk4 (k := 10) bX12_nextRow_25 rfl
def dX12_nextRow_36 := dk96 (k := 11) bX12_nextRow_25 rfl
def dX12_nextRow_37 := dk79 (k := 12) bX12_nextRow_25 rfl
def dX12_nextRow_38 := dk28 (k := 13) bX12_nextRow_25 rfl
def dX12_nextRow_39 := dk4 (k := 14) bX12_nextRow_25 rfl
def dX12_nextRow_40 := dk96 (k := 15) bX12_nextRow_25 rfl
def dX12_nextRow_41 := dk62 (k := 16) bX12_nextRow_25 rfl
def dX12_nextRow_42 := dk29 (k := 17) bX12_nextRow_25 rfl
def dX12_nextRow_43 := dk27 (k := 18) bX12_nextRow_25 rfl
def dX12_nextRow_44 := dk162 (k := 19) (x := 21) bX12_nextRow_25 rfl (by decide)
def dX12_nextRow_47 := dk42 (k := 22) bX12_nextRow_25 rfl
def dX12_nextRow_48 := dk180 (k := 23) (x := 41) bX12_nextRow_25 rfl rfl
theorem bX12_nextRow_51 : bL cX12_nextRow 51 [29, 42, 180, 0, 41, 28, 46, 79, 132, 3, 1, 167, 255, 236, 4, 172, 132, 2, 255, 167, 255, 190, 3, 172] := bL_of (by decide +kernel)
def dX12_nextRow_51 := dk29 (k := 0) bX12_nextRow_51 rfl
def dX12_nextRow_52 := dk42 (k := 1) bX12_nextRow_51 rfl
def dX12_nextRow_53 := dk180 (k := 2) (x := 41) bX12_nextRow_51 rfl rfl
def dX12_nextRow_56 := dk28 (k := 5) bX12_nextRow_51 rfl
def dX12_nextRow_57 := dk46 (k := 6) bX12_nextRow_51 rfl
def dX12_nextRow_58 := dk79 (k := 7) bX12_nextRow_51 rfl
theorem dX12_nextRow_59 : decode cX12_nextRow 59 = .ok (.iinc 3 1, 3) := dk132 (k := 8) bX12_nextRow_51 rfl rfl (by decide)
def dX12_nextRow_62 := dk167 (k := 11) (x := (-20)) bX12_nextRow_51 rfl (by decide)
def dX12_nextRow_65 := dk4 (k := 14) bX12_nextRow_51 rfl
def dX12_nextRow_66 := dk172 (k := 15) bX12_nextRow_51 rfl
theorem dX12_nextRow_67 : decode cX12_nextRow 67 = .ok (.iinc 2 (-1), 3) := dk132 (k := 16) bX12_nextRow_51 rfl rfl (by decide)
def dX12_nextRow_70 := dk167 (k := 19) (x := (-66)) bX12_nextRow_51 rfl (by decide)
def dX12_nextRow_73 := dk3 (k := 22) bX12_nextRow_51 rfl
def dX12_nextRow_74 := dk172 (k := 23) bX12_nextRow_51 rfl
theorem bX12_shapeOf_0 : bL cX12_shapeOf 0 [42, 182, 0, 240, 3, 61, 28, 6, 162, 0, 16, 42, 180, 0, 41, 28, 3, 79, 132, 2, 1, 167, 255, 241] := bL_of (by decide +kernel)
def dX12_shapeOf_0 := dk42 (k := 0) bX12_shapeOf_0 rfl
def dX12_shapeOf_1 := dk182 (k := 1) (x := 240) bX12_shapeOf_0 rfl rfl
def dX12_shapeOf_4 := dk3 (k := 4) bX12_shapeOf_0 rfl
def dX12_shapeOf_5 := dk61 (k := 5) bX12_shapeOf_0 rfl
def dX12_shapeOf_6 := dk28 (k := 6) bX12_shapeOf_0 rfl
def dX12_shapeOf_7 := dk6 (k := 7) bX12_shapeOf_0 rfl
def dX12_shapeOf_8 := dk162 (k := 8) (x := 16) bX12_shapeOf_0 rfl (by decide)
def dX12_shapeOf_11 := dk42 (k := 11) bX12_shapeOf_0 rfl
def dX12_shapeOf_12 := dk180 (k := 12) (x := 41) bX12_shapeOf_0 rfl rfl
def dX12_shapeOf_15 := dk28 (k := 15) bX12_shapeOf_0 rfl
def dX12_shapeOf_16 := dk3 (k := 16) bX12_shapeOf_0 rfl
def dX12_shapeOf_17 := dk79 (k := 17) bX12_shapeOf_0 rfl
theorem dX12_shapeOf_18 : decode cX12_shapeOf 18 = .ok (.iinc 2 1, 3) := dk132 (k := 18) bX12_shapeOf_0 rfl rfl (by decide)
def dX12_shapeOf_21 := dk167 (k := 21) (x := (-15)) bX12_shapeOf_0 rfl (by decide)
theorem bX12_shapeOf_24 : bL cX12_shapeOf 24 [19, 1, 79, 61, 42, 27, 182, 1, 80, 62, 29, 27, 160, 0, 10, 42, 182, 0, 251, 167, 0, 6, 19, 1, 79] := bL_of (by decide +kernel)
def dX12_shapeOf_24 := dk19 (k := 0) (x := 335) bX12_shapeOf_24 rfl rfl
def dX12_shapeOf_27 := dk61 (k := 3) bX12_shapeOf_24 rfl
def dX12_shapeOf_28 := dk42 (k := 4) bX12_shapeOf_24 rfl
def dX12_shapeOf_29 := dk27 (k := 5) bX12_shapeOf_24 rfl
def dX12_shapeOf_30 := dk182 (k := 6) (x := 336) bX12_shapeOf_24 rfl rfl
def dX12_shapeOf_33 := dk62 (k := 9) bX12_shapeOf_24 rfl
def dX12_shapeOf_34 := dk29 (k := 10) bX12_shapeOf_24 rfl
def dX12_shapeOf_35 := dk27 (k := 11) bX12_shapeOf_24 rfl
def dX12_shapeOf_36 := dk160 (k := 12) (x := 10) bX12_shapeOf_24 rfl (by decide)
def dX12_shapeOf_39 := dk42 (k := 15) bX12_shapeOf_24 rfl
def dX12_shapeOf_40 := dk182 (k := 16) (x := 251) bX12_shapeOf_24 rfl rfl
def dX12_shapeOf_43 := dk167 (k := 19) (x := 6) bX12_shapeOf_24 rfl (by decide)
def dX12_shapeOf_46 := dk19 (k := 22) (x := 335) bX12_shapeOf_24 rfl rfl
theorem bX12_shapeOf_49 : bL cX12_shapeOf 49 [54, 4, 3, 54, 5, 21, 5, 29, 162, 0, 25, 42, 180, 0, 34, 42, 180, 0, 41, 21, 5, 46, 92, 46] := bL_of (by decide +kernel)
def dX12_shapeOf_49 := dk54 (k := 0) (x := 4) bX12_shapeOf_49 rfl rfl
def dX12_shapeOf_51 := dk3 (k := 2) bX12_shapeOf_49 rfl
def dX12_shapeOf_52 := dk54 (k := 3) (x := 5) bX12_shapeOf_49 rfl rfl
def dX12_shapeOf_54 := dk21 (k := 5) (x := 5) bX12_shapeOf_49 rfl rfl
def dX12_shapeOf_56 := dk29 (k := 7) bX12_shapeOf_49 rfl
def dX12_shapeOf_57 := dk162 (k := 8) (x := 25) bX12_shapeOf_49 rfl (by decide)
def dX12_shapeOf_60 := dk42 (k := 11) bX12_shapeOf_49 rfl
def dX12_shapeOf_61 := dk180 (k := 12) (x := 34) bX12_shapeOf_49 rfl rfl
def dX12_shapeOf_64 := dk42 (k := 15) bX12_shapeOf_49 rfl
def dX12_shapeOf_65 := dk180 (k := 16) (x := 41) bX12_shapeOf_49 rfl rfl
def dX12_shapeOf_68 := dk21 (k := 19) (x := 5) bX12_shapeOf_49 rfl rfl
def dX12_shapeOf_70 := dk46 (k := 21) bX12_shapeOf_49 rfl
def dX12_shapeOf_71 := dk92 (k := 22) bX12_shapeOf_49 rfl
def dX12_shapeOf_72 := dk46 (k := 23) bX12_shapeOf_49 rfl
theorem bX12_shapeOf_73 : bL cX12_shapeOf 73 [4, 96, 79, 132, 5, 1, 167, 255, 231, 21, 4, 28, 163, 0, 6, 167, 0, 35, 21, 4, 61, 3, 54, 5] := bL_of (by decide +kernel)
def dX12_shapeOf_73 := dk4 (k := 0) bX12_shapeOf_73 rfl
def dX12_shapeOf_74 := dk96 (k := 1) bX12_shapeOf_73 rfl
def dX12_shapeOf_75 := dk79 (k := 2) bX12_shapeOf_73 rfl
theorem dX12_shapeOf_76 : decode cX12_shapeOf 76 = .ok (.iinc 5 1, 3) := dk132 (k := 3) bX12_shapeOf_73 rfl rfl (by decide)
def dX12_shapeOf_79 := dk167 (k := 6) (x := (-25)) bX12_shapeOf_73 rfl (by decide)
def dX12_shapeOf_82 := dk21 (k := 9) (x := 4) bX12_shapeOf_73 rfl rfl
def dX12_shapeOf_84 := dk28 (k := 11) bX12_shapeOf_73 rfl
def dX12_shapeOf_85 := dk163 (k := 12) (x := 6) bX12_shapeOf_73 rfl (by decide)
def dX12_shapeOf_88 := dk167 (k := 15) (x := 35) bX12_shapeOf_73 rfl (by decide)
def dX12_shapeOf_91 := dk21 (k := 18) (x := 4) bX12_shapeOf_73 rfl rfl
def dX12_shapeOf_93 := dk61 (k := 20) bX12_shapeOf_73 rfl
def dX12_shapeOf_94 := dk3 (k := 21) bX12_shapeOf_73 rfl
def dX12_shapeOf_95 := dk54 (k := 22) (x := 5) bX12_shapeOf_73 rfl rfl
theorem bX12_shapeOf_97 : bL cX12_shapeOf 97 [21, 5, 27, 162, 0, 23, 42, 180, 0, 44, 21, 5, 42, 180, 0, 41, 21, 5, 46, 79, 132, 5, 1, 167, 255, 233] := bL_of (by decide +kernel)
def dX12_shapeOf_97 := dk21 (k := 0) (x := 5) bX12_shapeOf_97 rfl rfl
def dX12_shapeOf_99 := dk27 (k := 2) bX12_shapeOf_97 rfl
def dX12_shapeOf_100 := dk162 (k := 3) (x := 23) bX12_shapeOf_97 rfl (by decide)
def dX12_shapeOf_103 := dk42 (k := 6) bX12_shapeOf_97 rfl
def dX12_shapeOf_104 := dk180 (k := 7) (x := 44) bX12_shapeOf_97 rfl rfl
def dX12_shapeOf_107 := dk21 (k := 10) (x := 5) bX12_shapeOf_97 rfl rfl
def dX12_shapeOf_109 := dk42 (k := 12) bX12_shapeOf_97 rfl
def dX12_shapeOf_110 := dk180 (k := 13) (x := 41) bX12_shapeOf_97 rfl rfl
def dX12_shapeOf_113 := dk21 (k := 16) (x := 5) bX12_shapeOf_97 rfl rfl
def dX12_shapeOf_115 := dk46 (k := 18) bX12_shapeOf_97 rfl
def dX12_shapeOf_116 := dk79 (k := 19) bX12_shapeOf_97 rfl
theorem dX12_shapeOf_117 : decode cX12_shapeOf 117 = .ok (.iinc 5 1, 3) := dk132 (k := 20) bX12_shapeOf_97 rfl rfl (by decide)
def dX12_shapeOf_120 := dk167 (k := 23) (x := (-23)) bX12_shapeOf_97 rfl (by decide)
theorem bX12_shapeOf_123 : bL cX12_shapeOf 123 [42, 27, 182, 1, 83, 154, 255, 156, 28, 172] := bL_of (by decide +kernel)
def dX12_shapeOf_123 := dk42 (k := 0) bX12_shapeOf_123 rfl
def dX12_shapeOf_124 := dk27 (k := 1) bX12_shapeOf_123 rfl
def dX12_shapeOf_125 := dk182 (k := 2) (x := 339) bX12_shapeOf_123 rfl rfl
def dX12_shapeOf_128 := dk154 (k := 5) (x := (-100)) bX12_shapeOf_123 rfl (by decide)
def dX12_shapeOf_131 := dk28 (k := 8) bX12_shapeOf_123 rfl
def dX12_shapeOf_132 := dk172 (k := 9) bX12_shapeOf_123 rfl
theorem bX12_shape_0 : bL cX12_shape 0 [42, 182, 0, 73, 153, 0, 15, 27, 133, 9, 20, 1, 86] := bL_of (by decide +kernel)
def dX12_shape_0 := dk42 (k := 0) bX12_shape_0 rfl
def dX12_shape_1 := dk182 (k := 1) (x := 73) bX12_shape_0 rfl rfl
def dX12_shape_4 := dk153 (k := 4) (x := 15) bX12_shape_0 rfl (by decide)
def dX12_shape_7 := dk27 (k := 7) bX12_shape_0 rfl
def dX12_shape_8 := dk133 (k := 8) bX12_shape_0 rfl
def dX12_shape_9 := dk9 (k := 9) bX12_shape_0 rfl
def dX12_shape_10 := dk20 (k := 10) (x := 342) bX12_shape_0 rfl rfl
