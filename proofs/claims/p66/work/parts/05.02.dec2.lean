theorem bX12_feed_103 : bL cX12_feed 103 [180, 0, 81, 16, 20, 96, 181, 0, 81, 42, 180, 0, 81, 172] := bL_of (by decide +kernel)
theorem dX12_feed_103 : decode cX12_feed 103 = .ok (.getfield 81, 3) := dk180 (k := 0) bX12_feed_103 rfl rfl
theorem dX12_feed_106 : decode cX12_feed 106 = .ok (.bipush 20, 2) := dk16 (k := 3) bX12_feed_103 rfl (by decide)
theorem dX12_feed_108 : decode cX12_feed 108 = .ok (.iadd, 1) := dk96 (k := 5) bX12_feed_103 rfl
theorem dX12_feed_109 : decode cX12_feed 109 = .ok (.putfield 81, 3) := dk181 (k := 6) bX12_feed_103 rfl rfl
theorem dX12_feed_112 : decode cX12_feed 112 = .ok (.aload_n 0, 1) := dk42 (k := 9) bX12_feed_103 rfl
theorem dX12_feed_113 : decode cX12_feed 113 = .ok (.getfield 81, 3) := dk180 (k := 10) bX12_feed_103 rfl rfl
theorem dX12_feed_116 : decode cX12_feed 116 = .ok (.ireturn, 1) := dk172 (k := 13) bX12_feed_103 rfl
theorem bX12_end_0 : bL cX12_end 0 [27, 133, 9, 42, 180, 0, 81, 133, 184, 0, 65, 154, 0, 5, 2, 172, 42, 27, 181, 0, 81, 27, 172] := bL_of (by decide +kernel)
theorem dX12_end_0 : decode cX12_end 0 = .ok (.iload_n 1, 1) := dk27 (k := 0) bX12_end_0 rfl
theorem dX12_end_1 : decode cX12_end 1 = .ok (.i2l, 1) := dk133 (k := 1) bX12_end_0 rfl
theorem dX12_end_2 : decode cX12_end 2 = .ok (.lconst 0, 1) := dk9 (k := 2) bX12_end_0 rfl
theorem dX12_end_3 : decode cX12_end 3 = .ok (.aload_n 0, 1) := dk42 (k := 3) bX12_end_0 rfl
theorem dX12_end_4 : decode cX12_end 4 = .ok (.getfield 81, 3) := dk180 (k := 4) bX12_end_0 rfl rfl
theorem dX12_end_7 : decode cX12_end 7 = .ok (.i2l, 1) := dk133 (k := 7) bX12_end_0 rfl
theorem dX12_end_8 : decode cX12_end 8 = .ok (.invokestatic 65, 3) := dk184 (k := 8) bX12_end_0 rfl rfl
theorem dX12_end_11 : decode cX12_end 11 = .ok (.ifCond .ne 5, 3) := dk154 (k := 11) bX12_end_0 rfl (by decide)
theorem dX12_end_14 : decode cX12_end 14 = .ok (.iconst (-1), 1) := dk2 (k := 14) bX12_end_0 rfl
theorem dX12_end_15 : decode cX12_end 15 = .ok (.ireturn, 1) := dk172 (k := 15) bX12_end_0 rfl
theorem dX12_end_16 : decode cX12_end 16 = .ok (.aload_n 0, 1) := dk42 (k := 16) bX12_end_0 rfl
theorem dX12_end_17 : decode cX12_end 17 = .ok (.iload_n 1, 1) := dk27 (k := 17) bX12_end_0 rfl
theorem dX12_end_18 : decode cX12_end 18 = .ok (.putfield 81, 3) := dk181 (k := 18) bX12_end_0 rfl rfl
theorem dX12_end_21 : decode cX12_end 21 = .ok (.iload_n 1, 1) := dk27 (k := 21) bX12_end_0 rfl
theorem dX12_end_22 : decode cX12_end 22 = .ok (.ireturn, 1) := dk172 (k := 22) bX12_end_0 rfl
theorem bX12_see_0 : bL cX12_see 0 [27, 42, 180, 0, 84, 162, 0, 16, 42, 180, 0, 20, 27, 51, 17, 0, 255, 126, 167, 0, 4, 2, 172] := bL_of (by decide +kernel)
theorem dX12_see_0 : decode cX12_see 0 = .ok (.iload_n 1, 1) := dk27 (k := 0) bX12_see_0 rfl
theorem dX12_see_1 : decode cX12_see 1 = .ok (.aload_n 0, 1) := dk42 (k := 1) bX12_see_0 rfl
theorem dX12_see_2 : decode cX12_see 2 = .ok (.getfield 84, 3) := dk180 (k := 2) bX12_see_0 rfl rfl
theorem dX12_see_5 : decode cX12_see 5 = .ok (.if_icmp .ge 16, 3) := dk162 (k := 5) bX12_see_0 rfl (by decide)
theorem dX12_see_8 : decode cX12_see 8 = .ok (.aload_n 0, 1) := dk42 (k := 8) bX12_see_0 rfl
theorem dX12_see_9 : decode cX12_see 9 = .ok (.getfield 20, 3) := dk180 (k := 9) bX12_see_0 rfl rfl
theorem dX12_see_12 : decode cX12_see 12 = .ok (.iload_n 1, 1) := dk27 (k := 12) bX12_see_0 rfl
theorem dX12_see_13 : decode cX12_see 13 = .ok (.baload, 1) := dk51 (k := 13) bX12_see_0 rfl
theorem dX12_see_14 : decode cX12_see 14 = .ok (.sipush 255, 3) := dk17 (k := 14) bX12_see_0 rfl (by decide)
theorem dX12_see_17 : decode cX12_see 17 = .ok (.iand, 1) := dk126 (k := 17) bX12_see_0 rfl
theorem dX12_see_18 : decode cX12_see 18 = .ok (.goto 4, 3) := dk167 (k := 18) bX12_see_0 rfl (by decide)
theorem dX12_see_21 : decode cX12_see 21 = .ok (.iconst (-1), 1) := dk2 (k := 21) bX12_see_0 rfl
theorem dX12_see_22 : decode cX12_see 22 = .ok (.ireturn, 1) := dk172 (k := 22) bX12_see_0 rfl
theorem bX12_advance_0 : bL cX12_advance 0 [42, 42, 180, 0, 87, 182, 0, 90, 16, 32, 159, 0, 16, 42, 42, 180, 0, 87, 182, 0, 90, 16, 10, 160, 0, 16] := bL_of (by decide +kernel)
theorem dX12_advance_0 : decode cX12_advance 0 = .ok (.aload_n 0, 1) := dk42 (k := 0) bX12_advance_0 rfl
theorem dX12_advance_1 : decode cX12_advance 1 = .ok (.aload_n 0, 1) := dk42 (k := 1) bX12_advance_0 rfl
theorem dX12_advance_2 : decode cX12_advance 2 = .ok (.getfield 87, 3) := dk180 (k := 2) bX12_advance_0 rfl rfl
theorem dX12_advance_5 : decode cX12_advance 5 = .ok (.invokevirtual 90, 3) := dk182 (k := 5) bX12_advance_0 rfl rfl
theorem dX12_advance_8 : decode cX12_advance 8 = .ok (.bipush 32, 2) := dk16 (k := 8) bX12_advance_0 rfl (by decide)
theorem dX12_advance_10 : decode cX12_advance 10 = .ok (.if_icmp .eq 16, 3) := dk159 (k := 10) bX12_advance_0 rfl (by decide)
theorem dX12_advance_13 : decode cX12_advance 13 = .ok (.aload_n 0, 1) := dk42 (k := 13) bX12_advance_0 rfl
theorem dX12_advance_14 : decode cX12_advance 14 = .ok (.aload_n 0, 1) := dk42 (k := 14) bX12_advance_0 rfl
theorem dX12_advance_15 : decode cX12_advance 15 = .ok (.getfield 87, 3) := dk180 (k := 15) bX12_advance_0 rfl rfl
theorem dX12_advance_18 : decode cX12_advance 18 = .ok (.invokevirtual 90, 3) := dk182 (k := 18) bX12_advance_0 rfl rfl
theorem dX12_advance_21 : decode cX12_advance 21 = .ok (.bipush 10, 2) := dk16 (k := 21) bX12_advance_0 rfl (by decide)
theorem dX12_advance_23 : decode cX12_advance 23 = .ok (.if_icmp .ne 16, 3) := dk160 (k := 23) bX12_advance_0 rfl (by decide)
theorem bX12_advance_26 : bL cX12_advance 26 [42, 89, 180, 0, 87, 4, 96, 181, 0, 87, 167, 255, 220, 42, 42, 180, 0, 87, 181, 0, 94, 42, 42, 180, 0, 87] := bL_of (by decide +kernel)
theorem dX12_advance_26 : decode cX12_advance 26 = .ok (.aload_n 0, 1) := dk42 (k := 0) bX12_advance_26 rfl
theorem dX12_advance_27 : decode cX12_advance 27 = .ok (.dup, 1) := dk89 (k := 1) bX12_advance_26 rfl
theorem dX12_advance_28 : decode cX12_advance 28 = .ok (.getfield 87, 3) := dk180 (k := 2) bX12_advance_26 rfl rfl
theorem dX12_advance_31 : decode cX12_advance 31 = .ok (.iconst 1, 1) := dk4 (k := 5) bX12_advance_26 rfl
theorem dX12_advance_32 : decode cX12_advance 32 = .ok (.iadd, 1) := dk96 (k := 6) bX12_advance_26 rfl
theorem dX12_advance_33 : decode cX12_advance 33 = .ok (.putfield 87, 3) := dk181 (k := 7) bX12_advance_26 rfl rfl
theorem dX12_advance_36 : decode cX12_advance 36 = .ok (.goto (-36), 3) := dk167 (k := 10) bX12_advance_26 rfl (by decide)
theorem dX12_advance_39 : decode cX12_advance 39 = .ok (.aload_n 0, 1) := dk42 (k := 13) bX12_advance_26 rfl
theorem dX12_advance_40 : decode cX12_advance 40 = .ok (.aload_n 0, 1) := dk42 (k := 14) bX12_advance_26 rfl
theorem dX12_advance_41 : decode cX12_advance 41 = .ok (.getfield 87, 3) := dk180 (k := 15) bX12_advance_26 rfl rfl
theorem dX12_advance_44 : decode cX12_advance 44 = .ok (.putfield 94, 3) := dk181 (k := 18) bX12_advance_26 rfl rfl
theorem dX12_advance_47 : decode cX12_advance 47 = .ok (.aload_n 0, 1) := dk42 (k := 21) bX12_advance_26 rfl
theorem dX12_advance_48 : decode cX12_advance 48 = .ok (.aload_n 0, 1) := dk42 (k := 22) bX12_advance_26 rfl
theorem dX12_advance_49 : decode cX12_advance 49 = .ok (.getfield 87, 3) := dk180 (k := 23) bX12_advance_26 rfl rfl
theorem bX12_advance_52 : bL cX12_advance 52 [182, 0, 90, 60, 27, 2, 160, 0, 11, 42, 3, 181, 0, 97, 167, 0, 173, 27, 133, 20, 0, 100, 20, 0, 102] := bL_of (by decide +kernel)
theorem dX12_advance_52 : decode cX12_advance 52 = .ok (.invokevirtual 90, 3) := dk182 (k := 0) bX12_advance_52 rfl rfl
theorem dX12_advance_55 : decode cX12_advance 55 = .ok (.istore_n 1, 1) := dk60 (k := 3) bX12_advance_52 rfl
theorem dX12_advance_56 : decode cX12_advance 56 = .ok (.iload_n 1, 1) := dk27 (k := 4) bX12_advance_52 rfl
theorem dX12_advance_57 : decode cX12_advance 57 = .ok (.iconst (-1), 1) := dk2 (k := 5) bX12_advance_52 rfl
theorem dX12_advance_58 : decode cX12_advance 58 = .ok (.if_icmp .ne 11, 3) := dk160 (k := 6) bX12_advance_52 rfl (by decide)
theorem dX12_advance_61 : decode cX12_advance 61 = .ok (.aload_n 0, 1) := dk42 (k := 9) bX12_advance_52 rfl
theorem dX12_advance_62 : decode cX12_advance 62 = .ok (.iconst 0, 1) := dk3 (k := 10) bX12_advance_52 rfl
theorem dX12_advance_63 : decode cX12_advance 63 = .ok (.putfield 97, 3) := dk181 (k := 11) bX12_advance_52 rfl rfl
theorem dX12_advance_66 : decode cX12_advance 66 = .ok (.goto 173, 3) := dk167 (k := 14) bX12_advance_52 rfl (by decide)
theorem dX12_advance_69 : decode cX12_advance 69 = .ok (.iload_n 1, 1) := dk27 (k := 17) bX12_advance_52 rfl
theorem dX12_advance_70 : decode cX12_advance 70 = .ok (.i2l, 1) := dk133 (k := 18) bX12_advance_52 rfl
theorem dX12_advance_71 : decode cX12_advance 71 = .ok (.ldc2_w 100, 3) := dk20 (k := 19) bX12_advance_52 rfl rfl
theorem dX12_advance_74 : decode cX12_advance 74 = .ok (.ldc2_w 102, 3) := dk20 (k := 22) bX12_advance_52 rfl rfl
theorem bX12_advance_77 : bL cX12_advance 77 [184, 0, 65, 153, 0, 45, 42, 42, 180, 0, 87, 182, 0, 90, 133, 20, 0, 100, 20, 0, 102, 184, 0, 65] := bL_of (by decide +kernel)
theorem dX12_advance_77 : decode cX12_advance 77 = .ok (.invokestatic 65, 3) := dk184 (k := 0) bX12_advance_77 rfl rfl
theorem dX12_advance_80 : decode cX12_advance 80 = .ok (.ifCond .eq 45, 3) := dk153 (k := 3) bX12_advance_77 rfl (by decide)
theorem dX12_advance_83 : decode cX12_advance 83 = .ok (.aload_n 0, 1) := dk42 (k := 6) bX12_advance_77 rfl
theorem dX12_advance_84 : decode cX12_advance 84 = .ok (.aload_n 0, 1) := dk42 (k := 7) bX12_advance_77 rfl
theorem dX12_advance_85 : decode cX12_advance 85 = .ok (.getfield 87, 3) := dk180 (k := 8) bX12_advance_77 rfl rfl
theorem dX12_advance_88 : decode cX12_advance 88 = .ok (.invokevirtual 90, 3) := dk182 (k := 11) bX12_advance_77 rfl rfl
theorem dX12_advance_91 : decode cX12_advance 91 = .ok (.i2l, 1) := dk133 (k := 14) bX12_advance_77 rfl
theorem dX12_advance_92 : decode cX12_advance 92 = .ok (.ldc2_w 100, 3) := dk20 (k := 15) bX12_advance_77 rfl rfl
theorem dX12_advance_95 : decode cX12_advance 95 = .ok (.ldc2_w 102, 3) := dk20 (k := 18) bX12_advance_77 rfl rfl
theorem dX12_advance_98 : decode cX12_advance 98 = .ok (.invokestatic 65, 3) := dk184 (k := 21) bX12_advance_77 rfl rfl
theorem bX12_advance_101 : bL cX12_advance 101 [153, 0, 16, 42, 89, 180, 0, 87, 4, 96, 181, 0, 87, 167, 255, 225, 42, 4, 181, 0, 97, 167, 0, 117] := bL_of (by decide +kernel)
theorem dX12_advance_101 : decode cX12_advance 101 = .ok (.ifCond .eq 16, 3) := dk153 (k := 0) bX12_advance_101 rfl (by decide)
theorem dX12_advance_104 : decode cX12_advance 104 = .ok (.aload_n 0, 1) := dk42 (k := 3) bX12_advance_101 rfl
theorem dX12_advance_105 : decode cX12_advance 105 = .ok (.dup, 1) := dk89 (k := 4) bX12_advance_101 rfl
theorem dX12_advance_106 : decode cX12_advance 106 = .ok (.getfield 87, 3) := dk180 (k := 5) bX12_advance_101 rfl rfl
theorem dX12_advance_109 : decode cX12_advance 109 = .ok (.iconst 1, 1) := dk4 (k := 8) bX12_advance_101 rfl
theorem dX12_advance_110 : decode cX12_advance 110 = .ok (.iadd, 1) := dk96 (k := 9) bX12_advance_101 rfl
theorem dX12_advance_111 : decode cX12_advance 111 = .ok (.putfield 87, 3) := dk181 (k := 10) bX12_advance_101 rfl rfl
theorem dX12_advance_114 : decode cX12_advance 114 = .ok (.goto (-31), 3) := dk167 (k := 13) bX12_advance_101 rfl (by decide)
theorem dX12_advance_117 : decode cX12_advance 117 = .ok (.aload_n 0, 1) := dk42 (k := 16) bX12_advance_101 rfl
theorem dX12_advance_118 : decode cX12_advance 118 = .ok (.iconst 1, 1) := dk4 (k := 17) bX12_advance_101 rfl
theorem dX12_advance_119 : decode cX12_advance 119 = .ok (.putfield 97, 3) := dk181 (k := 18) bX12_advance_101 rfl rfl
theorem dX12_advance_122 : decode cX12_advance 122 = .ok (.goto 117, 3) := dk167 (k := 21) bX12_advance_101 rfl (by decide)
theorem bX12_advance_125 : bL cX12_advance 125 [27, 133, 20, 0, 104, 20, 0, 106, 184, 0, 65, 153, 0, 78, 42, 3, 181, 0, 108, 42, 42, 180, 0, 87] := bL_of (by decide +kernel)
theorem dX12_advance_125 : decode cX12_advance 125 = .ok (.iload_n 1, 1) := dk27 (k := 0) bX12_advance_125 rfl
theorem dX12_advance_126 : decode cX12_advance 126 = .ok (.i2l, 1) := dk133 (k := 1) bX12_advance_125 rfl
theorem dX12_advance_127 : decode cX12_advance 127 = .ok (.ldc2_w 104, 3) := dk20 (k := 2) bX12_advance_125 rfl rfl
theorem dX12_advance_130 : decode cX12_advance 130 = .ok (.ldc2_w 106, 3) := dk20 (k := 5) bX12_advance_125 rfl rfl
theorem dX12_advance_133 : decode cX12_advance 133 = .ok (.invokestatic 65, 3) := dk184 (k := 8) bX12_advance_125 rfl rfl
theorem dX12_advance_136 : decode cX12_advance 136 = .ok (.ifCond .eq 78, 3) := dk153 (k := 11) bX12_advance_125 rfl (by decide)
theorem dX12_advance_139 : decode cX12_advance 139 = .ok (.aload_n 0, 1) := dk42 (k := 14) bX12_advance_125 rfl
theorem dX12_advance_140 : decode cX12_advance 140 = .ok (.iconst 0, 1) := dk3 (k := 15) bX12_advance_125 rfl
theorem dX12_advance_141 : decode cX12_advance 141 = .ok (.putfield 108, 3) := dk181 (k := 16) bX12_advance_125 rfl rfl
theorem dX12_advance_144 : decode cX12_advance 144 = .ok (.aload_n 0, 1) := dk42 (k := 19) bX12_advance_125 rfl
theorem dX12_advance_145 : decode cX12_advance 145 = .ok (.aload_n 0, 1) := dk42 (k := 20) bX12_advance_125 rfl
theorem dX12_advance_146 : decode cX12_advance 146 = .ok (.getfield 87, 3) := dk180 (k := 21) bX12_advance_125 rfl rfl
theorem bX12_advance_149 : bL cX12_advance 149 [182, 0, 90, 133, 20, 0, 104, 20, 0, 106, 184, 0, 65, 153, 0, 44, 42, 18, 111, 16, 10, 42, 180, 0, 108] := bL_of (by decide +kernel)
theorem dX12_advance_149 : decode cX12_advance 149 = .ok (.invokevirtual 90, 3) := dk182 (k := 0) bX12_advance_149 rfl rfl
theorem dX12_advance_152 : decode cX12_advance 152 = .ok (.i2l, 1) := dk133 (k := 3) bX12_advance_149 rfl
theorem dX12_advance_153 : decode cX12_advance 153 = .ok (.ldc2_w 104, 3) := dk20 (k := 4) bX12_advance_149 rfl rfl
theorem dX12_advance_156 : decode cX12_advance 156 = .ok (.ldc2_w 106, 3) := dk20 (k := 7) bX12_advance_149 rfl rfl
theorem dX12_advance_159 : decode cX12_advance 159 = .ok (.invokestatic 65, 3) := dk184 (k := 10) bX12_advance_149 rfl rfl
theorem dX12_advance_162 : decode cX12_advance 162 = .ok (.ifCond .eq 44, 3) := dk153 (k := 13) bX12_advance_149 rfl (by decide)
theorem dX12_advance_165 : decode cX12_advance 165 = .ok (.aload_n 0, 1) := dk42 (k := 16) bX12_advance_149 rfl
theorem dX12_advance_166 : decode cX12_advance 166 = .ok (.ldc 111, 2) := dk18 (k := 17) bX12_advance_149 rfl rfl
theorem dX12_advance_168 : decode cX12_advance 168 = .ok (.bipush 10, 2) := dk16 (k := 19) bX12_advance_149 rfl (by decide)
theorem dX12_advance_170 : decode cX12_advance 170 = .ok (.aload_n 0, 1) := dk42 (k := 21) bX12_advance_149 rfl
theorem dX12_advance_171 : decode cX12_advance 171 = .ok (.getfield 108, 3) := dk180 (k := 22) bX12_advance_149 rfl rfl
theorem bX12_advance_174 : bL cX12_advance 174 [104, 42, 42, 180, 0, 87, 182, 0, 90, 96, 16, 48, 100, 184, 0, 112, 181, 0, 108, 42, 89, 180, 0, 87] := bL_of (by decide +kernel)
theorem dX12_advance_174 : decode cX12_advance 174 = .ok (.imul, 1) := dk104 (k := 0) bX12_advance_174 rfl
theorem dX12_advance_175 : decode cX12_advance 175 = .ok (.aload_n 0, 1) := dk42 (k := 1) bX12_advance_174 rfl
theorem dX12_advance_176 : decode cX12_advance 176 = .ok (.aload_n 0, 1) := dk42 (k := 2) bX12_advance_174 rfl
theorem dX12_advance_177 : decode cX12_advance 177 = .ok (.getfield 87, 3) := dk180 (k := 3) bX12_advance_174 rfl rfl
theorem dX12_advance_180 : decode cX12_advance 180 = .ok (.invokevirtual 90, 3) := dk182 (k := 6) bX12_advance_174 rfl rfl
theorem dX12_advance_183 : decode cX12_advance 183 = .ok (.iadd, 1) := dk96 (k := 9) bX12_advance_174 rfl
theorem dX12_advance_184 : decode cX12_advance 184 = .ok (.bipush 48, 2) := dk16 (k := 10) bX12_advance_174 rfl (by decide)
theorem dX12_advance_186 : decode cX12_advance 186 = .ok (.isub, 1) := dk100 (k := 12) bX12_advance_174 rfl
theorem dX12_advance_187 : decode cX12_advance 187 = .ok (.invokestatic 112, 3) := dk184 (k := 13) bX12_advance_174 rfl rfl
theorem dX12_advance_190 : decode cX12_advance 190 = .ok (.putfield 108, 3) := dk181 (k := 16) bX12_advance_174 rfl rfl
theorem dX12_advance_193 : decode cX12_advance 193 = .ok (.aload_n 0, 1) := dk42 (k := 19) bX12_advance_174 rfl
theorem dX12_advance_194 : decode cX12_advance 194 = .ok (.dup, 1) := dk89 (k := 20) bX12_advance_174 rfl
theorem dX12_advance_195 : decode cX12_advance 195 = .ok (.getfield 87, 3) := dk180 (k := 21) bX12_advance_174 rfl rfl
theorem bX12_advance_198 : bL cX12_advance 198 [4, 96, 181, 0, 87, 167, 255, 197, 42, 5, 181, 0, 97, 167, 0, 28, 42, 27, 16, 59, 160, 0, 7, 6] := bL_of (by decide +kernel)
theorem dX12_advance_198 : decode cX12_advance 198 = .ok (.iconst 1, 1) := dk4 (k := 0) bX12_advance_198 rfl
theorem dX12_advance_199 : decode cX12_advance 199 = .ok (.iadd, 1) := dk96 (k := 1) bX12_advance_198 rfl
theorem dX12_advance_200 : decode cX12_advance 200 = .ok (.putfield 87, 3) := dk181 (k := 2) bX12_advance_198 rfl rfl
theorem dX12_advance_203 : decode cX12_advance 203 = .ok (.goto (-59), 3) := dk167 (k := 5) bX12_advance_198 rfl (by decide)
theorem dX12_advance_206 : decode cX12_advance 206 = .ok (.aload_n 0, 1) := dk42 (k := 8) bX12_advance_198 rfl
theorem dX12_advance_207 : decode cX12_advance 207 = .ok (.iconst 2, 1) := dk5 (k := 9) bX12_advance_198 rfl
theorem dX12_advance_208 : decode cX12_advance 208 = .ok (.putfield 97, 3) := dk181 (k := 10) bX12_advance_198 rfl rfl
theorem dX12_advance_211 : decode cX12_advance 211 = .ok (.goto 28, 3) := dk167 (k := 13) bX12_advance_198 rfl (by decide)
theorem dX12_advance_214 : decode cX12_advance 214 = .ok (.aload_n 0, 1) := dk42 (k := 16) bX12_advance_198 rfl
theorem dX12_advance_215 : decode cX12_advance 215 = .ok (.iload_n 1, 1) := dk27 (k := 17) bX12_advance_198 rfl
theorem dX12_advance_216 : decode cX12_advance 216 = .ok (.bipush 59, 2) := dk16 (k := 18) bX12_advance_198 rfl (by decide)
theorem dX12_advance_218 : decode cX12_advance 218 = .ok (.if_icmp .ne 7, 3) := dk160 (k := 20) bX12_advance_198 rfl (by decide)
theorem dX12_advance_221 : decode cX12_advance 221 = .ok (.iconst 3, 1) := dk6 (k := 23) bX12_advance_198 rfl
theorem bX12_advance_222 : bL cX12_advance 222 [167, 0, 4, 7, 181, 0, 97, 42, 89, 180, 0, 87, 4, 96, 181, 0, 87, 177] := bL_of (by decide +kernel)
theorem dX12_advance_222 : decode cX12_advance 222 = .ok (.goto 4, 3) := dk167 (k := 0) bX12_advance_222 rfl (by decide)
theorem dX12_advance_225 : decode cX12_advance 225 = .ok (.iconst 4, 1) := dk7 (k := 3) bX12_advance_222 rfl
theorem dX12_advance_226 : decode cX12_advance 226 = .ok (.putfield 97, 3) := dk181 (k := 4) bX12_advance_222 rfl rfl
theorem dX12_advance_229 : decode cX12_advance 229 = .ok (.aload_n 0, 1) := dk42 (k := 7) bX12_advance_222 rfl
theorem dX12_advance_230 : decode cX12_advance 230 = .ok (.dup, 1) := dk89 (k := 8) bX12_advance_222 rfl
theorem dX12_advance_231 : decode cX12_advance 231 = .ok (.getfield 87, 3) := dk180 (k := 9) bX12_advance_222 rfl rfl
theorem dX12_advance_234 : decode cX12_advance 234 = .ok (.iconst 1, 1) := dk4 (k := 12) bX12_advance_222 rfl
theorem dX12_advance_235 : decode cX12_advance 235 = .ok (.iadd, 1) := dk96 (k := 13) bX12_advance_222 rfl
theorem dX12_advance_236 : decode cX12_advance 236 = .ok (.putfield 87, 3) := dk181 (k := 14) bX12_advance_222 rfl rfl
theorem dX12_advance_239 : decode cX12_advance 239 = .ok (.return_, 1) := dk177 (k := 17) bX12_advance_222 rfl
theorem bX12_good_0 : bL cX12_good 0 [42, 180, 0, 118, 154, 0, 7, 4, 167, 0, 4, 3, 172] := bL_of (by decide +kernel)
theorem dX12_good_0 : decode cX12_good 0 = .ok (.aload_n 0, 1) := dk42 (k := 0) bX12_good_0 rfl
theorem dX12_good_1 : decode cX12_good 1 = .ok (.getfield 118, 3) := dk180 (k := 1) bX12_good_0 rfl rfl
theorem dX12_good_4 : decode cX12_good 4 = .ok (.ifCond .ne 7, 3) := dk154 (k := 4) bX12_good_0 rfl (by decide)
theorem dX12_good_7 : decode cX12_good 7 = .ok (.iconst 1, 1) := dk4 (k := 7) bX12_good_0 rfl
theorem dX12_good_8 : decode cX12_good 8 = .ok (.goto 4, 3) := dk167 (k := 8) bX12_good_0 rfl (by decide)
theorem dX12_good_11 : decode cX12_good 11 = .ok (.iconst 0, 1) := dk3 (k := 11) bX12_good_0 rfl
theorem dX12_good_12 : decode cX12_good 12 = .ok (.ireturn, 1) := dk172 (k := 12) bX12_good_0 rfl
theorem bX12_errs_0 : bL cX12_errs 0 [42, 182, 0, 121, 154, 0, 4, 177, 42, 27, 181, 0, 118, 42, 42, 180, 0, 94, 181, 0, 27, 177] := bL_of (by decide +kernel)
theorem dX12_errs_0 : decode cX12_errs 0 = .ok (.aload_n 0, 1) := dk42 (k := 0) bX12_errs_0 rfl
theorem dX12_errs_1 : decode cX12_errs 1 = .ok (.invokevirtual 121, 3) := dk182 (k := 1) bX12_errs_0 rfl rfl
theorem dX12_errs_4 : decode cX12_errs 4 = .ok (.ifCond .ne 4, 3) := dk154 (k := 4) bX12_errs_0 rfl (by decide)
theorem dX12_errs_7 : decode cX12_errs 7 = .ok (.return_, 1) := dk177 (k := 7) bX12_errs_0 rfl
theorem dX12_errs_8 : decode cX12_errs 8 = .ok (.aload_n 0, 1) := dk42 (k := 8) bX12_errs_0 rfl
theorem dX12_errs_9 : decode cX12_errs 9 = .ok (.iload_n 1, 1) := dk27 (k := 9) bX12_errs_0 rfl
theorem dX12_errs_10 : decode cX12_errs 10 = .ok (.putfield 118, 3) := dk181 (k := 10) bX12_errs_0 rfl rfl
theorem dX12_errs_13 : decode cX12_errs 13 = .ok (.aload_n 0, 1) := dk42 (k := 13) bX12_errs_0 rfl
theorem dX12_errs_14 : decode cX12_errs 14 = .ok (.aload_n 0, 1) := dk42 (k := 14) bX12_errs_0 rfl
theorem dX12_errs_15 : decode cX12_errs 15 = .ok (.getfield 94, 3) := dk180 (k := 15) bX12_errs_0 rfl rfl
theorem dX12_errs_18 : decode cX12_errs 18 = .ok (.putfield 27, 3) := dk181 (k := 18) bX12_errs_0 rfl rfl
theorem dX12_errs_21 : decode cX12_errs 21 = .ok (.return_, 1) := dk177 (k := 21) bX12_errs_0 rfl
theorem bX12_is_0 : bL cX12_is 0 [42, 182, 0, 121, 153, 0, 31, 42, 180, 0, 97, 4, 160, 0, 23, 42, 180, 0, 87, 42, 180, 0, 94, 100] := bL_of (by decide +kernel)
theorem dX12_is_0 : decode cX12_is 0 = .ok (.aload_n 0, 1) := dk42 (k := 0) bX12_is_0 rfl
theorem dX12_is_1 : decode cX12_is 1 = .ok (.invokevirtual 121, 3) := dk182 (k := 1) bX12_is_0 rfl rfl
theorem dX12_is_4 : decode cX12_is 4 = .ok (.ifCond .eq 31, 3) := dk153 (k := 4) bX12_is_0 rfl (by decide)
theorem dX12_is_7 : decode cX12_is 7 = .ok (.aload_n 0, 1) := dk42 (k := 7) bX12_is_0 rfl
theorem dX12_is_8 : decode cX12_is 8 = .ok (.getfield 97, 3) := dk180 (k := 8) bX12_is_0 rfl rfl
theorem dX12_is_11 : decode cX12_is 11 = .ok (.iconst 1, 1) := dk4 (k := 11) bX12_is_0 rfl
theorem dX12_is_12 : decode cX12_is 12 = .ok (.if_icmp .ne 23, 3) := dk160 (k := 12) bX12_is_0 rfl (by decide)
theorem dX12_is_15 : decode cX12_is 15 = .ok (.aload_n 0, 1) := dk42 (k := 15) bX12_is_0 rfl
theorem dX12_is_16 : decode cX12_is 16 = .ok (.getfield 87, 3) := dk180 (k := 16) bX12_is_0 rfl rfl
theorem dX12_is_19 : decode cX12_is 19 = .ok (.aload_n 0, 1) := dk42 (k := 19) bX12_is_0 rfl
theorem dX12_is_20 : decode cX12_is 20 = .ok (.getfield 94, 3) := dk180 (k := 20) bX12_is_0 rfl rfl
theorem dX12_is_23 : decode cX12_is 23 = .ok (.isub, 1) := dk100 (k := 23) bX12_is_0 rfl
theorem bX12_is_24 : bL cX12_is 24 [43, 182, 0, 124, 160, 0, 7, 4, 167, 0, 4, 3, 61, 3, 62, 29, 43, 182, 0, 124, 162, 0, 38, 28] := bL_of (by decide +kernel)
theorem dX12_is_24 : decode cX12_is 24 = .ok (.aload_n 1, 1) := dk43 (k := 0) bX12_is_24 rfl
theorem dX12_is_25 : decode cX12_is 25 = .ok (.invokevirtual 124, 3) := dk182 (k := 1) bX12_is_24 rfl rfl
theorem dX12_is_28 : decode cX12_is 28 = .ok (.if_icmp .ne 7, 3) := dk160 (k := 4) bX12_is_24 rfl (by decide)
theorem dX12_is_31 : decode cX12_is 31 = .ok (.iconst 1, 1) := dk4 (k := 7) bX12_is_24 rfl
theorem dX12_is_32 : decode cX12_is 32 = .ok (.goto 4, 3) := dk167 (k := 8) bX12_is_24 rfl (by decide)
theorem dX12_is_35 : decode cX12_is 35 = .ok (.iconst 0, 1) := dk3 (k := 11) bX12_is_24 rfl
theorem dX12_is_36 : decode cX12_is 36 = .ok (.istore_n 2, 1) := dk61 (k := 12) bX12_is_24 rfl
theorem dX12_is_37 : decode cX12_is 37 = .ok (.iconst 0, 1) := dk3 (k := 13) bX12_is_24 rfl
theorem dX12_is_38 : decode cX12_is 38 = .ok (.istore_n 3, 1) := dk62 (k := 14) bX12_is_24 rfl
theorem dX12_is_39 : decode cX12_is 39 = .ok (.iload_n 3, 1) := dk29 (k := 15) bX12_is_24 rfl
theorem dX12_is_40 : decode cX12_is 40 = .ok (.aload_n 1, 1) := dk43 (k := 16) bX12_is_24 rfl
theorem dX12_is_41 : decode cX12_is 41 = .ok (.invokevirtual 124, 3) := dk182 (k := 17) bX12_is_24 rfl rfl
theorem dX12_is_44 : decode cX12_is 44 = .ok (.if_icmp .ge 38, 3) := dk162 (k := 20) bX12_is_24 rfl (by decide)
theorem dX12_is_47 : decode cX12_is 47 = .ok (.iload_n 2, 1) := dk28 (k := 23) bX12_is_24 rfl
theorem bX12_is_48 : bL cX12_is 48 [153, 0, 34, 42, 180, 0, 20, 42, 180, 0, 94, 29, 96, 51, 43, 29, 182, 0, 129, 160, 0, 7, 4, 167, 0, 4] := bL_of (by decide +kernel)
theorem dX12_is_48 : decode cX12_is 48 = .ok (.ifCond .eq 34, 3) := dk153 (k := 0) bX12_is_48 rfl (by decide)
theorem dX12_is_51 : decode cX12_is 51 = .ok (.aload_n 0, 1) := dk42 (k := 3) bX12_is_48 rfl
theorem dX12_is_52 : decode cX12_is 52 = .ok (.getfield 20, 3) := dk180 (k := 4) bX12_is_48 rfl rfl
theorem dX12_is_55 : decode cX12_is 55 = .ok (.aload_n 0, 1) := dk42 (k := 7) bX12_is_48 rfl
theorem dX12_is_56 : decode cX12_is 56 = .ok (.getfield 94, 3) := dk180 (k := 8) bX12_is_48 rfl rfl
theorem dX12_is_59 : decode cX12_is 59 = .ok (.iload_n 3, 1) := dk29 (k := 11) bX12_is_48 rfl
theorem dX12_is_60 : decode cX12_is 60 = .ok (.iadd, 1) := dk96 (k := 12) bX12_is_48 rfl
theorem dX12_is_61 : decode cX12_is 61 = .ok (.baload, 1) := dk51 (k := 13) bX12_is_48 rfl
theorem dX12_is_62 : decode cX12_is 62 = .ok (.aload_n 1, 1) := dk43 (k := 14) bX12_is_48 rfl
theorem dX12_is_63 : decode cX12_is 63 = .ok (.iload_n 3, 1) := dk29 (k := 15) bX12_is_48 rfl
theorem dX12_is_64 : decode cX12_is 64 = .ok (.invokevirtual 129, 3) := dk182 (k := 16) bX12_is_48 rfl rfl
theorem dX12_is_67 : decode cX12_is 67 = .ok (.if_icmp .ne 7, 3) := dk160 (k := 19) bX12_is_48 rfl (by decide)
theorem dX12_is_70 : decode cX12_is 70 = .ok (.iconst 1, 1) := dk4 (k := 22) bX12_is_48 rfl
theorem dX12_is_71 : decode cX12_is 71 = .ok (.goto 4, 3) := dk167 (k := 23) bX12_is_48 rfl (by decide)
theorem bX12_is_74 : bL cX12_is 74 [3, 61, 132, 3, 1, 167, 255, 216, 28, 172] := bL_of (by decide +kernel)
theorem dX12_is_74 : decode cX12_is 74 = .ok (.iconst 0, 1) := dk3 (k := 0) bX12_is_74 rfl
theorem dX12_is_75 : decode cX12_is 75 = .ok (.istore_n 2, 1) := dk61 (k := 1) bX12_is_74 rfl
theorem dX12_is_76 : decode cX12_is 76 = .ok (.iinc 3 1, 3) := dk132 (k := 2) bX12_is_74 rfl rfl (by decide)
theorem dX12_is_79 : decode cX12_is 79 = .ok (.goto (-40), 3) := dk167 (k := 5) bX12_is_74 rfl (by decide)
theorem dX12_is_82 : decode cX12_is 82 = .ok (.iload_n 2, 1) := dk28 (k := 8) bX12_is_74 rfl
theorem dX12_is_83 : decode cX12_is 83 = .ok (.ireturn, 1) := dk172 (k := 9) bX12_is_74 rfl
theorem bX12_takes_0 : bL cX12_takes 0 [42, 43, 182, 0, 133, 61, 28, 153, 0, 7, 42, 182, 0, 137, 28, 172] := bL_of (by decide +kernel)
theorem dX12_takes_0 : decode cX12_takes 0 = .ok (.aload_n 0, 1) := dk42 (k := 0) bX12_takes_0 rfl
theorem dX12_takes_1 : decode cX12_takes 1 = .ok (.aload_n 1, 1) := dk43 (k := 1) bX12_takes_0 rfl
theorem dX12_takes_2 : decode cX12_takes 2 = .ok (.invokevirtual 133, 3) := dk182 (k := 2) bX12_takes_0 rfl rfl
theorem dX12_takes_5 : decode cX12_takes 5 = .ok (.istore_n 2, 1) := dk61 (k := 5) bX12_takes_0 rfl
theorem dX12_takes_6 : decode cX12_takes 6 = .ok (.iload_n 2, 1) := dk28 (k := 6) bX12_takes_0 rfl
theorem dX12_takes_7 : decode cX12_takes 7 = .ok (.ifCond .eq 7, 3) := dk153 (k := 7) bX12_takes_0 rfl (by decide)
theorem dX12_takes_10 : decode cX12_takes 10 = .ok (.aload_n 0, 1) := dk42 (k := 10) bX12_takes_0 rfl
theorem dX12_takes_11 : decode cX12_takes 11 = .ok (.invokevirtual 137, 3) := dk182 (k := 11) bX12_takes_0 rfl rfl
theorem dX12_takes_14 : decode cX12_takes 14 = .ok (.iload_n 2, 1) := dk28 (k := 14) bX12_takes_0 rfl
theorem dX12_takes_15 : decode cX12_takes 15 = .ok (.ireturn, 1) := dk172 (k := 15) bX12_takes_0 rfl
theorem bX12_needs_0 : bL cX12_needs 0 [42, 43, 182, 0, 140, 154, 0, 8, 42, 4, 182, 0, 143, 177] := bL_of (by decide +kernel)
theorem dX12_needs_0 : decode cX12_needs 0 = .ok (.aload_n 0, 1) := dk42 (k := 0) bX12_needs_0 rfl
theorem dX12_needs_1 : decode cX12_needs 1 = .ok (.aload_n 1, 1) := dk43 (k := 1) bX12_needs_0 rfl
theorem dX12_needs_2 : decode cX12_needs 2 = .ok (.invokevirtual 140, 3) := dk182 (k := 2) bX12_needs_0 rfl rfl
theorem dX12_needs_5 : decode cX12_needs 5 = .ok (.ifCond .ne 8, 3) := dk154 (k := 5) bX12_needs_0 rfl (by decide)
theorem dX12_needs_8 : decode cX12_needs 8 = .ok (.aload_n 0, 1) := dk42 (k := 8) bX12_needs_0 rfl
theorem dX12_needs_9 : decode cX12_needs 9 = .ok (.iconst 1, 1) := dk4 (k := 9) bX12_needs_0 rfl
theorem dX12_needs_10 : decode cX12_needs 10 = .ok (.invokevirtual 143, 3) := dk182 (k := 10) bX12_needs_0 rfl rfl
theorem dX12_needs_13 : decode cX12_needs 13 = .ok (.return_, 1) := dk177 (k := 13) bX12_needs_0 rfl
theorem bX12_number_0 : bL cX12_number 0 [42, 182, 0, 121, 153, 0, 16, 42, 180, 0, 97, 5, 159, 0, 8, 42, 4, 182, 0, 143, 42, 182, 0, 121] := bL_of (by decide +kernel)
theorem dX12_number_0 : decode cX12_number 0 = .ok (.aload_n 0, 1) := dk42 (k := 0) bX12_number_0 rfl
theorem dX12_number_1 : decode cX12_number 1 = .ok (.invokevirtual 121, 3) := dk182 (k := 1) bX12_number_0 rfl rfl
theorem dX12_number_4 : decode cX12_number 4 = .ok (.ifCond .eq 16, 3) := dk153 (k := 4) bX12_number_0 rfl (by decide)
theorem dX12_number_7 : decode cX12_number 7 = .ok (.aload_n 0, 1) := dk42 (k := 7) bX12_number_0 rfl
theorem dX12_number_8 : decode cX12_number 8 = .ok (.getfield 97, 3) := dk180 (k := 8) bX12_number_0 rfl rfl
theorem dX12_number_11 : decode cX12_number 11 = .ok (.iconst 2, 1) := dk5 (k := 11) bX12_number_0 rfl
theorem dX12_number_12 : decode cX12_number 12 = .ok (.if_icmp .eq 8, 3) := dk159 (k := 12) bX12_number_0 rfl (by decide)
theorem dX12_number_15 : decode cX12_number 15 = .ok (.aload_n 0, 1) := dk42 (k := 15) bX12_number_0 rfl
theorem dX12_number_16 : decode cX12_number 16 = .ok (.iconst 1, 1) := dk4 (k := 16) bX12_number_0 rfl
theorem dX12_number_17 : decode cX12_number 17 = .ok (.invokevirtual 143, 3) := dk182 (k := 17) bX12_number_0 rfl rfl
theorem dX12_number_20 : decode cX12_number 20 = .ok (.aload_n 0, 1) := dk42 (k := 20) bX12_number_0 rfl
theorem dX12_number_21 : decode cX12_number 21 = .ok (.invokevirtual 121, 3) := dk182 (k := 21) bX12_number_0 rfl rfl
theorem bX12_number_24 : bL cX12_number 24 [153, 0, 23, 42, 180, 0, 108, 133, 27, 133, 28, 133, 184, 0, 65, 154, 0, 8, 42, 5, 182, 0, 143, 42] := bL_of (by decide +kernel)
theorem dX12_number_24 : decode cX12_number 24 = .ok (.ifCond .eq 23, 3) := dk153 (k := 0) bX12_number_24 rfl (by decide)
theorem dX12_number_27 : decode cX12_number 27 = .ok (.aload_n 0, 1) := dk42 (k := 3) bX12_number_24 rfl
theorem dX12_number_28 : decode cX12_number 28 = .ok (.getfield 108, 3) := dk180 (k := 4) bX12_number_24 rfl rfl
theorem dX12_number_31 : decode cX12_number 31 = .ok (.i2l, 1) := dk133 (k := 7) bX12_number_24 rfl
theorem dX12_number_32 : decode cX12_number 32 = .ok (.iload_n 1, 1) := dk27 (k := 8) bX12_number_24 rfl
theorem dX12_number_33 : decode cX12_number 33 = .ok (.i2l, 1) := dk133 (k := 9) bX12_number_24 rfl
theorem dX12_number_34 : decode cX12_number 34 = .ok (.iload_n 2, 1) := dk28 (k := 10) bX12_number_24 rfl
theorem dX12_number_35 : decode cX12_number 35 = .ok (.i2l, 1) := dk133 (k := 11) bX12_number_24 rfl
theorem dX12_number_36 : decode cX12_number 36 = .ok (.invokestatic 65, 3) := dk184 (k := 12) bX12_number_24 rfl rfl
theorem dX12_number_39 : decode cX12_number 39 = .ok (.ifCond .ne 8, 3) := dk154 (k := 15) bX12_number_24 rfl (by decide)
theorem dX12_number_42 : decode cX12_number 42 = .ok (.aload_n 0, 1) := dk42 (k := 18) bX12_number_24 rfl
theorem dX12_number_43 : decode cX12_number 43 = .ok (.iconst 2, 1) := dk5 (k := 19) bX12_number_24 rfl
theorem dX12_number_44 : decode cX12_number 44 = .ok (.invokevirtual 143, 3) := dk182 (k := 20) bX12_number_24 rfl rfl
theorem dX12_number_47 : decode cX12_number 47 = .ok (.aload_n 0, 1) := dk42 (k := 23) bX12_number_24 rfl
theorem bX12_number_48 : bL cX12_number 48 [182, 0, 121, 154, 0, 5, 3, 172, 42, 180, 0, 108, 62, 42, 182, 0, 137, 29, 172] := bL_of (by decide +kernel)
theorem dX12_number_48 : decode cX12_number 48 = .ok (.invokevirtual 121, 3) := dk182 (k := 0) bX12_number_48 rfl rfl
theorem dX12_number_51 : decode cX12_number 51 = .ok (.ifCond .ne 5, 3) := dk154 (k := 3) bX12_number_48 rfl (by decide)
theorem dX12_number_54 : decode cX12_number 54 = .ok (.iconst 0, 1) := dk3 (k := 6) bX12_number_48 rfl
theorem dX12_number_55 : decode cX12_number 55 = .ok (.ireturn, 1) := dk172 (k := 7) bX12_number_48 rfl
theorem dX12_number_56 : decode cX12_number 56 = .ok (.aload_n 0, 1) := dk42 (k := 8) bX12_number_48 rfl
theorem dX12_number_57 : decode cX12_number 57 = .ok (.getfield 108, 3) := dk180 (k := 9) bX12_number_48 rfl rfl
theorem dX12_number_60 : decode cX12_number 60 = .ok (.istore_n 3, 1) := dk62 (k := 12) bX12_number_48 rfl
theorem dX12_number_61 : decode cX12_number 61 = .ok (.aload_n 0, 1) := dk42 (k := 13) bX12_number_48 rfl
theorem dX12_number_62 : decode cX12_number 62 = .ok (.invokevirtual 137, 3) := dk182 (k := 14) bX12_number_48 rfl rfl
theorem dX12_number_65 : decode cX12_number 65 = .ok (.iload_n 3, 1) := dk29 (k := 17) bX12_number_48 rfl
theorem dX12_number_66 : decode cX12_number 66 = .ok (.ireturn, 1) := dk172 (k := 18) bX12_number_48 rfl
theorem bX12_told_0 : bL cX12_told 0 [42, 43, 182, 0, 147, 42, 28, 29, 182, 0, 151, 172] := bL_of (by decide +kernel)
theorem dX12_told_0 : decode cX12_told 0 = .ok (.aload_n 0, 1) := dk42 (k := 0) bX12_told_0 rfl
theorem dX12_told_1 : decode cX12_told 1 = .ok (.aload_n 1, 1) := dk43 (k := 1) bX12_told_0 rfl
theorem dX12_told_2 : decode cX12_told 2 = .ok (.invokevirtual 147, 3) := dk182 (k := 2) bX12_told_0 rfl rfl
theorem dX12_told_5 : decode cX12_told 5 = .ok (.aload_n 0, 1) := dk42 (k := 5) bX12_told_0 rfl
theorem dX12_told_6 : decode cX12_told 6 = .ok (.iload_n 2, 1) := dk28 (k := 6) bX12_told_0 rfl
theorem dX12_told_7 : decode cX12_told 7 = .ok (.iload_n 3, 1) := dk29 (k := 7) bX12_told_0 rfl
theorem dX12_told_8 : decode cX12_told 8 = .ok (.invokevirtual 151, 3) := dk182 (k := 8) bX12_told_0 rfl rfl
theorem dX12_told_11 : decode cX12_told 11 = .ok (.ireturn, 1) := dk172 (k := 11) bX12_told_0 rfl
theorem bX12_fault_0 : bL cX12_fault 0 [27, 154, 0, 10, 42, 180, 0, 118, 167, 0, 16, 27, 4, 160, 0, 10, 42, 180, 0, 27, 167, 0, 4, 2] := bL_of (by decide +kernel)
theorem dX12_fault_0 : decode cX12_fault 0 = .ok (.iload_n 1, 1) := dk27 (k := 0) bX12_fault_0 rfl
theorem dX12_fault_1 : decode cX12_fault 1 = .ok (.ifCond .ne 10, 3) := dk154 (k := 1) bX12_fault_0 rfl (by decide)
theorem dX12_fault_4 : decode cX12_fault 4 = .ok (.aload_n 0, 1) := dk42 (k := 4) bX12_fault_0 rfl
theorem dX12_fault_5 : decode cX12_fault 5 = .ok (.getfield 118, 3) := dk180 (k := 5) bX12_fault_0 rfl rfl
theorem dX12_fault_8 : decode cX12_fault 8 = .ok (.goto 16, 3) := dk167 (k := 8) bX12_fault_0 rfl (by decide)
theorem dX12_fault_11 : decode cX12_fault 11 = .ok (.iload_n 1, 1) := dk27 (k := 11) bX12_fault_0 rfl
theorem dX12_fault_12 : decode cX12_fault 12 = .ok (.iconst 1, 1) := dk4 (k := 12) bX12_fault_0 rfl
theorem dX12_fault_13 : decode cX12_fault 13 = .ok (.if_icmp .ne 10, 3) := dk160 (k := 13) bX12_fault_0 rfl (by decide)
theorem dX12_fault_16 : decode cX12_fault 16 = .ok (.aload_n 0, 1) := dk42 (k := 16) bX12_fault_0 rfl
theorem dX12_fault_17 : decode cX12_fault 17 = .ok (.getfield 27, 3) := dk180 (k := 17) bX12_fault_0 rfl rfl
theorem dX12_fault_20 : decode cX12_fault 20 = .ok (.goto 4, 3) := dk167 (k := 20) bX12_fault_0 rfl (by decide)
theorem dX12_fault_23 : decode cX12_fault 23 = .ok (.iconst (-1), 1) := dk2 (k := 23) bX12_fault_0 rfl
theorem bX12_fault_24 : bL cX12_fault 24 [172] := bL_of (by decide +kernel)
theorem dX12_fault_24 : decode cX12_fault 24 = .ok (.ireturn, 1) := dk172 (k := 0) bX12_fault_24 rfl
theorem bX12_readFirst_0 : bL cX12_readFirst 0 [42, 18, 154, 182, 0, 147, 42, 182, 0, 121, 153, 0, 104, 42, 180, 0, 97, 5, 159, 0, 13, 42, 180, 0, 31] := bL_of (by decide +kernel)
theorem dX12_readFirst_0 : decode cX12_readFirst 0 = .ok (.aload_n 0, 1) := dk42 (k := 0) bX12_readFirst_0 rfl
theorem dX12_readFirst_1 : decode cX12_readFirst 1 = .ok (.ldc 154, 2) := dk18 (k := 1) bX12_readFirst_0 rfl rfl
theorem dX12_readFirst_3 : decode cX12_readFirst 3 = .ok (.invokevirtual 147, 3) := dk182 (k := 3) bX12_readFirst_0 rfl rfl
theorem dX12_readFirst_6 : decode cX12_readFirst 6 = .ok (.aload_n 0, 1) := dk42 (k := 6) bX12_readFirst_0 rfl
theorem dX12_readFirst_7 : decode cX12_readFirst 7 = .ok (.invokevirtual 121, 3) := dk182 (k := 7) bX12_readFirst_0 rfl rfl
theorem dX12_readFirst_10 : decode cX12_readFirst 10 = .ok (.ifCond .eq 104, 3) := dk153 (k := 10) bX12_readFirst_0 rfl (by decide)
theorem dX12_readFirst_13 : decode cX12_readFirst 13 = .ok (.aload_n 0, 1) := dk42 (k := 13) bX12_readFirst_0 rfl
theorem dX12_readFirst_14 : decode cX12_readFirst 14 = .ok (.getfield 97, 3) := dk180 (k := 14) bX12_readFirst_0 rfl rfl
theorem dX12_readFirst_17 : decode cX12_readFirst 17 = .ok (.iconst 2, 1) := dk5 (k := 17) bX12_readFirst_0 rfl
theorem dX12_readFirst_18 : decode cX12_readFirst 18 = .ok (.if_icmp .eq 13, 3) := dk159 (k := 18) bX12_readFirst_0 rfl (by decide)
theorem dX12_readFirst_21 : decode cX12_readFirst 21 = .ok (.aload_n 0, 1) := dk42 (k := 21) bX12_readFirst_0 rfl
theorem dX12_readFirst_22 : decode cX12_readFirst 22 = .ok (.getfield 31, 3) := dk180 (k := 22) bX12_readFirst_0 rfl rfl
theorem bX12_readFirst_25 : bL cX12_readFirst 25 [3, 46, 6, 162, 0, 86, 42, 180, 0, 97, 5, 160, 0, 34, 42, 180, 0, 108, 133, 9, 20, 0, 156, 184, 0, 65] := bL_of (by decide +kernel)
theorem dX12_readFirst_25 : decode cX12_readFirst 25 = .ok (.iconst 0, 1) := dk3 (k := 0) bX12_readFirst_25 rfl
theorem dX12_readFirst_26 : decode cX12_readFirst 26 = .ok (.iaload, 1) := dk46 (k := 1) bX12_readFirst_25 rfl
theorem dX12_readFirst_27 : decode cX12_readFirst 27 = .ok (.iconst 3, 1) := dk6 (k := 2) bX12_readFirst_25 rfl
theorem dX12_readFirst_28 : decode cX12_readFirst 28 = .ok (.if_icmp .ge 86, 3) := dk162 (k := 3) bX12_readFirst_25 rfl (by decide)
theorem dX12_readFirst_31 : decode cX12_readFirst 31 = .ok (.aload_n 0, 1) := dk42 (k := 6) bX12_readFirst_25 rfl
theorem dX12_readFirst_32 : decode cX12_readFirst 32 = .ok (.getfield 97, 3) := dk180 (k := 7) bX12_readFirst_25 rfl rfl
theorem dX12_readFirst_35 : decode cX12_readFirst 35 = .ok (.iconst 2, 1) := dk5 (k := 10) bX12_readFirst_25 rfl
theorem dX12_readFirst_36 : decode cX12_readFirst 36 = .ok (.if_icmp .ne 34, 3) := dk160 (k := 11) bX12_readFirst_25 rfl (by decide)
theorem dX12_readFirst_39 : decode cX12_readFirst 39 = .ok (.aload_n 0, 1) := dk42 (k := 14) bX12_readFirst_25 rfl
theorem dX12_readFirst_40 : decode cX12_readFirst 40 = .ok (.getfield 108, 3) := dk180 (k := 15) bX12_readFirst_25 rfl rfl
theorem dX12_readFirst_43 : decode cX12_readFirst 43 = .ok (.i2l, 1) := dk133 (k := 18) bX12_readFirst_25 rfl
theorem dX12_readFirst_44 : decode cX12_readFirst 44 = .ok (.lconst 0, 1) := dk9 (k := 19) bX12_readFirst_25 rfl
theorem dX12_readFirst_45 : decode cX12_readFirst 45 = .ok (.ldc2_w 156, 3) := dk20 (k := 20) bX12_readFirst_25 rfl rfl
theorem dX12_readFirst_48 : decode cX12_readFirst 48 = .ok (.invokestatic 65, 3) := dk184 (k := 23) bX12_readFirst_25 rfl rfl
theorem bX12_readFirst_51 : bL cX12_readFirst 51 [153, 0, 19, 42, 180, 0, 31, 3, 46, 16, 10, 160, 0, 8, 42, 6, 182, 0, 143, 42, 3, 16, 40, 182, 0, 151] := bL_of (by decide +kernel)
theorem dX12_readFirst_51 : decode cX12_readFirst 51 = .ok (.ifCond .eq 19, 3) := dk153 (k := 0) bX12_readFirst_51 rfl (by decide)
theorem dX12_readFirst_54 : decode cX12_readFirst 54 = .ok (.aload_n 0, 1) := dk42 (k := 3) bX12_readFirst_51 rfl
theorem dX12_readFirst_55 : decode cX12_readFirst 55 = .ok (.getfield 31, 3) := dk180 (k := 4) bX12_readFirst_51 rfl rfl
theorem dX12_readFirst_58 : decode cX12_readFirst 58 = .ok (.iconst 0, 1) := dk3 (k := 7) bX12_readFirst_51 rfl
theorem dX12_readFirst_59 : decode cX12_readFirst 59 = .ok (.iaload, 1) := dk46 (k := 8) bX12_readFirst_51 rfl
theorem dX12_readFirst_60 : decode cX12_readFirst 60 = .ok (.bipush 10, 2) := dk16 (k := 9) bX12_readFirst_51 rfl (by decide)
theorem dX12_readFirst_62 : decode cX12_readFirst 62 = .ok (.if_icmp .ne 8, 3) := dk160 (k := 11) bX12_readFirst_51 rfl (by decide)
theorem dX12_readFirst_65 : decode cX12_readFirst 65 = .ok (.aload_n 0, 1) := dk42 (k := 14) bX12_readFirst_51 rfl
theorem dX12_readFirst_66 : decode cX12_readFirst 66 = .ok (.iconst 3, 1) := dk6 (k := 15) bX12_readFirst_51 rfl
theorem dX12_readFirst_67 : decode cX12_readFirst 67 = .ok (.invokevirtual 143, 3) := dk182 (k := 16) bX12_readFirst_51 rfl rfl
theorem dX12_readFirst_70 : decode cX12_readFirst 70 = .ok (.aload_n 0, 1) := dk42 (k := 19) bX12_readFirst_51 rfl
theorem dX12_readFirst_71 : decode cX12_readFirst 71 = .ok (.iconst 0, 1) := dk3 (k := 20) bX12_readFirst_51 rfl
theorem dX12_readFirst_72 : decode cX12_readFirst 72 = .ok (.bipush 40, 2) := dk16 (k := 21) bX12_readFirst_51 rfl (by decide)
theorem dX12_readFirst_74 : decode cX12_readFirst 74 = .ok (.invokevirtual 151, 3) := dk182 (k := 23) bX12_readFirst_51 rfl rfl
theorem bX12_readFirst_77 : bL cX12_readFirst 77 [60, 42, 182, 0, 121, 154, 0, 4, 177, 42, 180, 0, 31, 16, 9, 42, 180, 0, 31, 3, 46, 96, 27, 79] := bL_of (by decide +kernel)
theorem dX12_readFirst_77 : decode cX12_readFirst 77 = .ok (.istore_n 1, 1) := dk60 (k := 0) bX12_readFirst_77 rfl
theorem dX12_readFirst_78 : decode cX12_readFirst 78 = .ok (.aload_n 0, 1) := dk42 (k := 1) bX12_readFirst_77 rfl
theorem dX12_readFirst_79 : decode cX12_readFirst 79 = .ok (.invokevirtual 121, 3) := dk182 (k := 2) bX12_readFirst_77 rfl rfl
theorem dX12_readFirst_82 : decode cX12_readFirst 82 = .ok (.ifCond .ne 4, 3) := dk154 (k := 5) bX12_readFirst_77 rfl (by decide)
theorem dX12_readFirst_85 : decode cX12_readFirst 85 = .ok (.return_, 1) := dk177 (k := 8) bX12_readFirst_77 rfl
theorem dX12_readFirst_86 : decode cX12_readFirst 86 = .ok (.aload_n 0, 1) := dk42 (k := 9) bX12_readFirst_77 rfl
theorem dX12_readFirst_87 : decode cX12_readFirst 87 = .ok (.getfield 31, 3) := dk180 (k := 10) bX12_readFirst_77 rfl rfl
theorem dX12_readFirst_90 : decode cX12_readFirst 90 = .ok (.bipush 9, 2) := dk16 (k := 13) bX12_readFirst_77 rfl (by decide)
theorem dX12_readFirst_92 : decode cX12_readFirst 92 = .ok (.aload_n 0, 1) := dk42 (k := 15) bX12_readFirst_77 rfl
theorem dX12_readFirst_93 : decode cX12_readFirst 93 = .ok (.getfield 31, 3) := dk180 (k := 16) bX12_readFirst_77 rfl rfl
theorem dX12_readFirst_96 : decode cX12_readFirst 96 = .ok (.iconst 0, 1) := dk3 (k := 19) bX12_readFirst_77 rfl
theorem dX12_readFirst_97 : decode cX12_readFirst 97 = .ok (.iaload, 1) := dk46 (k := 20) bX12_readFirst_77 rfl
theorem dX12_readFirst_98 : decode cX12_readFirst 98 = .ok (.iadd, 1) := dk96 (k := 21) bX12_readFirst_77 rfl
theorem dX12_readFirst_99 : decode cX12_readFirst 99 = .ok (.iload_n 1, 1) := dk27 (k := 22) bX12_readFirst_77 rfl
theorem dX12_readFirst_100 : decode cX12_readFirst 100 = .ok (.iastore, 1) := dk79 (k := 23) bX12_readFirst_77 rfl
theorem bX12_readFirst_101 : bL cX12_readFirst 101 [42, 180, 0, 31, 3, 92, 46, 4, 96, 79, 167, 255, 151, 42, 180, 0, 31, 4, 42, 18, 158, 3, 16, 40] := bL_of (by decide +kernel)
theorem dX12_readFirst_101 : decode cX12_readFirst 101 = .ok (.aload_n 0, 1) := dk42 (k := 0) bX12_readFirst_101 rfl
theorem dX12_readFirst_102 : decode cX12_readFirst 102 = .ok (.getfield 31, 3) := dk180 (k := 1) bX12_readFirst_101 rfl rfl
theorem dX12_readFirst_105 : decode cX12_readFirst 105 = .ok (.iconst 0, 1) := dk3 (k := 4) bX12_readFirst_101 rfl
theorem dX12_readFirst_106 : decode cX12_readFirst 106 = .ok (.dup2, 1) := dk92 (k := 5) bX12_readFirst_101 rfl
theorem dX12_readFirst_107 : decode cX12_readFirst 107 = .ok (.iaload, 1) := dk46 (k := 6) bX12_readFirst_101 rfl
theorem dX12_readFirst_108 : decode cX12_readFirst 108 = .ok (.iconst 1, 1) := dk4 (k := 7) bX12_readFirst_101 rfl
theorem dX12_readFirst_109 : decode cX12_readFirst 109 = .ok (.iadd, 1) := dk96 (k := 8) bX12_readFirst_101 rfl
theorem dX12_readFirst_110 : decode cX12_readFirst 110 = .ok (.iastore, 1) := dk79 (k := 9) bX12_readFirst_101 rfl
theorem dX12_readFirst_111 : decode cX12_readFirst 111 = .ok (.goto (-105), 3) := dk167 (k := 10) bX12_readFirst_101 rfl (by decide)
theorem dX12_readFirst_114 : decode cX12_readFirst 114 = .ok (.aload_n 0, 1) := dk42 (k := 13) bX12_readFirst_101 rfl
theorem dX12_readFirst_115 : decode cX12_readFirst 115 = .ok (.getfield 31, 3) := dk180 (k := 14) bX12_readFirst_101 rfl rfl
theorem dX12_readFirst_118 : decode cX12_readFirst 118 = .ok (.iconst 1, 1) := dk4 (k := 17) bX12_readFirst_101 rfl
theorem dX12_readFirst_119 : decode cX12_readFirst 119 = .ok (.aload_n 0, 1) := dk42 (k := 18) bX12_readFirst_101 rfl
theorem dX12_readFirst_120 : decode cX12_readFirst 120 = .ok (.ldc 158, 2) := dk18 (k := 19) bX12_readFirst_101 rfl rfl
theorem dX12_readFirst_122 : decode cX12_readFirst 122 = .ok (.iconst 0, 1) := dk3 (k := 21) bX12_readFirst_101 rfl
theorem dX12_readFirst_123 : decode cX12_readFirst 123 = .ok (.bipush 40, 2) := dk16 (k := 22) bX12_readFirst_101 rfl (by decide)
theorem bX12_readFirst_125 : bL cX12_readFirst 125 [182, 0, 160, 79, 42, 180, 0, 31, 5, 42, 18, 164, 4, 16, 40, 182, 0, 160, 79, 42, 180, 0, 31, 6] := bL_of (by decide +kernel)
theorem dX12_readFirst_125 : decode cX12_readFirst 125 = .ok (.invokevirtual 160, 3) := dk182 (k := 0) bX12_readFirst_125 rfl rfl
theorem dX12_readFirst_128 : decode cX12_readFirst 128 = .ok (.iastore, 1) := dk79 (k := 3) bX12_readFirst_125 rfl
theorem dX12_readFirst_129 : decode cX12_readFirst 129 = .ok (.aload_n 0, 1) := dk42 (k := 4) bX12_readFirst_125 rfl
theorem dX12_readFirst_130 : decode cX12_readFirst 130 = .ok (.getfield 31, 3) := dk180 (k := 5) bX12_readFirst_125 rfl rfl
theorem dX12_readFirst_133 : decode cX12_readFirst 133 = .ok (.iconst 2, 1) := dk5 (k := 8) bX12_readFirst_125 rfl
theorem dX12_readFirst_134 : decode cX12_readFirst 134 = .ok (.aload_n 0, 1) := dk42 (k := 9) bX12_readFirst_125 rfl
theorem dX12_readFirst_135 : decode cX12_readFirst 135 = .ok (.ldc 164, 2) := dk18 (k := 10) bX12_readFirst_125 rfl rfl
theorem dX12_readFirst_137 : decode cX12_readFirst 137 = .ok (.iconst 1, 1) := dk4 (k := 12) bX12_readFirst_125 rfl
theorem dX12_readFirst_138 : decode cX12_readFirst 138 = .ok (.bipush 40, 2) := dk16 (k := 13) bX12_readFirst_125 rfl (by decide)
theorem dX12_readFirst_140 : decode cX12_readFirst 140 = .ok (.invokevirtual 160, 3) := dk182 (k := 15) bX12_readFirst_125 rfl rfl
theorem dX12_readFirst_143 : decode cX12_readFirst 143 = .ok (.iastore, 1) := dk79 (k := 18) bX12_readFirst_125 rfl
theorem dX12_readFirst_144 : decode cX12_readFirst 144 = .ok (.aload_n 0, 1) := dk42 (k := 19) bX12_readFirst_125 rfl
theorem dX12_readFirst_145 : decode cX12_readFirst 145 = .ok (.getfield 31, 3) := dk180 (k := 20) bX12_readFirst_125 rfl rfl
theorem dX12_readFirst_148 : decode cX12_readFirst 148 = .ok (.iconst 3, 1) := dk6 (k := 23) bX12_readFirst_125 rfl
theorem bX12_readFirst_149 : bL cX12_readFirst 149 [42, 18, 166, 4, 17, 3, 231, 182, 0, 160, 79, 42, 180, 0, 31, 7, 42, 18, 168, 182, 0, 140, 153, 0, 7] := bL_of (by decide +kernel)
theorem dX12_readFirst_149 : decode cX12_readFirst 149 = .ok (.aload_n 0, 1) := dk42 (k := 0) bX12_readFirst_149 rfl
theorem dX12_readFirst_150 : decode cX12_readFirst 150 = .ok (.ldc 166, 2) := dk18 (k := 1) bX12_readFirst_149 rfl rfl
theorem dX12_readFirst_152 : decode cX12_readFirst 152 = .ok (.iconst 1, 1) := dk4 (k := 3) bX12_readFirst_149 rfl
theorem dX12_readFirst_153 : decode cX12_readFirst 153 = .ok (.sipush 999, 3) := dk17 (k := 4) bX12_readFirst_149 rfl (by decide)
theorem dX12_readFirst_156 : decode cX12_readFirst 156 = .ok (.invokevirtual 160, 3) := dk182 (k := 7) bX12_readFirst_149 rfl rfl
theorem dX12_readFirst_159 : decode cX12_readFirst 159 = .ok (.iastore, 1) := dk79 (k := 10) bX12_readFirst_149 rfl
theorem dX12_readFirst_160 : decode cX12_readFirst 160 = .ok (.aload_n 0, 1) := dk42 (k := 11) bX12_readFirst_149 rfl
theorem dX12_readFirst_161 : decode cX12_readFirst 161 = .ok (.getfield 31, 3) := dk180 (k := 12) bX12_readFirst_149 rfl rfl
theorem dX12_readFirst_164 : decode cX12_readFirst 164 = .ok (.iconst 4, 1) := dk7 (k := 15) bX12_readFirst_149 rfl
theorem dX12_readFirst_165 : decode cX12_readFirst 165 = .ok (.aload_n 0, 1) := dk42 (k := 16) bX12_readFirst_149 rfl
theorem dX12_readFirst_166 : decode cX12_readFirst 166 = .ok (.ldc 168, 2) := dk18 (k := 17) bX12_readFirst_149 rfl rfl
theorem dX12_readFirst_168 : decode cX12_readFirst 168 = .ok (.invokevirtual 140, 3) := dk182 (k := 19) bX12_readFirst_149 rfl rfl
theorem dX12_readFirst_171 : decode cX12_readFirst 171 = .ok (.ifCond .eq 7, 3) := dk153 (k := 22) bX12_readFirst_149 rfl (by decide)
theorem bX12_readFirst_174 : bL cX12_readFirst 174 [4, 167, 0, 4, 3, 79, 42, 180, 0, 31, 7, 46, 154, 0, 9, 42, 18, 170, 182, 0, 147, 177] := bL_of (by decide +kernel)
theorem dX12_readFirst_174 : decode cX12_readFirst 174 = .ok (.iconst 1, 1) := dk4 (k := 0) bX12_readFirst_174 rfl
theorem dX12_readFirst_175 : decode cX12_readFirst 175 = .ok (.goto 4, 3) := dk167 (k := 1) bX12_readFirst_174 rfl (by decide)
theorem dX12_readFirst_178 : decode cX12_readFirst 178 = .ok (.iconst 0, 1) := dk3 (k := 4) bX12_readFirst_174 rfl
theorem dX12_readFirst_179 : decode cX12_readFirst 179 = .ok (.iastore, 1) := dk79 (k := 5) bX12_readFirst_174 rfl
theorem dX12_readFirst_180 : decode cX12_readFirst 180 = .ok (.aload_n 0, 1) := dk42 (k := 6) bX12_readFirst_174 rfl
theorem dX12_readFirst_181 : decode cX12_readFirst 181 = .ok (.getfield 31, 3) := dk180 (k := 7) bX12_readFirst_174 rfl rfl
theorem dX12_readFirst_184 : decode cX12_readFirst 184 = .ok (.iconst 4, 1) := dk7 (k := 10) bX12_readFirst_174 rfl
theorem dX12_readFirst_185 : decode cX12_readFirst 185 = .ok (.iaload, 1) := dk46 (k := 11) bX12_readFirst_174 rfl
theorem dX12_readFirst_186 : decode cX12_readFirst 186 = .ok (.ifCond .ne 9, 3) := dk154 (k := 12) bX12_readFirst_174 rfl (by decide)
theorem dX12_readFirst_189 : decode cX12_readFirst 189 = .ok (.aload_n 0, 1) := dk42 (k := 15) bX12_readFirst_174 rfl
theorem dX12_readFirst_190 : decode cX12_readFirst 190 = .ok (.ldc 170, 2) := dk18 (k := 16) bX12_readFirst_174 rfl rfl
theorem dX12_readFirst_192 : decode cX12_readFirst 192 = .ok (.invokevirtual 147, 3) := dk182 (k := 18) bX12_readFirst_174 rfl rfl
theorem dX12_readFirst_195 : decode cX12_readFirst 195 = .ok (.return_, 1) := dk177 (k := 21) bX12_readFirst_174 rfl
theorem bX12_readFolk_0 : bL cX12_readFolk 0 [42, 180, 0, 31, 16, 6, 46, 60, 16, 19, 16, 7, 27, 104, 96, 61, 42, 18, 172, 182, 0, 147, 42, 180, 0, 31] := bL_of (by decide +kernel)
theorem dX12_readFolk_0 : decode cX12_readFolk 0 = .ok (.aload_n 0, 1) := dk42 (k := 0) bX12_readFolk_0 rfl
theorem dX12_readFolk_1 : decode cX12_readFolk 1 = .ok (.getfield 31, 3) := dk180 (k := 1) bX12_readFolk_0 rfl rfl
theorem dX12_readFolk_4 : decode cX12_readFolk 4 = .ok (.bipush 6, 2) := dk16 (k := 4) bX12_readFolk_0 rfl (by decide)
theorem dX12_readFolk_6 : decode cX12_readFolk 6 = .ok (.iaload, 1) := dk46 (k := 6) bX12_readFolk_0 rfl
theorem dX12_readFolk_7 : decode cX12_readFolk 7 = .ok (.istore_n 1, 1) := dk60 (k := 7) bX12_readFolk_0 rfl
theorem dX12_readFolk_8 : decode cX12_readFolk 8 = .ok (.bipush 19, 2) := dk16 (k := 8) bX12_readFolk_0 rfl (by decide)
theorem dX12_readFolk_10 : decode cX12_readFolk 10 = .ok (.bipush 7, 2) := dk16 (k := 10) bX12_readFolk_0 rfl (by decide)
theorem dX12_readFolk_12 : decode cX12_readFolk 12 = .ok (.iload_n 1, 1) := dk27 (k := 12) bX12_readFolk_0 rfl
theorem dX12_readFolk_13 : decode cX12_readFolk 13 = .ok (.imul, 1) := dk104 (k := 13) bX12_readFolk_0 rfl
theorem dX12_readFolk_14 : decode cX12_readFolk 14 = .ok (.iadd, 1) := dk96 (k := 14) bX12_readFolk_0 rfl
theorem dX12_readFolk_15 : decode cX12_readFolk 15 = .ok (.istore_n 2, 1) := dk61 (k := 15) bX12_readFolk_0 rfl
theorem dX12_readFolk_16 : decode cX12_readFolk 16 = .ok (.aload_n 0, 1) := dk42 (k := 16) bX12_readFolk_0 rfl
theorem dX12_readFolk_17 : decode cX12_readFolk 17 = .ok (.ldc 172, 2) := dk18 (k := 17) bX12_readFolk_0 rfl rfl
theorem dX12_readFolk_19 : decode cX12_readFolk 19 = .ok (.invokevirtual 147, 3) := dk182 (k := 19) bX12_readFolk_0 rfl rfl
theorem dX12_readFolk_22 : decode cX12_readFolk 22 = .ok (.aload_n 0, 1) := dk42 (k := 22) bX12_readFolk_0 rfl
theorem dX12_readFolk_23 : decode cX12_readFolk 23 = .ok (.getfield 31, 3) := dk180 (k := 23) bX12_readFolk_0 rfl rfl
theorem bX12_readFolk_26 : bL cX12_readFolk 26 [28, 3, 96, 42, 3, 42, 180, 0, 31, 3, 46, 4, 100, 182, 0, 151, 79, 42, 180, 0, 31, 28, 4, 96] := bL_of (by decide +kernel)
theorem dX12_readFolk_26 : decode cX12_readFolk 26 = .ok (.iload_n 2, 1) := dk28 (k := 0) bX12_readFolk_26 rfl
theorem dX12_readFolk_27 : decode cX12_readFolk 27 = .ok (.iconst 0, 1) := dk3 (k := 1) bX12_readFolk_26 rfl
theorem dX12_readFolk_28 : decode cX12_readFolk 28 = .ok (.iadd, 1) := dk96 (k := 2) bX12_readFolk_26 rfl
theorem dX12_readFolk_29 : decode cX12_readFolk 29 = .ok (.aload_n 0, 1) := dk42 (k := 3) bX12_readFolk_26 rfl
theorem dX12_readFolk_30 : decode cX12_readFolk 30 = .ok (.iconst 0, 1) := dk3 (k := 4) bX12_readFolk_26 rfl
theorem dX12_readFolk_31 : decode cX12_readFolk 31 = .ok (.aload_n 0, 1) := dk42 (k := 5) bX12_readFolk_26 rfl
theorem dX12_readFolk_32 : decode cX12_readFolk 32 = .ok (.getfield 31, 3) := dk180 (k := 6) bX12_readFolk_26 rfl rfl
theorem dX12_readFolk_35 : decode cX12_readFolk 35 = .ok (.iconst 0, 1) := dk3 (k := 9) bX12_readFolk_26 rfl
theorem dX12_readFolk_36 : decode cX12_readFolk 36 = .ok (.iaload, 1) := dk46 (k := 10) bX12_readFolk_26 rfl
theorem dX12_readFolk_37 : decode cX12_readFolk 37 = .ok (.iconst 1, 1) := dk4 (k := 11) bX12_readFolk_26 rfl
theorem dX12_readFolk_38 : decode cX12_readFolk 38 = .ok (.isub, 1) := dk100 (k := 12) bX12_readFolk_26 rfl
theorem dX12_readFolk_39 : decode cX12_readFolk 39 = .ok (.invokevirtual 151, 3) := dk182 (k := 13) bX12_readFolk_26 rfl rfl
theorem dX12_readFolk_42 : decode cX12_readFolk 42 = .ok (.iastore, 1) := dk79 (k := 16) bX12_readFolk_26 rfl
theorem dX12_readFolk_43 : decode cX12_readFolk 43 = .ok (.aload_n 0, 1) := dk42 (k := 17) bX12_readFolk_26 rfl
theorem dX12_readFolk_44 : decode cX12_readFolk 44 = .ok (.getfield 31, 3) := dk180 (k := 18) bX12_readFolk_26 rfl rfl
theorem dX12_readFolk_47 : decode cX12_readFolk 47 = .ok (.iload_n 2, 1) := dk28 (k := 21) bX12_readFolk_26 rfl
theorem dX12_readFolk_48 : decode cX12_readFolk 48 = .ok (.iconst 1, 1) := dk4 (k := 22) bX12_readFolk_26 rfl
theorem dX12_readFolk_49 : decode cX12_readFolk 49 = .ok (.iadd, 1) := dk96 (k := 23) bX12_readFolk_26 rfl
theorem bX12_readFolk_50 : bL cX12_readFolk 50 [42, 18, 166, 4, 16, 99, 182, 0, 160, 79, 42, 180, 0, 31, 28, 5, 96, 42, 18, 173, 3, 16, 9, 182, 0, 160] := bL_of (by decide +kernel)
theorem dX12_readFolk_50 : decode cX12_readFolk 50 = .ok (.aload_n 0, 1) := dk42 (k := 0) bX12_readFolk_50 rfl
theorem dX12_readFolk_51 : decode cX12_readFolk 51 = .ok (.ldc 166, 2) := dk18 (k := 1) bX12_readFolk_50 rfl rfl
theorem dX12_readFolk_53 : decode cX12_readFolk 53 = .ok (.iconst 1, 1) := dk4 (k := 3) bX12_readFolk_50 rfl
theorem dX12_readFolk_54 : decode cX12_readFolk 54 = .ok (.bipush 99, 2) := dk16 (k := 4) bX12_readFolk_50 rfl (by decide)
theorem dX12_readFolk_56 : decode cX12_readFolk 56 = .ok (.invokevirtual 160, 3) := dk182 (k := 6) bX12_readFolk_50 rfl rfl
theorem dX12_readFolk_59 : decode cX12_readFolk 59 = .ok (.iastore, 1) := dk79 (k := 9) bX12_readFolk_50 rfl
theorem dX12_readFolk_60 : decode cX12_readFolk 60 = .ok (.aload_n 0, 1) := dk42 (k := 10) bX12_readFolk_50 rfl
theorem dX12_readFolk_61 : decode cX12_readFolk 61 = .ok (.getfield 31, 3) := dk180 (k := 11) bX12_readFolk_50 rfl rfl
theorem dX12_readFolk_64 : decode cX12_readFolk 64 = .ok (.iload_n 2, 1) := dk28 (k := 14) bX12_readFolk_50 rfl
theorem dX12_readFolk_65 : decode cX12_readFolk 65 = .ok (.iconst 2, 1) := dk5 (k := 15) bX12_readFolk_50 rfl
theorem dX12_readFolk_66 : decode cX12_readFolk 66 = .ok (.iadd, 1) := dk96 (k := 16) bX12_readFolk_50 rfl
theorem dX12_readFolk_67 : decode cX12_readFolk 67 = .ok (.aload_n 0, 1) := dk42 (k := 17) bX12_readFolk_50 rfl
theorem dX12_readFolk_68 : decode cX12_readFolk 68 = .ok (.ldc 173, 2) := dk18 (k := 18) bX12_readFolk_50 rfl rfl
theorem dX12_readFolk_70 : decode cX12_readFolk 70 = .ok (.iconst 0, 1) := dk3 (k := 20) bX12_readFolk_50 rfl
theorem dX12_readFolk_71 : decode cX12_readFolk 71 = .ok (.bipush 9, 2) := dk16 (k := 21) bX12_readFolk_50 rfl (by decide)
theorem dX12_readFolk_73 : decode cX12_readFolk 73 = .ok (.invokevirtual 160, 3) := dk182 (k := 23) bX12_readFolk_50 rfl rfl
theorem bX12_readFolk_76 : bL cX12_readFolk 76 [79, 42, 180, 0, 31, 28, 6, 96, 42, 18, 158, 3, 16, 9, 182, 0, 160, 79, 42, 180, 0, 31, 28, 7] := bL_of (by decide +kernel)
theorem dX12_readFolk_76 : decode cX12_readFolk 76 = .ok (.iastore, 1) := dk79 (k := 0) bX12_readFolk_76 rfl
theorem dX12_readFolk_77 : decode cX12_readFolk 77 = .ok (.aload_n 0, 1) := dk42 (k := 1) bX12_readFolk_76 rfl
theorem dX12_readFolk_78 : decode cX12_readFolk 78 = .ok (.getfield 31, 3) := dk180 (k := 2) bX12_readFolk_76 rfl rfl
theorem dX12_readFolk_81 : decode cX12_readFolk 81 = .ok (.iload_n 2, 1) := dk28 (k := 5) bX12_readFolk_76 rfl
theorem dX12_readFolk_82 : decode cX12_readFolk 82 = .ok (.iconst 3, 1) := dk6 (k := 6) bX12_readFolk_76 rfl
theorem dX12_readFolk_83 : decode cX12_readFolk 83 = .ok (.iadd, 1) := dk96 (k := 7) bX12_readFolk_76 rfl
theorem dX12_readFolk_84 : decode cX12_readFolk 84 = .ok (.aload_n 0, 1) := dk42 (k := 8) bX12_readFolk_76 rfl
theorem dX12_readFolk_85 : decode cX12_readFolk 85 = .ok (.ldc 158, 2) := dk18 (k := 9) bX12_readFolk_76 rfl rfl
theorem dX12_readFolk_87 : decode cX12_readFolk 87 = .ok (.iconst 0, 1) := dk3 (k := 11) bX12_readFolk_76 rfl
theorem dX12_readFolk_88 : decode cX12_readFolk 88 = .ok (.bipush 9, 2) := dk16 (k := 12) bX12_readFolk_76 rfl (by decide)
theorem dX12_readFolk_90 : decode cX12_readFolk 90 = .ok (.invokevirtual 160, 3) := dk182 (k := 14) bX12_readFolk_76 rfl rfl
theorem dX12_readFolk_93 : decode cX12_readFolk 93 = .ok (.iastore, 1) := dk79 (k := 17) bX12_readFolk_76 rfl
theorem dX12_readFolk_94 : decode cX12_readFolk 94 = .ok (.aload_n 0, 1) := dk42 (k := 18) bX12_readFolk_76 rfl
theorem dX12_readFolk_95 : decode cX12_readFolk 95 = .ok (.getfield 31, 3) := dk180 (k := 19) bX12_readFolk_76 rfl rfl
theorem dX12_readFolk_98 : decode cX12_readFolk 98 = .ok (.iload_n 2, 1) := dk28 (k := 22) bX12_readFolk_76 rfl
theorem dX12_readFolk_99 : decode cX12_readFolk 99 = .ok (.iconst 4, 1) := dk7 (k := 23) bX12_readFolk_76 rfl
theorem bX12_readFolk_100 : bL cX12_readFolk 100 [96, 42, 18, 175, 3, 16, 9, 182, 0, 160, 79, 42, 180, 0, 31, 28, 8, 96, 3, 79, 42, 180, 0, 31] := bL_of (by decide +kernel)
theorem dX12_readFolk_100 : decode cX12_readFolk 100 = .ok (.iadd, 1) := dk96 (k := 0) bX12_readFolk_100 rfl
theorem dX12_readFolk_101 : decode cX12_readFolk 101 = .ok (.aload_n 0, 1) := dk42 (k := 1) bX12_readFolk_100 rfl
theorem dX12_readFolk_102 : decode cX12_readFolk 102 = .ok (.ldc 175, 2) := dk18 (k := 2) bX12_readFolk_100 rfl rfl
theorem dX12_readFolk_104 : decode cX12_readFolk 104 = .ok (.iconst 0, 1) := dk3 (k := 4) bX12_readFolk_100 rfl
theorem dX12_readFolk_105 : decode cX12_readFolk 105 = .ok (.bipush 9, 2) := dk16 (k := 5) bX12_readFolk_100 rfl (by decide)
theorem dX12_readFolk_107 : decode cX12_readFolk 107 = .ok (.invokevirtual 160, 3) := dk182 (k := 7) bX12_readFolk_100 rfl rfl
theorem dX12_readFolk_110 : decode cX12_readFolk 110 = .ok (.iastore, 1) := dk79 (k := 10) bX12_readFolk_100 rfl
theorem dX12_readFolk_111 : decode cX12_readFolk 111 = .ok (.aload_n 0, 1) := dk42 (k := 11) bX12_readFolk_100 rfl
theorem dX12_readFolk_112 : decode cX12_readFolk 112 = .ok (.getfield 31, 3) := dk180 (k := 12) bX12_readFolk_100 rfl rfl
theorem dX12_readFolk_115 : decode cX12_readFolk 115 = .ok (.iload_n 2, 1) := dk28 (k := 15) bX12_readFolk_100 rfl
theorem dX12_readFolk_116 : decode cX12_readFolk 116 = .ok (.iconst 5, 1) := dk8 (k := 16) bX12_readFolk_100 rfl
theorem dX12_readFolk_117 : decode cX12_readFolk 117 = .ok (.iadd, 1) := dk96 (k := 17) bX12_readFolk_100 rfl
theorem dX12_readFolk_118 : decode cX12_readFolk 118 = .ok (.iconst 0, 1) := dk3 (k := 18) bX12_readFolk_100 rfl
theorem dX12_readFolk_119 : decode cX12_readFolk 119 = .ok (.iastore, 1) := dk79 (k := 19) bX12_readFolk_100 rfl
theorem dX12_readFolk_120 : decode cX12_readFolk 120 = .ok (.aload_n 0, 1) := dk42 (k := 20) bX12_readFolk_100 rfl
theorem dX12_readFolk_121 : decode cX12_readFolk 121 = .ok (.getfield 31, 3) := dk180 (k := 21) bX12_readFolk_100 rfl rfl
theorem bX12_readFolk_124 : bL cX12_readFolk 124 [28, 16, 6, 96, 3, 79, 42, 18, 177, 182, 0, 140, 153, 0, 85, 42, 180, 0, 31, 28, 8, 96, 42, 4] := bL_of (by decide +kernel)
theorem dX12_readFolk_124 : decode cX12_readFolk 124 = .ok (.iload_n 2, 1) := dk28 (k := 0) bX12_readFolk_124 rfl
theorem dX12_readFolk_125 : decode cX12_readFolk 125 = .ok (.bipush 6, 2) := dk16 (k := 1) bX12_readFolk_124 rfl (by decide)
theorem dX12_readFolk_127 : decode cX12_readFolk 127 = .ok (.iadd, 1) := dk96 (k := 3) bX12_readFolk_124 rfl
theorem dX12_readFolk_128 : decode cX12_readFolk 128 = .ok (.iconst 0, 1) := dk3 (k := 4) bX12_readFolk_124 rfl
theorem dX12_readFolk_129 : decode cX12_readFolk 129 = .ok (.iastore, 1) := dk79 (k := 5) bX12_readFolk_124 rfl
theorem dX12_readFolk_130 : decode cX12_readFolk 130 = .ok (.aload_n 0, 1) := dk42 (k := 6) bX12_readFolk_124 rfl
theorem dX12_readFolk_131 : decode cX12_readFolk 131 = .ok (.ldc 177, 2) := dk18 (k := 7) bX12_readFolk_124 rfl rfl
theorem dX12_readFolk_133 : decode cX12_readFolk 133 = .ok (.invokevirtual 140, 3) := dk182 (k := 9) bX12_readFolk_124 rfl rfl
theorem dX12_readFolk_136 : decode cX12_readFolk 136 = .ok (.ifCond .eq 85, 3) := dk153 (k := 12) bX12_readFolk_124 rfl (by decide)
theorem dX12_readFolk_139 : decode cX12_readFolk 139 = .ok (.aload_n 0, 1) := dk42 (k := 15) bX12_readFolk_124 rfl
theorem dX12_readFolk_140 : decode cX12_readFolk 140 = .ok (.getfield 31, 3) := dk180 (k := 16) bX12_readFolk_124 rfl rfl
theorem dX12_readFolk_143 : decode cX12_readFolk 143 = .ok (.iload_n 2, 1) := dk28 (k := 19) bX12_readFolk_124 rfl
theorem dX12_readFolk_144 : decode cX12_readFolk 144 = .ok (.iconst 5, 1) := dk8 (k := 20) bX12_readFolk_124 rfl
theorem dX12_readFolk_145 : decode cX12_readFolk 145 = .ok (.iadd, 1) := dk96 (k := 21) bX12_readFolk_124 rfl
theorem dX12_readFolk_146 : decode cX12_readFolk 146 = .ok (.aload_n 0, 1) := dk42 (k := 22) bX12_readFolk_124 rfl
theorem dX12_readFolk_147 : decode cX12_readFolk 147 = .ok (.iconst 1, 1) := dk4 (k := 23) bX12_readFolk_124 rfl
theorem bX12_readFolk_148 : bL cX12_readFolk 148 [16, 7, 182, 0, 151, 79, 42, 18, 179, 182, 0, 147, 42, 3, 27, 4, 100, 182, 0, 151, 62, 42, 182, 0, 121] := bL_of (by decide +kernel)
theorem dX12_readFolk_148 : decode cX12_readFolk 148 = .ok (.bipush 7, 2) := dk16 (k := 0) bX12_readFolk_148 rfl (by decide)
theorem dX12_readFolk_150 : decode cX12_readFolk 150 = .ok (.invokevirtual 151, 3) := dk182 (k := 2) bX12_readFolk_148 rfl rfl
theorem dX12_readFolk_153 : decode cX12_readFolk 153 = .ok (.iastore, 1) := dk79 (k := 5) bX12_readFolk_148 rfl
theorem dX12_readFolk_154 : decode cX12_readFolk 154 = .ok (.aload_n 0, 1) := dk42 (k := 6) bX12_readFolk_148 rfl
theorem dX12_readFolk_155 : decode cX12_readFolk 155 = .ok (.ldc 179, 2) := dk18 (k := 7) bX12_readFolk_148 rfl rfl
theorem dX12_readFolk_157 : decode cX12_readFolk 157 = .ok (.invokevirtual 147, 3) := dk182 (k := 9) bX12_readFolk_148 rfl rfl
theorem dX12_readFolk_160 : decode cX12_readFolk 160 = .ok (.aload_n 0, 1) := dk42 (k := 12) bX12_readFolk_148 rfl
theorem dX12_readFolk_161 : decode cX12_readFolk 161 = .ok (.iconst 0, 1) := dk3 (k := 13) bX12_readFolk_148 rfl
theorem dX12_readFolk_162 : decode cX12_readFolk 162 = .ok (.iload_n 1, 1) := dk27 (k := 14) bX12_readFolk_148 rfl
theorem dX12_readFolk_163 : decode cX12_readFolk 163 = .ok (.iconst 1, 1) := dk4 (k := 15) bX12_readFolk_148 rfl
theorem dX12_readFolk_164 : decode cX12_readFolk 164 = .ok (.isub, 1) := dk100 (k := 16) bX12_readFolk_148 rfl
theorem dX12_readFolk_165 : decode cX12_readFolk 165 = .ok (.invokevirtual 151, 3) := dk182 (k := 17) bX12_readFolk_148 rfl rfl
theorem dX12_readFolk_168 : decode cX12_readFolk 168 = .ok (.istore_n 3, 1) := dk62 (k := 20) bX12_readFolk_148 rfl
theorem dX12_readFolk_169 : decode cX12_readFolk 169 = .ok (.aload_n 0, 1) := dk42 (k := 21) bX12_readFolk_148 rfl
theorem dX12_readFolk_170 : decode cX12_readFolk 170 = .ok (.invokevirtual 121, 3) := dk182 (k := 22) bX12_readFolk_148 rfl rfl
theorem bX12_readFolk_173 : bL cX12_readFolk 173 [154, 0, 4, 177, 42, 180, 0, 31, 28, 16, 6, 96, 92, 46, 4, 29, 120, 128, 79, 42, 180, 0, 31, 16, 19] := bL_of (by decide +kernel)
theorem dX12_readFolk_173 : decode cX12_readFolk 173 = .ok (.ifCond .ne 4, 3) := dk154 (k := 0) bX12_readFolk_173 rfl (by decide)
theorem dX12_readFolk_176 : decode cX12_readFolk 176 = .ok (.return_, 1) := dk177 (k := 3) bX12_readFolk_173 rfl
theorem dX12_readFolk_177 : decode cX12_readFolk 177 = .ok (.aload_n 0, 1) := dk42 (k := 4) bX12_readFolk_173 rfl
theorem dX12_readFolk_178 : decode cX12_readFolk 178 = .ok (.getfield 31, 3) := dk180 (k := 5) bX12_readFolk_173 rfl rfl
theorem dX12_readFolk_181 : decode cX12_readFolk 181 = .ok (.iload_n 2, 1) := dk28 (k := 8) bX12_readFolk_173 rfl
theorem dX12_readFolk_182 : decode cX12_readFolk 182 = .ok (.bipush 6, 2) := dk16 (k := 9) bX12_readFolk_173 rfl (by decide)
theorem dX12_readFolk_184 : decode cX12_readFolk 184 = .ok (.iadd, 1) := dk96 (k := 11) bX12_readFolk_173 rfl
theorem dX12_readFolk_185 : decode cX12_readFolk 185 = .ok (.dup2, 1) := dk92 (k := 12) bX12_readFolk_173 rfl
theorem dX12_readFolk_186 : decode cX12_readFolk 186 = .ok (.iaload, 1) := dk46 (k := 13) bX12_readFolk_173 rfl
theorem dX12_readFolk_187 : decode cX12_readFolk 187 = .ok (.iconst 1, 1) := dk4 (k := 14) bX12_readFolk_173 rfl
theorem dX12_readFolk_188 : decode cX12_readFolk 188 = .ok (.iload_n 3, 1) := dk29 (k := 15) bX12_readFolk_173 rfl
theorem dX12_readFolk_189 : decode cX12_readFolk 189 = .ok (.ishl, 1) := dk120 (k := 16) bX12_readFolk_173 rfl
theorem dX12_readFolk_190 : decode cX12_readFolk 190 = .ok (.ior, 1) := dk128 (k := 17) bX12_readFolk_173 rfl
theorem dX12_readFolk_191 : decode cX12_readFolk 191 = .ok (.iastore, 1) := dk79 (k := 18) bX12_readFolk_173 rfl
theorem dX12_readFolk_192 : decode cX12_readFolk 192 = .ok (.aload_n 0, 1) := dk42 (k := 19) bX12_readFolk_173 rfl
theorem dX12_readFolk_193 : decode cX12_readFolk 193 = .ok (.getfield 31, 3) := dk180 (k := 20) bX12_readFolk_173 rfl rfl
theorem dX12_readFolk_196 : decode cX12_readFolk 196 = .ok (.bipush 19, 2) := dk16 (k := 23) bX12_readFolk_173 rfl (by decide)
theorem bX12_readFolk_198 : bL cX12_readFolk 198 [16, 7, 29, 104, 96, 16, 6, 96, 92, 46, 4, 27, 120, 128, 79, 42, 180, 0, 97, 6, 160, 255, 198, 42] := bL_of (by decide +kernel)
theorem dX12_readFolk_198 : decode cX12_readFolk 198 = .ok (.bipush 7, 2) := dk16 (k := 0) bX12_readFolk_198 rfl (by decide)
theorem dX12_readFolk_200 : decode cX12_readFolk 200 = .ok (.iload_n 3, 1) := dk29 (k := 2) bX12_readFolk_198 rfl
theorem dX12_readFolk_201 : decode cX12_readFolk 201 = .ok (.imul, 1) := dk104 (k := 3) bX12_readFolk_198 rfl
theorem dX12_readFolk_202 : decode cX12_readFolk 202 = .ok (.iadd, 1) := dk96 (k := 4) bX12_readFolk_198 rfl
theorem dX12_readFolk_203 : decode cX12_readFolk 203 = .ok (.bipush 6, 2) := dk16 (k := 5) bX12_readFolk_198 rfl (by decide)
theorem dX12_readFolk_205 : decode cX12_readFolk 205 = .ok (.iadd, 1) := dk96 (k := 7) bX12_readFolk_198 rfl
theorem dX12_readFolk_206 : decode cX12_readFolk 206 = .ok (.dup2, 1) := dk92 (k := 8) bX12_readFolk_198 rfl
theorem dX12_readFolk_207 : decode cX12_readFolk 207 = .ok (.iaload, 1) := dk46 (k := 9) bX12_readFolk_198 rfl
theorem dX12_readFolk_208 : decode cX12_readFolk 208 = .ok (.iconst 1, 1) := dk4 (k := 10) bX12_readFolk_198 rfl
theorem dX12_readFolk_209 : decode cX12_readFolk 209 = .ok (.iload_n 1, 1) := dk27 (k := 11) bX12_readFolk_198 rfl
theorem dX12_readFolk_210 : decode cX12_readFolk 210 = .ok (.ishl, 1) := dk120 (k := 12) bX12_readFolk_198 rfl
theorem dX12_readFolk_211 : decode cX12_readFolk 211 = .ok (.ior, 1) := dk128 (k := 13) bX12_readFolk_198 rfl
theorem dX12_readFolk_212 : decode cX12_readFolk 212 = .ok (.iastore, 1) := dk79 (k := 14) bX12_readFolk_198 rfl
theorem dX12_readFolk_213 : decode cX12_readFolk 213 = .ok (.aload_n 0, 1) := dk42 (k := 15) bX12_readFolk_198 rfl
theorem dX12_readFolk_214 : decode cX12_readFolk 214 = .ok (.getfield 97, 3) := dk180 (k := 16) bX12_readFolk_198 rfl rfl
theorem dX12_readFolk_217 : decode cX12_readFolk 217 = .ok (.iconst 3, 1) := dk6 (k := 19) bX12_readFolk_198 rfl
theorem dX12_readFolk_218 : decode cX12_readFolk 218 = .ok (.if_icmp .ne (-58), 3) := dk160 (k := 20) bX12_readFolk_198 rfl (by decide)
theorem dX12_readFolk_221 : decode cX12_readFolk 221 = .ok (.aload_n 0, 1) := dk42 (k := 23) bX12_readFolk_198 rfl
theorem bX12_readFolk_222 : bL cX12_readFolk 222 [180, 0, 31, 16, 6, 92, 46, 4, 96, 79, 177] := bL_of (by decide +kernel)
theorem dX12_readFolk_222 : decode cX12_readFolk 222 = .ok (.getfield 31, 3) := dk180 (k := 0) bX12_readFolk_222 rfl rfl
theorem dX12_readFolk_225 : decode cX12_readFolk 225 = .ok (.bipush 6, 2) := dk16 (k := 3) bX12_readFolk_222 rfl (by decide)
theorem dX12_readFolk_227 : decode cX12_readFolk 227 = .ok (.dup2, 1) := dk92 (k := 5) bX12_readFolk_222 rfl
theorem dX12_readFolk_228 : decode cX12_readFolk 228 = .ok (.iaload, 1) := dk46 (k := 6) bX12_readFolk_222 rfl
theorem dX12_readFolk_229 : decode cX12_readFolk 229 = .ok (.iconst 1, 1) := dk4 (k := 7) bX12_readFolk_222 rfl
theorem dX12_readFolk_230 : decode cX12_readFolk 230 = .ok (.iadd, 1) := dk96 (k := 8) bX12_readFolk_222 rfl
theorem dX12_readFolk_231 : decode cX12_readFolk 231 = .ok (.iastore, 1) := dk79 (k := 9) bX12_readFolk_222 rfl
theorem dX12_readFolk_232 : decode cX12_readFolk 232 = .ok (.return_, 1) := dk177 (k := 10) bX12_readFolk_222 rfl
theorem bX12_readNext_0 : bL cX12_readNext 0 [42, 18, 181, 182, 0, 133, 154, 0, 17, 42, 18, 183, 182, 0, 133, 154, 0, 8, 42, 4, 182, 0, 143, 42] := bL_of (by decide +kernel)
theorem dX12_readNext_0 : decode cX12_readNext 0 = .ok (.aload_n 0, 1) := dk42 (k := 0) bX12_readNext_0 rfl
theorem dX12_readNext_1 : decode cX12_readNext 1 = .ok (.ldc 181, 2) := dk18 (k := 1) bX12_readNext_0 rfl rfl
theorem dX12_readNext_3 : decode cX12_readNext 3 = .ok (.invokevirtual 133, 3) := dk182 (k := 3) bX12_readNext_0 rfl rfl
theorem dX12_readNext_6 : decode cX12_readNext 6 = .ok (.ifCond .ne 17, 3) := dk154 (k := 6) bX12_readNext_0 rfl (by decide)
theorem dX12_readNext_9 : decode cX12_readNext 9 = .ok (.aload_n 0, 1) := dk42 (k := 9) bX12_readNext_0 rfl
theorem dX12_readNext_10 : decode cX12_readNext 10 = .ok (.ldc 183, 2) := dk18 (k := 10) bX12_readNext_0 rfl rfl
theorem dX12_readNext_12 : decode cX12_readNext 12 = .ok (.invokevirtual 133, 3) := dk182 (k := 12) bX12_readNext_0 rfl rfl
theorem dX12_readNext_15 : decode cX12_readNext 15 = .ok (.ifCond .ne 8, 3) := dk154 (k := 15) bX12_readNext_0 rfl (by decide)
theorem dX12_readNext_18 : decode cX12_readNext 18 = .ok (.aload_n 0, 1) := dk42 (k := 18) bX12_readNext_0 rfl
theorem dX12_readNext_19 : decode cX12_readNext 19 = .ok (.iconst 1, 1) := dk4 (k := 19) bX12_readNext_0 rfl
theorem dX12_readNext_20 : decode cX12_readNext 20 = .ok (.invokevirtual 143, 3) := dk182 (k := 20) bX12_readNext_0 rfl rfl
theorem dX12_readNext_23 : decode cX12_readNext 23 = .ok (.aload_n 0, 1) := dk42 (k := 23) bX12_readNext_0 rfl
theorem bX12_readNext_24 : bL cX12_readNext 24 [18, 181, 182, 0, 133, 153, 0, 20, 42, 180, 0, 31, 16, 6, 46, 16, 8, 160, 0, 8, 42, 6, 182, 0, 143] := bL_of (by decide +kernel)
theorem dX12_readNext_24 : decode cX12_readNext 24 = .ok (.ldc 181, 2) := dk18 (k := 0) bX12_readNext_24 rfl rfl
theorem dX12_readNext_26 : decode cX12_readNext 26 = .ok (.invokevirtual 133, 3) := dk182 (k := 2) bX12_readNext_24 rfl rfl
theorem dX12_readNext_29 : decode cX12_readNext 29 = .ok (.ifCond .eq 20, 3) := dk153 (k := 5) bX12_readNext_24 rfl (by decide)
theorem dX12_readNext_32 : decode cX12_readNext 32 = .ok (.aload_n 0, 1) := dk42 (k := 8) bX12_readNext_24 rfl
theorem dX12_readNext_33 : decode cX12_readNext 33 = .ok (.getfield 31, 3) := dk180 (k := 9) bX12_readNext_24 rfl rfl
theorem dX12_readNext_36 : decode cX12_readNext 36 = .ok (.bipush 6, 2) := dk16 (k := 12) bX12_readNext_24 rfl (by decide)
theorem dX12_readNext_38 : decode cX12_readNext 38 = .ok (.iaload, 1) := dk46 (k := 14) bX12_readNext_24 rfl
theorem dX12_readNext_39 : decode cX12_readNext 39 = .ok (.bipush 8, 2) := dk16 (k := 15) bX12_readNext_24 rfl (by decide)
theorem dX12_readNext_41 : decode cX12_readNext 41 = .ok (.if_icmp .ne 8, 3) := dk160 (k := 17) bX12_readNext_24 rfl (by decide)
theorem dX12_readNext_44 : decode cX12_readNext 44 = .ok (.aload_n 0, 1) := dk42 (k := 20) bX12_readNext_24 rfl
theorem dX12_readNext_45 : decode cX12_readNext 45 = .ok (.iconst 3, 1) := dk6 (k := 21) bX12_readNext_24 rfl
theorem dX12_readNext_46 : decode cX12_readNext 46 = .ok (.invokevirtual 143, 3) := dk182 (k := 22) bX12_readNext_24 rfl rfl
theorem bX12_readNext_49 : bL cX12_readNext 49 [42, 182, 0, 121, 154, 0, 4, 177, 42, 18, 181, 182, 0, 140, 153, 0, 10, 42, 182, 0, 185, 167, 0, 35] := bL_of (by decide +kernel)
theorem dX12_readNext_49 : decode cX12_readNext 49 = .ok (.aload_n 0, 1) := dk42 (k := 0) bX12_readNext_49 rfl
theorem dX12_readNext_50 : decode cX12_readNext 50 = .ok (.invokevirtual 121, 3) := dk182 (k := 1) bX12_readNext_49 rfl rfl
theorem dX12_readNext_53 : decode cX12_readNext 53 = .ok (.ifCond .ne 4, 3) := dk154 (k := 4) bX12_readNext_49 rfl (by decide)
theorem dX12_readNext_56 : decode cX12_readNext 56 = .ok (.return_, 1) := dk177 (k := 7) bX12_readNext_49 rfl
theorem dX12_readNext_57 : decode cX12_readNext 57 = .ok (.aload_n 0, 1) := dk42 (k := 8) bX12_readNext_49 rfl
theorem dX12_readNext_58 : decode cX12_readNext 58 = .ok (.ldc 181, 2) := dk18 (k := 9) bX12_readNext_49 rfl rfl
theorem dX12_readNext_60 : decode cX12_readNext 60 = .ok (.invokevirtual 140, 3) := dk182 (k := 11) bX12_readNext_49 rfl rfl
theorem dX12_readNext_63 : decode cX12_readNext 63 = .ok (.ifCond .eq 10, 3) := dk153 (k := 14) bX12_readNext_49 rfl (by decide)
theorem dX12_readNext_66 : decode cX12_readNext 66 = .ok (.aload_n 0, 1) := dk42 (k := 17) bX12_readNext_49 rfl
theorem dX12_readNext_67 : decode cX12_readNext 67 = .ok (.invokevirtual 185, 3) := dk182 (k := 18) bX12_readNext_49 rfl rfl
theorem dX12_readNext_70 : decode cX12_readNext 70 = .ok (.goto 35, 3) := dk167 (k := 21) bX12_readNext_49 rfl (by decide)
theorem bX12_readNext_73 : bL cX12_readNext 73 [42, 182, 0, 137, 42, 3, 42, 180, 0, 31, 3, 46, 4, 100, 182, 0, 151, 60, 42, 182, 0, 121, 153, 0, 10] := bL_of (by decide +kernel)
theorem dX12_readNext_73 : decode cX12_readNext 73 = .ok (.aload_n 0, 1) := dk42 (k := 0) bX12_readNext_73 rfl
theorem dX12_readNext_74 : decode cX12_readNext 74 = .ok (.invokevirtual 137, 3) := dk182 (k := 1) bX12_readNext_73 rfl rfl
theorem dX12_readNext_77 : decode cX12_readNext 77 = .ok (.aload_n 0, 1) := dk42 (k := 4) bX12_readNext_73 rfl
theorem dX12_readNext_78 : decode cX12_readNext 78 = .ok (.iconst 0, 1) := dk3 (k := 5) bX12_readNext_73 rfl
theorem dX12_readNext_79 : decode cX12_readNext 79 = .ok (.aload_n 0, 1) := dk42 (k := 6) bX12_readNext_73 rfl
theorem dX12_readNext_80 : decode cX12_readNext 80 = .ok (.getfield 31, 3) := dk180 (k := 7) bX12_readNext_73 rfl rfl
theorem dX12_readNext_83 : decode cX12_readNext 83 = .ok (.iconst 0, 1) := dk3 (k := 10) bX12_readNext_73 rfl
theorem dX12_readNext_84 : decode cX12_readNext 84 = .ok (.iaload, 1) := dk46 (k := 11) bX12_readNext_73 rfl
theorem dX12_readNext_85 : decode cX12_readNext 85 = .ok (.iconst 1, 1) := dk4 (k := 12) bX12_readNext_73 rfl
theorem dX12_readNext_86 : decode cX12_readNext 86 = .ok (.isub, 1) := dk100 (k := 13) bX12_readNext_73 rfl
theorem dX12_readNext_87 : decode cX12_readNext 87 = .ok (.invokevirtual 151, 3) := dk182 (k := 14) bX12_readNext_73 rfl rfl
theorem dX12_readNext_90 : decode cX12_readNext 90 = .ok (.istore_n 1, 1) := dk60 (k := 17) bX12_readNext_73 rfl
theorem dX12_readNext_91 : decode cX12_readNext 91 = .ok (.aload_n 0, 1) := dk42 (k := 18) bX12_readNext_73 rfl
theorem dX12_readNext_92 : decode cX12_readNext 92 = .ok (.invokevirtual 121, 3) := dk182 (k := 19) bX12_readNext_73 rfl rfl
theorem dX12_readNext_95 : decode cX12_readNext 95 = .ok (.ifCond .eq 10, 3) := dk153 (k := 22) bX12_readNext_73 rfl (by decide)
theorem bX12_readNext_98 : bL cX12_readNext 98 [42, 180, 0, 31, 8, 27, 79, 177] := bL_of (by decide +kernel)
theorem dX12_readNext_98 : decode cX12_readNext 98 = .ok (.aload_n 0, 1) := dk42 (k := 0) bX12_readNext_98 rfl
theorem dX12_readNext_99 : decode cX12_readNext 99 = .ok (.getfield 31, 3) := dk180 (k := 1) bX12_readNext_98 rfl rfl
theorem dX12_readNext_102 : decode cX12_readNext 102 = .ok (.iconst 5, 1) := dk8 (k := 4) bX12_readNext_98 rfl
theorem dX12_readNext_103 : decode cX12_readNext 103 = .ok (.iload_n 1, 1) := dk27 (k := 5) bX12_readNext_98 rfl
theorem dX12_readNext_104 : decode cX12_readNext 104 = .ok (.iastore, 1) := dk79 (k := 6) bX12_readNext_98 rfl
theorem dX12_readNext_105 : decode cX12_readNext 105 = .ok (.return_, 1) := dk177 (k := 7) bX12_readNext_98 rfl
theorem bX12_mount_0 : bL cX12_mount 0 [42, 42, 180, 0, 81, 181, 0, 84, 42, 3, 181, 0, 81, 42, 3, 181, 0, 87, 42, 3, 181, 0, 118, 42] := bL_of (by decide +kernel)
theorem dX12_mount_0 : decode cX12_mount 0 = .ok (.aload_n 0, 1) := dk42 (k := 0) bX12_mount_0 rfl
theorem dX12_mount_1 : decode cX12_mount 1 = .ok (.aload_n 0, 1) := dk42 (k := 1) bX12_mount_0 rfl
theorem dX12_mount_2 : decode cX12_mount 2 = .ok (.getfield 81, 3) := dk180 (k := 2) bX12_mount_0 rfl rfl
theorem dX12_mount_5 : decode cX12_mount 5 = .ok (.putfield 84, 3) := dk181 (k := 5) bX12_mount_0 rfl rfl
theorem dX12_mount_8 : decode cX12_mount 8 = .ok (.aload_n 0, 1) := dk42 (k := 8) bX12_mount_0 rfl
theorem dX12_mount_9 : decode cX12_mount 9 = .ok (.iconst 0, 1) := dk3 (k := 9) bX12_mount_0 rfl
theorem dX12_mount_10 : decode cX12_mount 10 = .ok (.putfield 81, 3) := dk181 (k := 10) bX12_mount_0 rfl rfl
theorem dX12_mount_13 : decode cX12_mount 13 = .ok (.aload_n 0, 1) := dk42 (k := 13) bX12_mount_0 rfl
theorem dX12_mount_14 : decode cX12_mount 14 = .ok (.iconst 0, 1) := dk3 (k := 14) bX12_mount_0 rfl
theorem dX12_mount_15 : decode cX12_mount 15 = .ok (.putfield 87, 3) := dk181 (k := 15) bX12_mount_0 rfl rfl
theorem dX12_mount_18 : decode cX12_mount 18 = .ok (.aload_n 0, 1) := dk42 (k := 18) bX12_mount_0 rfl
theorem dX12_mount_19 : decode cX12_mount 19 = .ok (.iconst 0, 1) := dk3 (k := 19) bX12_mount_0 rfl
theorem dX12_mount_20 : decode cX12_mount 20 = .ok (.putfield 118, 3) := dk181 (k := 20) bX12_mount_0 rfl rfl
theorem dX12_mount_23 : decode cX12_mount 23 = .ok (.aload_n 0, 1) := dk42 (k := 23) bX12_mount_0 rfl
theorem bX12_mount_24 : bL cX12_mount 24 [2, 181, 0, 27, 3, 60, 27, 17, 0, 135, 162, 0, 16, 42, 180, 0, 31, 27, 3, 79, 132, 1, 1, 167, 255, 239] := bL_of (by decide +kernel)
theorem dX12_mount_24 : decode cX12_mount 24 = .ok (.iconst (-1), 1) := dk2 (k := 0) bX12_mount_24 rfl
theorem dX12_mount_25 : decode cX12_mount 25 = .ok (.putfield 27, 3) := dk181 (k := 1) bX12_mount_24 rfl rfl
theorem dX12_mount_28 : decode cX12_mount 28 = .ok (.iconst 0, 1) := dk3 (k := 4) bX12_mount_24 rfl
theorem dX12_mount_29 : decode cX12_mount 29 = .ok (.istore_n 1, 1) := dk60 (k := 5) bX12_mount_24 rfl
theorem dX12_mount_30 : decode cX12_mount 30 = .ok (.iload_n 1, 1) := dk27 (k := 6) bX12_mount_24 rfl
theorem dX12_mount_31 : decode cX12_mount 31 = .ok (.sipush 135, 3) := dk17 (k := 7) bX12_mount_24 rfl (by decide)
theorem dX12_mount_34 : decode cX12_mount 34 = .ok (.if_icmp .ge 16, 3) := dk162 (k := 10) bX12_mount_24 rfl (by decide)
theorem dX12_mount_37 : decode cX12_mount 37 = .ok (.aload_n 0, 1) := dk42 (k := 13) bX12_mount_24 rfl
theorem dX12_mount_38 : decode cX12_mount 38 = .ok (.getfield 31, 3) := dk180 (k := 14) bX12_mount_24 rfl rfl
theorem dX12_mount_41 : decode cX12_mount 41 = .ok (.iload_n 1, 1) := dk27 (k := 17) bX12_mount_24 rfl
theorem dX12_mount_42 : decode cX12_mount 42 = .ok (.iconst 0, 1) := dk3 (k := 18) bX12_mount_24 rfl
theorem dX12_mount_43 : decode cX12_mount 43 = .ok (.iastore, 1) := dk79 (k := 19) bX12_mount_24 rfl
theorem dX12_mount_44 : decode cX12_mount 44 = .ok (.iinc 1 1, 3) := dk132 (k := 20) bX12_mount_24 rfl rfl (by decide)
theorem dX12_mount_47 : decode cX12_mount 47 = .ok (.goto (-17), 3) := dk167 (k := 23) bX12_mount_24 rfl (by decide)
theorem bX12_mount_50 : bL cX12_mount 50 [42, 182, 0, 137, 42, 182, 0, 121, 153, 0, 76, 42, 180, 0, 97, 153, 0, 69, 42, 180, 0, 31, 16, 7] := bL_of (by decide +kernel)
theorem dX12_mount_50 : decode cX12_mount 50 = .ok (.aload_n 0, 1) := dk42 (k := 0) bX12_mount_50 rfl
theorem dX12_mount_51 : decode cX12_mount 51 = .ok (.invokevirtual 137, 3) := dk182 (k := 1) bX12_mount_50 rfl rfl
theorem dX12_mount_54 : decode cX12_mount 54 = .ok (.aload_n 0, 1) := dk42 (k := 4) bX12_mount_50 rfl
theorem dX12_mount_55 : decode cX12_mount 55 = .ok (.invokevirtual 121, 3) := dk182 (k := 5) bX12_mount_50 rfl rfl
theorem dX12_mount_58 : decode cX12_mount 58 = .ok (.ifCond .eq 76, 3) := dk153 (k := 8) bX12_mount_50 rfl (by decide)
theorem dX12_mount_61 : decode cX12_mount 61 = .ok (.aload_n 0, 1) := dk42 (k := 11) bX12_mount_50 rfl
theorem dX12_mount_62 : decode cX12_mount 62 = .ok (.getfield 97, 3) := dk180 (k := 12) bX12_mount_50 rfl rfl
theorem dX12_mount_65 : decode cX12_mount 65 = .ok (.ifCond .eq 69, 3) := dk153 (k := 15) bX12_mount_50 rfl (by decide)
theorem dX12_mount_68 : decode cX12_mount 68 = .ok (.aload_n 0, 1) := dk42 (k := 18) bX12_mount_50 rfl
theorem dX12_mount_69 : decode cX12_mount 69 = .ok (.getfield 31, 3) := dk180 (k := 19) bX12_mount_50 rfl rfl
theorem dX12_mount_72 : decode cX12_mount 72 = .ok (.bipush 7, 2) := dk16 (k := 22) bX12_mount_50 rfl (by decide)
theorem bX12_mount_74 : bL cX12_mount 74 [46, 154, 0, 10, 42, 182, 0, 188, 167, 0, 7, 42, 182, 0, 191, 42, 182, 0, 121, 153, 0, 16, 42, 180, 0, 97] := bL_of (by decide +kernel)
theorem dX12_mount_74 : decode cX12_mount 74 = .ok (.iaload, 1) := dk46 (k := 0) bX12_mount_74 rfl
theorem dX12_mount_75 : decode cX12_mount 75 = .ok (.ifCond .ne 10, 3) := dk154 (k := 1) bX12_mount_74 rfl (by decide)
theorem dX12_mount_78 : decode cX12_mount 78 = .ok (.aload_n 0, 1) := dk42 (k := 4) bX12_mount_74 rfl
theorem dX12_mount_79 : decode cX12_mount 79 = .ok (.invokevirtual 188, 3) := dk182 (k := 5) bX12_mount_74 rfl rfl
theorem dX12_mount_82 : decode cX12_mount 82 = .ok (.goto 7, 3) := dk167 (k := 8) bX12_mount_74 rfl (by decide)
theorem dX12_mount_85 : decode cX12_mount 85 = .ok (.aload_n 0, 1) := dk42 (k := 11) bX12_mount_74 rfl
theorem dX12_mount_86 : decode cX12_mount 86 = .ok (.invokevirtual 191, 3) := dk182 (k := 12) bX12_mount_74 rfl rfl
theorem dX12_mount_89 : decode cX12_mount 89 = .ok (.aload_n 0, 1) := dk42 (k := 15) bX12_mount_74 rfl
theorem dX12_mount_90 : decode cX12_mount 90 = .ok (.invokevirtual 121, 3) := dk182 (k := 16) bX12_mount_74 rfl rfl
theorem dX12_mount_93 : decode cX12_mount 93 = .ok (.ifCond .eq 16, 3) := dk153 (k := 19) bX12_mount_74 rfl (by decide)
theorem dX12_mount_96 : decode cX12_mount 96 = .ok (.aload_n 0, 1) := dk42 (k := 22) bX12_mount_74 rfl
theorem dX12_mount_97 : decode cX12_mount 97 = .ok (.getfield 97, 3) := dk180 (k := 23) bX12_mount_74 rfl rfl
theorem bX12_mount_100 : bL cX12_mount 100 [6, 159, 0, 8, 42, 4, 182, 0, 143, 42, 182, 0, 121, 153, 0, 7, 42, 182, 0, 137, 42, 180, 0, 31] := bL_of (by decide +kernel)
theorem dX12_mount_100 : decode cX12_mount 100 = .ok (.iconst 3, 1) := dk6 (k := 0) bX12_mount_100 rfl
theorem dX12_mount_101 : decode cX12_mount 101 = .ok (.if_icmp .eq 8, 3) := dk159 (k := 1) bX12_mount_100 rfl (by decide)
theorem dX12_mount_104 : decode cX12_mount 104 = .ok (.aload_n 0, 1) := dk42 (k := 4) bX12_mount_100 rfl
theorem dX12_mount_105 : decode cX12_mount 105 = .ok (.iconst 1, 1) := dk4 (k := 5) bX12_mount_100 rfl
theorem dX12_mount_106 : decode cX12_mount 106 = .ok (.invokevirtual 143, 3) := dk182 (k := 6) bX12_mount_100 rfl rfl
theorem dX12_mount_109 : decode cX12_mount 109 = .ok (.aload_n 0, 1) := dk42 (k := 9) bX12_mount_100 rfl
theorem dX12_mount_110 : decode cX12_mount 110 = .ok (.invokevirtual 121, 3) := dk182 (k := 10) bX12_mount_100 rfl rfl
theorem dX12_mount_113 : decode cX12_mount 113 = .ok (.ifCond .eq 7, 3) := dk153 (k := 13) bX12_mount_100 rfl (by decide)
theorem dX12_mount_116 : decode cX12_mount 116 = .ok (.aload_n 0, 1) := dk42 (k := 16) bX12_mount_100 rfl
theorem dX12_mount_117 : decode cX12_mount 117 = .ok (.invokevirtual 137, 3) := dk182 (k := 17) bX12_mount_100 rfl rfl
theorem dX12_mount_120 : decode cX12_mount 120 = .ok (.aload_n 0, 1) := dk42 (k := 20) bX12_mount_100 rfl
theorem dX12_mount_121 : decode cX12_mount 121 = .ok (.getfield 31, 3) := dk180 (k := 21) bX12_mount_100 rfl rfl
theorem bX12_mount_124 : bL cX12_mount 124 [16, 7, 92, 46, 4, 96, 79, 167, 255, 179, 42, 182, 0, 121, 154, 0, 6, 16, 252, 172, 3, 60, 27, 17, 0, 135] := bL_of (by decide +kernel)
theorem dX12_mount_124 : decode cX12_mount 124 = .ok (.bipush 7, 2) := dk16 (k := 0) bX12_mount_124 rfl (by decide)
theorem dX12_mount_126 : decode cX12_mount 126 = .ok (.dup2, 1) := dk92 (k := 2) bX12_mount_124 rfl
theorem dX12_mount_127 : decode cX12_mount 127 = .ok (.iaload, 1) := dk46 (k := 3) bX12_mount_124 rfl
theorem dX12_mount_128 : decode cX12_mount 128 = .ok (.iconst 1, 1) := dk4 (k := 4) bX12_mount_124 rfl
theorem dX12_mount_129 : decode cX12_mount 129 = .ok (.iadd, 1) := dk96 (k := 5) bX12_mount_124 rfl
theorem dX12_mount_130 : decode cX12_mount 130 = .ok (.iastore, 1) := dk79 (k := 6) bX12_mount_124 rfl
theorem dX12_mount_131 : decode cX12_mount 131 = .ok (.goto (-77), 3) := dk167 (k := 7) bX12_mount_124 rfl (by decide)
theorem dX12_mount_134 : decode cX12_mount 134 = .ok (.aload_n 0, 1) := dk42 (k := 10) bX12_mount_124 rfl
theorem dX12_mount_135 : decode cX12_mount 135 = .ok (.invokevirtual 121, 3) := dk182 (k := 11) bX12_mount_124 rfl rfl
theorem dX12_mount_138 : decode cX12_mount 138 = .ok (.ifCond .ne 6, 3) := dk154 (k := 14) bX12_mount_124 rfl (by decide)
theorem dX12_mount_141 : decode cX12_mount 141 = .ok (.bipush (-4), 2) := dk16 (k := 17) bX12_mount_124 rfl (by decide)
theorem dX12_mount_143 : decode cX12_mount 143 = .ok (.ireturn, 1) := dk172 (k := 19) bX12_mount_124 rfl
theorem dX12_mount_144 : decode cX12_mount 144 = .ok (.iconst 0, 1) := dk3 (k := 20) bX12_mount_124 rfl
theorem dX12_mount_145 : decode cX12_mount 145 = .ok (.istore_n 1, 1) := dk60 (k := 21) bX12_mount_124 rfl
theorem dX12_mount_146 : decode cX12_mount 146 = .ok (.iload_n 1, 1) := dk27 (k := 22) bX12_mount_124 rfl
theorem dX12_mount_147 : decode cX12_mount 147 = .ok (.sipush 135, 3) := dk17 (k := 23) bX12_mount_124 rfl (by decide)
theorem bX12_mount_150 : bL cX12_mount 150 [162, 0, 21, 42, 180, 0, 9, 27, 42, 180, 0, 31, 27, 46, 79, 132, 1, 1, 167, 255, 234, 42, 180, 0, 9] := bL_of (by decide +kernel)
theorem dX12_mount_150 : decode cX12_mount 150 = .ok (.if_icmp .ge 21, 3) := dk162 (k := 0) bX12_mount_150 rfl (by decide)
theorem dX12_mount_153 : decode cX12_mount 153 = .ok (.aload_n 0, 1) := dk42 (k := 3) bX12_mount_150 rfl
theorem dX12_mount_154 : decode cX12_mount 154 = .ok (.getfield 9, 3) := dk180 (k := 4) bX12_mount_150 rfl rfl
theorem dX12_mount_157 : decode cX12_mount 157 = .ok (.iload_n 1, 1) := dk27 (k := 7) bX12_mount_150 rfl
theorem dX12_mount_158 : decode cX12_mount 158 = .ok (.aload_n 0, 1) := dk42 (k := 8) bX12_mount_150 rfl
theorem dX12_mount_159 : decode cX12_mount 159 = .ok (.getfield 31, 3) := dk180 (k := 9) bX12_mount_150 rfl rfl
theorem dX12_mount_162 : decode cX12_mount 162 = .ok (.iload_n 1, 1) := dk27 (k := 12) bX12_mount_150 rfl
theorem dX12_mount_163 : decode cX12_mount 163 = .ok (.iaload, 1) := dk46 (k := 13) bX12_mount_150 rfl
theorem dX12_mount_164 : decode cX12_mount 164 = .ok (.iastore, 1) := dk79 (k := 14) bX12_mount_150 rfl
theorem dX12_mount_165 : decode cX12_mount 165 = .ok (.iinc 1 1, 3) := dk132 (k := 15) bX12_mount_150 rfl rfl (by decide)
theorem dX12_mount_168 : decode cX12_mount 168 = .ok (.goto (-22), 3) := dk167 (k := 18) bX12_mount_150 rfl (by decide)
theorem dX12_mount_171 : decode cX12_mount 171 = .ok (.aload_n 0, 1) := dk42 (k := 21) bX12_mount_150 rfl
theorem dX12_mount_172 : decode cX12_mount 172 = .ok (.getfield 9, 3) := dk180 (k := 22) bX12_mount_150 rfl rfl
theorem bX12_mount_175 : bL cX12_mount 175 [16, 7, 46, 172] := bL_of (by decide +kernel)
theorem dX12_mount_175 : decode cX12_mount 175 = .ok (.bipush 7, 2) := dk16 (k := 0) bX12_mount_175 rfl (by decide)
theorem dX12_mount_177 : decode cX12_mount 177 = .ok (.iaload, 1) := dk46 (k := 2) bX12_mount_175 rfl
theorem dX12_mount_178 : decode cX12_mount 178 = .ok (.ireturn, 1) := dk172 (k := 3) bX12_mount_175 rfl
theorem bX12_asItIs_0 : bL cX12_asItIs 0 [3, 60, 27, 16, 10, 162, 0, 38, 42, 180, 0, 34, 27, 27, 42, 180, 0, 9, 3, 46, 162, 0, 15, 42] := bL_of (by decide +kernel)
theorem dX12_asItIs_0 : decode cX12_asItIs 0 = .ok (.iconst 0, 1) := dk3 (k := 0) bX12_asItIs_0 rfl
theorem dX12_asItIs_1 : decode cX12_asItIs 1 = .ok (.istore_n 1, 1) := dk60 (k := 1) bX12_asItIs_0 rfl
theorem dX12_asItIs_2 : decode cX12_asItIs 2 = .ok (.iload_n 1, 1) := dk27 (k := 2) bX12_asItIs_0 rfl
theorem dX12_asItIs_3 : decode cX12_asItIs 3 = .ok (.bipush 10, 2) := dk16 (k := 3) bX12_asItIs_0 rfl (by decide)
theorem dX12_asItIs_5 : decode cX12_asItIs 5 = .ok (.if_icmp .ge 38, 3) := dk162 (k := 5) bX12_asItIs_0 rfl (by decide)
theorem dX12_asItIs_8 : decode cX12_asItIs 8 = .ok (.aload_n 0, 1) := dk42 (k := 8) bX12_asItIs_0 rfl
theorem dX12_asItIs_9 : decode cX12_asItIs 9 = .ok (.getfield 34, 3) := dk180 (k := 9) bX12_asItIs_0 rfl rfl
theorem dX12_asItIs_12 : decode cX12_asItIs 12 = .ok (.iload_n 1, 1) := dk27 (k := 12) bX12_asItIs_0 rfl
theorem dX12_asItIs_13 : decode cX12_asItIs 13 = .ok (.iload_n 1, 1) := dk27 (k := 13) bX12_asItIs_0 rfl
theorem dX12_asItIs_14 : decode cX12_asItIs 14 = .ok (.aload_n 0, 1) := dk42 (k := 14) bX12_asItIs_0 rfl
theorem dX12_asItIs_15 : decode cX12_asItIs 15 = .ok (.getfield 9, 3) := dk180 (k := 15) bX12_asItIs_0 rfl rfl
theorem dX12_asItIs_18 : decode cX12_asItIs 18 = .ok (.iconst 0, 1) := dk3 (k := 18) bX12_asItIs_0 rfl
theorem dX12_asItIs_19 : decode cX12_asItIs 19 = .ok (.iaload, 1) := dk46 (k := 19) bX12_asItIs_0 rfl
theorem dX12_asItIs_20 : decode cX12_asItIs 20 = .ok (.if_icmp .ge 15, 3) := dk162 (k := 20) bX12_asItIs_0 rfl (by decide)
theorem dX12_asItIs_23 : decode cX12_asItIs 23 = .ok (.aload_n 0, 1) := dk42 (k := 23) bX12_asItIs_0 rfl
theorem bX12_asItIs_24 : bL cX12_asItIs 24 [180, 0, 9, 16, 9, 27, 96, 46, 167, 0, 4, 3, 79, 132, 1, 1, 167, 255, 218, 3, 60, 27, 42, 180, 0, 9] := bL_of (by decide +kernel)
theorem dX12_asItIs_24 : decode cX12_asItIs 24 = .ok (.getfield 9, 3) := dk180 (k := 0) bX12_asItIs_24 rfl rfl
theorem dX12_asItIs_27 : decode cX12_asItIs 27 = .ok (.bipush 9, 2) := dk16 (k := 3) bX12_asItIs_24 rfl (by decide)
theorem dX12_asItIs_29 : decode cX12_asItIs 29 = .ok (.iload_n 1, 1) := dk27 (k := 5) bX12_asItIs_24 rfl
theorem dX12_asItIs_30 : decode cX12_asItIs 30 = .ok (.iadd, 1) := dk96 (k := 6) bX12_asItIs_24 rfl
theorem dX12_asItIs_31 : decode cX12_asItIs 31 = .ok (.iaload, 1) := dk46 (k := 7) bX12_asItIs_24 rfl
theorem dX12_asItIs_32 : decode cX12_asItIs 32 = .ok (.goto 4, 3) := dk167 (k := 8) bX12_asItIs_24 rfl (by decide)
theorem dX12_asItIs_35 : decode cX12_asItIs 35 = .ok (.iconst 0, 1) := dk3 (k := 11) bX12_asItIs_24 rfl
theorem dX12_asItIs_36 : decode cX12_asItIs 36 = .ok (.iastore, 1) := dk79 (k := 12) bX12_asItIs_24 rfl
theorem dX12_asItIs_37 : decode cX12_asItIs 37 = .ok (.iinc 1 1, 3) := dk132 (k := 13) bX12_asItIs_24 rfl rfl (by decide)
theorem dX12_asItIs_40 : decode cX12_asItIs 40 = .ok (.goto (-38), 3) := dk167 (k := 16) bX12_asItIs_24 rfl (by decide)
theorem dX12_asItIs_43 : decode cX12_asItIs 43 = .ok (.iconst 0, 1) := dk3 (k := 19) bX12_asItIs_24 rfl
theorem dX12_asItIs_44 : decode cX12_asItIs 44 = .ok (.istore_n 1, 1) := dk60 (k := 20) bX12_asItIs_24 rfl
theorem dX12_asItIs_45 : decode cX12_asItIs 45 = .ok (.iload_n 1, 1) := dk27 (k := 21) bX12_asItIs_24 rfl
theorem dX12_asItIs_46 : decode cX12_asItIs 46 = .ok (.aload_n 0, 1) := dk42 (k := 22) bX12_asItIs_24 rfl
theorem dX12_asItIs_47 : decode cX12_asItIs 47 = .ok (.getfield 9, 3) := dk180 (k := 23) bX12_asItIs_24 rfl rfl
theorem bX12_asItIs_50 : bL cX12_asItIs 50 [16, 8, 46, 162, 0, 45, 42, 180, 0, 9, 16, 75, 27, 96, 46, 154, 0, 11, 42, 182, 0, 194, 87, 167, 0, 19] := bL_of (by decide +kernel)
theorem dX12_asItIs_50 : decode cX12_asItIs 50 = .ok (.bipush 8, 2) := dk16 (k := 0) bX12_asItIs_50 rfl (by decide)
theorem dX12_asItIs_52 : decode cX12_asItIs 52 = .ok (.iaload, 1) := dk46 (k := 2) bX12_asItIs_50 rfl
theorem dX12_asItIs_53 : decode cX12_asItIs 53 = .ok (.if_icmp .ge 45, 3) := dk162 (k := 3) bX12_asItIs_50 rfl (by decide)
theorem dX12_asItIs_56 : decode cX12_asItIs 56 = .ok (.aload_n 0, 1) := dk42 (k := 6) bX12_asItIs_50 rfl
theorem dX12_asItIs_57 : decode cX12_asItIs 57 = .ok (.getfield 9, 3) := dk180 (k := 7) bX12_asItIs_50 rfl rfl
theorem dX12_asItIs_60 : decode cX12_asItIs 60 = .ok (.bipush 75, 2) := dk16 (k := 10) bX12_asItIs_50 rfl (by decide)
theorem dX12_asItIs_62 : decode cX12_asItIs 62 = .ok (.iload_n 1, 1) := dk27 (k := 12) bX12_asItIs_50 rfl
theorem dX12_asItIs_63 : decode cX12_asItIs 63 = .ok (.iadd, 1) := dk96 (k := 13) bX12_asItIs_50 rfl
theorem dX12_asItIs_64 : decode cX12_asItIs 64 = .ok (.iaload, 1) := dk46 (k := 14) bX12_asItIs_50 rfl
theorem dX12_asItIs_65 : decode cX12_asItIs 65 = .ok (.ifCond .ne 11, 3) := dk154 (k := 15) bX12_asItIs_50 rfl (by decide)
theorem dX12_asItIs_68 : decode cX12_asItIs 68 = .ok (.aload_n 0, 1) := dk42 (k := 18) bX12_asItIs_50 rfl
theorem dX12_asItIs_69 : decode cX12_asItIs 69 = .ok (.invokevirtual 194, 3) := dk182 (k := 19) bX12_asItIs_50 rfl rfl
theorem dX12_asItIs_72 : decode cX12_asItIs 72 = .ok (.pop, 1) := dk87 (k := 22) bX12_asItIs_50 rfl
theorem dX12_asItIs_73 : decode cX12_asItIs 73 = .ok (.goto 19, 3) := dk167 (k := 23) bX12_asItIs_50 rfl (by decide)
theorem bX12_asItIs_76 : bL cX12_asItIs 76 [42, 42, 180, 0, 9, 16, 75, 27, 96, 46, 4, 100, 182, 0, 197, 87, 132, 1, 1, 167, 255, 206, 177] := bL_of (by decide +kernel)
theorem dX12_asItIs_76 : decode cX12_asItIs 76 = .ok (.aload_n 0, 1) := dk42 (k := 0) bX12_asItIs_76 rfl
theorem dX12_asItIs_77 : decode cX12_asItIs 77 = .ok (.aload_n 0, 1) := dk42 (k := 1) bX12_asItIs_76 rfl
theorem dX12_asItIs_78 : decode cX12_asItIs 78 = .ok (.getfield 9, 3) := dk180 (k := 2) bX12_asItIs_76 rfl rfl
theorem dX12_asItIs_81 : decode cX12_asItIs 81 = .ok (.bipush 75, 2) := dk16 (k := 5) bX12_asItIs_76 rfl (by decide)
theorem dX12_asItIs_83 : decode cX12_asItIs 83 = .ok (.iload_n 1, 1) := dk27 (k := 7) bX12_asItIs_76 rfl
theorem dX12_asItIs_84 : decode cX12_asItIs 84 = .ok (.iadd, 1) := dk96 (k := 8) bX12_asItIs_76 rfl
theorem dX12_asItIs_85 : decode cX12_asItIs 85 = .ok (.iaload, 1) := dk46 (k := 9) bX12_asItIs_76 rfl
theorem dX12_asItIs_86 : decode cX12_asItIs 86 = .ok (.iconst 1, 1) := dk4 (k := 10) bX12_asItIs_76 rfl
theorem dX12_asItIs_87 : decode cX12_asItIs 87 = .ok (.isub, 1) := dk100 (k := 11) bX12_asItIs_76 rfl
theorem dX12_asItIs_88 : decode cX12_asItIs 88 = .ok (.invokevirtual 197, 3) := dk182 (k := 12) bX12_asItIs_76 rfl rfl
theorem dX12_asItIs_91 : decode cX12_asItIs 91 = .ok (.pop, 1) := dk87 (k := 15) bX12_asItIs_76 rfl
theorem dX12_asItIs_92 : decode cX12_asItIs 92 = .ok (.iinc 1 1, 3) := dk132 (k := 16) bX12_asItIs_76 rfl rfl (by decide)
theorem dX12_asItIs_95 : decode cX12_asItIs 95 = .ok (.goto (-50), 3) := dk167 (k := 19) bX12_asItIs_76 rfl (by decide)
theorem dX12_asItIs_98 : decode cX12_asItIs 98 = .ok (.return_, 1) := dk177 (k := 22) bX12_asItIs_76 rfl
theorem bX12_topCell_0 : bL cX12_topCell 0 [3, 60, 4, 61, 28, 42, 180, 0, 9, 3, 46, 162, 0, 51, 42, 180, 0, 34, 28, 46, 42, 180, 0, 34] := bL_of (by decide +kernel)
theorem dX12_topCell_0 : decode cX12_topCell 0 = .ok (.iconst 0, 1) := dk3 (k := 0) bX12_topCell_0 rfl
theorem dX12_topCell_1 : decode cX12_topCell 1 = .ok (.istore_n 1, 1) := dk60 (k := 1) bX12_topCell_0 rfl
theorem dX12_topCell_2 : decode cX12_topCell 2 = .ok (.iconst 1, 1) := dk4 (k := 2) bX12_topCell_0 rfl
theorem dX12_topCell_3 : decode cX12_topCell 3 = .ok (.istore_n 2, 1) := dk61 (k := 3) bX12_topCell_0 rfl
theorem dX12_topCell_4 : decode cX12_topCell 4 = .ok (.iload_n 2, 1) := dk28 (k := 4) bX12_topCell_0 rfl
theorem dX12_topCell_5 : decode cX12_topCell 5 = .ok (.aload_n 0, 1) := dk42 (k := 5) bX12_topCell_0 rfl
theorem dX12_topCell_6 : decode cX12_topCell 6 = .ok (.getfield 9, 3) := dk180 (k := 6) bX12_topCell_0 rfl rfl
theorem dX12_topCell_9 : decode cX12_topCell 9 = .ok (.iconst 0, 1) := dk3 (k := 9) bX12_topCell_0 rfl
theorem dX12_topCell_10 : decode cX12_topCell 10 = .ok (.iaload, 1) := dk46 (k := 10) bX12_topCell_0 rfl
theorem dX12_topCell_11 : decode cX12_topCell 11 = .ok (.if_icmp .ge 51, 3) := dk162 (k := 11) bX12_topCell_0 rfl (by decide)
theorem dX12_topCell_14 : decode cX12_topCell 14 = .ok (.aload_n 0, 1) := dk42 (k := 14) bX12_topCell_0 rfl
theorem dX12_topCell_15 : decode cX12_topCell 15 = .ok (.getfield 34, 3) := dk180 (k := 15) bX12_topCell_0 rfl rfl
theorem dX12_topCell_18 : decode cX12_topCell 18 = .ok (.iload_n 2, 1) := dk28 (k := 18) bX12_topCell_0 rfl
theorem dX12_topCell_19 : decode cX12_topCell 19 = .ok (.iaload, 1) := dk46 (k := 19) bX12_topCell_0 rfl
theorem dX12_topCell_20 : decode cX12_topCell 20 = .ok (.aload_n 0, 1) := dk42 (k := 20) bX12_topCell_0 rfl
theorem dX12_topCell_21 : decode cX12_topCell 21 = .ok (.getfield 34, 3) := dk180 (k := 21) bX12_topCell_0 rfl rfl
theorem bX12_topCell_24 : bL cX12_topCell 24 [27, 46, 163, 0, 28, 42, 180, 0, 34, 28, 46, 42, 180, 0, 34, 27, 46, 160, 0, 15, 42, 180, 0, 9] := bL_of (by decide +kernel)
theorem dX12_topCell_24 : decode cX12_topCell 24 = .ok (.iload_n 1, 1) := dk27 (k := 0) bX12_topCell_24 rfl
theorem dX12_topCell_25 : decode cX12_topCell 25 = .ok (.iaload, 1) := dk46 (k := 1) bX12_topCell_24 rfl
theorem dX12_topCell_26 : decode cX12_topCell 26 = .ok (.if_icmp .gt 28, 3) := dk163 (k := 2) bX12_topCell_24 rfl (by decide)
theorem dX12_topCell_29 : decode cX12_topCell 29 = .ok (.aload_n 0, 1) := dk42 (k := 5) bX12_topCell_24 rfl
theorem dX12_topCell_30 : decode cX12_topCell 30 = .ok (.getfield 34, 3) := dk180 (k := 6) bX12_topCell_24 rfl rfl
theorem dX12_topCell_33 : decode cX12_topCell 33 = .ok (.iload_n 2, 1) := dk28 (k := 9) bX12_topCell_24 rfl
theorem dX12_topCell_34 : decode cX12_topCell 34 = .ok (.iaload, 1) := dk46 (k := 10) bX12_topCell_24 rfl
theorem dX12_topCell_35 : decode cX12_topCell 35 = .ok (.aload_n 0, 1) := dk42 (k := 11) bX12_topCell_24 rfl
theorem dX12_topCell_36 : decode cX12_topCell 36 = .ok (.getfield 34, 3) := dk180 (k := 12) bX12_topCell_24 rfl rfl
theorem dX12_topCell_39 : decode cX12_topCell 39 = .ok (.iload_n 1, 1) := dk27 (k := 15) bX12_topCell_24 rfl
theorem dX12_topCell_40 : decode cX12_topCell 40 = .ok (.iaload, 1) := dk46 (k := 16) bX12_topCell_24 rfl
theorem dX12_topCell_41 : decode cX12_topCell 41 = .ok (.if_icmp .ne 15, 3) := dk160 (k := 17) bX12_topCell_24 rfl (by decide)
theorem dX12_topCell_44 : decode cX12_topCell 44 = .ok (.aload_n 0, 1) := dk42 (k := 20) bX12_topCell_24 rfl
theorem dX12_topCell_45 : decode cX12_topCell 45 = .ok (.getfield 9, 3) := dk180 (k := 21) bX12_topCell_24 rfl rfl
theorem bX12_topCell_48 : bL cX12_topCell 48 [7, 46, 4, 160, 0, 5, 28, 60, 132, 2, 1, 167, 255, 201, 27, 172] := bL_of (by decide +kernel)
theorem dX12_topCell_48 : decode cX12_topCell 48 = .ok (.iconst 4, 1) := dk7 (k := 0) bX12_topCell_48 rfl
theorem dX12_topCell_49 : decode cX12_topCell 49 = .ok (.iaload, 1) := dk46 (k := 1) bX12_topCell_48 rfl
theorem dX12_topCell_50 : decode cX12_topCell 50 = .ok (.iconst 1, 1) := dk4 (k := 2) bX12_topCell_48 rfl
theorem dX12_topCell_51 : decode cX12_topCell 51 = .ok (.if_icmp .ne 5, 3) := dk160 (k := 3) bX12_topCell_48 rfl (by decide)
theorem dX12_topCell_54 : decode cX12_topCell 54 = .ok (.iload_n 2, 1) := dk28 (k := 6) bX12_topCell_48 rfl
theorem dX12_topCell_55 : decode cX12_topCell 55 = .ok (.istore_n 1, 1) := dk60 (k := 7) bX12_topCell_48 rfl
theorem dX12_topCell_56 : decode cX12_topCell 56 = .ok (.iinc 2 1, 3) := dk132 (k := 8) bX12_topCell_48 rfl rfl (by decide)
theorem dX12_topCell_59 : decode cX12_topCell 59 = .ok (.goto (-55), 3) := dk167 (k := 11) bX12_topCell_48 rfl (by decide)
theorem dX12_topCell_62 : decode cX12_topCell 62 = .ok (.iload_n 1, 1) := dk27 (k := 14) bX12_topCell_48 rfl
theorem dX12_topCell_63 : decode cX12_topCell 63 = .ok (.ireturn, 1) := dk172 (k := 15) bX12_topCell_48 rfl
theorem bX12_take0_0 : bL cX12_take0 0 [42, 182, 0, 200, 60, 42, 180, 0, 34, 27, 46, 154, 0, 5, 3, 172, 42, 180, 0, 34, 27, 92, 46, 4] := bL_of (by decide +kernel)
theorem dX12_take0_0 : decode cX12_take0 0 = .ok (.aload_n 0, 1) := dk42 (k := 0) bX12_take0_0 rfl
theorem dX12_take0_1 : decode cX12_take0 1 = .ok (.invokevirtual 200, 3) := dk182 (k := 1) bX12_take0_0 rfl rfl
theorem dX12_take0_4 : decode cX12_take0 4 = .ok (.istore_n 1, 1) := dk60 (k := 4) bX12_take0_0 rfl
theorem dX12_take0_5 : decode cX12_take0 5 = .ok (.aload_n 0, 1) := dk42 (k := 5) bX12_take0_0 rfl
theorem dX12_take0_6 : decode cX12_take0 6 = .ok (.getfield 34, 3) := dk180 (k := 6) bX12_take0_0 rfl rfl
theorem dX12_take0_9 : decode cX12_take0 9 = .ok (.iload_n 1, 1) := dk27 (k := 9) bX12_take0_0 rfl
theorem dX12_take0_10 : decode cX12_take0 10 = .ok (.iaload, 1) := dk46 (k := 10) bX12_take0_0 rfl
theorem dX12_take0_11 : decode cX12_take0 11 = .ok (.ifCond .ne 5, 3) := dk154 (k := 11) bX12_take0_0 rfl (by decide)
theorem dX12_take0_14 : decode cX12_take0 14 = .ok (.iconst 0, 1) := dk3 (k := 14) bX12_take0_0 rfl
theorem dX12_take0_15 : decode cX12_take0 15 = .ok (.ireturn, 1) := dk172 (k := 15) bX12_take0_0 rfl
theorem dX12_take0_16 : decode cX12_take0 16 = .ok (.aload_n 0, 1) := dk42 (k := 16) bX12_take0_0 rfl
theorem dX12_take0_17 : decode cX12_take0 17 = .ok (.getfield 34, 3) := dk180 (k := 17) bX12_take0_0 rfl rfl
theorem dX12_take0_20 : decode cX12_take0 20 = .ok (.iload_n 1, 1) := dk27 (k := 20) bX12_take0_0 rfl
theorem dX12_take0_21 : decode cX12_take0 21 = .ok (.dup2, 1) := dk92 (k := 21) bX12_take0_0 rfl
theorem dX12_take0_22 : decode cX12_take0 22 = .ok (.iaload, 1) := dk46 (k := 22) bX12_take0_0 rfl
theorem dX12_take0_23 : decode cX12_take0 23 = .ok (.iconst 1, 1) := dk4 (k := 23) bX12_take0_0 rfl
theorem bX12_take0_24 : bL cX12_take0 24 [100, 79, 4, 172] := bL_of (by decide +kernel)
theorem dX12_take0_24 : decode cX12_take0 24 = .ok (.isub, 1) := dk100 (k := 0) bX12_take0_24 rfl
theorem dX12_take0_25 : decode cX12_take0 25 = .ok (.iastore, 1) := dk79 (k := 1) bX12_take0_24 rfl
theorem dX12_take0_26 : decode cX12_take0 26 = .ok (.iconst 1, 1) := dk4 (k := 2) bX12_take0_24 rfl
theorem dX12_take0_27 : decode cX12_take0 27 = .ok (.ireturn, 1) := dk172 (k := 3) bX12_take0_24 rfl
theorem bX12_falls_0 : bL cX12_falls 0 [42, 28, 133, 182, 0, 203, 153, 0, 31, 42, 180, 0, 34, 27, 46, 4, 96, 42, 180, 0, 34, 28, 46, 100] := bL_of (by decide +kernel)
theorem dX12_falls_0 : decode cX12_falls 0 = .ok (.aload_n 0, 1) := dk42 (k := 0) bX12_falls_0 rfl
theorem dX12_falls_1 : decode cX12_falls 1 = .ok (.iload_n 2, 1) := dk28 (k := 1) bX12_falls_0 rfl
theorem dX12_falls_2 : decode cX12_falls 2 = .ok (.i2l, 1) := dk133 (k := 2) bX12_falls_0 rfl
theorem dX12_falls_3 : decode cX12_falls 3 = .ok (.invokevirtual 203, 3) := dk182 (k := 3) bX12_falls_0 rfl rfl
theorem dX12_falls_6 : decode cX12_falls 6 = .ok (.ifCond .eq 31, 3) := dk153 (k := 6) bX12_falls_0 rfl (by decide)
theorem dX12_falls_9 : decode cX12_falls 9 = .ok (.aload_n 0, 1) := dk42 (k := 9) bX12_falls_0 rfl
theorem dX12_falls_10 : decode cX12_falls 10 = .ok (.getfield 34, 3) := dk180 (k := 10) bX12_falls_0 rfl rfl
theorem dX12_falls_13 : decode cX12_falls 13 = .ok (.iload_n 1, 1) := dk27 (k := 13) bX12_falls_0 rfl
theorem dX12_falls_14 : decode cX12_falls 14 = .ok (.iaload, 1) := dk46 (k := 14) bX12_falls_0 rfl
theorem dX12_falls_15 : decode cX12_falls 15 = .ok (.iconst 1, 1) := dk4 (k := 15) bX12_falls_0 rfl
theorem dX12_falls_16 : decode cX12_falls 16 = .ok (.iadd, 1) := dk96 (k := 16) bX12_falls_0 rfl
theorem dX12_falls_17 : decode cX12_falls 17 = .ok (.aload_n 0, 1) := dk42 (k := 17) bX12_falls_0 rfl
theorem dX12_falls_18 : decode cX12_falls 18 = .ok (.getfield 34, 3) := dk180 (k := 18) bX12_falls_0 rfl rfl
theorem dX12_falls_21 : decode cX12_falls 21 = .ok (.iload_n 2, 1) := dk28 (k := 21) bX12_falls_0 rfl
theorem dX12_falls_22 : decode cX12_falls 22 = .ok (.iaload, 1) := dk46 (k := 22) bX12_falls_0 rfl
theorem dX12_falls_23 : decode cX12_falls 23 = .ok (.isub, 1) := dk100 (k := 23) bX12_falls_0 rfl
theorem bX12_falls_24 : bL cX12_falls 24 [42, 180, 0, 9, 5, 46, 164, 0, 7, 4, 167, 0, 4, 3, 172] := bL_of (by decide +kernel)
theorem dX12_falls_24 : decode cX12_falls 24 = .ok (.aload_n 0, 1) := dk42 (k := 0) bX12_falls_24 rfl
theorem dX12_falls_25 : decode cX12_falls 25 = .ok (.getfield 9, 3) := dk180 (k := 1) bX12_falls_24 rfl rfl
theorem dX12_falls_28 : decode cX12_falls 28 = .ok (.iconst 2, 1) := dk5 (k := 4) bX12_falls_24 rfl
theorem dX12_falls_29 : decode cX12_falls 29 = .ok (.iaload, 1) := dk46 (k := 5) bX12_falls_24 rfl
theorem dX12_falls_30 : decode cX12_falls 30 = .ok (.if_icmp .le 7, 3) := dk164 (k := 6) bX12_falls_24 rfl (by decide)
theorem dX12_falls_33 : decode cX12_falls 33 = .ok (.iconst 1, 1) := dk4 (k := 9) bX12_falls_24 rfl
theorem dX12_falls_34 : decode cX12_falls 34 = .ok (.goto 4, 3) := dk167 (k := 10) bX12_falls_24 rfl (by decide)
theorem dX12_falls_37 : decode cX12_falls 37 = .ok (.iconst 0, 1) := dk3 (k := 13) bX12_falls_24 rfl
theorem dX12_falls_38 : decode cX12_falls 38 = .ok (.ireturn, 1) := dk172 (k := 14) bX12_falls_24 rfl
theorem bX12_slideOf_0 : bL cX12_slideOf 0 [27, 61, 42, 28, 28, 4, 100, 182, 0, 207, 154, 0, 14, 42, 28, 28, 4, 96, 182, 0, 207, 153, 0, 67] := bL_of (by decide +kernel)
theorem dX12_slideOf_0 : decode cX12_slideOf 0 = .ok (.iload_n 1, 1) := dk27 (k := 0) bX12_slideOf_0 rfl
theorem dX12_slideOf_1 : decode cX12_slideOf 1 = .ok (.istore_n 2, 1) := dk61 (k := 1) bX12_slideOf_0 rfl
theorem dX12_slideOf_2 : decode cX12_slideOf 2 = .ok (.aload_n 0, 1) := dk42 (k := 2) bX12_slideOf_0 rfl
theorem dX12_slideOf_3 : decode cX12_slideOf 3 = .ok (.iload_n 2, 1) := dk28 (k := 3) bX12_slideOf_0 rfl
theorem dX12_slideOf_4 : decode cX12_slideOf 4 = .ok (.iload_n 2, 1) := dk28 (k := 4) bX12_slideOf_0 rfl
theorem dX12_slideOf_5 : decode cX12_slideOf 5 = .ok (.iconst 1, 1) := dk4 (k := 5) bX12_slideOf_0 rfl
theorem dX12_slideOf_6 : decode cX12_slideOf 6 = .ok (.isub, 1) := dk100 (k := 6) bX12_slideOf_0 rfl
theorem dX12_slideOf_7 : decode cX12_slideOf 7 = .ok (.invokevirtual 207, 3) := dk182 (k := 7) bX12_slideOf_0 rfl rfl
theorem dX12_slideOf_10 : decode cX12_slideOf 10 = .ok (.ifCond .ne 14, 3) := dk154 (k := 10) bX12_slideOf_0 rfl (by decide)
theorem dX12_slideOf_13 : decode cX12_slideOf 13 = .ok (.aload_n 0, 1) := dk42 (k := 13) bX12_slideOf_0 rfl
theorem dX12_slideOf_14 : decode cX12_slideOf 14 = .ok (.iload_n 2, 1) := dk28 (k := 14) bX12_slideOf_0 rfl
theorem dX12_slideOf_15 : decode cX12_slideOf 15 = .ok (.iload_n 2, 1) := dk28 (k := 15) bX12_slideOf_0 rfl
theorem dX12_slideOf_16 : decode cX12_slideOf 16 = .ok (.iconst 1, 1) := dk4 (k := 16) bX12_slideOf_0 rfl
theorem dX12_slideOf_17 : decode cX12_slideOf 17 = .ok (.iadd, 1) := dk96 (k := 17) bX12_slideOf_0 rfl
theorem dX12_slideOf_18 : decode cX12_slideOf 18 = .ok (.invokevirtual 207, 3) := dk182 (k := 18) bX12_slideOf_0 rfl rfl
theorem dX12_slideOf_21 : decode cX12_slideOf 21 = .ok (.ifCond .eq 67, 3) := dk153 (k := 21) bX12_slideOf_0 rfl (by decide)
theorem bX12_slideOf_24 : bL cX12_slideOf 24 [42, 28, 28, 4, 100, 182, 0, 207, 153, 0, 37, 42, 28, 28, 4, 96, 182, 0, 207, 153, 0, 22, 42, 180, 0, 34] := bL_of (by decide +kernel)
theorem dX12_slideOf_24 : decode cX12_slideOf 24 = .ok (.aload_n 0, 1) := dk42 (k := 0) bX12_slideOf_24 rfl
theorem dX12_slideOf_25 : decode cX12_slideOf 25 = .ok (.iload_n 2, 1) := dk28 (k := 1) bX12_slideOf_24 rfl
theorem dX12_slideOf_26 : decode cX12_slideOf 26 = .ok (.iload_n 2, 1) := dk28 (k := 2) bX12_slideOf_24 rfl
theorem dX12_slideOf_27 : decode cX12_slideOf 27 = .ok (.iconst 1, 1) := dk4 (k := 3) bX12_slideOf_24 rfl
theorem dX12_slideOf_28 : decode cX12_slideOf 28 = .ok (.isub, 1) := dk100 (k := 4) bX12_slideOf_24 rfl
theorem dX12_slideOf_29 : decode cX12_slideOf 29 = .ok (.invokevirtual 207, 3) := dk182 (k := 5) bX12_slideOf_24 rfl rfl
theorem dX12_slideOf_32 : decode cX12_slideOf 32 = .ok (.ifCond .eq 37, 3) := dk153 (k := 8) bX12_slideOf_24 rfl (by decide)
theorem dX12_slideOf_35 : decode cX12_slideOf 35 = .ok (.aload_n 0, 1) := dk42 (k := 11) bX12_slideOf_24 rfl
theorem dX12_slideOf_36 : decode cX12_slideOf 36 = .ok (.iload_n 2, 1) := dk28 (k := 12) bX12_slideOf_24 rfl
theorem dX12_slideOf_37 : decode cX12_slideOf 37 = .ok (.iload_n 2, 1) := dk28 (k := 13) bX12_slideOf_24 rfl
theorem dX12_slideOf_38 : decode cX12_slideOf 38 = .ok (.iconst 1, 1) := dk4 (k := 14) bX12_slideOf_24 rfl
theorem dX12_slideOf_39 : decode cX12_slideOf 39 = .ok (.iadd, 1) := dk96 (k := 15) bX12_slideOf_24 rfl
theorem dX12_slideOf_40 : decode cX12_slideOf 40 = .ok (.invokevirtual 207, 3) := dk182 (k := 16) bX12_slideOf_24 rfl rfl
theorem dX12_slideOf_43 : decode cX12_slideOf 43 = .ok (.ifCond .eq 22, 3) := dk153 (k := 19) bX12_slideOf_24 rfl (by decide)
theorem dX12_slideOf_46 : decode cX12_slideOf 46 = .ok (.aload_n 0, 1) := dk42 (k := 22) bX12_slideOf_24 rfl
theorem dX12_slideOf_47 : decode cX12_slideOf 47 = .ok (.getfield 34, 3) := dk180 (k := 23) bX12_slideOf_24 rfl rfl
theorem bX12_slideOf_50 : bL cX12_slideOf 50 [28, 4, 100, 46, 42, 180, 0, 34, 28, 4, 96, 46, 163, 0, 7, 4, 167, 0, 4, 3, 62, 29, 153, 0, 9] := bL_of (by decide +kernel)
theorem dX12_slideOf_50 : decode cX12_slideOf 50 = .ok (.iload_n 2, 1) := dk28 (k := 0) bX12_slideOf_50 rfl
theorem dX12_slideOf_51 : decode cX12_slideOf 51 = .ok (.iconst 1, 1) := dk4 (k := 1) bX12_slideOf_50 rfl
theorem dX12_slideOf_52 : decode cX12_slideOf 52 = .ok (.isub, 1) := dk100 (k := 2) bX12_slideOf_50 rfl
theorem dX12_slideOf_53 : decode cX12_slideOf 53 = .ok (.iaload, 1) := dk46 (k := 3) bX12_slideOf_50 rfl
theorem dX12_slideOf_54 : decode cX12_slideOf 54 = .ok (.aload_n 0, 1) := dk42 (k := 4) bX12_slideOf_50 rfl
theorem dX12_slideOf_55 : decode cX12_slideOf 55 = .ok (.getfield 34, 3) := dk180 (k := 5) bX12_slideOf_50 rfl rfl
theorem dX12_slideOf_58 : decode cX12_slideOf 58 = .ok (.iload_n 2, 1) := dk28 (k := 8) bX12_slideOf_50 rfl
theorem dX12_slideOf_59 : decode cX12_slideOf 59 = .ok (.iconst 1, 1) := dk4 (k := 9) bX12_slideOf_50 rfl
theorem dX12_slideOf_60 : decode cX12_slideOf 60 = .ok (.iadd, 1) := dk96 (k := 10) bX12_slideOf_50 rfl
theorem dX12_slideOf_61 : decode cX12_slideOf 61 = .ok (.iaload, 1) := dk46 (k := 11) bX12_slideOf_50 rfl
theorem dX12_slideOf_62 : decode cX12_slideOf 62 = .ok (.if_icmp .gt 7, 3) := dk163 (k := 12) bX12_slideOf_50 rfl (by decide)
theorem dX12_slideOf_65 : decode cX12_slideOf 65 = .ok (.iconst 1, 1) := dk4 (k := 15) bX12_slideOf_50 rfl
theorem dX12_slideOf_66 : decode cX12_slideOf 66 = .ok (.goto 4, 3) := dk167 (k := 16) bX12_slideOf_50 rfl (by decide)
theorem dX12_slideOf_69 : decode cX12_slideOf 69 = .ok (.iconst 0, 1) := dk3 (k := 19) bX12_slideOf_50 rfl
theorem dX12_slideOf_70 : decode cX12_slideOf 70 = .ok (.istore_n 3, 1) := dk62 (k := 20) bX12_slideOf_50 rfl
theorem dX12_slideOf_71 : decode cX12_slideOf 71 = .ok (.iload_n 3, 1) := dk29 (k := 21) bX12_slideOf_50 rfl
theorem dX12_slideOf_72 : decode cX12_slideOf 72 = .ok (.ifCond .eq 9, 3) := dk153 (k := 22) bX12_slideOf_50 rfl (by decide)
theorem bX12_slideOf_75 : bL cX12_slideOf 75 [28, 4, 100, 167, 0, 6, 28, 4, 96, 61, 167, 255, 173, 42, 180, 0, 34, 28, 46, 16, 99, 160, 0, 7] := bL_of (by decide +kernel)
theorem dX12_slideOf_75 : decode cX12_slideOf 75 = .ok (.iload_n 2, 1) := dk28 (k := 0) bX12_slideOf_75 rfl
theorem dX12_slideOf_76 : decode cX12_slideOf 76 = .ok (.iconst 1, 1) := dk4 (k := 1) bX12_slideOf_75 rfl
theorem dX12_slideOf_77 : decode cX12_slideOf 77 = .ok (.isub, 1) := dk100 (k := 2) bX12_slideOf_75 rfl
theorem dX12_slideOf_78 : decode cX12_slideOf 78 = .ok (.goto 6, 3) := dk167 (k := 3) bX12_slideOf_75 rfl (by decide)
theorem dX12_slideOf_81 : decode cX12_slideOf 81 = .ok (.iload_n 2, 1) := dk28 (k := 6) bX12_slideOf_75 rfl
theorem dX12_slideOf_82 : decode cX12_slideOf 82 = .ok (.iconst 1, 1) := dk4 (k := 7) bX12_slideOf_75 rfl
theorem dX12_slideOf_83 : decode cX12_slideOf 83 = .ok (.iadd, 1) := dk96 (k := 8) bX12_slideOf_75 rfl
theorem dX12_slideOf_84 : decode cX12_slideOf 84 = .ok (.istore_n 2, 1) := dk61 (k := 9) bX12_slideOf_75 rfl
theorem dX12_slideOf_85 : decode cX12_slideOf 85 = .ok (.goto (-83), 3) := dk167 (k := 10) bX12_slideOf_75 rfl (by decide)
theorem dX12_slideOf_88 : decode cX12_slideOf 88 = .ok (.aload_n 0, 1) := dk42 (k := 13) bX12_slideOf_75 rfl
theorem dX12_slideOf_89 : decode cX12_slideOf 89 = .ok (.getfield 34, 3) := dk180 (k := 14) bX12_slideOf_75 rfl rfl
theorem dX12_slideOf_92 : decode cX12_slideOf 92 = .ok (.iload_n 2, 1) := dk28 (k := 17) bX12_slideOf_75 rfl
theorem dX12_slideOf_93 : decode cX12_slideOf 93 = .ok (.iaload, 1) := dk46 (k := 18) bX12_slideOf_75 rfl
theorem dX12_slideOf_94 : decode cX12_slideOf 94 = .ok (.bipush 99, 2) := dk16 (k := 19) bX12_slideOf_75 rfl (by decide)
theorem dX12_slideOf_96 : decode cX12_slideOf 96 = .ok (.if_icmp .ne 7, 3) := dk160 (k := 21) bX12_slideOf_75 rfl (by decide)
theorem bX12_slideOf_99 : bL cX12_slideOf 99 [2, 167, 0, 4, 28, 172] := bL_of (by decide +kernel)
theorem dX12_slideOf_99 : decode cX12_slideOf 99 = .ok (.iconst (-1), 1) := dk2 (k := 0) bX12_slideOf_99 rfl
theorem dX12_slideOf_100 : decode cX12_slideOf 100 = .ok (.goto 4, 3) := dk167 (k := 1) bX12_slideOf_99 rfl (by decide)
theorem dX12_slideOf_103 : decode cX12_slideOf 103 = .ok (.iload_n 2, 1) := dk28 (k := 4) bX12_slideOf_99 rfl
theorem dX12_slideOf_104 : decode cX12_slideOf 104 = .ok (.ireturn, 1) := dk172 (k := 5) bX12_slideOf_99 rfl
theorem bX12_heap0_0 : bL cX12_heap0 0 [42, 27, 182, 0, 211, 61, 28, 2, 159, 0, 13, 42, 180, 0, 34, 28, 92, 46, 4, 96, 79, 28, 172] := bL_of (by decide +kernel)
theorem dX12_heap0_0 : decode cX12_heap0 0 = .ok (.aload_n 0, 1) := dk42 (k := 0) bX12_heap0_0 rfl
theorem dX12_heap0_1 : decode cX12_heap0 1 = .ok (.iload_n 1, 1) := dk27 (k := 1) bX12_heap0_0 rfl
theorem dX12_heap0_2 : decode cX12_heap0 2 = .ok (.invokevirtual 211, 3) := dk182 (k := 2) bX12_heap0_0 rfl rfl
theorem dX12_heap0_5 : decode cX12_heap0 5 = .ok (.istore_n 2, 1) := dk61 (k := 5) bX12_heap0_0 rfl
theorem dX12_heap0_6 : decode cX12_heap0 6 = .ok (.iload_n 2, 1) := dk28 (k := 6) bX12_heap0_0 rfl
theorem dX12_heap0_7 : decode cX12_heap0 7 = .ok (.iconst (-1), 1) := dk2 (k := 7) bX12_heap0_0 rfl
theorem dX12_heap0_8 : decode cX12_heap0 8 = .ok (.if_icmp .eq 13, 3) := dk159 (k := 8) bX12_heap0_0 rfl (by decide)
theorem dX12_heap0_11 : decode cX12_heap0 11 = .ok (.aload_n 0, 1) := dk42 (k := 11) bX12_heap0_0 rfl
theorem dX12_heap0_12 : decode cX12_heap0 12 = .ok (.getfield 34, 3) := dk180 (k := 12) bX12_heap0_0 rfl rfl
theorem dX12_heap0_15 : decode cX12_heap0 15 = .ok (.iload_n 2, 1) := dk28 (k := 15) bX12_heap0_0 rfl
theorem dX12_heap0_16 : decode cX12_heap0 16 = .ok (.dup2, 1) := dk92 (k := 16) bX12_heap0_0 rfl
theorem dX12_heap0_17 : decode cX12_heap0 17 = .ok (.iaload, 1) := dk46 (k := 17) bX12_heap0_0 rfl
theorem dX12_heap0_18 : decode cX12_heap0 18 = .ok (.iconst 1, 1) := dk4 (k := 18) bX12_heap0_0 rfl
theorem dX12_heap0_19 : decode cX12_heap0 19 = .ok (.iadd, 1) := dk96 (k := 19) bX12_heap0_0 rfl
theorem dX12_heap0_20 : decode cX12_heap0 20 = .ok (.iastore, 1) := dk79 (k := 20) bX12_heap0_0 rfl
theorem dX12_heap0_21 : decode cX12_heap0 21 = .ok (.iload_n 2, 1) := dk28 (k := 21) bX12_heap0_0 rfl
theorem dX12_heap0_22 : decode cX12_heap0 22 = .ok (.ireturn, 1) := dk172 (k := 22) bX12_heap0_0 rfl
theorem bX12_isDark_0 : bL cX12_isDark 0 [28, 158, 0, 7, 2, 167, 0, 4, 4, 62, 28, 184, 0, 214, 54, 4, 27, 29, 96, 54, 5, 4, 54, 6] := bL_of (by decide +kernel)
theorem dX12_isDark_0 : decode cX12_isDark 0 = .ok (.iload_n 2, 1) := dk28 (k := 0) bX12_isDark_0 rfl
theorem dX12_isDark_1 : decode cX12_isDark 1 = .ok (.ifCond .le 7, 3) := dk158 (k := 1) bX12_isDark_0 rfl (by decide)
theorem dX12_isDark_4 : decode cX12_isDark 4 = .ok (.iconst (-1), 1) := dk2 (k := 4) bX12_isDark_0 rfl
theorem dX12_isDark_5 : decode cX12_isDark 5 = .ok (.goto 4, 3) := dk167 (k := 5) bX12_isDark_0 rfl (by decide)
theorem dX12_isDark_8 : decode cX12_isDark 8 = .ok (.iconst 1, 1) := dk4 (k := 8) bX12_isDark_0 rfl
theorem dX12_isDark_9 : decode cX12_isDark 9 = .ok (.istore_n 3, 1) := dk62 (k := 9) bX12_isDark_0 rfl
theorem dX12_isDark_10 : decode cX12_isDark 10 = .ok (.iload_n 2, 1) := dk28 (k := 10) bX12_isDark_0 rfl
theorem dX12_isDark_11 : decode cX12_isDark 11 = .ok (.invokestatic 214, 3) := dk184 (k := 11) bX12_isDark_0 rfl rfl
theorem dX12_isDark_14 : decode cX12_isDark 14 = .ok (.istore 4, 2) := dk54 (k := 14) bX12_isDark_0 rfl rfl
theorem dX12_isDark_16 : decode cX12_isDark 16 = .ok (.iload_n 1, 1) := dk27 (k := 16) bX12_isDark_0 rfl
theorem dX12_isDark_17 : decode cX12_isDark 17 = .ok (.iload_n 3, 1) := dk29 (k := 17) bX12_isDark_0 rfl
theorem dX12_isDark_18 : decode cX12_isDark 18 = .ok (.iadd, 1) := dk96 (k := 18) bX12_isDark_0 rfl
theorem dX12_isDark_19 : decode cX12_isDark 19 = .ok (.istore 5, 2) := dk54 (k := 19) bX12_isDark_0 rfl rfl
theorem dX12_isDark_21 : decode cX12_isDark 21 = .ok (.iconst 1, 1) := dk4 (k := 21) bX12_isDark_0 rfl
theorem dX12_isDark_22 : decode cX12_isDark 22 = .ok (.istore 6, 2) := dk54 (k := 22) bX12_isDark_0 rfl rfl
theorem bX12_isDark_24 : bL cX12_isDark 24 [42, 21, 5, 133, 182, 0, 203, 153, 0, 39, 42, 180, 0, 34, 21, 5, 46, 42, 180, 0, 34, 27, 46, 100] := bL_of (by decide +kernel)
theorem dX12_isDark_24 : decode cX12_isDark 24 = .ok (.aload_n 0, 1) := dk42 (k := 0) bX12_isDark_24 rfl
theorem dX12_isDark_25 : decode cX12_isDark 25 = .ok (.iload 5, 2) := dk21 (k := 1) bX12_isDark_24 rfl rfl
theorem dX12_isDark_27 : decode cX12_isDark 27 = .ok (.i2l, 1) := dk133 (k := 3) bX12_isDark_24 rfl
theorem dX12_isDark_28 : decode cX12_isDark 28 = .ok (.invokevirtual 203, 3) := dk182 (k := 4) bX12_isDark_24 rfl rfl
theorem dX12_isDark_31 : decode cX12_isDark 31 = .ok (.ifCond .eq 39, 3) := dk153 (k := 7) bX12_isDark_24 rfl (by decide)
theorem dX12_isDark_34 : decode cX12_isDark 34 = .ok (.aload_n 0, 1) := dk42 (k := 10) bX12_isDark_24 rfl
theorem dX12_isDark_35 : decode cX12_isDark 35 = .ok (.getfield 34, 3) := dk180 (k := 11) bX12_isDark_24 rfl rfl
theorem dX12_isDark_38 : decode cX12_isDark 38 = .ok (.iload 5, 2) := dk21 (k := 14) bX12_isDark_24 rfl rfl
theorem dX12_isDark_40 : decode cX12_isDark 40 = .ok (.iaload, 1) := dk46 (k := 16) bX12_isDark_24 rfl
theorem dX12_isDark_41 : decode cX12_isDark 41 = .ok (.aload_n 0, 1) := dk42 (k := 17) bX12_isDark_24 rfl
theorem dX12_isDark_42 : decode cX12_isDark 42 = .ok (.getfield 34, 3) := dk180 (k := 18) bX12_isDark_24 rfl rfl
theorem dX12_isDark_45 : decode cX12_isDark 45 = .ok (.iload_n 1, 1) := dk27 (k := 21) bX12_isDark_24 rfl
theorem dX12_isDark_46 : decode cX12_isDark 46 = .ok (.iaload, 1) := dk46 (k := 22) bX12_isDark_24 rfl
theorem dX12_isDark_47 : decode cX12_isDark 47 = .ok (.isub, 1) := dk100 (k := 23) bX12_isDark_24 rfl
theorem bX12_isDark_48 : bL cX12_isDark 48 [21, 4, 21, 6, 104, 164, 0, 5, 4, 172, 21, 5, 29, 96, 54, 5, 132, 6, 1, 167, 255, 213, 3, 172] := bL_of (by decide +kernel)
theorem dX12_isDark_48 : decode cX12_isDark 48 = .ok (.iload 4, 2) := dk21 (k := 0) bX12_isDark_48 rfl rfl
theorem dX12_isDark_50 : decode cX12_isDark 50 = .ok (.iload 6, 2) := dk21 (k := 2) bX12_isDark_48 rfl rfl
theorem dX12_isDark_52 : decode cX12_isDark 52 = .ok (.imul, 1) := dk104 (k := 4) bX12_isDark_48 rfl
theorem dX12_isDark_53 : decode cX12_isDark 53 = .ok (.if_icmp .le 5, 3) := dk164 (k := 5) bX12_isDark_48 rfl (by decide)
theorem dX12_isDark_56 : decode cX12_isDark 56 = .ok (.iconst 1, 1) := dk4 (k := 8) bX12_isDark_48 rfl
theorem dX12_isDark_57 : decode cX12_isDark 57 = .ok (.ireturn, 1) := dk172 (k := 9) bX12_isDark_48 rfl
theorem dX12_isDark_58 : decode cX12_isDark 58 = .ok (.iload 5, 2) := dk21 (k := 10) bX12_isDark_48 rfl rfl
theorem dX12_isDark_60 : decode cX12_isDark 60 = .ok (.iload_n 3, 1) := dk29 (k := 12) bX12_isDark_48 rfl
theorem dX12_isDark_61 : decode cX12_isDark 61 = .ok (.iadd, 1) := dk96 (k := 13) bX12_isDark_48 rfl
theorem dX12_isDark_62 : decode cX12_isDark 62 = .ok (.istore 5, 2) := dk54 (k := 14) bX12_isDark_48 rfl rfl
theorem dX12_isDark_64 : decode cX12_isDark 64 = .ok (.iinc 6 1, 3) := dk132 (k := 16) bX12_isDark_48 rfl rfl (by decide)
theorem dX12_isDark_67 : decode cX12_isDark 67 = .ok (.goto (-43), 3) := dk167 (k := 19) bX12_isDark_48 rfl (by decide)
theorem dX12_isDark_70 : decode cX12_isDark 70 = .ok (.iconst 0, 1) := dk3 (k := 22) bX12_isDark_48 rfl
theorem dX12_isDark_71 : decode cX12_isDark 71 = .ok (.ireturn, 1) := dk172 (k := 23) bX12_isDark_48 rfl
theorem bX12_lightOf_0 : bL cX12_lightOf 0 [3, 61, 16, 247, 62, 29, 16, 9, 163, 0, 30, 28, 29, 153, 0, 16, 42, 27, 29, 182, 0, 217, 154, 0, 7] := bL_of (by decide +kernel)
theorem dX12_lightOf_0 : decode cX12_lightOf 0 = .ok (.iconst 0, 1) := dk3 (k := 0) bX12_lightOf_0 rfl
theorem dX12_lightOf_1 : decode cX12_lightOf 1 = .ok (.istore_n 2, 1) := dk61 (k := 1) bX12_lightOf_0 rfl
theorem dX12_lightOf_2 : decode cX12_lightOf 2 = .ok (.bipush (-9), 2) := dk16 (k := 2) bX12_lightOf_0 rfl (by decide)
theorem dX12_lightOf_4 : decode cX12_lightOf 4 = .ok (.istore_n 3, 1) := dk62 (k := 4) bX12_lightOf_0 rfl
theorem dX12_lightOf_5 : decode cX12_lightOf 5 = .ok (.iload_n 3, 1) := dk29 (k := 5) bX12_lightOf_0 rfl
theorem dX12_lightOf_6 : decode cX12_lightOf 6 = .ok (.bipush 9, 2) := dk16 (k := 6) bX12_lightOf_0 rfl (by decide)
theorem dX12_lightOf_8 : decode cX12_lightOf 8 = .ok (.if_icmp .gt 30, 3) := dk163 (k := 8) bX12_lightOf_0 rfl (by decide)
theorem dX12_lightOf_11 : decode cX12_lightOf 11 = .ok (.iload_n 2, 1) := dk28 (k := 11) bX12_lightOf_0 rfl
theorem dX12_lightOf_12 : decode cX12_lightOf 12 = .ok (.iload_n 3, 1) := dk29 (k := 12) bX12_lightOf_0 rfl
theorem dX12_lightOf_13 : decode cX12_lightOf 13 = .ok (.ifCond .eq 16, 3) := dk153 (k := 13) bX12_lightOf_0 rfl (by decide)
theorem dX12_lightOf_16 : decode cX12_lightOf 16 = .ok (.aload_n 0, 1) := dk42 (k := 16) bX12_lightOf_0 rfl
theorem dX12_lightOf_17 : decode cX12_lightOf 17 = .ok (.iload_n 1, 1) := dk27 (k := 17) bX12_lightOf_0 rfl
theorem dX12_lightOf_18 : decode cX12_lightOf 18 = .ok (.iload_n 3, 1) := dk29 (k := 18) bX12_lightOf_0 rfl
theorem dX12_lightOf_19 : decode cX12_lightOf 19 = .ok (.invokevirtual 217, 3) := dk182 (k := 19) bX12_lightOf_0 rfl rfl
theorem dX12_lightOf_22 : decode cX12_lightOf 22 = .ok (.ifCond .ne 7, 3) := dk154 (k := 22) bX12_lightOf_0 rfl (by decide)
theorem bX12_lightOf_25 : bL cX12_lightOf 25 [4, 167, 0, 4, 3, 96, 61, 132, 3, 1, 167, 255, 226, 28, 172] := bL_of (by decide +kernel)
theorem dX12_lightOf_25 : decode cX12_lightOf 25 = .ok (.iconst 1, 1) := dk4 (k := 0) bX12_lightOf_25 rfl
theorem dX12_lightOf_26 : decode cX12_lightOf 26 = .ok (.goto 4, 3) := dk167 (k := 1) bX12_lightOf_25 rfl (by decide)
theorem dX12_lightOf_29 : decode cX12_lightOf 29 = .ok (.iconst 0, 1) := dk3 (k := 4) bX12_lightOf_25 rfl
theorem dX12_lightOf_30 : decode cX12_lightOf 30 = .ok (.iadd, 1) := dk96 (k := 5) bX12_lightOf_25 rfl
theorem dX12_lightOf_31 : decode cX12_lightOf 31 = .ok (.istore_n 2, 1) := dk61 (k := 6) bX12_lightOf_25 rfl
theorem dX12_lightOf_32 : decode cX12_lightOf 32 = .ok (.iinc 3 1, 3) := dk132 (k := 7) bX12_lightOf_25 rfl rfl (by decide)
theorem dX12_lightOf_35 : decode cX12_lightOf 35 = .ok (.goto (-30), 3) := dk167 (k := 10) bX12_lightOf_25 rfl (by decide)
theorem dX12_lightOf_38 : decode cX12_lightOf 38 = .ok (.iload_n 2, 1) := dk28 (k := 13) bX12_lightOf_25 rfl
theorem dX12_lightOf_39 : decode cX12_lightOf 39 = .ok (.ireturn, 1) := dk172 (k := 14) bX12_lightOf_25 rfl
theorem bX12_snowSet_0 : bL cX12_snowSet 0 [3, 60, 3, 61, 28, 42, 180, 0, 9, 3, 46, 162, 0, 34, 27, 42, 180, 0, 34, 28, 46, 42, 180, 0, 9] := bL_of (by decide +kernel)
theorem dX12_snowSet_0 : decode cX12_snowSet 0 = .ok (.iconst 0, 1) := dk3 (k := 0) bX12_snowSet_0 rfl
theorem dX12_snowSet_1 : decode cX12_snowSet 1 = .ok (.istore_n 1, 1) := dk60 (k := 1) bX12_snowSet_0 rfl
theorem dX12_snowSet_2 : decode cX12_snowSet 2 = .ok (.iconst 0, 1) := dk3 (k := 2) bX12_snowSet_0 rfl
theorem dX12_snowSet_3 : decode cX12_snowSet 3 = .ok (.istore_n 2, 1) := dk61 (k := 3) bX12_snowSet_0 rfl
theorem dX12_snowSet_4 : decode cX12_snowSet 4 = .ok (.iload_n 2, 1) := dk28 (k := 4) bX12_snowSet_0 rfl
theorem dX12_snowSet_5 : decode cX12_snowSet 5 = .ok (.aload_n 0, 1) := dk42 (k := 5) bX12_snowSet_0 rfl
theorem dX12_snowSet_6 : decode cX12_snowSet 6 = .ok (.getfield 9, 3) := dk180 (k := 6) bX12_snowSet_0 rfl rfl
theorem dX12_snowSet_9 : decode cX12_snowSet 9 = .ok (.iconst 0, 1) := dk3 (k := 9) bX12_snowSet_0 rfl
theorem dX12_snowSet_10 : decode cX12_snowSet 10 = .ok (.iaload, 1) := dk46 (k := 10) bX12_snowSet_0 rfl
theorem dX12_snowSet_11 : decode cX12_snowSet 11 = .ok (.if_icmp .ge 34, 3) := dk162 (k := 11) bX12_snowSet_0 rfl (by decide)
theorem dX12_snowSet_14 : decode cX12_snowSet 14 = .ok (.iload_n 1, 1) := dk27 (k := 14) bX12_snowSet_0 rfl
theorem dX12_snowSet_15 : decode cX12_snowSet 15 = .ok (.aload_n 0, 1) := dk42 (k := 15) bX12_snowSet_0 rfl
theorem dX12_snowSet_16 : decode cX12_snowSet 16 = .ok (.getfield 34, 3) := dk180 (k := 16) bX12_snowSet_0 rfl rfl
theorem dX12_snowSet_19 : decode cX12_snowSet 19 = .ok (.iload_n 2, 1) := dk28 (k := 19) bX12_snowSet_0 rfl
theorem dX12_snowSet_20 : decode cX12_snowSet 20 = .ok (.iaload, 1) := dk46 (k := 20) bX12_snowSet_0 rfl
theorem dX12_snowSet_21 : decode cX12_snowSet 21 = .ok (.aload_n 0, 1) := dk42 (k := 21) bX12_snowSet_0 rfl
theorem dX12_snowSet_22 : decode cX12_snowSet 22 = .ok (.getfield 9, 3) := dk180 (k := 22) bX12_snowSet_0 rfl rfl
theorem bX12_snowSet_25 : bL cX12_snowSet 25 [4, 46, 161, 0, 9, 4, 28, 120, 167, 0, 4, 3, 128, 60, 132, 2, 1, 167, 255, 218, 27, 172] := bL_of (by decide +kernel)
theorem dX12_snowSet_25 : decode cX12_snowSet 25 = .ok (.iconst 1, 1) := dk4 (k := 0) bX12_snowSet_25 rfl
theorem dX12_snowSet_26 : decode cX12_snowSet 26 = .ok (.iaload, 1) := dk46 (k := 1) bX12_snowSet_25 rfl
theorem dX12_snowSet_27 : decode cX12_snowSet 27 = .ok (.if_icmp .lt 9, 3) := dk161 (k := 2) bX12_snowSet_25 rfl (by decide)
theorem dX12_snowSet_30 : decode cX12_snowSet 30 = .ok (.iconst 1, 1) := dk4 (k := 5) bX12_snowSet_25 rfl
theorem dX12_snowSet_31 : decode cX12_snowSet 31 = .ok (.iload_n 2, 1) := dk28 (k := 6) bX12_snowSet_25 rfl
theorem dX12_snowSet_32 : decode cX12_snowSet 32 = .ok (.ishl, 1) := dk120 (k := 7) bX12_snowSet_25 rfl
theorem dX12_snowSet_33 : decode cX12_snowSet 33 = .ok (.goto 4, 3) := dk167 (k := 8) bX12_snowSet_25 rfl (by decide)
theorem dX12_snowSet_36 : decode cX12_snowSet 36 = .ok (.iconst 0, 1) := dk3 (k := 11) bX12_snowSet_25 rfl
theorem dX12_snowSet_37 : decode cX12_snowSet 37 = .ok (.ior, 1) := dk128 (k := 12) bX12_snowSet_25 rfl
theorem dX12_snowSet_38 : decode cX12_snowSet 38 = .ok (.istore_n 1, 1) := dk60 (k := 13) bX12_snowSet_25 rfl
theorem dX12_snowSet_39 : decode cX12_snowSet 39 = .ok (.iinc 2 1, 3) := dk132 (k := 14) bX12_snowSet_25 rfl rfl (by decide)
theorem dX12_snowSet_42 : decode cX12_snowSet 42 = .ok (.goto (-38), 3) := dk167 (k := 17) bX12_snowSet_25 rfl (by decide)
theorem dX12_snowSet_45 : decode cX12_snowSet 45 = .ok (.iload_n 1, 1) := dk27 (k := 20) bX12_snowSet_25 rfl
theorem dX12_snowSet_46 : decode cX12_snowSet 46 = .ok (.ireturn, 1) := dk172 (k := 21) bX12_snowSet_25 rfl
theorem bX12_gainOf_0 : bL cX12_gainOf 0 [42, 27, 5, 182, 0, 220, 42, 42, 27, 3, 182, 0, 220, 182, 0, 223, 104, 42, 27, 6, 182, 0, 220, 42] := bL_of (by decide +kernel)
theorem dX12_gainOf_0 : decode cX12_gainOf 0 = .ok (.aload_n 0, 1) := dk42 (k := 0) bX12_gainOf_0 rfl
theorem dX12_gainOf_1 : decode cX12_gainOf 1 = .ok (.iload_n 1, 1) := dk27 (k := 1) bX12_gainOf_0 rfl
theorem dX12_gainOf_2 : decode cX12_gainOf 2 = .ok (.iconst 2, 1) := dk5 (k := 2) bX12_gainOf_0 rfl
theorem dX12_gainOf_3 : decode cX12_gainOf 3 = .ok (.invokevirtual 220, 3) := dk182 (k := 3) bX12_gainOf_0 rfl rfl
theorem dX12_gainOf_6 : decode cX12_gainOf 6 = .ok (.aload_n 0, 1) := dk42 (k := 6) bX12_gainOf_0 rfl
theorem dX12_gainOf_7 : decode cX12_gainOf 7 = .ok (.aload_n 0, 1) := dk42 (k := 7) bX12_gainOf_0 rfl
theorem dX12_gainOf_8 : decode cX12_gainOf 8 = .ok (.iload_n 1, 1) := dk27 (k := 8) bX12_gainOf_0 rfl
theorem dX12_gainOf_9 : decode cX12_gainOf 9 = .ok (.iconst 0, 1) := dk3 (k := 9) bX12_gainOf_0 rfl
theorem dX12_gainOf_10 : decode cX12_gainOf 10 = .ok (.invokevirtual 220, 3) := dk182 (k := 10) bX12_gainOf_0 rfl rfl
theorem dX12_gainOf_13 : decode cX12_gainOf 13 = .ok (.invokevirtual 223, 3) := dk182 (k := 13) bX12_gainOf_0 rfl rfl
theorem dX12_gainOf_16 : decode cX12_gainOf 16 = .ok (.imul, 1) := dk104 (k := 16) bX12_gainOf_0 rfl
theorem dX12_gainOf_17 : decode cX12_gainOf 17 = .ok (.aload_n 0, 1) := dk42 (k := 17) bX12_gainOf_0 rfl
theorem dX12_gainOf_18 : decode cX12_gainOf 18 = .ok (.iload_n 1, 1) := dk27 (k := 18) bX12_gainOf_0 rfl
theorem dX12_gainOf_19 : decode cX12_gainOf 19 = .ok (.iconst 3, 1) := dk6 (k := 19) bX12_gainOf_0 rfl
theorem dX12_gainOf_20 : decode cX12_gainOf 20 = .ok (.invokevirtual 220, 3) := dk182 (k := 20) bX12_gainOf_0 rfl rfl
theorem dX12_gainOf_23 : decode cX12_gainOf 23 = .ok (.aload_n 0, 1) := dk42 (k := 23) bX12_gainOf_0 rfl
theorem bX12_gainOf_24 : bL cX12_gainOf 24 [182, 0, 226, 184, 0, 229, 104, 96, 42, 27, 7, 182, 0, 220, 42, 180, 0, 34, 42, 182, 0, 200, 46, 104] := bL_of (by decide +kernel)
theorem dX12_gainOf_24 : decode cX12_gainOf 24 = .ok (.invokevirtual 226, 3) := dk182 (k := 0) bX12_gainOf_24 rfl rfl
theorem dX12_gainOf_27 : decode cX12_gainOf 27 = .ok (.invokestatic 229, 3) := dk184 (k := 3) bX12_gainOf_24 rfl rfl
theorem dX12_gainOf_30 : decode cX12_gainOf 30 = .ok (.imul, 1) := dk104 (k := 6) bX12_gainOf_24 rfl
theorem dX12_gainOf_31 : decode cX12_gainOf 31 = .ok (.iadd, 1) := dk96 (k := 7) bX12_gainOf_24 rfl
theorem dX12_gainOf_32 : decode cX12_gainOf 32 = .ok (.aload_n 0, 1) := dk42 (k := 8) bX12_gainOf_24 rfl
theorem dX12_gainOf_33 : decode cX12_gainOf 33 = .ok (.iload_n 1, 1) := dk27 (k := 9) bX12_gainOf_24 rfl
theorem dX12_gainOf_34 : decode cX12_gainOf 34 = .ok (.iconst 4, 1) := dk7 (k := 10) bX12_gainOf_24 rfl
theorem dX12_gainOf_35 : decode cX12_gainOf 35 = .ok (.invokevirtual 220, 3) := dk182 (k := 11) bX12_gainOf_24 rfl rfl
theorem dX12_gainOf_38 : decode cX12_gainOf 38 = .ok (.aload_n 0, 1) := dk42 (k := 14) bX12_gainOf_24 rfl
theorem dX12_gainOf_39 : decode cX12_gainOf 39 = .ok (.getfield 34, 3) := dk180 (k := 15) bX12_gainOf_24 rfl rfl
theorem dX12_gainOf_42 : decode cX12_gainOf 42 = .ok (.aload_n 0, 1) := dk42 (k := 18) bX12_gainOf_24 rfl
theorem dX12_gainOf_43 : decode cX12_gainOf 43 = .ok (.invokevirtual 200, 3) := dk182 (k := 19) bX12_gainOf_24 rfl rfl
theorem dX12_gainOf_46 : decode cX12_gainOf 46 = .ok (.iaload, 1) := dk46 (k := 22) bX12_gainOf_24 rfl
theorem dX12_gainOf_47 : decode cX12_gainOf 47 = .ok (.imul, 1) := dk104 (k := 23) bX12_gainOf_24 rfl
theorem bX12_gainOf_48 : bL cX12_gainOf 48 [96, 172] := bL_of (by decide +kernel)
theorem dX12_gainOf_48 : decode cX12_gainOf 48 = .ok (.iadd, 1) := dk96 (k := 0) bX12_gainOf_48 rfl
theorem dX12_gainOf_49 : decode cX12_gainOf 49 = .ok (.ireturn, 1) := dk172 (k := 1) bX12_gainOf_48 rfl
theorem bX12_gainOfAll_0 : bL cX12_gainOfAll 0 [3, 60, 3, 61, 28, 42, 180, 0, 9, 16, 6, 46, 162, 0, 17, 27, 42, 28, 182, 0, 232, 96, 60, 132, 2, 1] := bL_of (by decide +kernel)
theorem dX12_gainOfAll_0 : decode cX12_gainOfAll 0 = .ok (.iconst 0, 1) := dk3 (k := 0) bX12_gainOfAll_0 rfl
theorem dX12_gainOfAll_1 : decode cX12_gainOfAll 1 = .ok (.istore_n 1, 1) := dk60 (k := 1) bX12_gainOfAll_0 rfl
theorem dX12_gainOfAll_2 : decode cX12_gainOfAll 2 = .ok (.iconst 0, 1) := dk3 (k := 2) bX12_gainOfAll_0 rfl
theorem dX12_gainOfAll_3 : decode cX12_gainOfAll 3 = .ok (.istore_n 2, 1) := dk61 (k := 3) bX12_gainOfAll_0 rfl
theorem dX12_gainOfAll_4 : decode cX12_gainOfAll 4 = .ok (.iload_n 2, 1) := dk28 (k := 4) bX12_gainOfAll_0 rfl
theorem dX12_gainOfAll_5 : decode cX12_gainOfAll 5 = .ok (.aload_n 0, 1) := dk42 (k := 5) bX12_gainOfAll_0 rfl
theorem dX12_gainOfAll_6 : decode cX12_gainOfAll 6 = .ok (.getfield 9, 3) := dk180 (k := 6) bX12_gainOfAll_0 rfl rfl
theorem dX12_gainOfAll_9 : decode cX12_gainOfAll 9 = .ok (.bipush 6, 2) := dk16 (k := 9) bX12_gainOfAll_0 rfl (by decide)
theorem dX12_gainOfAll_11 : decode cX12_gainOfAll 11 = .ok (.iaload, 1) := dk46 (k := 11) bX12_gainOfAll_0 rfl
theorem dX12_gainOfAll_12 : decode cX12_gainOfAll 12 = .ok (.if_icmp .ge 17, 3) := dk162 (k := 12) bX12_gainOfAll_0 rfl (by decide)
theorem dX12_gainOfAll_15 : decode cX12_gainOfAll 15 = .ok (.iload_n 1, 1) := dk27 (k := 15) bX12_gainOfAll_0 rfl
theorem dX12_gainOfAll_16 : decode cX12_gainOfAll 16 = .ok (.aload_n 0, 1) := dk42 (k := 16) bX12_gainOfAll_0 rfl
theorem dX12_gainOfAll_17 : decode cX12_gainOfAll 17 = .ok (.iload_n 2, 1) := dk28 (k := 17) bX12_gainOfAll_0 rfl
theorem dX12_gainOfAll_18 : decode cX12_gainOfAll 18 = .ok (.invokevirtual 232, 3) := dk182 (k := 18) bX12_gainOfAll_0 rfl rfl
theorem dX12_gainOfAll_21 : decode cX12_gainOfAll 21 = .ok (.iadd, 1) := dk96 (k := 21) bX12_gainOfAll_0 rfl
theorem dX12_gainOfAll_22 : decode cX12_gainOfAll 22 = .ok (.istore_n 1, 1) := dk60 (k := 22) bX12_gainOfAll_0 rfl
theorem dX12_gainOfAll_23 : decode cX12_gainOfAll 23 = .ok (.iinc 2 1, 3) := dk132 (k := 23) bX12_gainOfAll_0 rfl rfl (by decide)
theorem bX12_gainOfAll_26 : bL cX12_gainOfAll 26 [167, 255, 234, 27, 172] := bL_of (by decide +kernel)
theorem dX12_gainOfAll_26 : decode cX12_gainOfAll 26 = .ok (.goto (-22), 3) := dk167 (k := 0) bX12_gainOfAll_26 rfl (by decide)
theorem dX12_gainOfAll_29 : decode cX12_gainOfAll 29 = .ok (.iload_n 1, 1) := dk27 (k := 3) bX12_gainOfAll_26 rfl
theorem dX12_gainOfAll_30 : decode cX12_gainOfAll 30 = .ok (.ireturn, 1) := dk172 (k := 4) bX12_gainOfAll_26 rfl
theorem bX12_folk_0 : bL cX12_folk 0 [42, 27, 133, 182, 0, 235, 153, 0, 24, 28, 133, 9, 20, 0, 238, 184, 0, 65, 153, 0, 12, 42, 27, 28] := bL_of (by decide +kernel)
theorem dX12_folk_0 : decode cX12_folk 0 = .ok (.aload_n 0, 1) := dk42 (k := 0) bX12_folk_0 rfl
theorem dX12_folk_1 : decode cX12_folk 1 = .ok (.iload_n 1, 1) := dk27 (k := 1) bX12_folk_0 rfl
theorem dX12_folk_2 : decode cX12_folk 2 = .ok (.i2l, 1) := dk133 (k := 2) bX12_folk_0 rfl
theorem dX12_folk_3 : decode cX12_folk 3 = .ok (.invokevirtual 235, 3) := dk182 (k := 3) bX12_folk_0 rfl rfl
theorem dX12_folk_6 : decode cX12_folk 6 = .ok (.ifCond .eq 24, 3) := dk153 (k := 6) bX12_folk_0 rfl (by decide)
theorem dX12_folk_9 : decode cX12_folk 9 = .ok (.iload_n 2, 1) := dk28 (k := 9) bX12_folk_0 rfl
theorem dX12_folk_10 : decode cX12_folk 10 = .ok (.i2l, 1) := dk133 (k := 10) bX12_folk_0 rfl
theorem dX12_folk_11 : decode cX12_folk 11 = .ok (.lconst 0, 1) := dk9 (k := 11) bX12_folk_0 rfl
theorem dX12_folk_12 : decode cX12_folk 12 = .ok (.ldc2_w 238, 3) := dk20 (k := 12) bX12_folk_0 rfl rfl
theorem dX12_folk_15 : decode cX12_folk 15 = .ok (.invokestatic 65, 3) := dk184 (k := 15) bX12_folk_0 rfl rfl
theorem dX12_folk_18 : decode cX12_folk 18 = .ok (.ifCond .eq 12, 3) := dk153 (k := 18) bX12_folk_0 rfl (by decide)
theorem dX12_folk_21 : decode cX12_folk 21 = .ok (.aload_n 0, 1) := dk42 (k := 21) bX12_folk_0 rfl
theorem dX12_folk_22 : decode cX12_folk 22 = .ok (.iload_n 1, 1) := dk27 (k := 22) bX12_folk_0 rfl
theorem dX12_folk_23 : decode cX12_folk 23 = .ok (.iload_n 2, 1) := dk28 (k := 23) bX12_folk_0 rfl
theorem bX12_folk_24 : bL cX12_folk 24 [182, 0, 220, 167, 0, 5, 16, 254, 172] := bL_of (by decide +kernel)
theorem dX12_folk_24 : decode cX12_folk 24 = .ok (.invokevirtual 220, 3) := dk182 (k := 0) bX12_folk_24 rfl rfl
theorem dX12_folk_27 : decode cX12_folk 27 = .ok (.goto 5, 3) := dk167 (k := 3) bX12_folk_24 rfl (by decide)
theorem dX12_folk_30 : decode cX12_folk 30 = .ok (.bipush (-2), 2) := dk16 (k := 6) bX12_folk_24 rfl (by decide)
theorem dX12_folk_32 : decode cX12_folk 32 = .ok (.ireturn, 1) := dk172 (k := 8) bX12_folk_24 rfl
theorem bX12_height_0 : bL cX12_height 0 [42, 27, 133, 182, 0, 203, 154, 0, 6, 16, 254, 172, 42, 182, 0, 240, 42, 180, 0, 34, 27, 46, 172] := bL_of (by decide +kernel)
theorem dX12_height_0 : decode cX12_height 0 = .ok (.aload_n 0, 1) := dk42 (k := 0) bX12_height_0 rfl
theorem dX12_height_1 : decode cX12_height 1 = .ok (.iload_n 1, 1) := dk27 (k := 1) bX12_height_0 rfl
theorem dX12_height_2 : decode cX12_height 2 = .ok (.i2l, 1) := dk133 (k := 2) bX12_height_0 rfl
theorem dX12_height_3 : decode cX12_height 3 = .ok (.invokevirtual 203, 3) := dk182 (k := 3) bX12_height_0 rfl rfl
theorem dX12_height_6 : decode cX12_height 6 = .ok (.ifCond .ne 6, 3) := dk154 (k := 6) bX12_height_0 rfl (by decide)
theorem dX12_height_9 : decode cX12_height 9 = .ok (.bipush (-2), 2) := dk16 (k := 9) bX12_height_0 rfl (by decide)
theorem dX12_height_11 : decode cX12_height 11 = .ok (.ireturn, 1) := dk172 (k := 11) bX12_height_0 rfl
theorem dX12_height_12 : decode cX12_height 12 = .ok (.aload_n 0, 1) := dk42 (k := 12) bX12_height_0 rfl
theorem dX12_height_13 : decode cX12_height 13 = .ok (.invokevirtual 240, 3) := dk182 (k := 13) bX12_height_0 rfl rfl
theorem dX12_height_16 : decode cX12_height 16 = .ok (.aload_n 0, 1) := dk42 (k := 16) bX12_height_0 rfl
theorem dX12_height_17 : decode cX12_height 17 = .ok (.getfield 34, 3) := dk180 (k := 17) bX12_height_0 rfl rfl
theorem dX12_height_20 : decode cX12_height 20 = .ok (.iload_n 1, 1) := dk27 (k := 20) bX12_height_0 rfl
theorem dX12_height_21 : decode cX12_height 21 = .ok (.iaload, 1) := dk46 (k := 21) bX12_height_0 rfl
theorem dX12_height_22 : decode cX12_height 22 = .ok (.ireturn, 1) := dk172 (k := 22) bX12_height_0 rfl
theorem bX12_shade_0 : bL cX12_shade 0 [42, 27, 133, 182, 0, 203, 153, 0, 11, 28, 133, 184, 0, 243, 154, 0, 6, 16, 254, 172, 42, 182, 0, 240] := bL_of (by decide +kernel)
theorem dX12_shade_0 : decode cX12_shade 0 = .ok (.aload_n 0, 1) := dk42 (k := 0) bX12_shade_0 rfl
theorem dX12_shade_1 : decode cX12_shade 1 = .ok (.iload_n 1, 1) := dk27 (k := 1) bX12_shade_0 rfl
theorem dX12_shade_2 : decode cX12_shade 2 = .ok (.i2l, 1) := dk133 (k := 2) bX12_shade_0 rfl
theorem dX12_shade_3 : decode cX12_shade 3 = .ok (.invokevirtual 203, 3) := dk182 (k := 3) bX12_shade_0 rfl rfl
theorem dX12_shade_6 : decode cX12_shade 6 = .ok (.ifCond .eq 11, 3) := dk153 (k := 6) bX12_shade_0 rfl (by decide)
theorem dX12_shade_9 : decode cX12_shade 9 = .ok (.iload_n 2, 1) := dk28 (k := 9) bX12_shade_0 rfl
theorem dX12_shade_10 : decode cX12_shade 10 = .ok (.i2l, 1) := dk133 (k := 10) bX12_shade_0 rfl
theorem dX12_shade_11 : decode cX12_shade 11 = .ok (.invokestatic 243, 3) := dk184 (k := 11) bX12_shade_0 rfl rfl
theorem dX12_shade_14 : decode cX12_shade 14 = .ok (.ifCond .ne 6, 3) := dk154 (k := 14) bX12_shade_0 rfl (by decide)
theorem dX12_shade_17 : decode cX12_shade 17 = .ok (.bipush (-2), 2) := dk16 (k := 17) bX12_shade_0 rfl (by decide)
theorem dX12_shade_19 : decode cX12_shade 19 = .ok (.ireturn, 1) := dk172 (k := 19) bX12_shade_0 rfl
theorem dX12_shade_20 : decode cX12_shade 20 = .ok (.aload_n 0, 1) := dk42 (k := 20) bX12_shade_0 rfl
theorem dX12_shade_21 : decode cX12_shade 21 = .ok (.invokevirtual 240, 3) := dk182 (k := 21) bX12_shade_0 rfl rfl
theorem bX12_shade_24 : bL cX12_shade 24 [42, 27, 28, 182, 0, 217, 153, 0, 7, 4, 167, 0, 4, 3, 172] := bL_of (by decide +kernel)
theorem dX12_shade_24 : decode cX12_shade 24 = .ok (.aload_n 0, 1) := dk42 (k := 0) bX12_shade_24 rfl
theorem dX12_shade_25 : decode cX12_shade 25 = .ok (.iload_n 1, 1) := dk27 (k := 1) bX12_shade_24 rfl
theorem dX12_shade_26 : decode cX12_shade 26 = .ok (.iload_n 2, 1) := dk28 (k := 2) bX12_shade_24 rfl
theorem dX12_shade_27 : decode cX12_shade 27 = .ok (.invokevirtual 217, 3) := dk182 (k := 3) bX12_shade_24 rfl rfl
theorem dX12_shade_30 : decode cX12_shade 30 = .ok (.ifCond .eq 7, 3) := dk153 (k := 6) bX12_shade_24 rfl (by decide)
theorem dX12_shade_33 : decode cX12_shade 33 = .ok (.iconst 1, 1) := dk4 (k := 9) bX12_shade_24 rfl
theorem dX12_shade_34 : decode cX12_shade 34 = .ok (.goto 4, 3) := dk167 (k := 10) bX12_shade_24 rfl (by decide)
theorem dX12_shade_37 : decode cX12_shade 37 = .ok (.iconst 0, 1) := dk3 (k := 13) bX12_shade_24 rfl
theorem dX12_shade_38 : decode cX12_shade 38 = .ok (.ireturn, 1) := dk172 (k := 14) bX12_shade_24 rfl
theorem bX12_light_0 : bL cX12_light 0 [42, 27, 133, 182, 0, 203, 154, 0, 6, 16, 254, 172, 42, 182, 0, 240, 42, 27, 182, 0, 223, 172] := bL_of (by decide +kernel)
theorem dX12_light_0 : decode cX12_light 0 = .ok (.aload_n 0, 1) := dk42 (k := 0) bX12_light_0 rfl
theorem dX12_light_1 : decode cX12_light 1 = .ok (.iload_n 1, 1) := dk27 (k := 1) bX12_light_0 rfl
theorem dX12_light_2 : decode cX12_light 2 = .ok (.i2l, 1) := dk133 (k := 2) bX12_light_0 rfl
theorem dX12_light_3 : decode cX12_light 3 = .ok (.invokevirtual 203, 3) := dk182 (k := 3) bX12_light_0 rfl rfl
theorem dX12_light_6 : decode cX12_light 6 = .ok (.ifCond .ne 6, 3) := dk154 (k := 6) bX12_light_0 rfl (by decide)
theorem dX12_light_9 : decode cX12_light 9 = .ok (.bipush (-2), 2) := dk16 (k := 9) bX12_light_0 rfl (by decide)
theorem dX12_light_11 : decode cX12_light 11 = .ok (.ireturn, 1) := dk172 (k := 11) bX12_light_0 rfl
theorem dX12_light_12 : decode cX12_light 12 = .ok (.aload_n 0, 1) := dk42 (k := 12) bX12_light_0 rfl
theorem dX12_light_13 : decode cX12_light 13 = .ok (.invokevirtual 240, 3) := dk182 (k := 13) bX12_light_0 rfl rfl
theorem dX12_light_16 : decode cX12_light 16 = .ok (.aload_n 0, 1) := dk42 (k := 16) bX12_light_0 rfl
theorem dX12_light_17 : decode cX12_light 17 = .ok (.iload_n 1, 1) := dk27 (k := 17) bX12_light_0 rfl
theorem dX12_light_18 : decode cX12_light 18 = .ok (.invokevirtual 223, 3) := dk182 (k := 18) bX12_light_0 rfl rfl
theorem dX12_light_21 : decode cX12_light 21 = .ok (.ireturn, 1) := dk172 (k := 21) bX12_light_0 rfl
theorem bX12_dark_0 : bL cX12_dark 0 [42, 182, 0, 73, 153, 0, 11, 27, 133, 184, 0, 243, 154, 0, 6, 16, 254, 172, 42, 182, 0, 240, 3, 61] := bL_of (by decide +kernel)
theorem dX12_dark_0 : decode cX12_dark 0 = .ok (.aload_n 0, 1) := dk42 (k := 0) bX12_dark_0 rfl
theorem dX12_dark_1 : decode cX12_dark 1 = .ok (.invokevirtual 73, 3) := dk182 (k := 1) bX12_dark_0 rfl rfl
theorem dX12_dark_4 : decode cX12_dark 4 = .ok (.ifCond .eq 11, 3) := dk153 (k := 4) bX12_dark_0 rfl (by decide)
theorem dX12_dark_7 : decode cX12_dark 7 = .ok (.iload_n 1, 1) := dk27 (k := 7) bX12_dark_0 rfl
theorem dX12_dark_8 : decode cX12_dark 8 = .ok (.i2l, 1) := dk133 (k := 8) bX12_dark_0 rfl
theorem dX12_dark_9 : decode cX12_dark 9 = .ok (.invokestatic 243, 3) := dk184 (k := 9) bX12_dark_0 rfl rfl
theorem dX12_dark_12 : decode cX12_dark 12 = .ok (.ifCond .ne 6, 3) := dk154 (k := 12) bX12_dark_0 rfl (by decide)
theorem dX12_dark_15 : decode cX12_dark 15 = .ok (.bipush (-2), 2) := dk16 (k := 15) bX12_dark_0 rfl (by decide)
theorem dX12_dark_17 : decode cX12_dark 17 = .ok (.ireturn, 1) := dk172 (k := 17) bX12_dark_0 rfl
theorem dX12_dark_18 : decode cX12_dark 18 = .ok (.aload_n 0, 1) := dk42 (k := 18) bX12_dark_0 rfl
theorem dX12_dark_19 : decode cX12_dark 19 = .ok (.invokevirtual 240, 3) := dk182 (k := 19) bX12_dark_0 rfl rfl
theorem dX12_dark_22 : decode cX12_dark 22 = .ok (.iconst 0, 1) := dk3 (k := 22) bX12_dark_0 rfl
theorem dX12_dark_23 : decode cX12_dark 23 = .ok (.istore_n 2, 1) := dk61 (k := 23) bX12_dark_0 rfl
theorem bX12_dark_24 : bL cX12_dark 24 [3, 62, 29, 42, 180, 0, 9, 3, 46, 162, 0, 28, 28, 42, 29, 27, 182, 0, 217, 153, 0, 9, 4, 29] := bL_of (by decide +kernel)
theorem dX12_dark_24 : decode cX12_dark 24 = .ok (.iconst 0, 1) := dk3 (k := 0) bX12_dark_24 rfl
theorem dX12_dark_25 : decode cX12_dark 25 = .ok (.istore_n 3, 1) := dk62 (k := 1) bX12_dark_24 rfl
theorem dX12_dark_26 : decode cX12_dark 26 = .ok (.iload_n 3, 1) := dk29 (k := 2) bX12_dark_24 rfl
theorem dX12_dark_27 : decode cX12_dark 27 = .ok (.aload_n 0, 1) := dk42 (k := 3) bX12_dark_24 rfl
theorem dX12_dark_28 : decode cX12_dark 28 = .ok (.getfield 9, 3) := dk180 (k := 4) bX12_dark_24 rfl rfl
theorem dX12_dark_31 : decode cX12_dark 31 = .ok (.iconst 0, 1) := dk3 (k := 7) bX12_dark_24 rfl
theorem dX12_dark_32 : decode cX12_dark 32 = .ok (.iaload, 1) := dk46 (k := 8) bX12_dark_24 rfl
theorem dX12_dark_33 : decode cX12_dark 33 = .ok (.if_icmp .ge 28, 3) := dk162 (k := 9) bX12_dark_24 rfl (by decide)
theorem dX12_dark_36 : decode cX12_dark 36 = .ok (.iload_n 2, 1) := dk28 (k := 12) bX12_dark_24 rfl
theorem dX12_dark_37 : decode cX12_dark 37 = .ok (.aload_n 0, 1) := dk42 (k := 13) bX12_dark_24 rfl
theorem dX12_dark_38 : decode cX12_dark 38 = .ok (.iload_n 3, 1) := dk29 (k := 14) bX12_dark_24 rfl
theorem dX12_dark_39 : decode cX12_dark 39 = .ok (.iload_n 1, 1) := dk27 (k := 15) bX12_dark_24 rfl
theorem dX12_dark_40 : decode cX12_dark 40 = .ok (.invokevirtual 217, 3) := dk182 (k := 16) bX12_dark_24 rfl rfl
theorem dX12_dark_43 : decode cX12_dark 43 = .ok (.ifCond .eq 9, 3) := dk153 (k := 19) bX12_dark_24 rfl (by decide)
theorem dX12_dark_46 : decode cX12_dark 46 = .ok (.iconst 1, 1) := dk4 (k := 22) bX12_dark_24 rfl
theorem dX12_dark_47 : decode cX12_dark 47 = .ok (.iload_n 3, 1) := dk29 (k := 23) bX12_dark_24 rfl
theorem bX12_dark_48 : bL cX12_dark 48 [120, 167, 0, 4, 3, 128, 61, 132, 3, 1, 167, 255, 224, 28, 172] := bL_of (by decide +kernel)
theorem dX12_dark_48 : decode cX12_dark 48 = .ok (.ishl, 1) := dk120 (k := 0) bX12_dark_48 rfl
theorem dX12_dark_49 : decode cX12_dark 49 = .ok (.goto 4, 3) := dk167 (k := 1) bX12_dark_48 rfl (by decide)
theorem dX12_dark_52 : decode cX12_dark 52 = .ok (.iconst 0, 1) := dk3 (k := 4) bX12_dark_48 rfl
theorem dX12_dark_53 : decode cX12_dark 53 = .ok (.ior, 1) := dk128 (k := 5) bX12_dark_48 rfl
theorem dX12_dark_54 : decode cX12_dark 54 = .ok (.istore_n 2, 1) := dk61 (k := 6) bX12_dark_48 rfl
theorem dX12_dark_55 : decode cX12_dark 55 = .ok (.iinc 3 1, 3) := dk132 (k := 7) bX12_dark_48 rfl rfl (by decide)
theorem dX12_dark_58 : decode cX12_dark 58 = .ok (.goto (-32), 3) := dk167 (k := 10) bX12_dark_48 rfl (by decide)
theorem dX12_dark_61 : decode cX12_dark 61 = .ok (.iload_n 2, 1) := dk28 (k := 13) bX12_dark_48 rfl
theorem dX12_dark_62 : decode cX12_dark 62 = .ok (.ireturn, 1) := dk172 (k := 14) bX12_dark_48 rfl
theorem bX12_snow_0 : bL cX12_snow 0 [42, 182, 0, 73, 154, 0, 6, 16, 254, 172, 42, 182, 0, 240, 42, 182, 0, 226, 172] := bL_of (by decide +kernel)
theorem dX12_snow_0 : decode cX12_snow 0 = .ok (.aload_n 0, 1) := dk42 (k := 0) bX12_snow_0 rfl
theorem dX12_snow_1 : decode cX12_snow 1 = .ok (.invokevirtual 73, 3) := dk182 (k := 1) bX12_snow_0 rfl rfl
theorem dX12_snow_4 : decode cX12_snow 4 = .ok (.ifCond .ne 6, 3) := dk154 (k := 4) bX12_snow_0 rfl (by decide)
theorem dX12_snow_7 : decode cX12_snow 7 = .ok (.bipush (-2), 2) := dk16 (k := 7) bX12_snow_0 rfl (by decide)
theorem dX12_snow_9 : decode cX12_snow 9 = .ok (.ireturn, 1) := dk172 (k := 9) bX12_snow_0 rfl
theorem dX12_snow_10 : decode cX12_snow 10 = .ok (.aload_n 0, 1) := dk42 (k := 10) bX12_snow_0 rfl
theorem dX12_snow_11 : decode cX12_snow 11 = .ok (.invokevirtual 240, 3) := dk182 (k := 11) bX12_snow_0 rfl rfl
theorem dX12_snow_14 : decode cX12_snow 14 = .ok (.aload_n 0, 1) := dk42 (k := 14) bX12_snow_0 rfl
theorem dX12_snow_15 : decode cX12_snow 15 = .ok (.invokevirtual 226, 3) := dk182 (k := 15) bX12_snow_0 rfl rfl
theorem dX12_snow_18 : decode cX12_snow 18 = .ok (.ireturn, 1) := dk172 (k := 18) bX12_snow_0 rfl
theorem bX12_top_0 : bL cX12_top 0 [42, 182, 0, 73, 154, 0, 6, 16, 254, 172, 42, 182, 0, 240, 42, 182, 0, 200, 172] := bL_of (by decide +kernel)
theorem dX12_top_0 : decode cX12_top 0 = .ok (.aload_n 0, 1) := dk42 (k := 0) bX12_top_0 rfl
theorem dX12_top_1 : decode cX12_top 1 = .ok (.invokevirtual 73, 3) := dk182 (k := 1) bX12_top_0 rfl rfl
theorem dX12_top_4 : decode cX12_top 4 = .ok (.ifCond .ne 6, 3) := dk154 (k := 4) bX12_top_0 rfl (by decide)
theorem dX12_top_7 : decode cX12_top 7 = .ok (.bipush (-2), 2) := dk16 (k := 7) bX12_top_0 rfl (by decide)
theorem dX12_top_9 : decode cX12_top 9 = .ok (.ireturn, 1) := dk172 (k := 9) bX12_top_0 rfl
theorem dX12_top_10 : decode cX12_top 10 = .ok (.aload_n 0, 1) := dk42 (k := 10) bX12_top_0 rfl
theorem dX12_top_11 : decode cX12_top 11 = .ok (.invokevirtual 240, 3) := dk182 (k := 11) bX12_top_0 rfl rfl
theorem dX12_top_14 : decode cX12_top 14 = .ok (.aload_n 0, 1) := dk42 (k := 14) bX12_top_0 rfl
theorem dX12_top_15 : decode cX12_top 15 = .ok (.invokevirtual 200, 3) := dk182 (k := 15) bX12_top_0 rfl rfl
theorem dX12_top_18 : decode cX12_top 18 = .ok (.ireturn, 1) := dk172 (k := 18) bX12_top_0 rfl
theorem bX12_gain_0 : bL cX12_gain 0 [42, 27, 133, 182, 0, 235, 154, 0, 7, 17, 252, 24, 172, 42, 182, 0, 240, 42, 27, 182, 0, 232, 172] := bL_of (by decide +kernel)
theorem dX12_gain_0 : decode cX12_gain 0 = .ok (.aload_n 0, 1) := dk42 (k := 0) bX12_gain_0 rfl
theorem dX12_gain_1 : decode cX12_gain 1 = .ok (.iload_n 1, 1) := dk27 (k := 1) bX12_gain_0 rfl
theorem dX12_gain_2 : decode cX12_gain 2 = .ok (.i2l, 1) := dk133 (k := 2) bX12_gain_0 rfl
theorem dX12_gain_3 : decode cX12_gain 3 = .ok (.invokevirtual 235, 3) := dk182 (k := 3) bX12_gain_0 rfl rfl
theorem dX12_gain_6 : decode cX12_gain 6 = .ok (.ifCond .ne 7, 3) := dk154 (k := 6) bX12_gain_0 rfl (by decide)
theorem dX12_gain_9 : decode cX12_gain 9 = .ok (.sipush (-1000), 3) := dk17 (k := 9) bX12_gain_0 rfl (by decide)
theorem dX12_gain_12 : decode cX12_gain 12 = .ok (.ireturn, 1) := dk172 (k := 12) bX12_gain_0 rfl
theorem dX12_gain_13 : decode cX12_gain 13 = .ok (.aload_n 0, 1) := dk42 (k := 13) bX12_gain_0 rfl
theorem dX12_gain_14 : decode cX12_gain 14 = .ok (.invokevirtual 240, 3) := dk182 (k := 14) bX12_gain_0 rfl rfl
theorem dX12_gain_17 : decode cX12_gain 17 = .ok (.aload_n 0, 1) := dk42 (k := 17) bX12_gain_0 rfl
theorem dX12_gain_18 : decode cX12_gain 18 = .ok (.iload_n 1, 1) := dk27 (k := 18) bX12_gain_0 rfl
theorem dX12_gain_19 : decode cX12_gain 19 = .ok (.invokevirtual 232, 3) := dk182 (k := 19) bX12_gain_0 rfl rfl
theorem dX12_gain_22 : decode cX12_gain 22 = .ok (.ireturn, 1) := dk172 (k := 22) bX12_gain_0 rfl
theorem bX12_hopesOf_0 : bL cX12_hopesOf 0 [42, 182, 0, 240, 42, 27, 182, 0, 232, 62, 3, 54, 4, 21, 4, 28, 162, 0, 14, 42, 182, 0, 194, 87] := bL_of (by decide +kernel)
theorem dX12_hopesOf_0 : decode cX12_hopesOf 0 = .ok (.aload_n 0, 1) := dk42 (k := 0) bX12_hopesOf_0 rfl
theorem dX12_hopesOf_1 : decode cX12_hopesOf 1 = .ok (.invokevirtual 240, 3) := dk182 (k := 1) bX12_hopesOf_0 rfl rfl
theorem dX12_hopesOf_4 : decode cX12_hopesOf 4 = .ok (.aload_n 0, 1) := dk42 (k := 4) bX12_hopesOf_0 rfl
theorem dX12_hopesOf_5 : decode cX12_hopesOf 5 = .ok (.iload_n 1, 1) := dk27 (k := 5) bX12_hopesOf_0 rfl
theorem dX12_hopesOf_6 : decode cX12_hopesOf 6 = .ok (.invokevirtual 232, 3) := dk182 (k := 6) bX12_hopesOf_0 rfl rfl
theorem dX12_hopesOf_9 : decode cX12_hopesOf 9 = .ok (.istore_n 3, 1) := dk62 (k := 9) bX12_hopesOf_0 rfl
theorem dX12_hopesOf_10 : decode cX12_hopesOf 10 = .ok (.iconst 0, 1) := dk3 (k := 10) bX12_hopesOf_0 rfl
theorem dX12_hopesOf_11 : decode cX12_hopesOf 11 = .ok (.istore 4, 2) := dk54 (k := 11) bX12_hopesOf_0 rfl rfl
theorem dX12_hopesOf_13 : decode cX12_hopesOf 13 = .ok (.iload 4, 2) := dk21 (k := 13) bX12_hopesOf_0 rfl rfl
theorem dX12_hopesOf_15 : decode cX12_hopesOf 15 = .ok (.iload_n 2, 1) := dk28 (k := 15) bX12_hopesOf_0 rfl
theorem dX12_hopesOf_16 : decode cX12_hopesOf 16 = .ok (.if_icmp .ge 14, 3) := dk162 (k := 16) bX12_hopesOf_0 rfl (by decide)
theorem dX12_hopesOf_19 : decode cX12_hopesOf 19 = .ok (.aload_n 0, 1) := dk42 (k := 19) bX12_hopesOf_0 rfl
theorem dX12_hopesOf_20 : decode cX12_hopesOf 20 = .ok (.invokevirtual 194, 3) := dk182 (k := 20) bX12_hopesOf_0 rfl rfl
theorem dX12_hopesOf_23 : decode cX12_hopesOf 23 = .ok (.pop, 1) := dk87 (k := 23) bX12_hopesOf_0 rfl
theorem bX12_hopesOf_24 : bL cX12_hopesOf 24 [132, 4, 1, 167, 255, 242, 42, 27, 182, 0, 232, 29, 100, 172] := bL_of (by decide +kernel)
theorem dX12_hopesOf_24 : decode cX12_hopesOf 24 = .ok (.iinc 4 1, 3) := dk132 (k := 0) bX12_hopesOf_24 rfl rfl (by decide)
theorem dX12_hopesOf_27 : decode cX12_hopesOf 27 = .ok (.goto (-14), 3) := dk167 (k := 3) bX12_hopesOf_24 rfl (by decide)
theorem dX12_hopesOf_30 : decode cX12_hopesOf 30 = .ok (.aload_n 0, 1) := dk42 (k := 6) bX12_hopesOf_24 rfl
theorem dX12_hopesOf_31 : decode cX12_hopesOf 31 = .ok (.iload_n 1, 1) := dk27 (k := 7) bX12_hopesOf_24 rfl
theorem dX12_hopesOf_32 : decode cX12_hopesOf 32 = .ok (.invokevirtual 232, 3) := dk182 (k := 8) bX12_hopesOf_24 rfl rfl
theorem dX12_hopesOf_35 : decode cX12_hopesOf 35 = .ok (.iload_n 3, 1) := dk29 (k := 11) bX12_hopesOf_24 rfl
theorem dX12_hopesOf_36 : decode cX12_hopesOf 36 = .ok (.isub, 1) := dk100 (k := 12) bX12_hopesOf_24 rfl
theorem dX12_hopesOf_37 : decode cX12_hopesOf 37 = .ok (.ireturn, 1) := dk172 (k := 13) bX12_hopesOf_24 rfl
theorem bX12_hopes_0 : bL cX12_hopes 0 [42, 27, 133, 182, 0, 235, 153, 0, 24, 28, 133, 9, 20, 0, 246, 184, 0, 65, 153, 0, 12, 42, 27, 28] := bL_of (by decide +kernel)
theorem dX12_hopes_0 : decode cX12_hopes 0 = .ok (.aload_n 0, 1) := dk42 (k := 0) bX12_hopes_0 rfl
theorem dX12_hopes_1 : decode cX12_hopes 1 = .ok (.iload_n 1, 1) := dk27 (k := 1) bX12_hopes_0 rfl
theorem dX12_hopes_2 : decode cX12_hopes 2 = .ok (.i2l, 1) := dk133 (k := 2) bX12_hopes_0 rfl
theorem dX12_hopes_3 : decode cX12_hopes 3 = .ok (.invokevirtual 235, 3) := dk182 (k := 3) bX12_hopes_0 rfl rfl
theorem dX12_hopes_6 : decode cX12_hopes 6 = .ok (.ifCond .eq 24, 3) := dk153 (k := 6) bX12_hopes_0 rfl (by decide)
theorem dX12_hopes_9 : decode cX12_hopes 9 = .ok (.iload_n 2, 1) := dk28 (k := 9) bX12_hopes_0 rfl
theorem dX12_hopes_10 : decode cX12_hopes 10 = .ok (.i2l, 1) := dk133 (k := 10) bX12_hopes_0 rfl
theorem dX12_hopes_11 : decode cX12_hopes 11 = .ok (.lconst 0, 1) := dk9 (k := 11) bX12_hopes_0 rfl
theorem dX12_hopes_12 : decode cX12_hopes 12 = .ok (.ldc2_w 246, 3) := dk20 (k := 12) bX12_hopes_0 rfl rfl
theorem dX12_hopes_15 : decode cX12_hopes 15 = .ok (.invokestatic 65, 3) := dk184 (k := 15) bX12_hopes_0 rfl rfl
theorem dX12_hopes_18 : decode cX12_hopes 18 = .ok (.ifCond .eq 12, 3) := dk153 (k := 18) bX12_hopes_0 rfl (by decide)
theorem dX12_hopes_21 : decode cX12_hopes 21 = .ok (.aload_n 0, 1) := dk42 (k := 21) bX12_hopes_0 rfl
theorem dX12_hopes_22 : decode cX12_hopes 22 = .ok (.iload_n 1, 1) := dk27 (k := 22) bX12_hopes_0 rfl
theorem dX12_hopes_23 : decode cX12_hopes 23 = .ok (.iload_n 2, 1) := dk28 (k := 23) bX12_hopes_0 rfl
theorem bX12_hopes_24 : bL cX12_hopes 24 [182, 0, 248, 167, 0, 6, 17, 252, 24, 172] := bL_of (by decide +kernel)
theorem dX12_hopes_24 : decode cX12_hopes 24 = .ok (.invokevirtual 248, 3) := dk182 (k := 0) bX12_hopes_24 rfl rfl
theorem dX12_hopes_27 : decode cX12_hopes 27 = .ok (.goto 6, 3) := dk167 (k := 3) bX12_hopes_24 rfl (by decide)
theorem dX12_hopes_30 : decode cX12_hopes 30 = .ok (.sipush (-1000), 3) := dk17 (k := 6) bX12_hopes_24 rfl (by decide)
theorem dX12_hopes_33 : decode cX12_hopes 33 = .ok (.ireturn, 1) := dk172 (k := 9) bX12_hopes_24 rfl
theorem bX12_wishes_0 : bL cX12_wishes 0 [42, 27, 133, 182, 0, 235, 154, 0, 6, 16, 254, 172, 3, 61, 4, 62, 29, 16, 20, 163, 0, 30, 42, 27] := bL_of (by decide +kernel)
theorem dX12_wishes_0 : decode cX12_wishes 0 = .ok (.aload_n 0, 1) := dk42 (k := 0) bX12_wishes_0 rfl
theorem dX12_wishes_1 : decode cX12_wishes 1 = .ok (.iload_n 1, 1) := dk27 (k := 1) bX12_wishes_0 rfl
theorem dX12_wishes_2 : decode cX12_wishes 2 = .ok (.i2l, 1) := dk133 (k := 2) bX12_wishes_0 rfl
theorem dX12_wishes_3 : decode cX12_wishes 3 = .ok (.invokevirtual 235, 3) := dk182 (k := 3) bX12_wishes_0 rfl rfl
theorem dX12_wishes_6 : decode cX12_wishes 6 = .ok (.ifCond .ne 6, 3) := dk154 (k := 6) bX12_wishes_0 rfl (by decide)
theorem dX12_wishes_9 : decode cX12_wishes 9 = .ok (.bipush (-2), 2) := dk16 (k := 9) bX12_wishes_0 rfl (by decide)
theorem dX12_wishes_11 : decode cX12_wishes 11 = .ok (.ireturn, 1) := dk172 (k := 11) bX12_wishes_0 rfl
theorem dX12_wishes_12 : decode cX12_wishes 12 = .ok (.iconst 0, 1) := dk3 (k := 12) bX12_wishes_0 rfl
theorem dX12_wishes_13 : decode cX12_wishes 13 = .ok (.istore_n 2, 1) := dk61 (k := 13) bX12_wishes_0 rfl
theorem dX12_wishes_14 : decode cX12_wishes 14 = .ok (.iconst 1, 1) := dk4 (k := 14) bX12_wishes_0 rfl
theorem dX12_wishes_15 : decode cX12_wishes 15 = .ok (.istore_n 3, 1) := dk62 (k := 15) bX12_wishes_0 rfl
theorem dX12_wishes_16 : decode cX12_wishes 16 = .ok (.iload_n 3, 1) := dk29 (k := 16) bX12_wishes_0 rfl
theorem dX12_wishes_17 : decode cX12_wishes 17 = .ok (.bipush 20, 2) := dk16 (k := 17) bX12_wishes_0 rfl (by decide)
theorem dX12_wishes_19 : decode cX12_wishes 19 = .ok (.if_icmp .gt 30, 3) := dk163 (k := 19) bX12_wishes_0 rfl (by decide)
theorem dX12_wishes_22 : decode cX12_wishes 22 = .ok (.aload_n 0, 1) := dk42 (k := 22) bX12_wishes_0 rfl
theorem dX12_wishes_23 : decode cX12_wishes 23 = .ok (.iload_n 1, 1) := dk27 (k := 23) bX12_wishes_0 rfl
theorem bX12_wishes_24 : bL cX12_wishes 24 [29, 182, 0, 248, 42, 27, 28, 182, 0, 248, 164, 0, 7, 29, 167, 0, 4, 28, 61, 132, 3, 1, 167, 255, 226] := bL_of (by decide +kernel)
theorem dX12_wishes_24 : decode cX12_wishes 24 = .ok (.iload_n 3, 1) := dk29 (k := 0) bX12_wishes_24 rfl
theorem dX12_wishes_25 : decode cX12_wishes 25 = .ok (.invokevirtual 248, 3) := dk182 (k := 1) bX12_wishes_24 rfl rfl
theorem dX12_wishes_28 : decode cX12_wishes 28 = .ok (.aload_n 0, 1) := dk42 (k := 4) bX12_wishes_24 rfl
theorem dX12_wishes_29 : decode cX12_wishes 29 = .ok (.iload_n 1, 1) := dk27 (k := 5) bX12_wishes_24 rfl
theorem dX12_wishes_30 : decode cX12_wishes 30 = .ok (.iload_n 2, 1) := dk28 (k := 6) bX12_wishes_24 rfl
theorem dX12_wishes_31 : decode cX12_wishes 31 = .ok (.invokevirtual 248, 3) := dk182 (k := 7) bX12_wishes_24 rfl rfl
theorem dX12_wishes_34 : decode cX12_wishes 34 = .ok (.if_icmp .le 7, 3) := dk164 (k := 10) bX12_wishes_24 rfl (by decide)
theorem dX12_wishes_37 : decode cX12_wishes 37 = .ok (.iload_n 3, 1) := dk29 (k := 13) bX12_wishes_24 rfl
theorem dX12_wishes_38 : decode cX12_wishes 38 = .ok (.goto 4, 3) := dk167 (k := 14) bX12_wishes_24 rfl (by decide)
theorem dX12_wishes_41 : decode cX12_wishes 41 = .ok (.iload_n 2, 1) := dk28 (k := 17) bX12_wishes_24 rfl
theorem dX12_wishes_42 : decode cX12_wishes 42 = .ok (.istore_n 2, 1) := dk61 (k := 18) bX12_wishes_24 rfl
theorem dX12_wishes_43 : decode cX12_wishes 43 = .ok (.iinc 3 1, 3) := dk132 (k := 19) bX12_wishes_24 rfl rfl (by decide)
theorem dX12_wishes_46 : decode cX12_wishes 46 = .ok (.goto (-30), 3) := dk167 (k := 22) bX12_wishes_24 rfl (by decide)
theorem bX12_wishes_49 : bL cX12_wishes 49 [28, 172] := bL_of (by decide +kernel)
theorem dX12_wishes_49 : decode cX12_wishes 49 = .ok (.iload_n 2, 1) := dk28 (k := 0) bX12_wishes_49 rfl
theorem dX12_wishes_50 : decode cX12_wishes 50 = .ok (.ireturn, 1) := dk172 (k := 1) bX12_wishes_49 rfl
theorem bX12_gains_0 : bL cX12_gains 0 [42, 182, 0, 73, 154, 0, 6, 16, 254, 172, 42, 182, 0, 240, 42, 182, 0, 251, 172] := bL_of (by decide +kernel)
theorem dX12_gains_0 : decode cX12_gains 0 = .ok (.aload_n 0, 1) := dk42 (k := 0) bX12_gains_0 rfl
theorem dX12_gains_1 : decode cX12_gains 1 = .ok (.invokevirtual 73, 3) := dk182 (k := 1) bX12_gains_0 rfl rfl
theorem dX12_gains_4 : decode cX12_gains 4 = .ok (.ifCond .ne 6, 3) := dk154 (k := 4) bX12_gains_0 rfl (by decide)
theorem dX12_gains_7 : decode cX12_gains 7 = .ok (.bipush (-2), 2) := dk16 (k := 7) bX12_gains_0 rfl (by decide)
theorem dX12_gains_9 : decode cX12_gains 9 = .ok (.ireturn, 1) := dk172 (k := 9) bX12_gains_0 rfl
theorem dX12_gains_10 : decode cX12_gains 10 = .ok (.aload_n 0, 1) := dk42 (k := 10) bX12_gains_0 rfl
theorem dX12_gains_11 : decode cX12_gains 11 = .ok (.invokevirtual 240, 3) := dk182 (k := 11) bX12_gains_0 rfl rfl
theorem dX12_gains_14 : decode cX12_gains 14 = .ok (.aload_n 0, 1) := dk42 (k := 14) bX12_gains_0 rfl
theorem dX12_gains_15 : decode cX12_gains 15 = .ok (.invokevirtual 251, 3) := dk182 (k := 15) bX12_gains_0 rfl rfl
theorem dX12_gains_18 : decode cX12_gains 18 = .ok (.ireturn, 1) := dk172 (k := 18) bX12_gains_0 rfl
theorem bX12_keepAct_0 : bL cX12_keepAct 0 [42, 180, 0, 9, 16, 75, 42, 180, 0, 9, 16, 8, 46, 96, 27, 79, 42, 180, 0, 9, 16, 8, 92, 46] := bL_of (by decide +kernel)
theorem dX12_keepAct_0 : decode cX12_keepAct 0 = .ok (.aload_n 0, 1) := dk42 (k := 0) bX12_keepAct_0 rfl
theorem dX12_keepAct_1 : decode cX12_keepAct 1 = .ok (.getfield 9, 3) := dk180 (k := 1) bX12_keepAct_0 rfl rfl
theorem dX12_keepAct_4 : decode cX12_keepAct 4 = .ok (.bipush 75, 2) := dk16 (k := 4) bX12_keepAct_0 rfl (by decide)
theorem dX12_keepAct_6 : decode cX12_keepAct 6 = .ok (.aload_n 0, 1) := dk42 (k := 6) bX12_keepAct_0 rfl
theorem dX12_keepAct_7 : decode cX12_keepAct 7 = .ok (.getfield 9, 3) := dk180 (k := 7) bX12_keepAct_0 rfl rfl
theorem dX12_keepAct_10 : decode cX12_keepAct 10 = .ok (.bipush 8, 2) := dk16 (k := 10) bX12_keepAct_0 rfl (by decide)
theorem dX12_keepAct_12 : decode cX12_keepAct 12 = .ok (.iaload, 1) := dk46 (k := 12) bX12_keepAct_0 rfl
theorem dX12_keepAct_13 : decode cX12_keepAct 13 = .ok (.iadd, 1) := dk96 (k := 13) bX12_keepAct_0 rfl
theorem dX12_keepAct_14 : decode cX12_keepAct 14 = .ok (.iload_n 1, 1) := dk27 (k := 14) bX12_keepAct_0 rfl
theorem dX12_keepAct_15 : decode cX12_keepAct 15 = .ok (.iastore, 1) := dk79 (k := 15) bX12_keepAct_0 rfl
theorem dX12_keepAct_16 : decode cX12_keepAct 16 = .ok (.aload_n 0, 1) := dk42 (k := 16) bX12_keepAct_0 rfl
theorem dX12_keepAct_17 : decode cX12_keepAct 17 = .ok (.getfield 9, 3) := dk180 (k := 17) bX12_keepAct_0 rfl rfl
theorem dX12_keepAct_20 : decode cX12_keepAct 20 = .ok (.bipush 8, 2) := dk16 (k := 20) bX12_keepAct_0 rfl (by decide)
theorem dX12_keepAct_22 : decode cX12_keepAct 22 = .ok (.dup2, 1) := dk92 (k := 22) bX12_keepAct_0 rfl
theorem dX12_keepAct_23 : decode cX12_keepAct 23 = .ok (.iaload, 1) := dk46 (k := 23) bX12_keepAct_0 rfl
theorem bX12_keepAct_24 : bL cX12_keepAct 24 [4, 96, 79, 177] := bL_of (by decide +kernel)
theorem dX12_keepAct_24 : decode cX12_keepAct 24 = .ok (.iconst 1, 1) := dk4 (k := 0) bX12_keepAct_24 rfl
theorem dX12_keepAct_25 : decode cX12_keepAct 25 = .ok (.iadd, 1) := dk96 (k := 1) bX12_keepAct_24 rfl
theorem dX12_keepAct_26 : decode cX12_keepAct 26 = .ok (.iastore, 1) := dk79 (k := 2) bX12_keepAct_24 rfl
theorem dX12_keepAct_27 : decode cX12_keepAct 27 = .ok (.return_, 1) := dk177 (k := 3) bX12_keepAct_24 rfl
theorem bX12_take_0 : bL cX12_take 0 [42, 182, 0, 73, 154, 0, 6, 16, 254, 172, 42, 182, 0, 240, 42, 182, 0, 200, 60, 42, 180, 0, 34, 27] := bL_of (by decide +kernel)
theorem dX12_take_0 : decode cX12_take 0 = .ok (.aload_n 0, 1) := dk42 (k := 0) bX12_take_0 rfl
theorem dX12_take_1 : decode cX12_take 1 = .ok (.invokevirtual 73, 3) := dk182 (k := 1) bX12_take_0 rfl rfl
theorem dX12_take_4 : decode cX12_take 4 = .ok (.ifCond .ne 6, 3) := dk154 (k := 4) bX12_take_0 rfl (by decide)
theorem dX12_take_7 : decode cX12_take 7 = .ok (.bipush (-2), 2) := dk16 (k := 7) bX12_take_0 rfl (by decide)
theorem dX12_take_9 : decode cX12_take 9 = .ok (.ireturn, 1) := dk172 (k := 9) bX12_take_0 rfl
theorem dX12_take_10 : decode cX12_take 10 = .ok (.aload_n 0, 1) := dk42 (k := 10) bX12_take_0 rfl
theorem dX12_take_11 : decode cX12_take 11 = .ok (.invokevirtual 240, 3) := dk182 (k := 11) bX12_take_0 rfl rfl
theorem dX12_take_14 : decode cX12_take 14 = .ok (.aload_n 0, 1) := dk42 (k := 14) bX12_take_0 rfl
theorem dX12_take_15 : decode cX12_take 15 = .ok (.invokevirtual 200, 3) := dk182 (k := 15) bX12_take_0 rfl rfl
theorem dX12_take_18 : decode cX12_take 18 = .ok (.istore_n 1, 1) := dk60 (k := 18) bX12_take_0 rfl
theorem dX12_take_19 : decode cX12_take 19 = .ok (.aload_n 0, 1) := dk42 (k := 19) bX12_take_0 rfl
theorem dX12_take_20 : decode cX12_take 20 = .ok (.getfield 34, 3) := dk180 (k := 20) bX12_take_0 rfl rfl
theorem dX12_take_23 : decode cX12_take 23 = .ok (.iload_n 1, 1) := dk27 (k := 23) bX12_take_0 rfl
theorem bX12_take_24 : bL cX12_take 24 [46, 153, 0, 15, 42, 180, 0, 9, 16, 8, 46, 16, 60, 160, 0, 6, 16, 251, 172, 42, 3, 182, 0, 254] := bL_of (by decide +kernel)
theorem dX12_take_24 : decode cX12_take 24 = .ok (.iaload, 1) := dk46 (k := 0) bX12_take_24 rfl
theorem dX12_take_25 : decode cX12_take 25 = .ok (.ifCond .eq 15, 3) := dk153 (k := 1) bX12_take_24 rfl (by decide)
theorem dX12_take_28 : decode cX12_take 28 = .ok (.aload_n 0, 1) := dk42 (k := 4) bX12_take_24 rfl
theorem dX12_take_29 : decode cX12_take 29 = .ok (.getfield 9, 3) := dk180 (k := 5) bX12_take_24 rfl rfl
theorem dX12_take_32 : decode cX12_take 32 = .ok (.bipush 8, 2) := dk16 (k := 8) bX12_take_24 rfl (by decide)
theorem dX12_take_34 : decode cX12_take 34 = .ok (.iaload, 1) := dk46 (k := 10) bX12_take_24 rfl
theorem dX12_take_35 : decode cX12_take 35 = .ok (.bipush 60, 2) := dk16 (k := 11) bX12_take_24 rfl (by decide)
theorem dX12_take_37 : decode cX12_take 37 = .ok (.if_icmp .ne 6, 3) := dk160 (k := 13) bX12_take_24 rfl (by decide)
theorem dX12_take_40 : decode cX12_take 40 = .ok (.bipush (-5), 2) := dk16 (k := 16) bX12_take_24 rfl (by decide)
theorem dX12_take_42 : decode cX12_take 42 = .ok (.ireturn, 1) := dk172 (k := 18) bX12_take_24 rfl
theorem dX12_take_43 : decode cX12_take 43 = .ok (.aload_n 0, 1) := dk42 (k := 19) bX12_take_24 rfl
theorem dX12_take_44 : decode cX12_take 44 = .ok (.iconst 0, 1) := dk3 (k := 20) bX12_take_24 rfl
theorem dX12_take_45 : decode cX12_take 45 = .ok (.invokevirtual 254, 3) := dk182 (k := 21) bX12_take_24 rfl rfl
theorem bX12_take_48 : bL cX12_take 48 [27, 172] := bL_of (by decide +kernel)
theorem dX12_take_48 : decode cX12_take 48 = .ok (.iload_n 1, 1) := dk27 (k := 0) bX12_take_48 rfl
theorem dX12_take_49 : decode cX12_take 49 = .ok (.ireturn, 1) := dk172 (k := 1) bX12_take_48 rfl
theorem bX12_heap_0 : bL cX12_heap 0 [42, 27, 133, 182, 0, 203, 154, 0, 6, 16, 254, 172, 42, 182, 0, 240, 42, 27, 182, 0, 211, 61, 28, 2] := bL_of (by decide +kernel)
theorem dX12_heap_0 : decode cX12_heap 0 = .ok (.aload_n 0, 1) := dk42 (k := 0) bX12_heap_0 rfl
theorem dX12_heap_1 : decode cX12_heap 1 = .ok (.iload_n 1, 1) := dk27 (k := 1) bX12_heap_0 rfl
theorem dX12_heap_2 : decode cX12_heap 2 = .ok (.i2l, 1) := dk133 (k := 2) bX12_heap_0 rfl
theorem dX12_heap_3 : decode cX12_heap 3 = .ok (.invokevirtual 203, 3) := dk182 (k := 3) bX12_heap_0 rfl rfl
theorem dX12_heap_6 : decode cX12_heap 6 = .ok (.ifCond .ne 6, 3) := dk154 (k := 6) bX12_heap_0 rfl (by decide)
theorem dX12_heap_9 : decode cX12_heap 9 = .ok (.bipush (-2), 2) := dk16 (k := 9) bX12_heap_0 rfl (by decide)
theorem dX12_heap_11 : decode cX12_heap 11 = .ok (.ireturn, 1) := dk172 (k := 11) bX12_heap_0 rfl
theorem dX12_heap_12 : decode cX12_heap 12 = .ok (.aload_n 0, 1) := dk42 (k := 12) bX12_heap_0 rfl
theorem dX12_heap_13 : decode cX12_heap 13 = .ok (.invokevirtual 240, 3) := dk182 (k := 13) bX12_heap_0 rfl rfl
theorem dX12_heap_16 : decode cX12_heap 16 = .ok (.aload_n 0, 1) := dk42 (k := 16) bX12_heap_0 rfl
theorem dX12_heap_17 : decode cX12_heap 17 = .ok (.iload_n 1, 1) := dk27 (k := 17) bX12_heap_0 rfl
theorem dX12_heap_18 : decode cX12_heap 18 = .ok (.invokevirtual 211, 3) := dk182 (k := 18) bX12_heap_0 rfl rfl
theorem dX12_heap_21 : decode cX12_heap 21 = .ok (.istore_n 2, 1) := dk61 (k := 21) bX12_heap_0 rfl
theorem dX12_heap_22 : decode cX12_heap 22 = .ok (.iload_n 2, 1) := dk28 (k := 22) bX12_heap_0 rfl
theorem dX12_heap_23 : decode cX12_heap 23 = .ok (.iconst (-1), 1) := dk2 (k := 23) bX12_heap_0 rfl
theorem bX12_heap_24 : bL cX12_heap 24 [159, 0, 15, 42, 180, 0, 9, 16, 8, 46, 16, 60, 160, 0, 6, 16, 251, 172, 42, 4, 27, 96, 182, 0, 254] := bL_of (by decide +kernel)
theorem dX12_heap_24 : decode cX12_heap 24 = .ok (.if_icmp .eq 15, 3) := dk159 (k := 0) bX12_heap_24 rfl (by decide)
theorem dX12_heap_27 : decode cX12_heap 27 = .ok (.aload_n 0, 1) := dk42 (k := 3) bX12_heap_24 rfl
theorem dX12_heap_28 : decode cX12_heap 28 = .ok (.getfield 9, 3) := dk180 (k := 4) bX12_heap_24 rfl rfl
theorem dX12_heap_31 : decode cX12_heap 31 = .ok (.bipush 8, 2) := dk16 (k := 7) bX12_heap_24 rfl (by decide)
theorem dX12_heap_33 : decode cX12_heap 33 = .ok (.iaload, 1) := dk46 (k := 9) bX12_heap_24 rfl
theorem dX12_heap_34 : decode cX12_heap 34 = .ok (.bipush 60, 2) := dk16 (k := 10) bX12_heap_24 rfl (by decide)
theorem dX12_heap_36 : decode cX12_heap 36 = .ok (.if_icmp .ne 6, 3) := dk160 (k := 12) bX12_heap_24 rfl (by decide)
theorem dX12_heap_39 : decode cX12_heap 39 = .ok (.bipush (-5), 2) := dk16 (k := 15) bX12_heap_24 rfl (by decide)
theorem dX12_heap_41 : decode cX12_heap 41 = .ok (.ireturn, 1) := dk172 (k := 17) bX12_heap_24 rfl
theorem dX12_heap_42 : decode cX12_heap 42 = .ok (.aload_n 0, 1) := dk42 (k := 18) bX12_heap_24 rfl
theorem dX12_heap_43 : decode cX12_heap 43 = .ok (.iconst 1, 1) := dk4 (k := 19) bX12_heap_24 rfl
theorem dX12_heap_44 : decode cX12_heap 44 = .ok (.iload_n 1, 1) := dk27 (k := 20) bX12_heap_24 rfl
theorem dX12_heap_45 : decode cX12_heap 45 = .ok (.iadd, 1) := dk96 (k := 21) bX12_heap_24 rfl
theorem dX12_heap_46 : decode cX12_heap 46 = .ok (.invokevirtual 254, 3) := dk182 (k := 22) bX12_heap_24 rfl rfl
theorem bX12_heap_49 : bL cX12_heap 49 [28, 172] := bL_of (by decide +kernel)
theorem dX12_heap_49 : decode cX12_heap 49 = .ok (.iload_n 2, 1) := dk28 (k := 0) bX12_heap_49 rfl
theorem dX12_heap_50 : decode cX12_heap 50 = .ok (.ireturn, 1) := dk172 (k := 1) bX12_heap_49 rfl
theorem bX12_slides_0 : bL cX12_slides 0 [42, 27, 133, 182, 0, 203, 154, 0, 6, 16, 254, 172, 42, 182, 0, 240, 42, 27, 182, 0, 211, 172] := bL_of (by decide +kernel)
theorem dX12_slides_0 : decode cX12_slides 0 = .ok (.aload_n 0, 1) := dk42 (k := 0) bX12_slides_0 rfl
theorem dX12_slides_1 : decode cX12_slides 1 = .ok (.iload_n 1, 1) := dk27 (k := 1) bX12_slides_0 rfl
theorem dX12_slides_2 : decode cX12_slides 2 = .ok (.i2l, 1) := dk133 (k := 2) bX12_slides_0 rfl
theorem dX12_slides_3 : decode cX12_slides 3 = .ok (.invokevirtual 203, 3) := dk182 (k := 3) bX12_slides_0 rfl rfl
theorem dX12_slides_6 : decode cX12_slides 6 = .ok (.ifCond .ne 6, 3) := dk154 (k := 6) bX12_slides_0 rfl (by decide)
theorem dX12_slides_9 : decode cX12_slides 9 = .ok (.bipush (-2), 2) := dk16 (k := 9) bX12_slides_0 rfl (by decide)
theorem dX12_slides_11 : decode cX12_slides 11 = .ok (.ireturn, 1) := dk172 (k := 11) bX12_slides_0 rfl
theorem dX12_slides_12 : decode cX12_slides 12 = .ok (.aload_n 0, 1) := dk42 (k := 12) bX12_slides_0 rfl
theorem dX12_slides_13 : decode cX12_slides 13 = .ok (.invokevirtual 240, 3) := dk182 (k := 13) bX12_slides_0 rfl rfl
theorem dX12_slides_16 : decode cX12_slides 16 = .ok (.aload_n 0, 1) := dk42 (k := 16) bX12_slides_0 rfl
theorem dX12_slides_17 : decode cX12_slides 17 = .ok (.iload_n 1, 1) := dk27 (k := 17) bX12_slides_0 rfl
theorem dX12_slides_18 : decode cX12_slides 18 = .ok (.invokevirtual 211, 3) := dk182 (k := 18) bX12_slides_0 rfl rfl
theorem dX12_slides_21 : decode cX12_slides 21 = .ok (.ireturn, 1) := dk172 (k := 21) bX12_slides_0 rfl
theorem bX12_undo_0 : bL cX12_undo 0 [42, 182, 0, 73, 154, 0, 6, 16, 254, 172, 42, 180, 0, 9, 16, 8, 46, 154, 0, 6, 16, 251, 172, 42] := bL_of (by decide +kernel)
theorem dX12_undo_0 : decode cX12_undo 0 = .ok (.aload_n 0, 1) := dk42 (k := 0) bX12_undo_0 rfl
theorem dX12_undo_1 : decode cX12_undo 1 = .ok (.invokevirtual 73, 3) := dk182 (k := 1) bX12_undo_0 rfl rfl
theorem dX12_undo_4 : decode cX12_undo 4 = .ok (.ifCond .ne 6, 3) := dk154 (k := 4) bX12_undo_0 rfl (by decide)
theorem dX12_undo_7 : decode cX12_undo 7 = .ok (.bipush (-2), 2) := dk16 (k := 7) bX12_undo_0 rfl (by decide)
theorem dX12_undo_9 : decode cX12_undo 9 = .ok (.ireturn, 1) := dk172 (k := 9) bX12_undo_0 rfl
theorem dX12_undo_10 : decode cX12_undo 10 = .ok (.aload_n 0, 1) := dk42 (k := 10) bX12_undo_0 rfl
theorem dX12_undo_11 : decode cX12_undo 11 = .ok (.getfield 9, 3) := dk180 (k := 11) bX12_undo_0 rfl rfl
theorem dX12_undo_14 : decode cX12_undo 14 = .ok (.bipush 8, 2) := dk16 (k := 14) bX12_undo_0 rfl (by decide)
theorem dX12_undo_16 : decode cX12_undo 16 = .ok (.iaload, 1) := dk46 (k := 16) bX12_undo_0 rfl
theorem dX12_undo_17 : decode cX12_undo 17 = .ok (.ifCond .ne 6, 3) := dk154 (k := 17) bX12_undo_0 rfl (by decide)
theorem dX12_undo_20 : decode cX12_undo 20 = .ok (.bipush (-5), 2) := dk16 (k := 20) bX12_undo_0 rfl (by decide)
theorem dX12_undo_22 : decode cX12_undo 22 = .ok (.ireturn, 1) := dk172 (k := 22) bX12_undo_0 rfl
theorem dX12_undo_23 : decode cX12_undo 23 = .ok (.aload_n 0, 1) := dk42 (k := 23) bX12_undo_0 rfl
theorem bX12_undo_24 : bL cX12_undo 24 [180, 0, 9, 16, 8, 92, 46, 4, 100, 79, 42, 180, 0, 9, 16, 8, 46, 172] := bL_of (by decide +kernel)
theorem dX12_undo_24 : decode cX12_undo 24 = .ok (.getfield 9, 3) := dk180 (k := 0) bX12_undo_24 rfl rfl
theorem dX12_undo_27 : decode cX12_undo 27 = .ok (.bipush 8, 2) := dk16 (k := 3) bX12_undo_24 rfl (by decide)
theorem dX12_undo_29 : decode cX12_undo 29 = .ok (.dup2, 1) := dk92 (k := 5) bX12_undo_24 rfl
theorem dX12_undo_30 : decode cX12_undo 30 = .ok (.iaload, 1) := dk46 (k := 6) bX12_undo_24 rfl
theorem dX12_undo_31 : decode cX12_undo 31 = .ok (.iconst 1, 1) := dk4 (k := 7) bX12_undo_24 rfl
theorem dX12_undo_32 : decode cX12_undo 32 = .ok (.isub, 1) := dk100 (k := 8) bX12_undo_24 rfl
theorem dX12_undo_33 : decode cX12_undo 33 = .ok (.iastore, 1) := dk79 (k := 9) bX12_undo_24 rfl
theorem dX12_undo_34 : decode cX12_undo 34 = .ok (.aload_n 0, 1) := dk42 (k := 10) bX12_undo_24 rfl
theorem dX12_undo_35 : decode cX12_undo 35 = .ok (.getfield 9, 3) := dk180 (k := 11) bX12_undo_24 rfl rfl
theorem dX12_undo_38 : decode cX12_undo 38 = .ok (.bipush 8, 2) := dk16 (k := 14) bX12_undo_24 rfl (by decide)
theorem dX12_undo_40 : decode cX12_undo 40 = .ok (.iaload, 1) := dk46 (k := 16) bX12_undo_24 rfl
theorem dX12_undo_41 : decode cX12_undo 41 = .ok (.ireturn, 1) := dk172 (k := 17) bX12_undo_24 rfl
theorem bX12_anew_0 : bL cX12_anew 0 [42, 182, 0, 73, 154, 0, 6, 16, 254, 172, 42, 180, 0, 9, 16, 8, 46, 60, 42, 180, 0, 9, 16, 8] := bL_of (by decide +kernel)
theorem dX12_anew_0 : decode cX12_anew 0 = .ok (.aload_n 0, 1) := dk42 (k := 0) bX12_anew_0 rfl
theorem dX12_anew_1 : decode cX12_anew 1 = .ok (.invokevirtual 73, 3) := dk182 (k := 1) bX12_anew_0 rfl rfl
theorem dX12_anew_4 : decode cX12_anew 4 = .ok (.ifCond .ne 6, 3) := dk154 (k := 4) bX12_anew_0 rfl (by decide)
theorem dX12_anew_7 : decode cX12_anew 7 = .ok (.bipush (-2), 2) := dk16 (k := 7) bX12_anew_0 rfl (by decide)
theorem dX12_anew_9 : decode cX12_anew 9 = .ok (.ireturn, 1) := dk172 (k := 9) bX12_anew_0 rfl
theorem dX12_anew_10 : decode cX12_anew 10 = .ok (.aload_n 0, 1) := dk42 (k := 10) bX12_anew_0 rfl
theorem dX12_anew_11 : decode cX12_anew 11 = .ok (.getfield 9, 3) := dk180 (k := 11) bX12_anew_0 rfl rfl
theorem dX12_anew_14 : decode cX12_anew 14 = .ok (.bipush 8, 2) := dk16 (k := 14) bX12_anew_0 rfl (by decide)
theorem dX12_anew_16 : decode cX12_anew 16 = .ok (.iaload, 1) := dk46 (k := 16) bX12_anew_0 rfl
theorem dX12_anew_17 : decode cX12_anew 17 = .ok (.istore_n 1, 1) := dk60 (k := 17) bX12_anew_0 rfl
theorem dX12_anew_18 : decode cX12_anew 18 = .ok (.aload_n 0, 1) := dk42 (k := 18) bX12_anew_0 rfl
theorem dX12_anew_19 : decode cX12_anew 19 = .ok (.getfield 9, 3) := dk180 (k := 19) bX12_anew_0 rfl rfl
theorem dX12_anew_22 : decode cX12_anew 22 = .ok (.bipush 8, 2) := dk16 (k := 22) bX12_anew_0 rfl (by decide)
theorem bX12_anew_24 : bL cX12_anew 24 [3, 79, 27, 172] := bL_of (by decide +kernel)
theorem dX12_anew_24 : decode cX12_anew 24 = .ok (.iconst 0, 1) := dk3 (k := 0) bX12_anew_24 rfl
theorem dX12_anew_25 : decode cX12_anew 25 = .ok (.iastore, 1) := dk79 (k := 1) bX12_anew_24 rfl
theorem dX12_anew_26 : decode cX12_anew 26 = .ok (.iload_n 1, 1) := dk27 (k := 2) bX12_anew_24 rfl
theorem dX12_anew_27 : decode cX12_anew 27 = .ok (.ireturn, 1) := dk172 (k := 3) bX12_anew_24 rfl
theorem bX12_willingSet_0 : bL cX12_willingSet 0 [3, 60, 42, 182, 0, 200, 61, 42, 180, 0, 34, 28, 46, 154, 0, 5, 3, 172, 3, 62, 29, 42, 180, 0, 9] := bL_of (by decide +kernel)
theorem dX12_willingSet_0 : decode cX12_willingSet 0 = .ok (.iconst 0, 1) := dk3 (k := 0) bX12_willingSet_0 rfl
theorem dX12_willingSet_1 : decode cX12_willingSet 1 = .ok (.istore_n 1, 1) := dk60 (k := 1) bX12_willingSet_0 rfl
theorem dX12_willingSet_2 : decode cX12_willingSet 2 = .ok (.aload_n 0, 1) := dk42 (k := 2) bX12_willingSet_0 rfl
theorem dX12_willingSet_3 : decode cX12_willingSet 3 = .ok (.invokevirtual 200, 3) := dk182 (k := 3) bX12_willingSet_0 rfl rfl
theorem dX12_willingSet_6 : decode cX12_willingSet 6 = .ok (.istore_n 2, 1) := dk61 (k := 6) bX12_willingSet_0 rfl
theorem dX12_willingSet_7 : decode cX12_willingSet 7 = .ok (.aload_n 0, 1) := dk42 (k := 7) bX12_willingSet_0 rfl
theorem dX12_willingSet_8 : decode cX12_willingSet 8 = .ok (.getfield 34, 3) := dk180 (k := 8) bX12_willingSet_0 rfl rfl
theorem dX12_willingSet_11 : decode cX12_willingSet 11 = .ok (.iload_n 2, 1) := dk28 (k := 11) bX12_willingSet_0 rfl
theorem dX12_willingSet_12 : decode cX12_willingSet 12 = .ok (.iaload, 1) := dk46 (k := 12) bX12_willingSet_0 rfl
theorem dX12_willingSet_13 : decode cX12_willingSet 13 = .ok (.ifCond .ne 5, 3) := dk154 (k := 13) bX12_willingSet_0 rfl (by decide)
theorem dX12_willingSet_16 : decode cX12_willingSet 16 = .ok (.iconst 0, 1) := dk3 (k := 16) bX12_willingSet_0 rfl
theorem dX12_willingSet_17 : decode cX12_willingSet 17 = .ok (.ireturn, 1) := dk172 (k := 17) bX12_willingSet_0 rfl
theorem dX12_willingSet_18 : decode cX12_willingSet 18 = .ok (.iconst 0, 1) := dk3 (k := 18) bX12_willingSet_0 rfl
theorem dX12_willingSet_19 : decode cX12_willingSet 19 = .ok (.istore_n 3, 1) := dk62 (k := 19) bX12_willingSet_0 rfl
theorem dX12_willingSet_20 : decode cX12_willingSet 20 = .ok (.iload_n 3, 1) := dk29 (k := 20) bX12_willingSet_0 rfl
theorem dX12_willingSet_21 : decode cX12_willingSet 21 = .ok (.aload_n 0, 1) := dk42 (k := 21) bX12_willingSet_0 rfl
theorem dX12_willingSet_22 : decode cX12_willingSet 22 = .ok (.getfield 9, 3) := dk180 (k := 22) bX12_willingSet_0 rfl rfl
theorem bX12_willingSet_25 : bL cX12_willingSet 25 [16, 6, 46, 162, 0, 56, 42, 29, 182, 0, 232, 54, 4, 42, 180, 0, 34, 28, 92, 46, 4, 100, 79, 27] := bL_of (by decide +kernel)
theorem dX12_willingSet_25 : decode cX12_willingSet 25 = .ok (.bipush 6, 2) := dk16 (k := 0) bX12_willingSet_25 rfl (by decide)
theorem dX12_willingSet_27 : decode cX12_willingSet 27 = .ok (.iaload, 1) := dk46 (k := 2) bX12_willingSet_25 rfl
theorem dX12_willingSet_28 : decode cX12_willingSet 28 = .ok (.if_icmp .ge 56, 3) := dk162 (k := 3) bX12_willingSet_25 rfl (by decide)
theorem dX12_willingSet_31 : decode cX12_willingSet 31 = .ok (.aload_n 0, 1) := dk42 (k := 6) bX12_willingSet_25 rfl
theorem dX12_willingSet_32 : decode cX12_willingSet 32 = .ok (.iload_n 3, 1) := dk29 (k := 7) bX12_willingSet_25 rfl
theorem dX12_willingSet_33 : decode cX12_willingSet 33 = .ok (.invokevirtual 232, 3) := dk182 (k := 8) bX12_willingSet_25 rfl rfl
theorem dX12_willingSet_36 : decode cX12_willingSet 36 = .ok (.istore 4, 2) := dk54 (k := 11) bX12_willingSet_25 rfl rfl
theorem dX12_willingSet_38 : decode cX12_willingSet 38 = .ok (.aload_n 0, 1) := dk42 (k := 13) bX12_willingSet_25 rfl
theorem dX12_willingSet_39 : decode cX12_willingSet 39 = .ok (.getfield 34, 3) := dk180 (k := 14) bX12_willingSet_25 rfl rfl
theorem dX12_willingSet_42 : decode cX12_willingSet 42 = .ok (.iload_n 2, 1) := dk28 (k := 17) bX12_willingSet_25 rfl
theorem dX12_willingSet_43 : decode cX12_willingSet 43 = .ok (.dup2, 1) := dk92 (k := 18) bX12_willingSet_25 rfl
theorem dX12_willingSet_44 : decode cX12_willingSet 44 = .ok (.iaload, 1) := dk46 (k := 19) bX12_willingSet_25 rfl
theorem dX12_willingSet_45 : decode cX12_willingSet 45 = .ok (.iconst 1, 1) := dk4 (k := 20) bX12_willingSet_25 rfl
theorem dX12_willingSet_46 : decode cX12_willingSet 46 = .ok (.isub, 1) := dk100 (k := 21) bX12_willingSet_25 rfl
theorem dX12_willingSet_47 : decode cX12_willingSet 47 = .ok (.iastore, 1) := dk79 (k := 22) bX12_willingSet_25 rfl
theorem dX12_willingSet_48 : decode cX12_willingSet 48 = .ok (.iload_n 1, 1) := dk27 (k := 23) bX12_willingSet_25 rfl
theorem bX12_willingSet_49 : bL cX12_willingSet 49 [42, 29, 182, 0, 232, 21, 4, 164, 0, 9, 4, 29, 120, 167, 0, 4, 3, 128, 60, 42, 180, 0, 34, 28] := bL_of (by decide +kernel)
theorem dX12_willingSet_49 : decode cX12_willingSet 49 = .ok (.aload_n 0, 1) := dk42 (k := 0) bX12_willingSet_49 rfl
theorem dX12_willingSet_50 : decode cX12_willingSet 50 = .ok (.iload_n 3, 1) := dk29 (k := 1) bX12_willingSet_49 rfl
theorem dX12_willingSet_51 : decode cX12_willingSet 51 = .ok (.invokevirtual 232, 3) := dk182 (k := 2) bX12_willingSet_49 rfl rfl
theorem dX12_willingSet_54 : decode cX12_willingSet 54 = .ok (.iload 4, 2) := dk21 (k := 5) bX12_willingSet_49 rfl rfl
theorem dX12_willingSet_56 : decode cX12_willingSet 56 = .ok (.if_icmp .le 9, 3) := dk164 (k := 7) bX12_willingSet_49 rfl (by decide)
theorem dX12_willingSet_59 : decode cX12_willingSet 59 = .ok (.iconst 1, 1) := dk4 (k := 10) bX12_willingSet_49 rfl
theorem dX12_willingSet_60 : decode cX12_willingSet 60 = .ok (.iload_n 3, 1) := dk29 (k := 11) bX12_willingSet_49 rfl
theorem dX12_willingSet_61 : decode cX12_willingSet 61 = .ok (.ishl, 1) := dk120 (k := 12) bX12_willingSet_49 rfl
theorem dX12_willingSet_62 : decode cX12_willingSet 62 = .ok (.goto 4, 3) := dk167 (k := 13) bX12_willingSet_49 rfl (by decide)
theorem dX12_willingSet_65 : decode cX12_willingSet 65 = .ok (.iconst 0, 1) := dk3 (k := 16) bX12_willingSet_49 rfl
theorem dX12_willingSet_66 : decode cX12_willingSet 66 = .ok (.ior, 1) := dk128 (k := 17) bX12_willingSet_49 rfl
theorem dX12_willingSet_67 : decode cX12_willingSet 67 = .ok (.istore_n 1, 1) := dk60 (k := 18) bX12_willingSet_49 rfl
theorem dX12_willingSet_68 : decode cX12_willingSet 68 = .ok (.aload_n 0, 1) := dk42 (k := 19) bX12_willingSet_49 rfl
theorem dX12_willingSet_69 : decode cX12_willingSet 69 = .ok (.getfield 34, 3) := dk180 (k := 20) bX12_willingSet_49 rfl rfl
theorem dX12_willingSet_72 : decode cX12_willingSet 72 = .ok (.iload_n 2, 1) := dk28 (k := 23) bX12_willingSet_49 rfl
theorem bX12_willingSet_73 : bL cX12_willingSet 73 [92, 46, 4, 96, 79, 132, 3, 1, 167, 255, 195, 27, 172] := bL_of (by decide +kernel)
theorem dX12_willingSet_73 : decode cX12_willingSet 73 = .ok (.dup2, 1) := dk92 (k := 0) bX12_willingSet_73 rfl
theorem dX12_willingSet_74 : decode cX12_willingSet 74 = .ok (.iaload, 1) := dk46 (k := 1) bX12_willingSet_73 rfl
theorem dX12_willingSet_75 : decode cX12_willingSet 75 = .ok (.iconst 1, 1) := dk4 (k := 2) bX12_willingSet_73 rfl
theorem dX12_willingSet_76 : decode cX12_willingSet 76 = .ok (.iadd, 1) := dk96 (k := 3) bX12_willingSet_73 rfl
theorem dX12_willingSet_77 : decode cX12_willingSet 77 = .ok (.iastore, 1) := dk79 (k := 4) bX12_willingSet_73 rfl
theorem dX12_willingSet_78 : decode cX12_willingSet 78 = .ok (.iinc 3 1, 3) := dk132 (k := 5) bX12_willingSet_73 rfl rfl (by decide)
theorem dX12_willingSet_81 : decode cX12_willingSet 81 = .ok (.goto (-61), 3) := dk167 (k := 8) bX12_willingSet_73 rfl (by decide)
theorem dX12_willingSet_84 : decode cX12_willingSet 84 = .ok (.iload_n 1, 1) := dk27 (k := 11) bX12_willingSet_73 rfl
theorem dX12_willingSet_85 : decode cX12_willingSet 85 = .ok (.ireturn, 1) := dk172 (k := 12) bX12_willingSet_73 rfl
theorem bX12_signing_0 : bL cX12_signing 0 [27, 28, 2, 130, 126, 62, 4, 54, 4, 21, 4, 153, 0, 88, 3, 54, 4, 3, 54, 5, 21, 5, 42, 180, 0, 9] := bL_of (by decide +kernel)
theorem dX12_signing_0 : decode cX12_signing 0 = .ok (.iload_n 1, 1) := dk27 (k := 0) bX12_signing_0 rfl
theorem dX12_signing_1 : decode cX12_signing 1 = .ok (.iload_n 2, 1) := dk28 (k := 1) bX12_signing_0 rfl
theorem dX12_signing_2 : decode cX12_signing 2 = .ok (.iconst (-1), 1) := dk2 (k := 2) bX12_signing_0 rfl
theorem dX12_signing_3 : decode cX12_signing 3 = .ok (.ixor, 1) := dk130 (k := 3) bX12_signing_0 rfl
theorem dX12_signing_4 : decode cX12_signing 4 = .ok (.iand, 1) := dk126 (k := 4) bX12_signing_0 rfl
theorem dX12_signing_5 : decode cX12_signing 5 = .ok (.istore_n 3, 1) := dk62 (k := 5) bX12_signing_0 rfl
theorem dX12_signing_6 : decode cX12_signing 6 = .ok (.iconst 1, 1) := dk4 (k := 6) bX12_signing_0 rfl
theorem dX12_signing_7 : decode cX12_signing 7 = .ok (.istore 4, 2) := dk54 (k := 7) bX12_signing_0 rfl rfl
theorem dX12_signing_9 : decode cX12_signing 9 = .ok (.iload 4, 2) := dk21 (k := 9) bX12_signing_0 rfl rfl
theorem dX12_signing_11 : decode cX12_signing 11 = .ok (.ifCond .eq 88, 3) := dk153 (k := 11) bX12_signing_0 rfl (by decide)
theorem dX12_signing_14 : decode cX12_signing 14 = .ok (.iconst 0, 1) := dk3 (k := 14) bX12_signing_0 rfl
theorem dX12_signing_15 : decode cX12_signing 15 = .ok (.istore 4, 2) := dk54 (k := 15) bX12_signing_0 rfl rfl
theorem dX12_signing_17 : decode cX12_signing 17 = .ok (.iconst 0, 1) := dk3 (k := 17) bX12_signing_0 rfl
theorem dX12_signing_18 : decode cX12_signing 18 = .ok (.istore 5, 2) := dk54 (k := 18) bX12_signing_0 rfl rfl
theorem dX12_signing_20 : decode cX12_signing 20 = .ok (.iload 5, 2) := dk21 (k := 20) bX12_signing_0 rfl rfl
theorem dX12_signing_22 : decode cX12_signing 22 = .ok (.aload_n 0, 1) := dk42 (k := 22) bX12_signing_0 rfl
theorem dX12_signing_23 : decode cX12_signing 23 = .ok (.getfield 9, 3) := dk180 (k := 23) bX12_signing_0 rfl rfl
theorem bX12_signing_26 : bL cX12_signing 26 [16, 6, 46, 162, 0, 67, 29, 28, 128, 21, 5, 184, 1, 1, 4, 159, 0, 49, 42, 21, 5, 8, 182, 0, 220] := bL_of (by decide +kernel)
theorem dX12_signing_26 : decode cX12_signing 26 = .ok (.bipush 6, 2) := dk16 (k := 0) bX12_signing_26 rfl (by decide)
theorem dX12_signing_28 : decode cX12_signing 28 = .ok (.iaload, 1) := dk46 (k := 2) bX12_signing_26 rfl
theorem dX12_signing_29 : decode cX12_signing 29 = .ok (.if_icmp .ge 67, 3) := dk162 (k := 3) bX12_signing_26 rfl (by decide)
theorem dX12_signing_32 : decode cX12_signing 32 = .ok (.iload_n 3, 1) := dk29 (k := 6) bX12_signing_26 rfl
theorem dX12_signing_33 : decode cX12_signing 33 = .ok (.iload_n 2, 1) := dk28 (k := 7) bX12_signing_26 rfl
theorem dX12_signing_34 : decode cX12_signing 34 = .ok (.ior, 1) := dk128 (k := 8) bX12_signing_26 rfl
theorem dX12_signing_35 : decode cX12_signing 35 = .ok (.iload 5, 2) := dk21 (k := 9) bX12_signing_26 rfl rfl
theorem dX12_signing_37 : decode cX12_signing 37 = .ok (.invokestatic 257, 3) := dk184 (k := 11) bX12_signing_26 rfl rfl
theorem dX12_signing_40 : decode cX12_signing 40 = .ok (.iconst 1, 1) := dk4 (k := 14) bX12_signing_26 rfl
theorem dX12_signing_41 : decode cX12_signing 41 = .ok (.if_icmp .eq 49, 3) := dk159 (k := 15) bX12_signing_26 rfl (by decide)
theorem dX12_signing_44 : decode cX12_signing 44 = .ok (.aload_n 0, 1) := dk42 (k := 18) bX12_signing_26 rfl
theorem dX12_signing_45 : decode cX12_signing 45 = .ok (.iload 5, 2) := dk21 (k := 19) bX12_signing_26 rfl rfl
theorem dX12_signing_47 : decode cX12_signing 47 = .ok (.iconst 5, 1) := dk8 (k := 21) bX12_signing_26 rfl
theorem dX12_signing_48 : decode cX12_signing 48 = .ok (.invokevirtual 220, 3) := dk182 (k := 22) bX12_signing_26 rfl rfl
theorem bX12_signing_51 : bL cX12_signing 51 [153, 0, 39, 29, 42, 21, 5, 16, 6, 182, 0, 220, 126, 184, 0, 229, 42, 21, 5, 8, 182, 0, 220, 162, 0, 6] := bL_of (by decide +kernel)
theorem dX12_signing_51 : decode cX12_signing 51 = .ok (.ifCond .eq 39, 3) := dk153 (k := 0) bX12_signing_51 rfl (by decide)
theorem dX12_signing_54 : decode cX12_signing 54 = .ok (.iload_n 3, 1) := dk29 (k := 3) bX12_signing_51 rfl
theorem dX12_signing_55 : decode cX12_signing 55 = .ok (.aload_n 0, 1) := dk42 (k := 4) bX12_signing_51 rfl
theorem dX12_signing_56 : decode cX12_signing 56 = .ok (.iload 5, 2) := dk21 (k := 5) bX12_signing_51 rfl rfl
theorem dX12_signing_58 : decode cX12_signing 58 = .ok (.bipush 6, 2) := dk16 (k := 7) bX12_signing_51 rfl (by decide)
theorem dX12_signing_60 : decode cX12_signing 60 = .ok (.invokevirtual 220, 3) := dk182 (k := 9) bX12_signing_51 rfl rfl
theorem dX12_signing_63 : decode cX12_signing 63 = .ok (.iand, 1) := dk126 (k := 12) bX12_signing_51 rfl
theorem dX12_signing_64 : decode cX12_signing 64 = .ok (.invokestatic 229, 3) := dk184 (k := 13) bX12_signing_51 rfl rfl
theorem dX12_signing_67 : decode cX12_signing 67 = .ok (.aload_n 0, 1) := dk42 (k := 16) bX12_signing_51 rfl
theorem dX12_signing_68 : decode cX12_signing 68 = .ok (.iload 5, 2) := dk21 (k := 17) bX12_signing_51 rfl rfl
theorem dX12_signing_70 : decode cX12_signing 70 = .ok (.iconst 5, 1) := dk8 (k := 19) bX12_signing_51 rfl
theorem dX12_signing_71 : decode cX12_signing 71 = .ok (.invokevirtual 220, 3) := dk182 (k := 20) bX12_signing_51 rfl rfl
theorem dX12_signing_74 : decode cX12_signing 74 = .ok (.if_icmp .ge 6, 3) := dk162 (k := 23) bX12_signing_51 rfl (by decide)
theorem bX12_signing_77 : bL cX12_signing 77 [167, 0, 13, 29, 4, 21, 5, 120, 128, 62, 4, 54, 4, 132, 5, 1, 167, 255, 183, 167, 255, 169, 29, 172] := bL_of (by decide +kernel)
theorem dX12_signing_77 : decode cX12_signing 77 = .ok (.goto 13, 3) := dk167 (k := 0) bX12_signing_77 rfl (by decide)
theorem dX12_signing_80 : decode cX12_signing 80 = .ok (.iload_n 3, 1) := dk29 (k := 3) bX12_signing_77 rfl
theorem dX12_signing_81 : decode cX12_signing 81 = .ok (.iconst 1, 1) := dk4 (k := 4) bX12_signing_77 rfl
theorem dX12_signing_82 : decode cX12_signing 82 = .ok (.iload 5, 2) := dk21 (k := 5) bX12_signing_77 rfl rfl
theorem dX12_signing_84 : decode cX12_signing 84 = .ok (.ishl, 1) := dk120 (k := 7) bX12_signing_77 rfl
theorem dX12_signing_85 : decode cX12_signing 85 = .ok (.ior, 1) := dk128 (k := 8) bX12_signing_77 rfl
theorem dX12_signing_86 : decode cX12_signing 86 = .ok (.istore_n 3, 1) := dk62 (k := 9) bX12_signing_77 rfl
theorem dX12_signing_87 : decode cX12_signing 87 = .ok (.iconst 1, 1) := dk4 (k := 10) bX12_signing_77 rfl
theorem dX12_signing_88 : decode cX12_signing 88 = .ok (.istore 4, 2) := dk54 (k := 11) bX12_signing_77 rfl rfl
theorem dX12_signing_90 : decode cX12_signing 90 = .ok (.iinc 5 1, 3) := dk132 (k := 13) bX12_signing_77 rfl rfl (by decide)
theorem dX12_signing_93 : decode cX12_signing 93 = .ok (.goto (-73), 3) := dk167 (k := 16) bX12_signing_77 rfl (by decide)
theorem dX12_signing_96 : decode cX12_signing 96 = .ok (.goto (-87), 3) := dk167 (k := 19) bX12_signing_77 rfl (by decide)
theorem dX12_signing_99 : decode cX12_signing 99 = .ok (.iload_n 3, 1) := dk29 (k := 22) bX12_signing_77 rfl
theorem dX12_signing_100 : decode cX12_signing 100 = .ok (.ireturn, 1) := dk172 (k := 23) bX12_signing_77 rfl
theorem bX12_namesOf_0 : bL cX12_namesOf 0 [3, 61, 3, 62, 29, 42, 180, 0, 9, 16, 6, 46, 162, 0, 24, 28, 27, 29, 184, 1, 1, 42, 29, 4] := bL_of (by decide +kernel)
theorem dX12_namesOf_0 : decode cX12_namesOf 0 = .ok (.iconst 0, 1) := dk3 (k := 0) bX12_namesOf_0 rfl
theorem dX12_namesOf_1 : decode cX12_namesOf 1 = .ok (.istore_n 2, 1) := dk61 (k := 1) bX12_namesOf_0 rfl
theorem dX12_namesOf_2 : decode cX12_namesOf 2 = .ok (.iconst 0, 1) := dk3 (k := 2) bX12_namesOf_0 rfl
theorem dX12_namesOf_3 : decode cX12_namesOf 3 = .ok (.istore_n 3, 1) := dk62 (k := 3) bX12_namesOf_0 rfl
theorem dX12_namesOf_4 : decode cX12_namesOf 4 = .ok (.iload_n 3, 1) := dk29 (k := 4) bX12_namesOf_0 rfl
theorem dX12_namesOf_5 : decode cX12_namesOf 5 = .ok (.aload_n 0, 1) := dk42 (k := 5) bX12_namesOf_0 rfl
theorem dX12_namesOf_6 : decode cX12_namesOf 6 = .ok (.getfield 9, 3) := dk180 (k := 6) bX12_namesOf_0 rfl rfl
theorem dX12_namesOf_9 : decode cX12_namesOf 9 = .ok (.bipush 6, 2) := dk16 (k := 9) bX12_namesOf_0 rfl (by decide)
theorem dX12_namesOf_11 : decode cX12_namesOf 11 = .ok (.iaload, 1) := dk46 (k := 11) bX12_namesOf_0 rfl
theorem dX12_namesOf_12 : decode cX12_namesOf 12 = .ok (.if_icmp .ge 24, 3) := dk162 (k := 12) bX12_namesOf_0 rfl (by decide)
theorem dX12_namesOf_15 : decode cX12_namesOf 15 = .ok (.iload_n 2, 1) := dk28 (k := 15) bX12_namesOf_0 rfl
theorem dX12_namesOf_16 : decode cX12_namesOf 16 = .ok (.iload_n 1, 1) := dk27 (k := 16) bX12_namesOf_0 rfl
theorem dX12_namesOf_17 : decode cX12_namesOf 17 = .ok (.iload_n 3, 1) := dk29 (k := 17) bX12_namesOf_0 rfl
theorem dX12_namesOf_18 : decode cX12_namesOf 18 = .ok (.invokestatic 257, 3) := dk184 (k := 18) bX12_namesOf_0 rfl rfl
theorem dX12_namesOf_21 : decode cX12_namesOf 21 = .ok (.aload_n 0, 1) := dk42 (k := 21) bX12_namesOf_0 rfl
theorem dX12_namesOf_22 : decode cX12_namesOf 22 = .ok (.iload_n 3, 1) := dk29 (k := 22) bX12_namesOf_0 rfl
theorem dX12_namesOf_23 : decode cX12_namesOf 23 = .ok (.iconst 1, 1) := dk4 (k := 23) bX12_namesOf_0 rfl
theorem bX12_namesOf_24 : bL cX12_namesOf 24 [182, 0, 220, 104, 96, 61, 132, 3, 1, 167, 255, 227, 28, 172] := bL_of (by decide +kernel)
theorem dX12_namesOf_24 : decode cX12_namesOf 24 = .ok (.invokevirtual 220, 3) := dk182 (k := 0) bX12_namesOf_24 rfl rfl
theorem dX12_namesOf_27 : decode cX12_namesOf 27 = .ok (.imul, 1) := dk104 (k := 3) bX12_namesOf_24 rfl
theorem dX12_namesOf_28 : decode cX12_namesOf 28 = .ok (.iadd, 1) := dk96 (k := 4) bX12_namesOf_24 rfl
theorem dX12_namesOf_29 : decode cX12_namesOf 29 = .ok (.istore_n 2, 1) := dk61 (k := 5) bX12_namesOf_24 rfl
theorem dX12_namesOf_30 : decode cX12_namesOf 30 = .ok (.iinc 3 1, 3) := dk132 (k := 6) bX12_namesOf_24 rfl rfl (by decide)
theorem dX12_namesOf_33 : decode cX12_namesOf 33 = .ok (.goto (-29), 3) := dk167 (k := 9) bX12_namesOf_24 rfl (by decide)
theorem dX12_namesOf_36 : decode cX12_namesOf 36 = .ok (.iload_n 2, 1) := dk28 (k := 12) bX12_namesOf_24 rfl
theorem dX12_namesOf_37 : decode cX12_namesOf 37 = .ok (.ireturn, 1) := dk172 (k := 13) bX12_namesOf_24 rfl
theorem bX12_isEnough_0 : bL cX12_isEnough 0 [42, 27, 182, 1, 4, 42, 180, 0, 9, 6, 46, 161, 0, 7, 4, 167, 0, 4, 3, 172] := bL_of (by decide +kernel)
theorem dX12_isEnough_0 : decode cX12_isEnough 0 = .ok (.aload_n 0, 1) := dk42 (k := 0) bX12_isEnough_0 rfl
theorem dX12_isEnough_1 : decode cX12_isEnough 1 = .ok (.iload_n 1, 1) := dk27 (k := 1) bX12_isEnough_0 rfl
theorem dX12_isEnough_2 : decode cX12_isEnough 2 = .ok (.invokevirtual 260, 3) := dk182 (k := 2) bX12_isEnough_0 rfl rfl
theorem dX12_isEnough_5 : decode cX12_isEnough 5 = .ok (.aload_n 0, 1) := dk42 (k := 5) bX12_isEnough_0 rfl
theorem dX12_isEnough_6 : decode cX12_isEnough 6 = .ok (.getfield 9, 3) := dk180 (k := 6) bX12_isEnough_0 rfl rfl
theorem dX12_isEnough_9 : decode cX12_isEnough 9 = .ok (.iconst 3, 1) := dk6 (k := 9) bX12_isEnough_0 rfl
theorem dX12_isEnough_10 : decode cX12_isEnough 10 = .ok (.iaload, 1) := dk46 (k := 10) bX12_isEnough_0 rfl
theorem dX12_isEnough_11 : decode cX12_isEnough 11 = .ok (.if_icmp .lt 7, 3) := dk161 (k := 11) bX12_isEnough_0 rfl (by decide)
theorem dX12_isEnough_14 : decode cX12_isEnough 14 = .ok (.iconst 1, 1) := dk4 (k := 14) bX12_isEnough_0 rfl
theorem dX12_isEnough_15 : decode cX12_isEnough 15 = .ok (.goto 4, 3) := dk167 (k := 15) bX12_isEnough_0 rfl (by decide)
theorem dX12_isEnough_18 : decode cX12_isEnough 18 = .ok (.iconst 0, 1) := dk3 (k := 18) bX12_isEnough_0 rfl
theorem dX12_isEnough_19 : decode cX12_isEnough 19 = .ok (.ireturn, 1) := dk172 (k := 19) bX12_isEnough_0 rfl
theorem bX12_willing_0 : bL cX12_willing 0 [42, 182, 0, 73, 154, 0, 6, 16, 254, 172, 42, 182, 0, 240, 42, 182, 1, 7, 172] := bL_of (by decide +kernel)
theorem dX12_willing_0 : decode cX12_willing 0 = .ok (.aload_n 0, 1) := dk42 (k := 0) bX12_willing_0 rfl
theorem dX12_willing_1 : decode cX12_willing 1 = .ok (.invokevirtual 73, 3) := dk182 (k := 1) bX12_willing_0 rfl rfl
theorem dX12_willing_4 : decode cX12_willing 4 = .ok (.ifCond .ne 6, 3) := dk154 (k := 4) bX12_willing_0 rfl (by decide)
theorem dX12_willing_7 : decode cX12_willing 7 = .ok (.bipush (-2), 2) := dk16 (k := 7) bX12_willing_0 rfl (by decide)
theorem dX12_willing_9 : decode cX12_willing 9 = .ok (.ireturn, 1) := dk172 (k := 9) bX12_willing_0 rfl
theorem dX12_willing_10 : decode cX12_willing 10 = .ok (.aload_n 0, 1) := dk42 (k := 10) bX12_willing_0 rfl
theorem dX12_willing_11 : decode cX12_willing 11 = .ok (.invokevirtual 240, 3) := dk182 (k := 11) bX12_willing_0 rfl rfl
theorem dX12_willing_14 : decode cX12_willing 14 = .ok (.aload_n 0, 1) := dk42 (k := 14) bX12_willing_0 rfl
theorem dX12_willing_15 : decode cX12_willing 15 = .ok (.invokevirtual 263, 3) := dk182 (k := 15) bX12_willing_0 rfl rfl
theorem dX12_willing_18 : decode cX12_willing 18 = .ok (.ireturn, 1) := dk172 (k := 18) bX12_willing_0 rfl
theorem bX12_signers_0 : bL cX12_signers 0 [42, 27, 182, 1, 10, 154, 0, 6, 16, 254, 172, 42, 182, 0, 240, 42, 42, 182, 1, 7, 27, 128, 3, 182, 1, 14] := bL_of (by decide +kernel)
theorem dX12_signers_0 : decode cX12_signers 0 = .ok (.aload_n 0, 1) := dk42 (k := 0) bX12_signers_0 rfl
theorem dX12_signers_1 : decode cX12_signers 1 = .ok (.iload_n 1, 1) := dk27 (k := 1) bX12_signers_0 rfl
theorem dX12_signers_2 : decode cX12_signers 2 = .ok (.invokevirtual 266, 3) := dk182 (k := 2) bX12_signers_0 rfl rfl
theorem dX12_signers_5 : decode cX12_signers 5 = .ok (.ifCond .ne 6, 3) := dk154 (k := 5) bX12_signers_0 rfl (by decide)
theorem dX12_signers_8 : decode cX12_signers 8 = .ok (.bipush (-2), 2) := dk16 (k := 8) bX12_signers_0 rfl (by decide)
theorem dX12_signers_10 : decode cX12_signers 10 = .ok (.ireturn, 1) := dk172 (k := 10) bX12_signers_0 rfl
theorem dX12_signers_11 : decode cX12_signers 11 = .ok (.aload_n 0, 1) := dk42 (k := 11) bX12_signers_0 rfl
theorem dX12_signers_12 : decode cX12_signers 12 = .ok (.invokevirtual 240, 3) := dk182 (k := 12) bX12_signers_0 rfl rfl
theorem dX12_signers_15 : decode cX12_signers 15 = .ok (.aload_n 0, 1) := dk42 (k := 15) bX12_signers_0 rfl
theorem dX12_signers_16 : decode cX12_signers 16 = .ok (.aload_n 0, 1) := dk42 (k := 16) bX12_signers_0 rfl
theorem dX12_signers_17 : decode cX12_signers 17 = .ok (.invokevirtual 263, 3) := dk182 (k := 17) bX12_signers_0 rfl rfl
theorem dX12_signers_20 : decode cX12_signers 20 = .ok (.iload_n 1, 1) := dk27 (k := 20) bX12_signers_0 rfl
theorem dX12_signers_21 : decode cX12_signers 21 = .ok (.ior, 1) := dk128 (k := 21) bX12_signers_0 rfl
theorem dX12_signers_22 : decode cX12_signers 22 = .ok (.iconst 0, 1) := dk3 (k := 22) bX12_signers_0 rfl
theorem dX12_signers_23 : decode cX12_signers 23 = .ok (.invokevirtual 270, 3) := dk182 (k := 23) bX12_signers_0 rfl rfl
theorem bX12_signers_26 : bL cX12_signers 26 [172] := bL_of (by decide +kernel)
theorem dX12_signers_26 : decode cX12_signers 26 = .ok (.ireturn, 1) := dk172 (k := 0) bX12_signers_26 rfl
theorem bX12_names_0 : bL cX12_names 0 [42, 27, 182, 1, 10, 154, 0, 6, 16, 254, 172, 42, 182, 0, 240, 42, 42, 42, 182, 1, 7, 27, 128, 3] := bL_of (by decide +kernel)
theorem dX12_names_0 : decode cX12_names 0 = .ok (.aload_n 0, 1) := dk42 (k := 0) bX12_names_0 rfl
theorem dX12_names_1 : decode cX12_names 1 = .ok (.iload_n 1, 1) := dk27 (k := 1) bX12_names_0 rfl
theorem dX12_names_2 : decode cX12_names 2 = .ok (.invokevirtual 266, 3) := dk182 (k := 2) bX12_names_0 rfl rfl
theorem dX12_names_5 : decode cX12_names 5 = .ok (.ifCond .ne 6, 3) := dk154 (k := 5) bX12_names_0 rfl (by decide)
theorem dX12_names_8 : decode cX12_names 8 = .ok (.bipush (-2), 2) := dk16 (k := 8) bX12_names_0 rfl (by decide)
theorem dX12_names_10 : decode cX12_names 10 = .ok (.ireturn, 1) := dk172 (k := 10) bX12_names_0 rfl
theorem dX12_names_11 : decode cX12_names 11 = .ok (.aload_n 0, 1) := dk42 (k := 11) bX12_names_0 rfl
theorem dX12_names_12 : decode cX12_names 12 = .ok (.invokevirtual 240, 3) := dk182 (k := 12) bX12_names_0 rfl rfl
theorem dX12_names_15 : decode cX12_names 15 = .ok (.aload_n 0, 1) := dk42 (k := 15) bX12_names_0 rfl
theorem dX12_names_16 : decode cX12_names 16 = .ok (.aload_n 0, 1) := dk42 (k := 16) bX12_names_0 rfl
theorem dX12_names_17 : decode cX12_names 17 = .ok (.aload_n 0, 1) := dk42 (k := 17) bX12_names_0 rfl
theorem dX12_names_18 : decode cX12_names 18 = .ok (.invokevirtual 263, 3) := dk182 (k := 18) bX12_names_0 rfl rfl
theorem dX12_names_21 : decode cX12_names 21 = .ok (.iload_n 1, 1) := dk27 (k := 21) bX12_names_0 rfl
theorem dX12_names_22 : decode cX12_names 22 = .ok (.ior, 1) := dk128 (k := 22) bX12_names_0 rfl
theorem dX12_names_23 : decode cX12_names 23 = .ok (.iconst 0, 1) := dk3 (k := 23) bX12_names_0 rfl
theorem bX12_names_24 : bL cX12_names 24 [182, 1, 14, 182, 1, 4, 172] := bL_of (by decide +kernel)
theorem dX12_names_24 : decode cX12_names 24 = .ok (.invokevirtual 270, 3) := dk182 (k := 0) bX12_names_24 rfl rfl
theorem dX12_names_27 : decode cX12_names 27 = .ok (.invokevirtual 260, 3) := dk182 (k := 3) bX12_names_24 rfl rfl
theorem dX12_names_30 : decode cX12_names 30 = .ok (.ireturn, 1) := dk172 (k := 6) bX12_names_24 rfl
theorem bX12_firstSet_0 : bL cX12_firstSet 0 [42, 182, 0, 240, 42, 182, 1, 7, 60, 2, 61, 3, 62, 29, 42, 182, 0, 77, 163, 0, 42, 28, 2, 159, 0, 14] := bL_of (by decide +kernel)
theorem dX12_firstSet_0 : decode cX12_firstSet 0 = .ok (.aload_n 0, 1) := dk42 (k := 0) bX12_firstSet_0 rfl
theorem dX12_firstSet_1 : decode cX12_firstSet 1 = .ok (.invokevirtual 240, 3) := dk182 (k := 1) bX12_firstSet_0 rfl rfl
theorem dX12_firstSet_4 : decode cX12_firstSet 4 = .ok (.aload_n 0, 1) := dk42 (k := 4) bX12_firstSet_0 rfl
theorem dX12_firstSet_5 : decode cX12_firstSet 5 = .ok (.invokevirtual 263, 3) := dk182 (k := 5) bX12_firstSet_0 rfl rfl
theorem dX12_firstSet_8 : decode cX12_firstSet 8 = .ok (.istore_n 1, 1) := dk60 (k := 8) bX12_firstSet_0 rfl
theorem dX12_firstSet_9 : decode cX12_firstSet 9 = .ok (.iconst (-1), 1) := dk2 (k := 9) bX12_firstSet_0 rfl
theorem dX12_firstSet_10 : decode cX12_firstSet 10 = .ok (.istore_n 2, 1) := dk61 (k := 10) bX12_firstSet_0 rfl
theorem dX12_firstSet_11 : decode cX12_firstSet 11 = .ok (.iconst 0, 1) := dk3 (k := 11) bX12_firstSet_0 rfl
theorem dX12_firstSet_12 : decode cX12_firstSet 12 = .ok (.istore_n 3, 1) := dk62 (k := 12) bX12_firstSet_0 rfl
theorem dX12_firstSet_13 : decode cX12_firstSet 13 = .ok (.iload_n 3, 1) := dk29 (k := 13) bX12_firstSet_0 rfl
theorem dX12_firstSet_14 : decode cX12_firstSet 14 = .ok (.aload_n 0, 1) := dk42 (k := 14) bX12_firstSet_0 rfl
theorem dX12_firstSet_15 : decode cX12_firstSet 15 = .ok (.invokevirtual 77, 3) := dk182 (k := 15) bX12_firstSet_0 rfl rfl
theorem dX12_firstSet_18 : decode cX12_firstSet 18 = .ok (.if_icmp .gt 42, 3) := dk163 (k := 18) bX12_firstSet_0 rfl (by decide)
theorem dX12_firstSet_21 : decode cX12_firstSet 21 = .ok (.iload_n 2, 1) := dk28 (k := 21) bX12_firstSet_0 rfl
theorem dX12_firstSet_22 : decode cX12_firstSet 22 = .ok (.iconst (-1), 1) := dk2 (k := 22) bX12_firstSet_0 rfl
theorem dX12_firstSet_23 : decode cX12_firstSet 23 = .ok (.if_icmp .eq 14, 3) := dk159 (k := 23) bX12_firstSet_0 rfl (by decide)
theorem bX12_firstSet_26 : bL cX12_firstSet 26 [29, 184, 0, 229, 28, 184, 0, 229, 162, 0, 20, 42, 42, 27, 29, 128, 3, 182, 1, 14, 182, 1, 17, 153, 0, 5] := bL_of (by decide +kernel)
theorem dX12_firstSet_26 : decode cX12_firstSet 26 = .ok (.iload_n 3, 1) := dk29 (k := 0) bX12_firstSet_26 rfl
theorem dX12_firstSet_27 : decode cX12_firstSet 27 = .ok (.invokestatic 229, 3) := dk184 (k := 1) bX12_firstSet_26 rfl rfl
theorem dX12_firstSet_30 : decode cX12_firstSet 30 = .ok (.iload_n 2, 1) := dk28 (k := 4) bX12_firstSet_26 rfl
theorem dX12_firstSet_31 : decode cX12_firstSet 31 = .ok (.invokestatic 229, 3) := dk184 (k := 5) bX12_firstSet_26 rfl rfl
theorem dX12_firstSet_34 : decode cX12_firstSet 34 = .ok (.if_icmp .ge 20, 3) := dk162 (k := 8) bX12_firstSet_26 rfl (by decide)
theorem dX12_firstSet_37 : decode cX12_firstSet 37 = .ok (.aload_n 0, 1) := dk42 (k := 11) bX12_firstSet_26 rfl
theorem dX12_firstSet_38 : decode cX12_firstSet 38 = .ok (.aload_n 0, 1) := dk42 (k := 12) bX12_firstSet_26 rfl
theorem dX12_firstSet_39 : decode cX12_firstSet 39 = .ok (.iload_n 1, 1) := dk27 (k := 13) bX12_firstSet_26 rfl
theorem dX12_firstSet_40 : decode cX12_firstSet 40 = .ok (.iload_n 3, 1) := dk29 (k := 14) bX12_firstSet_26 rfl
theorem dX12_firstSet_41 : decode cX12_firstSet 41 = .ok (.ior, 1) := dk128 (k := 15) bX12_firstSet_26 rfl
theorem dX12_firstSet_42 : decode cX12_firstSet 42 = .ok (.iconst 0, 1) := dk3 (k := 16) bX12_firstSet_26 rfl
theorem dX12_firstSet_43 : decode cX12_firstSet 43 = .ok (.invokevirtual 270, 3) := dk182 (k := 17) bX12_firstSet_26 rfl rfl
theorem dX12_firstSet_46 : decode cX12_firstSet 46 = .ok (.invokevirtual 273, 3) := dk182 (k := 20) bX12_firstSet_26 rfl rfl
theorem dX12_firstSet_49 : decode cX12_firstSet 49 = .ok (.ifCond .eq 5, 3) := dk153 (k := 23) bX12_firstSet_26 rfl (by decide)
theorem bX12_firstSet_52 : bL cX12_firstSet 52 [29, 61, 132, 3, 1, 167, 255, 212, 28, 172] := bL_of (by decide +kernel)
theorem dX12_firstSet_52 : decode cX12_firstSet 52 = .ok (.iload_n 3, 1) := dk29 (k := 0) bX12_firstSet_52 rfl
theorem dX12_firstSet_53 : decode cX12_firstSet 53 = .ok (.istore_n 2, 1) := dk61 (k := 1) bX12_firstSet_52 rfl
theorem dX12_firstSet_54 : decode cX12_firstSet 54 = .ok (.iinc 3 1, 3) := dk132 (k := 2) bX12_firstSet_52 rfl rfl (by decide)
theorem dX12_firstSet_57 : decode cX12_firstSet 57 = .ok (.goto (-44), 3) := dk167 (k := 5) bX12_firstSet_52 rfl (by decide)
theorem dX12_firstSet_60 : decode cX12_firstSet 60 = .ok (.iload_n 2, 1) := dk28 (k := 8) bX12_firstSet_52 rfl
theorem dX12_firstSet_61 : decode cX12_firstSet 61 = .ok (.ireturn, 1) := dk172 (k := 9) bX12_firstSet_52 rfl
theorem bX12_first_0 : bL cX12_first 0 [42, 182, 0, 73, 154, 0, 6, 16, 254, 172, 42, 182, 1, 20, 60, 27, 2, 160, 0, 7, 2, 167, 0, 7] := bL_of (by decide +kernel)
theorem dX12_first_0 : decode cX12_first 0 = .ok (.aload_n 0, 1) := dk42 (k := 0) bX12_first_0 rfl
theorem dX12_first_1 : decode cX12_first 1 = .ok (.invokevirtual 73, 3) := dk182 (k := 1) bX12_first_0 rfl rfl
theorem dX12_first_4 : decode cX12_first 4 = .ok (.ifCond .ne 6, 3) := dk154 (k := 4) bX12_first_0 rfl (by decide)
theorem dX12_first_7 : decode cX12_first 7 = .ok (.bipush (-2), 2) := dk16 (k := 7) bX12_first_0 rfl (by decide)
theorem dX12_first_9 : decode cX12_first 9 = .ok (.ireturn, 1) := dk172 (k := 9) bX12_first_0 rfl
theorem dX12_first_10 : decode cX12_first 10 = .ok (.aload_n 0, 1) := dk42 (k := 10) bX12_first_0 rfl
theorem dX12_first_11 : decode cX12_first 11 = .ok (.invokevirtual 276, 3) := dk182 (k := 11) bX12_first_0 rfl rfl
theorem dX12_first_14 : decode cX12_first 14 = .ok (.istore_n 1, 1) := dk60 (k := 14) bX12_first_0 rfl
theorem dX12_first_15 : decode cX12_first 15 = .ok (.iload_n 1, 1) := dk27 (k := 15) bX12_first_0 rfl
theorem dX12_first_16 : decode cX12_first 16 = .ok (.iconst (-1), 1) := dk2 (k := 16) bX12_first_0 rfl
theorem dX12_first_17 : decode cX12_first 17 = .ok (.if_icmp .ne 7, 3) := dk160 (k := 17) bX12_first_0 rfl (by decide)
theorem dX12_first_20 : decode cX12_first 20 = .ok (.iconst (-1), 1) := dk2 (k := 20) bX12_first_0 rfl
theorem dX12_first_21 : decode cX12_first 21 = .ok (.goto 7, 3) := dk167 (k := 21) bX12_first_0 rfl (by decide)
theorem bX12_first_24 : bL cX12_first 24 [27, 184, 0, 229, 172] := bL_of (by decide +kernel)
theorem dX12_first_24 : decode cX12_first 24 = .ok (.iload_n 1, 1) := dk27 (k := 0) bX12_first_24 rfl
theorem dX12_first_25 : decode cX12_first 25 = .ok (.invokestatic 229, 3) := dk184 (k := 1) bX12_first_24 rfl rfl
theorem dX12_first_28 : decode cX12_first 28 = .ok (.ireturn, 1) := dk172 (k := 4) bX12_first_24 rfl
theorem bX12_firsts_0 : bL cX12_firsts 0 [42, 182, 0, 73, 153, 0, 10, 42, 182, 1, 20, 167, 0, 5, 16, 254, 172] := bL_of (by decide +kernel)
theorem dX12_firsts_0 : decode cX12_firsts 0 = .ok (.aload_n 0, 1) := dk42 (k := 0) bX12_firsts_0 rfl
theorem dX12_firsts_1 : decode cX12_firsts 1 = .ok (.invokevirtual 73, 3) := dk182 (k := 1) bX12_firsts_0 rfl rfl
theorem dX12_firsts_4 : decode cX12_firsts 4 = .ok (.ifCond .eq 10, 3) := dk153 (k := 4) bX12_firsts_0 rfl (by decide)
theorem dX12_firsts_7 : decode cX12_firsts 7 = .ok (.aload_n 0, 1) := dk42 (k := 7) bX12_firsts_0 rfl
theorem dX12_firsts_8 : decode cX12_firsts 8 = .ok (.invokevirtual 276, 3) := dk182 (k := 8) bX12_firsts_0 rfl rfl
theorem dX12_firsts_11 : decode cX12_firsts 11 = .ok (.goto 5, 3) := dk167 (k := 11) bX12_firsts_0 rfl (by decide)
theorem dX12_firsts_14 : decode cX12_firsts 14 = .ok (.bipush (-2), 2) := dk16 (k := 14) bX12_firsts_0 rfl (by decide)
theorem dX12_firsts_16 : decode cX12_firsts 16 = .ok (.ireturn, 1) := dk172 (k := 16) bX12_firsts_0 rfl
theorem bX12_next_0 : bL cX12_next 0 [42, 27, 182, 1, 10, 154, 0, 6, 16, 254, 172, 42, 182, 0, 240, 42, 182, 1, 7, 27, 128, 61, 42, 42] := bL_of (by decide +kernel)
theorem dX12_next_0 : decode cX12_next 0 = .ok (.aload_n 0, 1) := dk42 (k := 0) bX12_next_0 rfl
theorem dX12_next_1 : decode cX12_next 1 = .ok (.iload_n 1, 1) := dk27 (k := 1) bX12_next_0 rfl
theorem dX12_next_2 : decode cX12_next 2 = .ok (.invokevirtual 266, 3) := dk182 (k := 2) bX12_next_0 rfl rfl
theorem dX12_next_5 : decode cX12_next 5 = .ok (.ifCond .ne 6, 3) := dk154 (k := 5) bX12_next_0 rfl (by decide)
theorem dX12_next_8 : decode cX12_next 8 = .ok (.bipush (-2), 2) := dk16 (k := 8) bX12_next_0 rfl (by decide)
theorem dX12_next_10 : decode cX12_next 10 = .ok (.ireturn, 1) := dk172 (k := 10) bX12_next_0 rfl
theorem dX12_next_11 : decode cX12_next 11 = .ok (.aload_n 0, 1) := dk42 (k := 11) bX12_next_0 rfl
theorem dX12_next_12 : decode cX12_next 12 = .ok (.invokevirtual 240, 3) := dk182 (k := 12) bX12_next_0 rfl rfl
theorem dX12_next_15 : decode cX12_next 15 = .ok (.aload_n 0, 1) := dk42 (k := 15) bX12_next_0 rfl
theorem dX12_next_16 : decode cX12_next 16 = .ok (.invokevirtual 263, 3) := dk182 (k := 16) bX12_next_0 rfl rfl
theorem dX12_next_19 : decode cX12_next 19 = .ok (.iload_n 1, 1) := dk27 (k := 19) bX12_next_0 rfl
theorem dX12_next_20 : decode cX12_next 20 = .ok (.ior, 1) := dk128 (k := 20) bX12_next_0 rfl
theorem dX12_next_21 : decode cX12_next 21 = .ok (.istore_n 2, 1) := dk61 (k := 21) bX12_next_0 rfl
theorem dX12_next_22 : decode cX12_next 22 = .ok (.aload_n 0, 1) := dk42 (k := 22) bX12_next_0 rfl
theorem dX12_next_23 : decode cX12_next 23 = .ok (.aload_n 0, 1) := dk42 (k := 23) bX12_next_0 rfl
theorem bX12_next_24 : bL cX12_next 24 [28, 3, 182, 1, 14, 182, 1, 4, 62, 2, 54, 4, 3, 54, 5, 21, 5, 42, 180, 0, 9, 16, 6, 46] := bL_of (by decide +kernel)
theorem dX12_next_24 : decode cX12_next 24 = .ok (.iload_n 2, 1) := dk28 (k := 0) bX12_next_24 rfl
theorem dX12_next_25 : decode cX12_next 25 = .ok (.iconst 0, 1) := dk3 (k := 1) bX12_next_24 rfl
theorem dX12_next_26 : decode cX12_next 26 = .ok (.invokevirtual 270, 3) := dk182 (k := 2) bX12_next_24 rfl rfl
theorem dX12_next_29 : decode cX12_next 29 = .ok (.invokevirtual 260, 3) := dk182 (k := 5) bX12_next_24 rfl rfl
theorem dX12_next_32 : decode cX12_next 32 = .ok (.istore_n 3, 1) := dk62 (k := 8) bX12_next_24 rfl
theorem dX12_next_33 : decode cX12_next 33 = .ok (.iconst (-1), 1) := dk2 (k := 9) bX12_next_24 rfl
theorem dX12_next_34 : decode cX12_next 34 = .ok (.istore 4, 2) := dk54 (k := 10) bX12_next_24 rfl rfl
theorem dX12_next_36 : decode cX12_next 36 = .ok (.iconst 0, 1) := dk3 (k := 12) bX12_next_24 rfl
theorem dX12_next_37 : decode cX12_next 37 = .ok (.istore 5, 2) := dk54 (k := 13) bX12_next_24 rfl rfl
theorem dX12_next_39 : decode cX12_next 39 = .ok (.iload 5, 2) := dk21 (k := 15) bX12_next_24 rfl rfl
theorem dX12_next_41 : decode cX12_next 41 = .ok (.aload_n 0, 1) := dk42 (k := 17) bX12_next_24 rfl
theorem dX12_next_42 : decode cX12_next 42 = .ok (.getfield 9, 3) := dk180 (k := 18) bX12_next_24 rfl rfl
theorem dX12_next_45 : decode cX12_next 45 = .ok (.bipush 6, 2) := dk16 (k := 21) bX12_next_24 rfl (by decide)
theorem dX12_next_47 : decode cX12_next 47 = .ok (.iaload, 1) := dk46 (k := 23) bX12_next_24 rfl
theorem bX12_next_48 : bL cX12_next 48 [162, 0, 42, 42, 42, 28, 4, 21, 5, 120, 128, 3, 182, 1, 14, 182, 1, 4, 54, 6, 21, 6, 29, 163, 0, 6] := bL_of (by decide +kernel)
theorem dX12_next_48 : decode cX12_next 48 = .ok (.if_icmp .ge 42, 3) := dk162 (k := 0) bX12_next_48 rfl (by decide)
theorem dX12_next_51 : decode cX12_next 51 = .ok (.aload_n 0, 1) := dk42 (k := 3) bX12_next_48 rfl
theorem dX12_next_52 : decode cX12_next 52 = .ok (.aload_n 0, 1) := dk42 (k := 4) bX12_next_48 rfl
theorem dX12_next_53 : decode cX12_next 53 = .ok (.iload_n 2, 1) := dk28 (k := 5) bX12_next_48 rfl
theorem dX12_next_54 : decode cX12_next 54 = .ok (.iconst 1, 1) := dk4 (k := 6) bX12_next_48 rfl
theorem dX12_next_55 : decode cX12_next 55 = .ok (.iload 5, 2) := dk21 (k := 7) bX12_next_48 rfl rfl
theorem dX12_next_57 : decode cX12_next 57 = .ok (.ishl, 1) := dk120 (k := 9) bX12_next_48 rfl
theorem dX12_next_58 : decode cX12_next 58 = .ok (.ior, 1) := dk128 (k := 10) bX12_next_48 rfl
theorem dX12_next_59 : decode cX12_next 59 = .ok (.iconst 0, 1) := dk3 (k := 11) bX12_next_48 rfl
theorem dX12_next_60 : decode cX12_next 60 = .ok (.invokevirtual 270, 3) := dk182 (k := 12) bX12_next_48 rfl rfl
theorem dX12_next_63 : decode cX12_next 63 = .ok (.invokevirtual 260, 3) := dk182 (k := 15) bX12_next_48 rfl rfl
theorem dX12_next_66 : decode cX12_next 66 = .ok (.istore 6, 2) := dk54 (k := 18) bX12_next_48 rfl rfl
theorem dX12_next_68 : decode cX12_next 68 = .ok (.iload 6, 2) := dk21 (k := 20) bX12_next_48 rfl rfl
theorem dX12_next_70 : decode cX12_next 70 = .ok (.iload_n 3, 1) := dk29 (k := 22) bX12_next_48 rfl
theorem dX12_next_71 : decode cX12_next 71 = .ok (.if_icmp .gt 6, 3) := dk163 (k := 23) bX12_next_48 rfl (by decide)
theorem bX12_next_74 : bL cX12_next 74 [167, 0, 10, 21, 6, 62, 21, 5, 54, 4, 132, 5, 1, 167, 255, 208, 21, 4, 172] := bL_of (by decide +kernel)
theorem dX12_next_74 : decode cX12_next 74 = .ok (.goto 10, 3) := dk167 (k := 0) bX12_next_74 rfl (by decide)
theorem dX12_next_77 : decode cX12_next 77 = .ok (.iload 6, 2) := dk21 (k := 3) bX12_next_74 rfl rfl
theorem dX12_next_79 : decode cX12_next 79 = .ok (.istore_n 3, 1) := dk62 (k := 5) bX12_next_74 rfl
theorem dX12_next_80 : decode cX12_next 80 = .ok (.iload 5, 2) := dk21 (k := 6) bX12_next_74 rfl rfl
theorem dX12_next_82 : decode cX12_next 82 = .ok (.istore 4, 2) := dk54 (k := 8) bX12_next_74 rfl rfl
theorem dX12_next_84 : decode cX12_next 84 = .ok (.iinc 5 1, 3) := dk132 (k := 10) bX12_next_74 rfl rfl (by decide)
theorem dX12_next_87 : decode cX12_next 87 = .ok (.goto (-48), 3) := dk167 (k := 13) bX12_next_74 rfl (by decide)
theorem dX12_next_90 : decode cX12_next 90 = .ok (.iload 4, 2) := dk21 (k := 16) bX12_next_74 rfl rfl
theorem dX12_next_92 : decode cX12_next 92 = .ok (.ireturn, 1) := dk172 (k := 18) bX12_next_74 rfl
theorem bX12_needed_0 : bL cX12_needed 0 [42, 182, 0, 73, 154, 0, 6, 16, 254, 172, 42, 182, 0, 240, 42, 182, 1, 7, 60, 42, 42, 27, 3, 182, 1, 14] := bL_of (by decide +kernel)
theorem dX12_needed_0 : decode cX12_needed 0 = .ok (.aload_n 0, 1) := dk42 (k := 0) bX12_needed_0 rfl
theorem dX12_needed_1 : decode cX12_needed 1 = .ok (.invokevirtual 73, 3) := dk182 (k := 1) bX12_needed_0 rfl rfl
theorem dX12_needed_4 : decode cX12_needed 4 = .ok (.ifCond .ne 6, 3) := dk154 (k := 4) bX12_needed_0 rfl (by decide)
theorem dX12_needed_7 : decode cX12_needed 7 = .ok (.bipush (-2), 2) := dk16 (k := 7) bX12_needed_0 rfl (by decide)
theorem dX12_needed_9 : decode cX12_needed 9 = .ok (.ireturn, 1) := dk172 (k := 9) bX12_needed_0 rfl
theorem dX12_needed_10 : decode cX12_needed 10 = .ok (.aload_n 0, 1) := dk42 (k := 10) bX12_needed_0 rfl
theorem dX12_needed_11 : decode cX12_needed 11 = .ok (.invokevirtual 240, 3) := dk182 (k := 11) bX12_needed_0 rfl rfl
theorem dX12_needed_14 : decode cX12_needed 14 = .ok (.aload_n 0, 1) := dk42 (k := 14) bX12_needed_0 rfl
theorem dX12_needed_15 : decode cX12_needed 15 = .ok (.invokevirtual 263, 3) := dk182 (k := 15) bX12_needed_0 rfl rfl
theorem dX12_needed_18 : decode cX12_needed 18 = .ok (.istore_n 1, 1) := dk60 (k := 18) bX12_needed_0 rfl
theorem dX12_needed_19 : decode cX12_needed 19 = .ok (.aload_n 0, 1) := dk42 (k := 19) bX12_needed_0 rfl
theorem dX12_needed_20 : decode cX12_needed 20 = .ok (.aload_n 0, 1) := dk42 (k := 20) bX12_needed_0 rfl
theorem dX12_needed_21 : decode cX12_needed 21 = .ok (.iload_n 1, 1) := dk27 (k := 21) bX12_needed_0 rfl
theorem dX12_needed_22 : decode cX12_needed 22 = .ok (.iconst 0, 1) := dk3 (k := 22) bX12_needed_0 rfl
theorem dX12_needed_23 : decode cX12_needed 23 = .ok (.invokevirtual 270, 3) := dk182 (k := 23) bX12_needed_0 rfl rfl
theorem bX12_needed_26 : bL cX12_needed 26 [182, 1, 17, 154, 0, 5, 3, 172, 3, 61, 3, 62, 29, 42, 180, 0, 9, 16, 6, 46, 162, 0, 34, 28] := bL_of (by decide +kernel)
theorem dX12_needed_26 : decode cX12_needed 26 = .ok (.invokevirtual 273, 3) := dk182 (k := 0) bX12_needed_26 rfl rfl
theorem dX12_needed_29 : decode cX12_needed 29 = .ok (.ifCond .ne 5, 3) := dk154 (k := 3) bX12_needed_26 rfl (by decide)
theorem dX12_needed_32 : decode cX12_needed 32 = .ok (.iconst 0, 1) := dk3 (k := 6) bX12_needed_26 rfl
theorem dX12_needed_33 : decode cX12_needed 33 = .ok (.ireturn, 1) := dk172 (k := 7) bX12_needed_26 rfl
theorem dX12_needed_34 : decode cX12_needed 34 = .ok (.iconst 0, 1) := dk3 (k := 8) bX12_needed_26 rfl
theorem dX12_needed_35 : decode cX12_needed 35 = .ok (.istore_n 2, 1) := dk61 (k := 9) bX12_needed_26 rfl
theorem dX12_needed_36 : decode cX12_needed 36 = .ok (.iconst 0, 1) := dk3 (k := 10) bX12_needed_26 rfl
theorem dX12_needed_37 : decode cX12_needed 37 = .ok (.istore_n 3, 1) := dk62 (k := 11) bX12_needed_26 rfl
theorem dX12_needed_38 : decode cX12_needed 38 = .ok (.iload_n 3, 1) := dk29 (k := 12) bX12_needed_26 rfl
theorem dX12_needed_39 : decode cX12_needed 39 = .ok (.aload_n 0, 1) := dk42 (k := 13) bX12_needed_26 rfl
theorem dX12_needed_40 : decode cX12_needed 40 = .ok (.getfield 9, 3) := dk180 (k := 14) bX12_needed_26 rfl rfl
theorem dX12_needed_43 : decode cX12_needed 43 = .ok (.bipush 6, 2) := dk16 (k := 17) bX12_needed_26 rfl (by decide)
theorem dX12_needed_45 : decode cX12_needed 45 = .ok (.iaload, 1) := dk46 (k := 19) bX12_needed_26 rfl
theorem dX12_needed_46 : decode cX12_needed 46 = .ok (.if_icmp .ge 34, 3) := dk162 (k := 20) bX12_needed_26 rfl (by decide)
theorem dX12_needed_49 : decode cX12_needed 49 = .ok (.iload_n 2, 1) := dk28 (k := 23) bX12_needed_26 rfl
theorem bX12_needed_50 : bL cX12_needed 50 [42, 42, 27, 4, 29, 120, 182, 1, 14, 182, 1, 17, 153, 0, 7, 3, 167, 0, 6, 4, 29, 120, 128, 61] := bL_of (by decide +kernel)
theorem dX12_needed_50 : decode cX12_needed 50 = .ok (.aload_n 0, 1) := dk42 (k := 0) bX12_needed_50 rfl
theorem dX12_needed_51 : decode cX12_needed 51 = .ok (.aload_n 0, 1) := dk42 (k := 1) bX12_needed_50 rfl
theorem dX12_needed_52 : decode cX12_needed 52 = .ok (.iload_n 1, 1) := dk27 (k := 2) bX12_needed_50 rfl
theorem dX12_needed_53 : decode cX12_needed 53 = .ok (.iconst 1, 1) := dk4 (k := 3) bX12_needed_50 rfl
theorem dX12_needed_54 : decode cX12_needed 54 = .ok (.iload_n 3, 1) := dk29 (k := 4) bX12_needed_50 rfl
theorem dX12_needed_55 : decode cX12_needed 55 = .ok (.ishl, 1) := dk120 (k := 5) bX12_needed_50 rfl
theorem dX12_needed_56 : decode cX12_needed 56 = .ok (.invokevirtual 270, 3) := dk182 (k := 6) bX12_needed_50 rfl rfl
theorem dX12_needed_59 : decode cX12_needed 59 = .ok (.invokevirtual 273, 3) := dk182 (k := 9) bX12_needed_50 rfl rfl
theorem dX12_needed_62 : decode cX12_needed 62 = .ok (.ifCond .eq 7, 3) := dk153 (k := 12) bX12_needed_50 rfl (by decide)
theorem dX12_needed_65 : decode cX12_needed 65 = .ok (.iconst 0, 1) := dk3 (k := 15) bX12_needed_50 rfl
theorem dX12_needed_66 : decode cX12_needed 66 = .ok (.goto 6, 3) := dk167 (k := 16) bX12_needed_50 rfl (by decide)
theorem dX12_needed_69 : decode cX12_needed 69 = .ok (.iconst 1, 1) := dk4 (k := 19) bX12_needed_50 rfl
theorem dX12_needed_70 : decode cX12_needed 70 = .ok (.iload_n 3, 1) := dk29 (k := 20) bX12_needed_50 rfl
theorem dX12_needed_71 : decode cX12_needed 71 = .ok (.ishl, 1) := dk120 (k := 21) bX12_needed_50 rfl
theorem dX12_needed_72 : decode cX12_needed 72 = .ok (.ior, 1) := dk128 (k := 22) bX12_needed_50 rfl
theorem dX12_needed_73 : decode cX12_needed 73 = .ok (.istore_n 2, 1) := dk61 (k := 23) bX12_needed_50 rfl
theorem bX12_needed_74 : bL cX12_needed 74 [132, 3, 1, 167, 255, 217, 28, 172] := bL_of (by decide +kernel)
theorem dX12_needed_74 : decode cX12_needed 74 = .ok (.iinc 3 1, 3) := dk132 (k := 0) bX12_needed_74 rfl rfl (by decide)
theorem dX12_needed_77 : decode cX12_needed 77 = .ok (.goto (-39), 3) := dk167 (k := 3) bX12_needed_74 rfl (by decide)
theorem dX12_needed_80 : decode cX12_needed 80 = .ok (.iload_n 2, 1) := dk28 (k := 6) bX12_needed_74 rfl
theorem dX12_needed_81 : decode cX12_needed 81 = .ok (.ireturn, 1) := dk172 (k := 7) bX12_needed_74 rfl
theorem bX12_pair_0 : bL cX12_pair 0 [17, 1, 0, 26, 104, 27, 96, 172] := bL_of (by decide +kernel)
theorem dX12_pair_0 : decode cX12_pair 0 = .ok (.sipush 256, 3) := dk17 (k := 0) bX12_pair_0 rfl (by decide)
theorem dX12_pair_3 : decode cX12_pair 3 = .ok (.iload_n 0, 1) := dk26 (k := 3) bX12_pair_0 rfl
theorem dX12_pair_4 : decode cX12_pair 4 = .ok (.imul, 1) := dk104 (k := 4) bX12_pair_0 rfl
theorem dX12_pair_5 : decode cX12_pair 5 = .ok (.iload_n 1, 1) := dk27 (k := 5) bX12_pair_0 rfl
theorem dX12_pair_6 : decode cX12_pair 6 = .ok (.iadd, 1) := dk96 (k := 6) bX12_pair_0 rfl
theorem dX12_pair_7 : decode cX12_pair 7 = .ok (.ireturn, 1) := dk172 (k := 7) bX12_pair_0 rfl
theorem bX12_isWinners_0 : bL cX12_isWinners 0 [26, 5, 112, 27, 160, 0, 7, 4, 167, 0, 4, 3, 172] := bL_of (by decide +kernel)
theorem dX12_isWinners_0 : decode cX12_isWinners 0 = .ok (.iload_n 0, 1) := dk26 (k := 0) bX12_isWinners_0 rfl
theorem dX12_isWinners_1 : decode cX12_isWinners 1 = .ok (.iconst 2, 1) := dk5 (k := 1) bX12_isWinners_0 rfl
theorem dX12_isWinners_2 : decode cX12_isWinners 2 = .ok (.irem, 1) := dk112 (k := 2) bX12_isWinners_0 rfl
theorem dX12_isWinners_3 : decode cX12_isWinners 3 = .ok (.iload_n 1, 1) := dk27 (k := 3) bX12_isWinners_0 rfl
theorem dX12_isWinners_4 : decode cX12_isWinners 4 = .ok (.if_icmp .ne 7, 3) := dk160 (k := 4) bX12_isWinners_0 rfl (by decide)
theorem dX12_isWinners_7 : decode cX12_isWinners 7 = .ok (.iconst 1, 1) := dk4 (k := 7) bX12_isWinners_0 rfl
theorem dX12_isWinners_8 : decode cX12_isWinners 8 = .ok (.goto 4, 3) := dk167 (k := 8) bX12_isWinners_0 rfl (by decide)
theorem dX12_isWinners_11 : decode cX12_isWinners 11 = .ok (.iconst 0, 1) := dk3 (k := 11) bX12_isWinners_0 rfl
theorem dX12_isWinners_12 : decode cX12_isWinners 12 = .ok (.ireturn, 1) := dk172 (k := 12) bX12_isWinners_0 rfl
theorem bX12_endBy_0 : bL cX12_endBy 0 [27, 184, 0, 229, 28, 184, 0, 229, 96, 54, 6, 21, 6, 5, 29, 104, 42, 180, 0, 9, 16, 6, 46, 184, 0, 112] := bL_of (by decide +kernel)
theorem dX12_endBy_0 : decode cX12_endBy 0 = .ok (.iload_n 1, 1) := dk27 (k := 0) bX12_endBy_0 rfl
theorem dX12_endBy_1 : decode cX12_endBy 1 = .ok (.invokestatic 229, 3) := dk184 (k := 1) bX12_endBy_0 rfl rfl
theorem dX12_endBy_4 : decode cX12_endBy 4 = .ok (.iload_n 2, 1) := dk28 (k := 4) bX12_endBy_0 rfl
theorem dX12_endBy_5 : decode cX12_endBy 5 = .ok (.invokestatic 229, 3) := dk184 (k := 5) bX12_endBy_0 rfl rfl
theorem dX12_endBy_8 : decode cX12_endBy 8 = .ok (.iadd, 1) := dk96 (k := 8) bX12_endBy_0 rfl
theorem dX12_endBy_9 : decode cX12_endBy 9 = .ok (.istore 6, 2) := dk54 (k := 9) bX12_endBy_0 rfl rfl
theorem dX12_endBy_11 : decode cX12_endBy 11 = .ok (.iload 6, 2) := dk21 (k := 11) bX12_endBy_0 rfl rfl
theorem dX12_endBy_13 : decode cX12_endBy 13 = .ok (.iconst 2, 1) := dk5 (k := 13) bX12_endBy_0 rfl
theorem dX12_endBy_14 : decode cX12_endBy 14 = .ok (.iload_n 3, 1) := dk29 (k := 14) bX12_endBy_0 rfl
theorem dX12_endBy_15 : decode cX12_endBy 15 = .ok (.imul, 1) := dk104 (k := 15) bX12_endBy_0 rfl
theorem dX12_endBy_16 : decode cX12_endBy 16 = .ok (.aload_n 0, 1) := dk42 (k := 16) bX12_endBy_0 rfl
theorem dX12_endBy_17 : decode cX12_endBy 17 = .ok (.getfield 9, 3) := dk180 (k := 17) bX12_endBy_0 rfl rfl
theorem dX12_endBy_20 : decode cX12_endBy 20 = .ok (.bipush 6, 2) := dk16 (k := 20) bX12_endBy_0 rfl (by decide)
theorem dX12_endBy_22 : decode cX12_endBy 22 = .ok (.iaload, 1) := dk46 (k := 22) bX12_endBy_0 rfl
theorem dX12_endBy_23 : decode cX12_endBy 23 = .ok (.invokestatic 112, 3) := dk184 (k := 23) bX12_endBy_0 rfl rfl
theorem bX12_endBy_26 : bL cX12_endBy 26 [161, 0, 17, 42, 42, 21, 5, 27, 128, 28, 182, 1, 14, 182, 1, 17, 172, 21, 6, 21, 4, 184, 1, 23] := bL_of (by decide +kernel)
theorem dX12_endBy_26 : decode cX12_endBy 26 = .ok (.if_icmp .lt 17, 3) := dk161 (k := 0) bX12_endBy_26 rfl (by decide)
theorem dX12_endBy_29 : decode cX12_endBy 29 = .ok (.aload_n 0, 1) := dk42 (k := 3) bX12_endBy_26 rfl
theorem dX12_endBy_30 : decode cX12_endBy 30 = .ok (.aload_n 0, 1) := dk42 (k := 4) bX12_endBy_26 rfl
theorem dX12_endBy_31 : decode cX12_endBy 31 = .ok (.iload 5, 2) := dk21 (k := 5) bX12_endBy_26 rfl rfl
theorem dX12_endBy_33 : decode cX12_endBy 33 = .ok (.iload_n 1, 1) := dk27 (k := 7) bX12_endBy_26 rfl
theorem dX12_endBy_34 : decode cX12_endBy 34 = .ok (.ior, 1) := dk128 (k := 8) bX12_endBy_26 rfl
theorem dX12_endBy_35 : decode cX12_endBy 35 = .ok (.iload_n 2, 1) := dk28 (k := 9) bX12_endBy_26 rfl
theorem dX12_endBy_36 : decode cX12_endBy 36 = .ok (.invokevirtual 270, 3) := dk182 (k := 10) bX12_endBy_26 rfl rfl
theorem dX12_endBy_39 : decode cX12_endBy 39 = .ok (.invokevirtual 273, 3) := dk182 (k := 13) bX12_endBy_26 rfl rfl
theorem dX12_endBy_42 : decode cX12_endBy 42 = .ok (.ireturn, 1) := dk172 (k := 16) bX12_endBy_26 rfl
theorem dX12_endBy_43 : decode cX12_endBy 43 = .ok (.iload 6, 2) := dk21 (k := 17) bX12_endBy_26 rfl rfl
theorem dX12_endBy_45 : decode cX12_endBy 45 = .ok (.iload 4, 2) := dk21 (k := 19) bX12_endBy_26 rfl rfl
theorem dX12_endBy_47 : decode cX12_endBy 47 = .ok (.invokestatic 279, 3) := dk184 (k := 21) bX12_endBy_26 rfl rfl
theorem bX12_endBy_50 : bL cX12_endBy 50 [54, 7, 3, 54, 8, 21, 8, 42, 180, 0, 9, 16, 6, 46, 162, 0, 74, 27, 28, 128, 21, 8, 184, 1, 1] := bL_of (by decide +kernel)
theorem dX12_endBy_50 : decode cX12_endBy 50 = .ok (.istore 7, 2) := dk54 (k := 0) bX12_endBy_50 rfl rfl
theorem dX12_endBy_52 : decode cX12_endBy 52 = .ok (.iconst 0, 1) := dk3 (k := 2) bX12_endBy_50 rfl
theorem dX12_endBy_53 : decode cX12_endBy 53 = .ok (.istore 8, 2) := dk54 (k := 3) bX12_endBy_50 rfl rfl
theorem dX12_endBy_55 : decode cX12_endBy 55 = .ok (.iload 8, 2) := dk21 (k := 5) bX12_endBy_50 rfl rfl
theorem dX12_endBy_57 : decode cX12_endBy 57 = .ok (.aload_n 0, 1) := dk42 (k := 7) bX12_endBy_50 rfl
theorem dX12_endBy_58 : decode cX12_endBy 58 = .ok (.getfield 9, 3) := dk180 (k := 8) bX12_endBy_50 rfl rfl
theorem dX12_endBy_61 : decode cX12_endBy 61 = .ok (.bipush 6, 2) := dk16 (k := 11) bX12_endBy_50 rfl (by decide)
theorem dX12_endBy_63 : decode cX12_endBy 63 = .ok (.iaload, 1) := dk46 (k := 13) bX12_endBy_50 rfl
theorem dX12_endBy_64 : decode cX12_endBy 64 = .ok (.if_icmp .ge 74, 3) := dk162 (k := 14) bX12_endBy_50 rfl (by decide)
theorem dX12_endBy_67 : decode cX12_endBy 67 = .ok (.iload_n 1, 1) := dk27 (k := 17) bX12_endBy_50 rfl
theorem dX12_endBy_68 : decode cX12_endBy 68 = .ok (.iload_n 2, 1) := dk28 (k := 18) bX12_endBy_50 rfl
theorem dX12_endBy_69 : decode cX12_endBy 69 = .ok (.ior, 1) := dk128 (k := 19) bX12_endBy_50 rfl
theorem dX12_endBy_70 : decode cX12_endBy 70 = .ok (.iload 8, 2) := dk21 (k := 20) bX12_endBy_50 rfl rfl
theorem dX12_endBy_72 : decode cX12_endBy 72 = .ok (.invokestatic 257, 3) := dk184 (k := 22) bX12_endBy_50 rfl rfl
theorem bX12_endBy_75 : bL cX12_endBy 75 [4, 160, 0, 6, 167, 0, 53, 21, 7, 153, 0, 21, 42, 180, 0, 38, 27, 4, 21, 8, 120, 128, 28, 184, 1, 26] := bL_of (by decide +kernel)
theorem dX12_endBy_75 : decode cX12_endBy 75 = .ok (.iconst 1, 1) := dk4 (k := 0) bX12_endBy_75 rfl
theorem dX12_endBy_76 : decode cX12_endBy 76 = .ok (.if_icmp .ne 6, 3) := dk160 (k := 1) bX12_endBy_75 rfl (by decide)
theorem dX12_endBy_79 : decode cX12_endBy 79 = .ok (.goto 53, 3) := dk167 (k := 4) bX12_endBy_75 rfl (by decide)
theorem dX12_endBy_82 : decode cX12_endBy 82 = .ok (.iload 7, 2) := dk21 (k := 7) bX12_endBy_75 rfl rfl
theorem dX12_endBy_84 : decode cX12_endBy 84 = .ok (.ifCond .eq 21, 3) := dk153 (k := 9) bX12_endBy_75 rfl (by decide)
theorem dX12_endBy_87 : decode cX12_endBy 87 = .ok (.aload_n 0, 1) := dk42 (k := 12) bX12_endBy_75 rfl
theorem dX12_endBy_88 : decode cX12_endBy 88 = .ok (.getfield 38, 3) := dk180 (k := 13) bX12_endBy_75 rfl rfl
theorem dX12_endBy_91 : decode cX12_endBy 91 = .ok (.iload_n 1, 1) := dk27 (k := 16) bX12_endBy_75 rfl
theorem dX12_endBy_92 : decode cX12_endBy 92 = .ok (.iconst 1, 1) := dk4 (k := 17) bX12_endBy_75 rfl
theorem dX12_endBy_93 : decode cX12_endBy 93 = .ok (.iload 8, 2) := dk21 (k := 18) bX12_endBy_75 rfl rfl
theorem dX12_endBy_95 : decode cX12_endBy 95 = .ok (.ishl, 1) := dk120 (k := 20) bX12_endBy_75 rfl
theorem dX12_endBy_96 : decode cX12_endBy 96 = .ok (.ior, 1) := dk128 (k := 21) bX12_endBy_75 rfl
theorem dX12_endBy_97 : decode cX12_endBy 97 = .ok (.iload_n 2, 1) := dk28 (k := 22) bX12_endBy_75 rfl
theorem dX12_endBy_98 : decode cX12_endBy 98 = .ok (.invokestatic 282, 3) := dk184 (k := 23) bX12_endBy_75 rfl rfl
theorem bX12_endBy_101 : bL cX12_endBy 101 [51, 167, 0, 18, 42, 180, 0, 38, 27, 28, 4, 21, 8, 120, 128, 184, 1, 26, 51, 54, 9, 21, 9, 21, 7] := bL_of (by decide +kernel)
theorem dX12_endBy_101 : decode cX12_endBy 101 = .ok (.baload, 1) := dk51 (k := 0) bX12_endBy_101 rfl
theorem dX12_endBy_102 : decode cX12_endBy 102 = .ok (.goto 18, 3) := dk167 (k := 1) bX12_endBy_101 rfl (by decide)
theorem dX12_endBy_105 : decode cX12_endBy 105 = .ok (.aload_n 0, 1) := dk42 (k := 4) bX12_endBy_101 rfl
theorem dX12_endBy_106 : decode cX12_endBy 106 = .ok (.getfield 38, 3) := dk180 (k := 5) bX12_endBy_101 rfl rfl
theorem dX12_endBy_109 : decode cX12_endBy 109 = .ok (.iload_n 1, 1) := dk27 (k := 8) bX12_endBy_101 rfl
theorem dX12_endBy_110 : decode cX12_endBy 110 = .ok (.iload_n 2, 1) := dk28 (k := 9) bX12_endBy_101 rfl
theorem dX12_endBy_111 : decode cX12_endBy 111 = .ok (.iconst 1, 1) := dk4 (k := 10) bX12_endBy_101 rfl
theorem dX12_endBy_112 : decode cX12_endBy 112 = .ok (.iload 8, 2) := dk21 (k := 11) bX12_endBy_101 rfl rfl
theorem dX12_endBy_114 : decode cX12_endBy 114 = .ok (.ishl, 1) := dk120 (k := 13) bX12_endBy_101 rfl
theorem dX12_endBy_115 : decode cX12_endBy 115 = .ok (.ior, 1) := dk128 (k := 14) bX12_endBy_101 rfl
theorem dX12_endBy_116 : decode cX12_endBy 116 = .ok (.invokestatic 282, 3) := dk184 (k := 15) bX12_endBy_101 rfl rfl
theorem dX12_endBy_119 : decode cX12_endBy 119 = .ok (.baload, 1) := dk51 (k := 18) bX12_endBy_101 rfl
theorem dX12_endBy_120 : decode cX12_endBy 120 = .ok (.istore 9, 2) := dk54 (k := 19) bX12_endBy_101 rfl rfl
theorem dX12_endBy_122 : decode cX12_endBy 122 = .ok (.iload 9, 2) := dk21 (k := 21) bX12_endBy_101 rfl rfl
theorem dX12_endBy_124 : decode cX12_endBy 124 = .ok (.iload 7, 2) := dk21 (k := 23) bX12_endBy_101 rfl rfl
theorem bX12_endBy_126 : bL cX12_endBy 126 [160, 0, 6, 21, 7, 172, 132, 8, 1, 167, 255, 176, 21, 7, 154, 0, 7, 4, 167, 0, 4, 3, 172] := bL_of (by decide +kernel)
theorem dX12_endBy_126 : decode cX12_endBy 126 = .ok (.if_icmp .ne 6, 3) := dk160 (k := 0) bX12_endBy_126 rfl (by decide)
theorem dX12_endBy_129 : decode cX12_endBy 129 = .ok (.iload 7, 2) := dk21 (k := 3) bX12_endBy_126 rfl rfl
theorem dX12_endBy_131 : decode cX12_endBy 131 = .ok (.ireturn, 1) := dk172 (k := 5) bX12_endBy_126 rfl
theorem dX12_endBy_132 : decode cX12_endBy 132 = .ok (.iinc 8 1, 3) := dk132 (k := 6) bX12_endBy_126 rfl rfl (by decide)
theorem dX12_endBy_135 : decode cX12_endBy 135 = .ok (.goto (-80), 3) := dk167 (k := 9) bX12_endBy_126 rfl (by decide)
theorem dX12_endBy_138 : decode cX12_endBy 138 = .ok (.iload 7, 2) := dk21 (k := 12) bX12_endBy_126 rfl rfl
theorem dX12_endBy_140 : decode cX12_endBy 140 = .ok (.ifCond .ne 7, 3) := dk154 (k := 14) bX12_endBy_126 rfl (by decide)
theorem dX12_endBy_143 : decode cX12_endBy 143 = .ok (.iconst 1, 1) := dk4 (k := 17) bX12_endBy_126 rfl
theorem dX12_endBy_144 : decode cX12_endBy 144 = .ok (.goto 4, 3) := dk167 (k := 18) bX12_endBy_126 rfl (by decide)
theorem dX12_endBy_147 : decode cX12_endBy 147 = .ok (.iconst 0, 1) := dk3 (k := 21) bX12_endBy_126 rfl
theorem dX12_endBy_148 : decode cX12_endBy 148 = .ok (.ireturn, 1) := dk172 (k := 22) bX12_endBy_126 rfl
theorem bX12_playBy_0 : bL cX12_playBy 0 [42, 182, 0, 240, 42, 182, 1, 7, 62, 42, 182, 0, 77, 54, 4, 21, 4, 155, 0, 57, 42, 182, 0, 77] := bL_of (by decide +kernel)
theorem dX12_playBy_0 : decode cX12_playBy 0 = .ok (.aload_n 0, 1) := dk42 (k := 0) bX12_playBy_0 rfl
theorem dX12_playBy_1 : decode cX12_playBy 1 = .ok (.invokevirtual 240, 3) := dk182 (k := 1) bX12_playBy_0 rfl rfl
theorem dX12_playBy_4 : decode cX12_playBy 4 = .ok (.aload_n 0, 1) := dk42 (k := 4) bX12_playBy_0 rfl
theorem dX12_playBy_5 : decode cX12_playBy 5 = .ok (.invokevirtual 263, 3) := dk182 (k := 5) bX12_playBy_0 rfl rfl
theorem dX12_playBy_8 : decode cX12_playBy 8 = .ok (.istore_n 3, 1) := dk62 (k := 8) bX12_playBy_0 rfl
theorem dX12_playBy_9 : decode cX12_playBy 9 = .ok (.aload_n 0, 1) := dk42 (k := 9) bX12_playBy_0 rfl
theorem dX12_playBy_10 : decode cX12_playBy 10 = .ok (.invokevirtual 77, 3) := dk182 (k := 10) bX12_playBy_0 rfl rfl
theorem dX12_playBy_13 : decode cX12_playBy 13 = .ok (.istore 4, 2) := dk54 (k := 13) bX12_playBy_0 rfl rfl
theorem dX12_playBy_15 : decode cX12_playBy 15 = .ok (.iload 4, 2) := dk21 (k := 15) bX12_playBy_0 rfl rfl
theorem dX12_playBy_17 : decode cX12_playBy 17 = .ok (.ifCond .lt 57, 3) := dk155 (k := 17) bX12_playBy_0 rfl (by decide)
theorem dX12_playBy_20 : decode cX12_playBy 20 = .ok (.aload_n 0, 1) := dk42 (k := 20) bX12_playBy_0 rfl
theorem dX12_playBy_21 : decode cX12_playBy 21 = .ok (.invokevirtual 77, 3) := dk182 (k := 21) bX12_playBy_0 rfl rfl
theorem bX12_playBy_24 : bL cX12_playBy 24 [54, 5, 21, 5, 155, 0, 40, 21, 4, 21, 5, 126, 154, 0, 26, 42, 180, 0, 38, 21, 4, 21, 5, 184, 1, 26] := bL_of (by decide +kernel)
theorem dX12_playBy_24 : decode cX12_playBy 24 = .ok (.istore 5, 2) := dk54 (k := 0) bX12_playBy_24 rfl rfl
theorem dX12_playBy_26 : decode cX12_playBy 26 = .ok (.iload 5, 2) := dk21 (k := 2) bX12_playBy_24 rfl rfl
theorem dX12_playBy_28 : decode cX12_playBy 28 = .ok (.ifCond .lt 40, 3) := dk155 (k := 4) bX12_playBy_24 rfl (by decide)
theorem dX12_playBy_31 : decode cX12_playBy 31 = .ok (.iload 4, 2) := dk21 (k := 7) bX12_playBy_24 rfl rfl
theorem dX12_playBy_33 : decode cX12_playBy 33 = .ok (.iload 5, 2) := dk21 (k := 9) bX12_playBy_24 rfl rfl
theorem dX12_playBy_35 : decode cX12_playBy 35 = .ok (.iand, 1) := dk126 (k := 11) bX12_playBy_24 rfl
theorem dX12_playBy_36 : decode cX12_playBy 36 = .ok (.ifCond .ne 26, 3) := dk154 (k := 12) bX12_playBy_24 rfl (by decide)
theorem dX12_playBy_39 : decode cX12_playBy 39 = .ok (.aload_n 0, 1) := dk42 (k := 15) bX12_playBy_24 rfl
theorem dX12_playBy_40 : decode cX12_playBy 40 = .ok (.getfield 38, 3) := dk180 (k := 16) bX12_playBy_24 rfl rfl
theorem dX12_playBy_43 : decode cX12_playBy 43 = .ok (.iload 4, 2) := dk21 (k := 19) bX12_playBy_24 rfl rfl
theorem dX12_playBy_45 : decode cX12_playBy 45 = .ok (.iload 5, 2) := dk21 (k := 21) bX12_playBy_24 rfl rfl
theorem dX12_playBy_47 : decode cX12_playBy 47 = .ok (.invokestatic 282, 3) := dk184 (k := 23) bX12_playBy_24 rfl rfl
theorem bX12_playBy_50 : bL cX12_playBy 50 [42, 21, 4, 21, 5, 27, 28, 29, 182, 1, 29, 84, 132, 5, 255, 167, 255, 217, 132, 4, 255, 167, 255, 200] := bL_of (by decide +kernel)
theorem dX12_playBy_50 : decode cX12_playBy 50 = .ok (.aload_n 0, 1) := dk42 (k := 0) bX12_playBy_50 rfl
theorem dX12_playBy_51 : decode cX12_playBy 51 = .ok (.iload 4, 2) := dk21 (k := 1) bX12_playBy_50 rfl rfl
theorem dX12_playBy_53 : decode cX12_playBy 53 = .ok (.iload 5, 2) := dk21 (k := 3) bX12_playBy_50 rfl rfl
theorem dX12_playBy_55 : decode cX12_playBy 55 = .ok (.iload_n 1, 1) := dk27 (k := 5) bX12_playBy_50 rfl
theorem dX12_playBy_56 : decode cX12_playBy 56 = .ok (.iload_n 2, 1) := dk28 (k := 6) bX12_playBy_50 rfl
theorem dX12_playBy_57 : decode cX12_playBy 57 = .ok (.iload_n 3, 1) := dk29 (k := 7) bX12_playBy_50 rfl
theorem dX12_playBy_58 : decode cX12_playBy 58 = .ok (.invokevirtual 285, 3) := dk182 (k := 8) bX12_playBy_50 rfl rfl
theorem dX12_playBy_61 : decode cX12_playBy 61 = .ok (.bastore, 1) := dk84 (k := 11) bX12_playBy_50 rfl
theorem dX12_playBy_62 : decode cX12_playBy 62 = .ok (.iinc 5 (-1), 3) := dk132 (k := 12) bX12_playBy_50 rfl rfl (by decide)
theorem dX12_playBy_65 : decode cX12_playBy 65 = .ok (.goto (-39), 3) := dk167 (k := 15) bX12_playBy_50 rfl (by decide)
theorem dX12_playBy_68 : decode cX12_playBy 68 = .ok (.iinc 4 (-1), 3) := dk132 (k := 18) bX12_playBy_50 rfl rfl (by decide)
theorem dX12_playBy_71 : decode cX12_playBy 71 = .ok (.goto (-56), 3) := dk167 (k := 21) bX12_playBy_50 rfl (by decide)
theorem bX12_playBy_74 : bL cX12_playBy 74 [42, 180, 0, 38, 3, 51, 172] := bL_of (by decide +kernel)
theorem dX12_playBy_74 : decode cX12_playBy 74 = .ok (.aload_n 0, 1) := dk42 (k := 0) bX12_playBy_74 rfl
theorem dX12_playBy_75 : decode cX12_playBy 75 = .ok (.getfield 38, 3) := dk180 (k := 1) bX12_playBy_74 rfl rfl
theorem dX12_playBy_78 : decode cX12_playBy 78 = .ok (.iconst 0, 1) := dk3 (k := 4) bX12_playBy_74 rfl
theorem dX12_playBy_79 : decode cX12_playBy 79 = .ok (.baload, 1) := dk51 (k := 5) bX12_playBy_74 rfl
theorem dX12_playBy_80 : decode cX12_playBy 80 = .ok (.ireturn, 1) := dk172 (k := 6) bX12_playBy_74 rfl
theorem bX12_play_0 : bL cX12_play 0 [42, 182, 0, 73, 153, 0, 42, 27, 133, 9, 20, 1, 33, 184, 0, 65, 153, 0, 30, 28, 133, 9, 10, 184, 0, 65] := bL_of (by decide +kernel)
theorem dX12_play_0 : decode cX12_play 0 = .ok (.aload_n 0, 1) := dk42 (k := 0) bX12_play_0 rfl
theorem dX12_play_1 : decode cX12_play 1 = .ok (.invokevirtual 73, 3) := dk182 (k := 1) bX12_play_0 rfl rfl
theorem dX12_play_4 : decode cX12_play 4 = .ok (.ifCond .eq 42, 3) := dk153 (k := 4) bX12_play_0 rfl (by decide)
theorem dX12_play_7 : decode cX12_play 7 = .ok (.iload_n 1, 1) := dk27 (k := 7) bX12_play_0 rfl
theorem dX12_play_8 : decode cX12_play 8 = .ok (.i2l, 1) := dk133 (k := 8) bX12_play_0 rfl
theorem dX12_play_9 : decode cX12_play 9 = .ok (.lconst 0, 1) := dk9 (k := 9) bX12_play_0 rfl
theorem dX12_play_10 : decode cX12_play 10 = .ok (.ldc2_w 289, 3) := dk20 (k := 10) bX12_play_0 rfl rfl
theorem dX12_play_13 : decode cX12_play 13 = .ok (.invokestatic 65, 3) := dk184 (k := 13) bX12_play_0 rfl rfl
theorem dX12_play_16 : decode cX12_play 16 = .ok (.ifCond .eq 30, 3) := dk153 (k := 16) bX12_play_0 rfl (by decide)
theorem dX12_play_19 : decode cX12_play 19 = .ok (.iload_n 2, 1) := dk28 (k := 19) bX12_play_0 rfl
theorem dX12_play_20 : decode cX12_play 20 = .ok (.i2l, 1) := dk133 (k := 20) bX12_play_0 rfl
theorem dX12_play_21 : decode cX12_play 21 = .ok (.lconst 0, 1) := dk9 (k := 21) bX12_play_0 rfl
theorem dX12_play_22 : decode cX12_play 22 = .ok (.lconst 1, 1) := dk10 (k := 22) bX12_play_0 rfl
theorem dX12_play_23 : decode cX12_play 23 = .ok (.invokestatic 65, 3) := dk184 (k := 23) bX12_play_0 rfl rfl
theorem bX12_play_26 : bL cX12_play 26 [153, 0, 20, 42, 27, 28, 182, 1, 35, 153, 0, 7, 4, 167, 0, 9, 3, 167, 0, 5, 16, 254, 172] := bL_of (by decide +kernel)
theorem dX12_play_26 : decode cX12_play 26 = .ok (.ifCond .eq 20, 3) := dk153 (k := 0) bX12_play_26 rfl (by decide)
theorem dX12_play_29 : decode cX12_play 29 = .ok (.aload_n 0, 1) := dk42 (k := 3) bX12_play_26 rfl
theorem dX12_play_30 : decode cX12_play 30 = .ok (.iload_n 1, 1) := dk27 (k := 4) bX12_play_26 rfl
theorem dX12_play_31 : decode cX12_play 31 = .ok (.iload_n 2, 1) := dk28 (k := 5) bX12_play_26 rfl
theorem dX12_play_32 : decode cX12_play 32 = .ok (.invokevirtual 291, 3) := dk182 (k := 6) bX12_play_26 rfl rfl
theorem dX12_play_35 : decode cX12_play 35 = .ok (.ifCond .eq 7, 3) := dk153 (k := 9) bX12_play_26 rfl (by decide)
theorem dX12_play_38 : decode cX12_play 38 = .ok (.iconst 1, 1) := dk4 (k := 12) bX12_play_26 rfl
theorem dX12_play_39 : decode cX12_play 39 = .ok (.goto 9, 3) := dk167 (k := 13) bX12_play_26 rfl (by decide)
theorem dX12_play_42 : decode cX12_play 42 = .ok (.iconst 0, 1) := dk3 (k := 16) bX12_play_26 rfl
theorem dX12_play_43 : decode cX12_play 43 = .ok (.goto 5, 3) := dk167 (k := 17) bX12_play_26 rfl (by decide)
theorem dX12_play_46 : decode cX12_play 46 = .ok (.bipush (-2), 2) := dk16 (k := 20) bX12_play_26 rfl (by decide)
theorem dX12_play_48 : decode cX12_play 48 = .ok (.ireturn, 1) := dk172 (k := 22) bX12_play_26 rfl
theorem bX12_moves_0 : bL cX12_moves 0 [42, 182, 0, 73, 153, 0, 25, 27, 133, 9, 20, 1, 33, 184, 0, 65, 153, 0, 13, 28, 133, 9, 10, 184, 0, 65] := bL_of (by decide +kernel)
theorem dX12_moves_0 : decode cX12_moves 0 = .ok (.aload_n 0, 1) := dk42 (k := 0) bX12_moves_0 rfl
theorem dX12_moves_1 : decode cX12_moves 1 = .ok (.invokevirtual 73, 3) := dk182 (k := 1) bX12_moves_0 rfl rfl
theorem dX12_moves_4 : decode cX12_moves 4 = .ok (.ifCond .eq 25, 3) := dk153 (k := 4) bX12_moves_0 rfl (by decide)
theorem dX12_moves_7 : decode cX12_moves 7 = .ok (.iload_n 1, 1) := dk27 (k := 7) bX12_moves_0 rfl
theorem dX12_moves_8 : decode cX12_moves 8 = .ok (.i2l, 1) := dk133 (k := 8) bX12_moves_0 rfl
theorem dX12_moves_9 : decode cX12_moves 9 = .ok (.lconst 0, 1) := dk9 (k := 9) bX12_moves_0 rfl
theorem dX12_moves_10 : decode cX12_moves 10 = .ok (.ldc2_w 289, 3) := dk20 (k := 10) bX12_moves_0 rfl rfl
theorem dX12_moves_13 : decode cX12_moves 13 = .ok (.invokestatic 65, 3) := dk184 (k := 13) bX12_moves_0 rfl rfl
theorem dX12_moves_16 : decode cX12_moves 16 = .ok (.ifCond .eq 13, 3) := dk153 (k := 16) bX12_moves_0 rfl (by decide)
theorem dX12_moves_19 : decode cX12_moves 19 = .ok (.iload_n 2, 1) := dk28 (k := 19) bX12_moves_0 rfl
theorem dX12_moves_20 : decode cX12_moves 20 = .ok (.i2l, 1) := dk133 (k := 20) bX12_moves_0 rfl
theorem dX12_moves_21 : decode cX12_moves 21 = .ok (.lconst 0, 1) := dk9 (k := 21) bX12_moves_0 rfl
theorem dX12_moves_22 : decode cX12_moves 22 = .ok (.lconst 1, 1) := dk10 (k := 22) bX12_moves_0 rfl
theorem dX12_moves_23 : decode cX12_moves 23 = .ok (.invokestatic 65, 3) := dk184 (k := 23) bX12_moves_0 rfl rfl
theorem bX12_moves_26 : bL cX12_moves 26 [154, 0, 6, 16, 254, 172, 27, 153, 0, 13, 42, 180, 0, 9, 16, 6, 46, 154, 0, 5, 2, 172, 42, 27] := bL_of (by decide +kernel)
theorem dX12_moves_26 : decode cX12_moves 26 = .ok (.ifCond .ne 6, 3) := dk154 (k := 0) bX12_moves_26 rfl (by decide)
theorem dX12_moves_29 : decode cX12_moves 29 = .ok (.bipush (-2), 2) := dk16 (k := 3) bX12_moves_26 rfl (by decide)
theorem dX12_moves_31 : decode cX12_moves 31 = .ok (.ireturn, 1) := dk172 (k := 5) bX12_moves_26 rfl
theorem dX12_moves_32 : decode cX12_moves 32 = .ok (.iload_n 1, 1) := dk27 (k := 6) bX12_moves_26 rfl
theorem dX12_moves_33 : decode cX12_moves 33 = .ok (.ifCond .eq 13, 3) := dk153 (k := 7) bX12_moves_26 rfl (by decide)
theorem dX12_moves_36 : decode cX12_moves 36 = .ok (.aload_n 0, 1) := dk42 (k := 10) bX12_moves_26 rfl
theorem dX12_moves_37 : decode cX12_moves 37 = .ok (.getfield 9, 3) := dk180 (k := 11) bX12_moves_26 rfl rfl
theorem dX12_moves_40 : decode cX12_moves 40 = .ok (.bipush 6, 2) := dk16 (k := 14) bX12_moves_26 rfl (by decide)
theorem dX12_moves_42 : decode cX12_moves 42 = .ok (.iaload, 1) := dk46 (k := 16) bX12_moves_26 rfl
theorem dX12_moves_43 : decode cX12_moves 43 = .ok (.ifCond .ne 5, 3) := dk154 (k := 17) bX12_moves_26 rfl (by decide)
theorem dX12_moves_46 : decode cX12_moves 46 = .ok (.iconst (-1), 1) := dk2 (k := 20) bX12_moves_26 rfl
theorem dX12_moves_47 : decode cX12_moves 47 = .ok (.ireturn, 1) := dk172 (k := 21) bX12_moves_26 rfl
theorem dX12_moves_48 : decode cX12_moves 48 = .ok (.aload_n 0, 1) := dk42 (k := 22) bX12_moves_26 rfl
theorem dX12_moves_49 : decode cX12_moves 49 = .ok (.iload_n 1, 1) := dk27 (k := 23) bX12_moves_26 rfl
theorem bX12_moves_50 : bL cX12_moves 50 [28, 182, 1, 35, 87, 3, 28, 184, 1, 23, 62, 3, 54, 4, 21, 4, 42, 180, 0, 9, 16, 6, 46, 162, 0, 49] := bL_of (by decide +kernel)
theorem dX12_moves_50 : decode cX12_moves 50 = .ok (.iload_n 2, 1) := dk28 (k := 0) bX12_moves_50 rfl
theorem dX12_moves_51 : decode cX12_moves 51 = .ok (.invokevirtual 291, 3) := dk182 (k := 1) bX12_moves_50 rfl rfl
theorem dX12_moves_54 : decode cX12_moves 54 = .ok (.pop, 1) := dk87 (k := 4) bX12_moves_50 rfl
theorem dX12_moves_55 : decode cX12_moves 55 = .ok (.iconst 0, 1) := dk3 (k := 5) bX12_moves_50 rfl
theorem dX12_moves_56 : decode cX12_moves 56 = .ok (.iload_n 2, 1) := dk28 (k := 6) bX12_moves_50 rfl
theorem dX12_moves_57 : decode cX12_moves 57 = .ok (.invokestatic 279, 3) := dk184 (k := 7) bX12_moves_50 rfl rfl
theorem dX12_moves_60 : decode cX12_moves 60 = .ok (.istore_n 3, 1) := dk62 (k := 10) bX12_moves_50 rfl
theorem dX12_moves_61 : decode cX12_moves 61 = .ok (.iconst 0, 1) := dk3 (k := 11) bX12_moves_50 rfl
theorem dX12_moves_62 : decode cX12_moves 62 = .ok (.istore 4, 2) := dk54 (k := 12) bX12_moves_50 rfl rfl
theorem dX12_moves_64 : decode cX12_moves 64 = .ok (.iload 4, 2) := dk21 (k := 14) bX12_moves_50 rfl rfl
theorem dX12_moves_66 : decode cX12_moves 66 = .ok (.aload_n 0, 1) := dk42 (k := 16) bX12_moves_50 rfl
theorem dX12_moves_67 : decode cX12_moves 67 = .ok (.getfield 9, 3) := dk180 (k := 17) bX12_moves_50 rfl rfl
theorem dX12_moves_70 : decode cX12_moves 70 = .ok (.bipush 6, 2) := dk16 (k := 20) bX12_moves_50 rfl (by decide)
theorem dX12_moves_72 : decode cX12_moves 72 = .ok (.iaload, 1) := dk46 (k := 22) bX12_moves_50 rfl
theorem dX12_moves_73 : decode cX12_moves 73 = .ok (.if_icmp .ge 49, 3) := dk162 (k := 23) bX12_moves_50 rfl (by decide)
theorem bX12_moves_76 : bL cX12_moves 76 [29, 153, 0, 19, 42, 180, 0, 38, 4, 21, 4, 120, 3, 184, 1, 26, 51, 167, 0, 16, 42, 180, 0, 38] := bL_of (by decide +kernel)
theorem dX12_moves_76 : decode cX12_moves 76 = .ok (.iload_n 3, 1) := dk29 (k := 0) bX12_moves_76 rfl
theorem dX12_moves_77 : decode cX12_moves 77 = .ok (.ifCond .eq 19, 3) := dk153 (k := 1) bX12_moves_76 rfl (by decide)
theorem dX12_moves_80 : decode cX12_moves 80 = .ok (.aload_n 0, 1) := dk42 (k := 4) bX12_moves_76 rfl
theorem dX12_moves_81 : decode cX12_moves 81 = .ok (.getfield 38, 3) := dk180 (k := 5) bX12_moves_76 rfl rfl
theorem dX12_moves_84 : decode cX12_moves 84 = .ok (.iconst 1, 1) := dk4 (k := 8) bX12_moves_76 rfl
theorem dX12_moves_85 : decode cX12_moves 85 = .ok (.iload 4, 2) := dk21 (k := 9) bX12_moves_76 rfl rfl
theorem dX12_moves_87 : decode cX12_moves 87 = .ok (.ishl, 1) := dk120 (k := 11) bX12_moves_76 rfl
theorem dX12_moves_88 : decode cX12_moves 88 = .ok (.iconst 0, 1) := dk3 (k := 12) bX12_moves_76 rfl
theorem dX12_moves_89 : decode cX12_moves 89 = .ok (.invokestatic 282, 3) := dk184 (k := 13) bX12_moves_76 rfl rfl
theorem dX12_moves_92 : decode cX12_moves 92 = .ok (.baload, 1) := dk51 (k := 16) bX12_moves_76 rfl
theorem dX12_moves_93 : decode cX12_moves 93 = .ok (.goto 16, 3) := dk167 (k := 17) bX12_moves_76 rfl (by decide)
theorem dX12_moves_96 : decode cX12_moves 96 = .ok (.aload_n 0, 1) := dk42 (k := 20) bX12_moves_76 rfl
theorem dX12_moves_97 : decode cX12_moves 97 = .ok (.getfield 38, 3) := dk180 (k := 21) bX12_moves_76 rfl rfl
theorem bX12_moves_100 : bL cX12_moves 100 [3, 4, 21, 4, 120, 184, 1, 26, 51, 29, 160, 0, 6, 21, 4, 172, 132, 4, 1, 167, 255, 201, 3, 172] := bL_of (by decide +kernel)
theorem dX12_moves_100 : decode cX12_moves 100 = .ok (.iconst 0, 1) := dk3 (k := 0) bX12_moves_100 rfl
theorem dX12_moves_101 : decode cX12_moves 101 = .ok (.iconst 1, 1) := dk4 (k := 1) bX12_moves_100 rfl
theorem dX12_moves_102 : decode cX12_moves 102 = .ok (.iload 4, 2) := dk21 (k := 2) bX12_moves_100 rfl rfl
theorem dX12_moves_104 : decode cX12_moves 104 = .ok (.ishl, 1) := dk120 (k := 4) bX12_moves_100 rfl
theorem dX12_moves_105 : decode cX12_moves 105 = .ok (.invokestatic 282, 3) := dk184 (k := 5) bX12_moves_100 rfl rfl
theorem dX12_moves_108 : decode cX12_moves 108 = .ok (.baload, 1) := dk51 (k := 8) bX12_moves_100 rfl
theorem dX12_moves_109 : decode cX12_moves 109 = .ok (.iload_n 3, 1) := dk29 (k := 9) bX12_moves_100 rfl
theorem dX12_moves_110 : decode cX12_moves 110 = .ok (.if_icmp .ne 6, 3) := dk160 (k := 10) bX12_moves_100 rfl (by decide)
theorem dX12_moves_113 : decode cX12_moves 113 = .ok (.iload 4, 2) := dk21 (k := 13) bX12_moves_100 rfl rfl
theorem dX12_moves_115 : decode cX12_moves 115 = .ok (.ireturn, 1) := dk172 (k := 15) bX12_moves_100 rfl
theorem dX12_moves_116 : decode cX12_moves 116 = .ok (.iinc 4 1, 3) := dk132 (k := 16) bX12_moves_100 rfl rfl (by decide)
theorem dX12_moves_119 : decode cX12_moves 119 = .ok (.goto (-55), 3) := dk167 (k := 19) bX12_moves_100 rfl (by decide)
theorem dX12_moves_122 : decode cX12_moves 122 = .ok (.iconst 0, 1) := dk3 (k := 22) bX12_moves_100 rfl
theorem dX12_moves_123 : decode cX12_moves 123 = .ok (.ireturn, 1) := dk172 (k := 23) bX12_moves_100 rfl
theorem bX12_steps_0 : bL cX12_steps 0 [28, 27, 100, 26, 27, 100, 28, 26, 100, 184, 0, 112, 96, 172] := bL_of (by decide +kernel)
theorem dX12_steps_0 : decode cX12_steps 0 = .ok (.iload_n 2, 1) := dk28 (k := 0) bX12_steps_0 rfl
theorem dX12_steps_1 : decode cX12_steps 1 = .ok (.iload_n 1, 1) := dk27 (k := 1) bX12_steps_0 rfl
theorem dX12_steps_2 : decode cX12_steps 2 = .ok (.isub, 1) := dk100 (k := 2) bX12_steps_0 rfl
theorem dX12_steps_3 : decode cX12_steps 3 = .ok (.iload_n 0, 1) := dk26 (k := 3) bX12_steps_0 rfl
theorem dX12_steps_4 : decode cX12_steps 4 = .ok (.iload_n 1, 1) := dk27 (k := 4) bX12_steps_0 rfl
theorem dX12_steps_5 : decode cX12_steps 5 = .ok (.isub, 1) := dk100 (k := 5) bX12_steps_0 rfl
theorem dX12_steps_6 : decode cX12_steps 6 = .ok (.iload_n 2, 1) := dk28 (k := 6) bX12_steps_0 rfl
theorem dX12_steps_7 : decode cX12_steps 7 = .ok (.iload_n 0, 1) := dk26 (k := 7) bX12_steps_0 rfl
theorem dX12_steps_8 : decode cX12_steps 8 = .ok (.isub, 1) := dk100 (k := 8) bX12_steps_0 rfl
theorem dX12_steps_9 : decode cX12_steps 9 = .ok (.invokestatic 112, 3) := dk184 (k := 9) bX12_steps_0 rfl rfl
theorem dX12_steps_12 : decode cX12_steps 12 = .ok (.iadd, 1) := dk96 (k := 12) bX12_steps_0 rfl
theorem dX12_steps_13 : decode cX12_steps 13 = .ok (.ireturn, 1) := dk172 (k := 13) bX12_steps_0 rfl
theorem bX12_namesOn_0 : bL cX12_namesOn 0 [3, 54, 6, 3, 54, 7, 21, 7, 42, 180, 0, 9, 16, 6, 46, 162, 0, 73, 21, 6, 27, 21, 7, 184, 1, 1] := bL_of (by decide +kernel)
theorem dX12_namesOn_0 : decode cX12_namesOn 0 = .ok (.iconst 0, 1) := dk3 (k := 0) bX12_namesOn_0 rfl
theorem dX12_namesOn_1 : decode cX12_namesOn 1 = .ok (.istore 6, 2) := dk54 (k := 1) bX12_namesOn_0 rfl rfl
theorem dX12_namesOn_3 : decode cX12_namesOn 3 = .ok (.iconst 0, 1) := dk3 (k := 3) bX12_namesOn_0 rfl
theorem dX12_namesOn_4 : decode cX12_namesOn 4 = .ok (.istore 7, 2) := dk54 (k := 4) bX12_namesOn_0 rfl rfl
theorem dX12_namesOn_6 : decode cX12_namesOn 6 = .ok (.iload 7, 2) := dk21 (k := 6) bX12_namesOn_0 rfl rfl
theorem dX12_namesOn_8 : decode cX12_namesOn 8 = .ok (.aload_n 0, 1) := dk42 (k := 8) bX12_namesOn_0 rfl
theorem dX12_namesOn_9 : decode cX12_namesOn 9 = .ok (.getfield 9, 3) := dk180 (k := 9) bX12_namesOn_0 rfl rfl
theorem dX12_namesOn_12 : decode cX12_namesOn 12 = .ok (.bipush 6, 2) := dk16 (k := 12) bX12_namesOn_0 rfl (by decide)
theorem dX12_namesOn_14 : decode cX12_namesOn 14 = .ok (.iaload, 1) := dk46 (k := 14) bX12_namesOn_0 rfl
theorem dX12_namesOn_15 : decode cX12_namesOn 15 = .ok (.if_icmp .ge 73, 3) := dk162 (k := 15) bX12_namesOn_0 rfl (by decide)
theorem dX12_namesOn_18 : decode cX12_namesOn 18 = .ok (.iload 6, 2) := dk21 (k := 18) bX12_namesOn_0 rfl rfl
theorem dX12_namesOn_20 : decode cX12_namesOn 20 = .ok (.iload_n 1, 1) := dk27 (k := 20) bX12_namesOn_0 rfl
theorem dX12_namesOn_21 : decode cX12_namesOn 21 = .ok (.iload 7, 2) := dk21 (k := 21) bX12_namesOn_0 rfl rfl
theorem dX12_namesOn_23 : decode cX12_namesOn 23 = .ok (.invokestatic 257, 3) := dk184 (k := 23) bX12_namesOn_0 rfl rfl
theorem bX12_namesOn_26 : bL cX12_namesOn 26 [4, 160, 0, 51, 42, 21, 7, 3, 182, 0, 220, 133, 28, 133, 29, 133, 184, 0, 65, 154, 0, 23, 42, 21, 7] := bL_of (by decide +kernel)
theorem dX12_namesOn_26 : decode cX12_namesOn 26 = .ok (.iconst 1, 1) := dk4 (k := 0) bX12_namesOn_26 rfl
theorem dX12_namesOn_27 : decode cX12_namesOn 27 = .ok (.if_icmp .ne 51, 3) := dk160 (k := 1) bX12_namesOn_26 rfl (by decide)
theorem dX12_namesOn_30 : decode cX12_namesOn 30 = .ok (.aload_n 0, 1) := dk42 (k := 4) bX12_namesOn_26 rfl
theorem dX12_namesOn_31 : decode cX12_namesOn 31 = .ok (.iload 7, 2) := dk21 (k := 5) bX12_namesOn_26 rfl rfl
theorem dX12_namesOn_33 : decode cX12_namesOn 33 = .ok (.iconst 0, 1) := dk3 (k := 7) bX12_namesOn_26 rfl
theorem dX12_namesOn_34 : decode cX12_namesOn 34 = .ok (.invokevirtual 220, 3) := dk182 (k := 8) bX12_namesOn_26 rfl rfl
theorem dX12_namesOn_37 : decode cX12_namesOn 37 = .ok (.i2l, 1) := dk133 (k := 11) bX12_namesOn_26 rfl
theorem dX12_namesOn_38 : decode cX12_namesOn 38 = .ok (.iload_n 2, 1) := dk28 (k := 12) bX12_namesOn_26 rfl
theorem dX12_namesOn_39 : decode cX12_namesOn 39 = .ok (.i2l, 1) := dk133 (k := 13) bX12_namesOn_26 rfl
theorem dX12_namesOn_40 : decode cX12_namesOn 40 = .ok (.iload_n 3, 1) := dk29 (k := 14) bX12_namesOn_26 rfl
theorem dX12_namesOn_41 : decode cX12_namesOn 41 = .ok (.i2l, 1) := dk133 (k := 15) bX12_namesOn_26 rfl
theorem dX12_namesOn_42 : decode cX12_namesOn 42 = .ok (.invokestatic 65, 3) := dk184 (k := 16) bX12_namesOn_26 rfl rfl
theorem dX12_namesOn_45 : decode cX12_namesOn 45 = .ok (.ifCond .ne 23, 3) := dk154 (k := 19) bX12_namesOn_26 rfl (by decide)
theorem dX12_namesOn_48 : decode cX12_namesOn 48 = .ok (.aload_n 0, 1) := dk42 (k := 22) bX12_namesOn_26 rfl
theorem dX12_namesOn_49 : decode cX12_namesOn 49 = .ok (.iload 7, 2) := dk21 (k := 23) bX12_namesOn_26 rfl rfl
theorem bX12_namesOn_51 : bL cX12_namesOn 51 [3, 182, 0, 220, 133, 21, 4, 133, 21, 5, 133, 184, 0, 65, 153, 0, 13, 42, 21, 7, 4, 182, 0, 220] := bL_of (by decide +kernel)
theorem dX12_namesOn_51 : decode cX12_namesOn 51 = .ok (.iconst 0, 1) := dk3 (k := 0) bX12_namesOn_51 rfl
theorem dX12_namesOn_52 : decode cX12_namesOn 52 = .ok (.invokevirtual 220, 3) := dk182 (k := 1) bX12_namesOn_51 rfl rfl
theorem dX12_namesOn_55 : decode cX12_namesOn 55 = .ok (.i2l, 1) := dk133 (k := 4) bX12_namesOn_51 rfl
theorem dX12_namesOn_56 : decode cX12_namesOn 56 = .ok (.iload 4, 2) := dk21 (k := 5) bX12_namesOn_51 rfl rfl
theorem dX12_namesOn_58 : decode cX12_namesOn 58 = .ok (.i2l, 1) := dk133 (k := 7) bX12_namesOn_51 rfl
theorem dX12_namesOn_59 : decode cX12_namesOn 59 = .ok (.iload 5, 2) := dk21 (k := 8) bX12_namesOn_51 rfl rfl
theorem dX12_namesOn_61 : decode cX12_namesOn 61 = .ok (.i2l, 1) := dk133 (k := 10) bX12_namesOn_51 rfl
theorem dX12_namesOn_62 : decode cX12_namesOn 62 = .ok (.invokestatic 65, 3) := dk184 (k := 11) bX12_namesOn_51 rfl rfl
theorem dX12_namesOn_65 : decode cX12_namesOn 65 = .ok (.ifCond .eq 13, 3) := dk153 (k := 14) bX12_namesOn_51 rfl (by decide)
theorem dX12_namesOn_68 : decode cX12_namesOn 68 = .ok (.aload_n 0, 1) := dk42 (k := 17) bX12_namesOn_51 rfl
theorem dX12_namesOn_69 : decode cX12_namesOn 69 = .ok (.iload 7, 2) := dk21 (k := 18) bX12_namesOn_51 rfl rfl
theorem dX12_namesOn_71 : decode cX12_namesOn 71 = .ok (.iconst 1, 1) := dk4 (k := 20) bX12_namesOn_51 rfl
theorem dX12_namesOn_72 : decode cX12_namesOn 72 = .ok (.invokevirtual 220, 3) := dk182 (k := 21) bX12_namesOn_51 rfl rfl
theorem bX12_namesOn_75 : bL cX12_namesOn 75 [167, 0, 4, 3, 96, 54, 6, 132, 7, 1, 167, 255, 177, 21, 6, 172] := bL_of (by decide +kernel)
theorem dX12_namesOn_75 : decode cX12_namesOn 75 = .ok (.goto 4, 3) := dk167 (k := 0) bX12_namesOn_75 rfl (by decide)
theorem dX12_namesOn_78 : decode cX12_namesOn 78 = .ok (.iconst 0, 1) := dk3 (k := 3) bX12_namesOn_75 rfl
theorem dX12_namesOn_79 : decode cX12_namesOn 79 = .ok (.iadd, 1) := dk96 (k := 4) bX12_namesOn_75 rfl
theorem dX12_namesOn_80 : decode cX12_namesOn 80 = .ok (.istore 6, 2) := dk54 (k := 5) bX12_namesOn_75 rfl rfl
theorem dX12_namesOn_82 : decode cX12_namesOn 82 = .ok (.iinc 7 1, 3) := dk132 (k := 7) bX12_namesOn_75 rfl rfl (by decide)
theorem dX12_namesOn_85 : decode cX12_namesOn 85 = .ok (.goto (-79), 3) := dk167 (k := 10) bX12_namesOn_75 rfl (by decide)
theorem dX12_namesOn_88 : decode cX12_namesOn 88 = .ok (.iload 6, 2) := dk21 (k := 13) bX12_namesOn_75 rfl rfl
theorem dX12_namesOn_90 : decode cX12_namesOn 90 = .ok (.ireturn, 1) := dk172 (k := 15) bX12_namesOn_75 rfl
theorem bX12_roundOf_0 : bL cX12_roundOf 0 [42, 182, 0, 240, 42, 182, 1, 7, 62, 19, 1, 38, 54, 4, 3, 54, 5, 21, 5, 27, 163, 0, 84, 27] := bL_of (by decide +kernel)
theorem dX12_roundOf_0 : decode cX12_roundOf 0 = .ok (.aload_n 0, 1) := dk42 (k := 0) bX12_roundOf_0 rfl
theorem dX12_roundOf_1 : decode cX12_roundOf 1 = .ok (.invokevirtual 240, 3) := dk182 (k := 1) bX12_roundOf_0 rfl rfl
theorem dX12_roundOf_4 : decode cX12_roundOf 4 = .ok (.aload_n 0, 1) := dk42 (k := 4) bX12_roundOf_0 rfl
theorem dX12_roundOf_5 : decode cX12_roundOf 5 = .ok (.invokevirtual 263, 3) := dk182 (k := 5) bX12_roundOf_0 rfl rfl
theorem dX12_roundOf_8 : decode cX12_roundOf 8 = .ok (.istore_n 3, 1) := dk62 (k := 8) bX12_roundOf_0 rfl
theorem dX12_roundOf_9 : decode cX12_roundOf 9 = .ok (.ldc_w 294, 3) := dk19 (k := 9) bX12_roundOf_0 rfl rfl
theorem dX12_roundOf_12 : decode cX12_roundOf 12 = .ok (.istore 4, 2) := dk54 (k := 12) bX12_roundOf_0 rfl rfl
theorem dX12_roundOf_14 : decode cX12_roundOf 14 = .ok (.iconst 0, 1) := dk3 (k := 14) bX12_roundOf_0 rfl
theorem dX12_roundOf_15 : decode cX12_roundOf 15 = .ok (.istore 5, 2) := dk54 (k := 15) bX12_roundOf_0 rfl rfl
theorem dX12_roundOf_17 : decode cX12_roundOf 17 = .ok (.iload 5, 2) := dk21 (k := 17) bX12_roundOf_0 rfl rfl
theorem dX12_roundOf_19 : decode cX12_roundOf 19 = .ok (.iload_n 1, 1) := dk27 (k := 19) bX12_roundOf_0 rfl
theorem dX12_roundOf_20 : decode cX12_roundOf 20 = .ok (.if_icmp .gt 84, 3) := dk163 (k := 20) bX12_roundOf_0 rfl (by decide)
theorem dX12_roundOf_23 : decode cX12_roundOf 23 = .ok (.iload_n 1, 1) := dk27 (k := 23) bX12_roundOf_0 rfl
theorem bX12_roundOf_24 : bL cX12_roundOf 24 [54, 6, 21, 6, 42, 180, 0, 9, 3, 46, 162, 0, 64, 27, 21, 5, 21, 6, 184, 1, 39, 21, 4, 162, 0, 45] := bL_of (by decide +kernel)
theorem dX12_roundOf_24 : decode cX12_roundOf 24 = .ok (.istore 6, 2) := dk54 (k := 0) bX12_roundOf_24 rfl rfl
theorem dX12_roundOf_26 : decode cX12_roundOf 26 = .ok (.iload 6, 2) := dk21 (k := 2) bX12_roundOf_24 rfl rfl
theorem dX12_roundOf_28 : decode cX12_roundOf 28 = .ok (.aload_n 0, 1) := dk42 (k := 4) bX12_roundOf_24 rfl
theorem dX12_roundOf_29 : decode cX12_roundOf 29 = .ok (.getfield 9, 3) := dk180 (k := 5) bX12_roundOf_24 rfl rfl
theorem dX12_roundOf_32 : decode cX12_roundOf 32 = .ok (.iconst 0, 1) := dk3 (k := 8) bX12_roundOf_24 rfl
theorem dX12_roundOf_33 : decode cX12_roundOf 33 = .ok (.iaload, 1) := dk46 (k := 9) bX12_roundOf_24 rfl
theorem dX12_roundOf_34 : decode cX12_roundOf 34 = .ok (.if_icmp .ge 64, 3) := dk162 (k := 10) bX12_roundOf_24 rfl (by decide)
theorem dX12_roundOf_37 : decode cX12_roundOf 37 = .ok (.iload_n 1, 1) := dk27 (k := 13) bX12_roundOf_24 rfl
theorem dX12_roundOf_38 : decode cX12_roundOf 38 = .ok (.iload 5, 2) := dk21 (k := 14) bX12_roundOf_24 rfl rfl
theorem dX12_roundOf_40 : decode cX12_roundOf 40 = .ok (.iload 6, 2) := dk21 (k := 16) bX12_roundOf_24 rfl rfl
theorem dX12_roundOf_42 : decode cX12_roundOf 42 = .ok (.invokestatic 295, 3) := dk184 (k := 18) bX12_roundOf_24 rfl rfl
theorem dX12_roundOf_45 : decode cX12_roundOf 45 = .ok (.iload 4, 2) := dk21 (k := 21) bX12_roundOf_24 rfl rfl
theorem dX12_roundOf_47 : decode cX12_roundOf 47 = .ok (.if_icmp .ge 45, 3) := dk162 (k := 23) bX12_roundOf_24 rfl (by decide)
theorem bX12_roundOf_50 : bL cX12_roundOf 50 [42, 29, 21, 5, 21, 6, 21, 5, 21, 6, 182, 1, 43, 28, 162, 0, 6, 167, 0, 25, 27, 21, 5, 21, 6] := bL_of (by decide +kernel)
theorem dX12_roundOf_50 : decode cX12_roundOf 50 = .ok (.aload_n 0, 1) := dk42 (k := 0) bX12_roundOf_50 rfl
theorem dX12_roundOf_51 : decode cX12_roundOf 51 = .ok (.iload_n 3, 1) := dk29 (k := 1) bX12_roundOf_50 rfl
theorem dX12_roundOf_52 : decode cX12_roundOf 52 = .ok (.iload 5, 2) := dk21 (k := 2) bX12_roundOf_50 rfl rfl
theorem dX12_roundOf_54 : decode cX12_roundOf 54 = .ok (.iload 6, 2) := dk21 (k := 4) bX12_roundOf_50 rfl rfl
theorem dX12_roundOf_56 : decode cX12_roundOf 56 = .ok (.iload 5, 2) := dk21 (k := 6) bX12_roundOf_50 rfl rfl
theorem dX12_roundOf_58 : decode cX12_roundOf 58 = .ok (.iload 6, 2) := dk21 (k := 8) bX12_roundOf_50 rfl rfl
theorem dX12_roundOf_60 : decode cX12_roundOf 60 = .ok (.invokevirtual 299, 3) := dk182 (k := 10) bX12_roundOf_50 rfl rfl
theorem dX12_roundOf_63 : decode cX12_roundOf 63 = .ok (.iload_n 2, 1) := dk28 (k := 13) bX12_roundOf_50 rfl
theorem dX12_roundOf_64 : decode cX12_roundOf 64 = .ok (.if_icmp .ge 6, 3) := dk162 (k := 14) bX12_roundOf_50 rfl (by decide)
theorem dX12_roundOf_67 : decode cX12_roundOf 67 = .ok (.goto 25, 3) := dk167 (k := 17) bX12_roundOf_50 rfl (by decide)
theorem dX12_roundOf_70 : decode cX12_roundOf 70 = .ok (.iload_n 1, 1) := dk27 (k := 20) bX12_roundOf_50 rfl
theorem dX12_roundOf_71 : decode cX12_roundOf 71 = .ok (.iload 5, 2) := dk21 (k := 21) bX12_roundOf_50 rfl rfl
theorem dX12_roundOf_73 : decode cX12_roundOf 73 = .ok (.iload 6, 2) := dk21 (k := 23) bX12_roundOf_50 rfl rfl
theorem bX12_roundOf_75 : bL cX12_roundOf 75 [184, 1, 39, 54, 4, 42, 21, 5, 181, 1, 47, 42, 21, 6, 181, 1, 50, 132, 6, 1, 167, 255, 187, 132, 5, 1] := bL_of (by decide +kernel)
theorem dX12_roundOf_75 : decode cX12_roundOf 75 = .ok (.invokestatic 295, 3) := dk184 (k := 0) bX12_roundOf_75 rfl rfl
theorem dX12_roundOf_78 : decode cX12_roundOf 78 = .ok (.istore 4, 2) := dk54 (k := 3) bX12_roundOf_75 rfl rfl
theorem dX12_roundOf_80 : decode cX12_roundOf 80 = .ok (.aload_n 0, 1) := dk42 (k := 5) bX12_roundOf_75 rfl
theorem dX12_roundOf_81 : decode cX12_roundOf 81 = .ok (.iload 5, 2) := dk21 (k := 6) bX12_roundOf_75 rfl rfl
theorem dX12_roundOf_83 : decode cX12_roundOf 83 = .ok (.putfield 303, 3) := dk181 (k := 8) bX12_roundOf_75 rfl rfl
theorem dX12_roundOf_86 : decode cX12_roundOf 86 = .ok (.aload_n 0, 1) := dk42 (k := 11) bX12_roundOf_75 rfl
theorem dX12_roundOf_87 : decode cX12_roundOf 87 = .ok (.iload 6, 2) := dk21 (k := 12) bX12_roundOf_75 rfl rfl
theorem dX12_roundOf_89 : decode cX12_roundOf 89 = .ok (.putfield 306, 3) := dk181 (k := 14) bX12_roundOf_75 rfl rfl
theorem dX12_roundOf_92 : decode cX12_roundOf 92 = .ok (.iinc 6 1, 3) := dk132 (k := 17) bX12_roundOf_75 rfl rfl (by decide)
theorem dX12_roundOf_95 : decode cX12_roundOf 95 = .ok (.goto (-69), 3) := dk167 (k := 20) bX12_roundOf_75 rfl (by decide)
theorem dX12_roundOf_98 : decode cX12_roundOf 98 = .ok (.iinc 5 1, 3) := dk132 (k := 23) bX12_roundOf_75 rfl rfl (by decide)
theorem bX12_roundOf_101 : bL cX12_roundOf 101 [167, 255, 172, 21, 4, 172] := bL_of (by decide +kernel)
theorem dX12_roundOf_101 : decode cX12_roundOf 101 = .ok (.goto (-84), 3) := dk167 (k := 0) bX12_roundOf_101 rfl (by decide)
theorem dX12_roundOf_104 : decode cX12_roundOf 104 = .ok (.iload 4, 2) := dk21 (k := 3) bX12_roundOf_101 rfl rfl
theorem dX12_roundOf_106 : decode cX12_roundOf 106 = .ok (.ireturn, 1) := dk172 (k := 5) bX12_roundOf_101 rfl
theorem bX12_isRound_0 : bL cX12_isRound 0 [42, 27, 133, 182, 0, 203, 153, 0, 19, 28, 133, 10, 20, 1, 53, 184, 0, 65, 153, 0, 7, 4, 167, 0, 4] := bL_of (by decide +kernel)
theorem dX12_isRound_0 : decode cX12_isRound 0 = .ok (.aload_n 0, 1) := dk42 (k := 0) bX12_isRound_0 rfl
theorem dX12_isRound_1 : decode cX12_isRound 1 = .ok (.iload_n 1, 1) := dk27 (k := 1) bX12_isRound_0 rfl
theorem dX12_isRound_2 : decode cX12_isRound 2 = .ok (.i2l, 1) := dk133 (k := 2) bX12_isRound_0 rfl
theorem dX12_isRound_3 : decode cX12_isRound 3 = .ok (.invokevirtual 203, 3) := dk182 (k := 3) bX12_isRound_0 rfl rfl
theorem dX12_isRound_6 : decode cX12_isRound 6 = .ok (.ifCond .eq 19, 3) := dk153 (k := 6) bX12_isRound_0 rfl (by decide)
theorem dX12_isRound_9 : decode cX12_isRound 9 = .ok (.iload_n 2, 1) := dk28 (k := 9) bX12_isRound_0 rfl
theorem dX12_isRound_10 : decode cX12_isRound 10 = .ok (.i2l, 1) := dk133 (k := 10) bX12_isRound_0 rfl
theorem dX12_isRound_11 : decode cX12_isRound 11 = .ok (.lconst 1, 1) := dk10 (k := 11) bX12_isRound_0 rfl
theorem dX12_isRound_12 : decode cX12_isRound 12 = .ok (.ldc2_w 309, 3) := dk20 (k := 12) bX12_isRound_0 rfl rfl
theorem dX12_isRound_15 : decode cX12_isRound 15 = .ok (.invokestatic 65, 3) := dk184 (k := 15) bX12_isRound_0 rfl rfl
theorem dX12_isRound_18 : decode cX12_isRound 18 = .ok (.ifCond .eq 7, 3) := dk153 (k := 18) bX12_isRound_0 rfl (by decide)
theorem dX12_isRound_21 : decode cX12_isRound 21 = .ok (.iconst 1, 1) := dk4 (k := 21) bX12_isRound_0 rfl
theorem dX12_isRound_22 : decode cX12_isRound 22 = .ok (.goto 4, 3) := dk167 (k := 22) bX12_isRound_0 rfl (by decide)
theorem bX12_isRound_25 : bL cX12_isRound 25 [3, 172] := bL_of (by decide +kernel)
theorem dX12_isRound_25 : decode cX12_isRound 25 = .ok (.iconst 0, 1) := dk3 (k := 0) bX12_isRound_25 rfl
theorem dX12_isRound_26 : decode cX12_isRound 26 = .ok (.ireturn, 1) := dk172 (k := 1) bX12_isRound_25 rfl
theorem bX12_round_0 : bL cX12_round 0 [42, 27, 28, 182, 1, 55, 154, 0, 6, 16, 254, 172, 42, 27, 28, 182, 1, 58, 62, 29, 19, 1, 38, 160, 0, 7] := bL_of (by decide +kernel)
theorem dX12_round_0 : decode cX12_round 0 = .ok (.aload_n 0, 1) := dk42 (k := 0) bX12_round_0 rfl
theorem dX12_round_1 : decode cX12_round 1 = .ok (.iload_n 1, 1) := dk27 (k := 1) bX12_round_0 rfl
theorem dX12_round_2 : decode cX12_round 2 = .ok (.iload_n 2, 1) := dk28 (k := 2) bX12_round_0 rfl
theorem dX12_round_3 : decode cX12_round 3 = .ok (.invokevirtual 311, 3) := dk182 (k := 3) bX12_round_0 rfl rfl
theorem dX12_round_6 : decode cX12_round 6 = .ok (.ifCond .ne 6, 3) := dk154 (k := 6) bX12_round_0 rfl (by decide)
theorem dX12_round_9 : decode cX12_round 9 = .ok (.bipush (-2), 2) := dk16 (k := 9) bX12_round_0 rfl (by decide)
theorem dX12_round_11 : decode cX12_round 11 = .ok (.ireturn, 1) := dk172 (k := 11) bX12_round_0 rfl
theorem dX12_round_12 : decode cX12_round 12 = .ok (.aload_n 0, 1) := dk42 (k := 12) bX12_round_0 rfl
theorem dX12_round_13 : decode cX12_round 13 = .ok (.iload_n 1, 1) := dk27 (k := 13) bX12_round_0 rfl
theorem dX12_round_14 : decode cX12_round 14 = .ok (.iload_n 2, 1) := dk28 (k := 14) bX12_round_0 rfl
theorem dX12_round_15 : decode cX12_round 15 = .ok (.invokevirtual 314, 3) := dk182 (k := 15) bX12_round_0 rfl rfl
theorem dX12_round_18 : decode cX12_round 18 = .ok (.istore_n 3, 1) := dk62 (k := 18) bX12_round_0 rfl
theorem dX12_round_19 : decode cX12_round 19 = .ok (.iload_n 3, 1) := dk29 (k := 19) bX12_round_0 rfl
theorem dX12_round_20 : decode cX12_round 20 = .ok (.ldc_w 294, 3) := dk19 (k := 20) bX12_round_0 rfl rfl
theorem dX12_round_23 : decode cX12_round 23 = .ok (.if_icmp .ne 7, 3) := dk160 (k := 23) bX12_round_0 rfl (by decide)
theorem bX12_round_26 : bL cX12_round 26 [2, 167, 0, 4, 29, 172] := bL_of (by decide +kernel)
theorem dX12_round_26 : decode cX12_round 26 = .ok (.iconst (-1), 1) := dk2 (k := 0) bX12_round_26 rfl
theorem dX12_round_27 : decode cX12_round 27 = .ok (.goto 4, 3) := dk167 (k := 1) bX12_round_26 rfl (by decide)
theorem dX12_round_30 : decode cX12_round 30 = .ok (.iload_n 3, 1) := dk29 (k := 4) bX12_round_26 rfl
theorem dX12_round_31 : decode cX12_round 31 = .ok (.ireturn, 1) := dk172 (k := 5) bX12_round_26 rfl
theorem bX12_goes_0 : bL cX12_goes 0 [42, 27, 28, 182, 1, 55, 153, 0, 13, 29, 133, 9, 10, 184, 0, 65, 154, 0, 6, 16, 254, 172, 42, 27] := bL_of (by decide +kernel)
theorem dX12_goes_0 : decode cX12_goes 0 = .ok (.aload_n 0, 1) := dk42 (k := 0) bX12_goes_0 rfl
theorem dX12_goes_1 : decode cX12_goes 1 = .ok (.iload_n 1, 1) := dk27 (k := 1) bX12_goes_0 rfl
theorem dX12_goes_2 : decode cX12_goes 2 = .ok (.iload_n 2, 1) := dk28 (k := 2) bX12_goes_0 rfl
theorem dX12_goes_3 : decode cX12_goes 3 = .ok (.invokevirtual 311, 3) := dk182 (k := 3) bX12_goes_0 rfl rfl
theorem dX12_goes_6 : decode cX12_goes 6 = .ok (.ifCond .eq 13, 3) := dk153 (k := 6) bX12_goes_0 rfl (by decide)
theorem dX12_goes_9 : decode cX12_goes 9 = .ok (.iload_n 3, 1) := dk29 (k := 9) bX12_goes_0 rfl
theorem dX12_goes_10 : decode cX12_goes 10 = .ok (.i2l, 1) := dk133 (k := 10) bX12_goes_0 rfl
theorem dX12_goes_11 : decode cX12_goes 11 = .ok (.lconst 0, 1) := dk9 (k := 11) bX12_goes_0 rfl
theorem dX12_goes_12 : decode cX12_goes 12 = .ok (.lconst 1, 1) := dk10 (k := 12) bX12_goes_0 rfl
theorem dX12_goes_13 : decode cX12_goes 13 = .ok (.invokestatic 65, 3) := dk184 (k := 13) bX12_goes_0 rfl rfl
theorem dX12_goes_16 : decode cX12_goes 16 = .ok (.ifCond .ne 6, 3) := dk154 (k := 16) bX12_goes_0 rfl (by decide)
theorem dX12_goes_19 : decode cX12_goes 19 = .ok (.bipush (-2), 2) := dk16 (k := 19) bX12_goes_0 rfl (by decide)
theorem dX12_goes_21 : decode cX12_goes 21 = .ok (.ireturn, 1) := dk172 (k := 21) bX12_goes_0 rfl
theorem dX12_goes_22 : decode cX12_goes 22 = .ok (.aload_n 0, 1) := dk42 (k := 22) bX12_goes_0 rfl
theorem dX12_goes_23 : decode cX12_goes 23 = .ok (.iload_n 1, 1) := dk27 (k := 23) bX12_goes_0 rfl
theorem bX12_goes_24 : bL cX12_goes 24 [28, 182, 1, 58, 19, 1, 38, 160, 0, 5, 2, 172, 29, 154, 0, 10, 42, 180, 1, 47, 167, 0, 7, 42] := bL_of (by decide +kernel)
theorem dX12_goes_24 : decode cX12_goes 24 = .ok (.iload_n 2, 1) := dk28 (k := 0) bX12_goes_24 rfl
theorem dX12_goes_25 : decode cX12_goes 25 = .ok (.invokevirtual 314, 3) := dk182 (k := 1) bX12_goes_24 rfl rfl
theorem dX12_goes_28 : decode cX12_goes 28 = .ok (.ldc_w 294, 3) := dk19 (k := 4) bX12_goes_24 rfl rfl
theorem dX12_goes_31 : decode cX12_goes 31 = .ok (.if_icmp .ne 5, 3) := dk160 (k := 7) bX12_goes_24 rfl (by decide)
theorem dX12_goes_34 : decode cX12_goes 34 = .ok (.iconst (-1), 1) := dk2 (k := 10) bX12_goes_24 rfl
theorem dX12_goes_35 : decode cX12_goes 35 = .ok (.ireturn, 1) := dk172 (k := 11) bX12_goes_24 rfl
theorem dX12_goes_36 : decode cX12_goes 36 = .ok (.iload_n 3, 1) := dk29 (k := 12) bX12_goes_24 rfl
theorem dX12_goes_37 : decode cX12_goes 37 = .ok (.ifCond .ne 10, 3) := dk154 (k := 13) bX12_goes_24 rfl (by decide)
theorem dX12_goes_40 : decode cX12_goes 40 = .ok (.aload_n 0, 1) := dk42 (k := 16) bX12_goes_24 rfl
theorem dX12_goes_41 : decode cX12_goes 41 = .ok (.getfield 303, 3) := dk180 (k := 17) bX12_goes_24 rfl rfl
theorem dX12_goes_44 : decode cX12_goes 44 = .ok (.goto 7, 3) := dk167 (k := 20) bX12_goes_24 rfl (by decide)
theorem dX12_goes_47 : decode cX12_goes 47 = .ok (.aload_n 0, 1) := dk42 (k := 23) bX12_goes_24 rfl
theorem bX12_goes_48 : bL cX12_goes 48 [180, 1, 50, 172] := bL_of (by decide +kernel)
theorem dX12_goes_48 : decode cX12_goes 48 = .ok (.getfield 306, 3) := dk180 (k := 0) bX12_goes_48 rfl rfl
theorem dX12_goes_51 : decode cX12_goes 51 = .ok (.ireturn, 1) := dk172 (k := 3) bX12_goes_48 rfl
theorem bX12_two_0 : bL cX12_two 0 [42, 27, 29, 182, 1, 55, 153, 0, 12, 42, 28, 133, 182, 0, 203, 154, 0, 6, 16, 254, 172, 42, 182, 0, 240] := bL_of (by decide +kernel)
theorem dX12_two_0 : decode cX12_two 0 = .ok (.aload_n 0, 1) := dk42 (k := 0) bX12_two_0 rfl
theorem dX12_two_1 : decode cX12_two 1 = .ok (.iload_n 1, 1) := dk27 (k := 1) bX12_two_0 rfl
theorem dX12_two_2 : decode cX12_two 2 = .ok (.iload_n 3, 1) := dk29 (k := 2) bX12_two_0 rfl
theorem dX12_two_3 : decode cX12_two 3 = .ok (.invokevirtual 311, 3) := dk182 (k := 3) bX12_two_0 rfl rfl
theorem dX12_two_6 : decode cX12_two 6 = .ok (.ifCond .eq 12, 3) := dk153 (k := 6) bX12_two_0 rfl (by decide)
theorem dX12_two_9 : decode cX12_two 9 = .ok (.aload_n 0, 1) := dk42 (k := 9) bX12_two_0 rfl
theorem dX12_two_10 : decode cX12_two 10 = .ok (.iload_n 2, 1) := dk28 (k := 10) bX12_two_0 rfl
theorem dX12_two_11 : decode cX12_two 11 = .ok (.i2l, 1) := dk133 (k := 11) bX12_two_0 rfl
theorem dX12_two_12 : decode cX12_two 12 = .ok (.invokevirtual 203, 3) := dk182 (k := 12) bX12_two_0 rfl rfl
theorem dX12_two_15 : decode cX12_two 15 = .ok (.ifCond .ne 6, 3) := dk154 (k := 15) bX12_two_0 rfl (by decide)
theorem dX12_two_18 : decode cX12_two 18 = .ok (.bipush (-2), 2) := dk16 (k := 18) bX12_two_0 rfl (by decide)
theorem dX12_two_20 : decode cX12_two 20 = .ok (.ireturn, 1) := dk172 (k := 20) bX12_two_0 rfl
theorem dX12_two_21 : decode cX12_two 21 = .ok (.aload_n 0, 1) := dk42 (k := 21) bX12_two_0 rfl
theorem dX12_two_22 : decode cX12_two 22 = .ok (.invokevirtual 240, 3) := dk182 (k := 22) bX12_two_0 rfl rfl
theorem bX12_two_25 : bL cX12_two 25 [42, 182, 1, 7, 54, 4, 19, 1, 38, 54, 5, 3, 54, 6, 21, 6, 27, 163, 0, 124, 27, 54, 7, 21, 7] := bL_of (by decide +kernel)
theorem dX12_two_25 : decode cX12_two 25 = .ok (.aload_n 0, 1) := dk42 (k := 0) bX12_two_25 rfl
theorem dX12_two_26 : decode cX12_two 26 = .ok (.invokevirtual 263, 3) := dk182 (k := 1) bX12_two_25 rfl rfl
theorem dX12_two_29 : decode cX12_two 29 = .ok (.istore 4, 2) := dk54 (k := 4) bX12_two_25 rfl rfl
theorem dX12_two_31 : decode cX12_two 31 = .ok (.ldc_w 294, 3) := dk19 (k := 6) bX12_two_25 rfl rfl
theorem dX12_two_34 : decode cX12_two 34 = .ok (.istore 5, 2) := dk54 (k := 9) bX12_two_25 rfl rfl
theorem dX12_two_36 : decode cX12_two 36 = .ok (.iconst 0, 1) := dk3 (k := 11) bX12_two_25 rfl
theorem dX12_two_37 : decode cX12_two 37 = .ok (.istore 6, 2) := dk54 (k := 12) bX12_two_25 rfl rfl
theorem dX12_two_39 : decode cX12_two 39 = .ok (.iload 6, 2) := dk21 (k := 14) bX12_two_25 rfl rfl
theorem dX12_two_41 : decode cX12_two 41 = .ok (.iload_n 1, 1) := dk27 (k := 16) bX12_two_25 rfl
theorem dX12_two_42 : decode cX12_two 42 = .ok (.if_icmp .gt 124, 3) := dk163 (k := 17) bX12_two_25 rfl (by decide)
theorem dX12_two_45 : decode cX12_two 45 = .ok (.iload_n 1, 1) := dk27 (k := 20) bX12_two_25 rfl
theorem dX12_two_46 : decode cX12_two 46 = .ok (.istore 7, 2) := dk54 (k := 21) bX12_two_25 rfl rfl
theorem dX12_two_48 : decode cX12_two 48 = .ok (.iload 7, 2) := dk21 (k := 23) bX12_two_25 rfl rfl
theorem bX12_two_50 : bL cX12_two 50 [42, 180, 0, 9, 3, 46, 162, 0, 104, 27, 21, 6, 21, 7, 184, 1, 39, 21, 5, 161, 0, 6, 167, 0, 82] := bL_of (by decide +kernel)
theorem dX12_two_50 : decode cX12_two 50 = .ok (.aload_n 0, 1) := dk42 (k := 0) bX12_two_50 rfl
theorem dX12_two_51 : decode cX12_two 51 = .ok (.getfield 9, 3) := dk180 (k := 1) bX12_two_50 rfl rfl
theorem dX12_two_54 : decode cX12_two 54 = .ok (.iconst 0, 1) := dk3 (k := 4) bX12_two_50 rfl
theorem dX12_two_55 : decode cX12_two 55 = .ok (.iaload, 1) := dk46 (k := 5) bX12_two_50 rfl
theorem dX12_two_56 : decode cX12_two 56 = .ok (.if_icmp .ge 104, 3) := dk162 (k := 6) bX12_two_50 rfl (by decide)
theorem dX12_two_59 : decode cX12_two 59 = .ok (.iload_n 1, 1) := dk27 (k := 9) bX12_two_50 rfl
theorem dX12_two_60 : decode cX12_two 60 = .ok (.iload 6, 2) := dk21 (k := 10) bX12_two_50 rfl rfl
theorem dX12_two_62 : decode cX12_two 62 = .ok (.iload 7, 2) := dk21 (k := 12) bX12_two_50 rfl rfl
theorem dX12_two_64 : decode cX12_two 64 = .ok (.invokestatic 295, 3) := dk184 (k := 14) bX12_two_50 rfl rfl
theorem dX12_two_67 : decode cX12_two 67 = .ok (.iload 5, 2) := dk21 (k := 17) bX12_two_50 rfl rfl
theorem dX12_two_69 : decode cX12_two 69 = .ok (.if_icmp .lt 6, 3) := dk161 (k := 19) bX12_two_50 rfl (by decide)
theorem dX12_two_72 : decode cX12_two 72 = .ok (.goto 82, 3) := dk167 (k := 22) bX12_two_50 rfl (by decide)
theorem bX12_two_75 : bL cX12_two 75 [3, 54, 8, 21, 8, 28, 163, 0, 73, 28, 54, 9, 21, 9, 42, 180, 0, 9, 3, 46, 162, 0, 53, 42] := bL_of (by decide +kernel)
theorem dX12_two_75 : decode cX12_two 75 = .ok (.iconst 0, 1) := dk3 (k := 0) bX12_two_75 rfl
theorem dX12_two_76 : decode cX12_two 76 = .ok (.istore 8, 2) := dk54 (k := 1) bX12_two_75 rfl rfl
theorem dX12_two_78 : decode cX12_two 78 = .ok (.iload 8, 2) := dk21 (k := 3) bX12_two_75 rfl rfl
theorem dX12_two_80 : decode cX12_two 80 = .ok (.iload_n 2, 1) := dk28 (k := 5) bX12_two_75 rfl
theorem dX12_two_81 : decode cX12_two 81 = .ok (.if_icmp .gt 73, 3) := dk163 (k := 6) bX12_two_75 rfl (by decide)
theorem dX12_two_84 : decode cX12_two 84 = .ok (.iload_n 2, 1) := dk28 (k := 9) bX12_two_75 rfl
theorem dX12_two_85 : decode cX12_two 85 = .ok (.istore 9, 2) := dk54 (k := 10) bX12_two_75 rfl rfl
theorem dX12_two_87 : decode cX12_two 87 = .ok (.iload 9, 2) := dk21 (k := 12) bX12_two_75 rfl rfl
theorem dX12_two_89 : decode cX12_two 89 = .ok (.aload_n 0, 1) := dk42 (k := 14) bX12_two_75 rfl
theorem dX12_two_90 : decode cX12_two 90 = .ok (.getfield 9, 3) := dk180 (k := 15) bX12_two_75 rfl rfl
theorem dX12_two_93 : decode cX12_two 93 = .ok (.iconst 0, 1) := dk3 (k := 18) bX12_two_75 rfl
theorem dX12_two_94 : decode cX12_two 94 = .ok (.iaload, 1) := dk46 (k := 19) bX12_two_75 rfl
theorem dX12_two_95 : decode cX12_two 95 = .ok (.if_icmp .ge 53, 3) := dk162 (k := 20) bX12_two_75 rfl (by decide)
theorem dX12_two_98 : decode cX12_two 98 = .ok (.aload_n 0, 1) := dk42 (k := 23) bX12_two_75 rfl
theorem bX12_two_99 : bL cX12_two 99 [21, 4, 21, 6, 21, 7, 21, 8, 21, 9, 182, 1, 43, 29, 161, 0, 29, 21, 5, 27, 21, 6, 21, 7] := bL_of (by decide +kernel)
theorem dX12_two_99 : decode cX12_two 99 = .ok (.iload 4, 2) := dk21 (k := 0) bX12_two_99 rfl rfl
theorem dX12_two_101 : decode cX12_two 101 = .ok (.iload 6, 2) := dk21 (k := 2) bX12_two_99 rfl rfl
theorem dX12_two_103 : decode cX12_two 103 = .ok (.iload 7, 2) := dk21 (k := 4) bX12_two_99 rfl rfl
theorem dX12_two_105 : decode cX12_two 105 = .ok (.iload 8, 2) := dk21 (k := 6) bX12_two_99 rfl rfl
theorem dX12_two_107 : decode cX12_two 107 = .ok (.iload 9, 2) := dk21 (k := 8) bX12_two_99 rfl rfl
theorem dX12_two_109 : decode cX12_two 109 = .ok (.invokevirtual 299, 3) := dk182 (k := 10) bX12_two_99 rfl rfl
theorem dX12_two_112 : decode cX12_two 112 = .ok (.iload_n 3, 1) := dk29 (k := 13) bX12_two_99 rfl
theorem dX12_two_113 : decode cX12_two 113 = .ok (.if_icmp .lt 29, 3) := dk161 (k := 14) bX12_two_99 rfl (by decide)
theorem dX12_two_116 : decode cX12_two 116 = .ok (.iload 5, 2) := dk21 (k := 17) bX12_two_99 rfl rfl
theorem dX12_two_118 : decode cX12_two 118 = .ok (.iload_n 1, 1) := dk27 (k := 19) bX12_two_99 rfl
theorem dX12_two_119 : decode cX12_two 119 = .ok (.iload 6, 2) := dk21 (k := 20) bX12_two_99 rfl rfl
theorem dX12_two_121 : decode cX12_two 121 = .ok (.iload 7, 2) := dk21 (k := 22) bX12_two_99 rfl rfl
theorem bX12_two_123 : bL cX12_two 123 [184, 1, 39, 28, 21, 8, 21, 9, 184, 1, 39, 184, 1, 61, 184, 0, 112, 54, 5, 132, 9, 1, 167, 255, 198] := bL_of (by decide +kernel)
theorem dX12_two_123 : decode cX12_two 123 = .ok (.invokestatic 295, 3) := dk184 (k := 0) bX12_two_123 rfl rfl
theorem dX12_two_126 : decode cX12_two 126 = .ok (.iload_n 2, 1) := dk28 (k := 3) bX12_two_123 rfl
theorem dX12_two_127 : decode cX12_two 127 = .ok (.iload 8, 2) := dk21 (k := 4) bX12_two_123 rfl rfl
theorem dX12_two_129 : decode cX12_two 129 = .ok (.iload 9, 2) := dk21 (k := 6) bX12_two_123 rfl rfl
theorem dX12_two_131 : decode cX12_two 131 = .ok (.invokestatic 295, 3) := dk184 (k := 8) bX12_two_123 rfl rfl
theorem dX12_two_134 : decode cX12_two 134 = .ok (.invokestatic 317, 3) := dk184 (k := 11) bX12_two_123 rfl rfl
theorem dX12_two_137 : decode cX12_two 137 = .ok (.invokestatic 112, 3) := dk184 (k := 14) bX12_two_123 rfl rfl
theorem dX12_two_140 : decode cX12_two 140 = .ok (.istore 5, 2) := dk54 (k := 17) bX12_two_123 rfl rfl
theorem dX12_two_142 : decode cX12_two 142 = .ok (.iinc 9 1, 3) := dk132 (k := 19) bX12_two_123 rfl rfl (by decide)
theorem dX12_two_145 : decode cX12_two 145 = .ok (.goto (-58), 3) := dk167 (k := 22) bX12_two_123 rfl (by decide)
theorem bX12_two_148 : bL cX12_two 148 [132, 8, 1, 167, 255, 183, 132, 7, 1, 167, 255, 147, 132, 6, 1, 167, 255, 132, 21, 5, 19, 1, 38, 160, 0, 7] := bL_of (by decide +kernel)
theorem dX12_two_148 : decode cX12_two 148 = .ok (.iinc 8 1, 3) := dk132 (k := 0) bX12_two_148 rfl rfl (by decide)
theorem dX12_two_151 : decode cX12_two 151 = .ok (.goto (-73), 3) := dk167 (k := 3) bX12_two_148 rfl (by decide)
theorem dX12_two_154 : decode cX12_two 154 = .ok (.iinc 7 1, 3) := dk132 (k := 6) bX12_two_148 rfl rfl (by decide)
theorem dX12_two_157 : decode cX12_two 157 = .ok (.goto (-109), 3) := dk167 (k := 9) bX12_two_148 rfl (by decide)
theorem dX12_two_160 : decode cX12_two 160 = .ok (.iinc 6 1, 3) := dk132 (k := 12) bX12_two_148 rfl rfl (by decide)
theorem dX12_two_163 : decode cX12_two 163 = .ok (.goto (-124), 3) := dk167 (k := 15) bX12_two_148 rfl (by decide)
theorem dX12_two_166 : decode cX12_two 166 = .ok (.iload 5, 2) := dk21 (k := 18) bX12_two_148 rfl rfl
theorem dX12_two_168 : decode cX12_two 168 = .ok (.ldc_w 294, 3) := dk19 (k := 20) bX12_two_148 rfl rfl
theorem dX12_two_171 : decode cX12_two 171 = .ok (.if_icmp .ne 7, 3) := dk160 (k := 23) bX12_two_148 rfl (by decide)
theorem bX12_two_174 : bL cX12_two 174 [2, 167, 0, 5, 21, 5, 172] := bL_of (by decide +kernel)
theorem dX12_two_174 : decode cX12_two 174 = .ok (.iconst (-1), 1) := dk2 (k := 0) bX12_two_174 rfl
theorem dX12_two_175 : decode cX12_two 175 = .ok (.goto 5, 3) := dk167 (k := 1) bX12_two_174 rfl (by decide)
theorem dX12_two_178 : decode cX12_two 178 = .ok (.iload 5, 2) := dk21 (k := 4) bX12_two_174 rfl rfl
theorem dX12_two_180 : decode cX12_two 180 = .ok (.ireturn, 1) := dk172 (k := 6) bX12_two_174 rfl
theorem bX12_isLower_0 : bL cX12_isLower 0 [42, 27, 133, 182, 0, 203, 153, 0, 22, 42, 180, 0, 34, 27, 46, 42, 180, 0, 34, 28, 46, 162, 0, 7] := bL_of (by decide +kernel)
theorem dX12_isLower_0 : decode cX12_isLower 0 = .ok (.aload_n 0, 1) := dk42 (k := 0) bX12_isLower_0 rfl
theorem dX12_isLower_1 : decode cX12_isLower 1 = .ok (.iload_n 1, 1) := dk27 (k := 1) bX12_isLower_0 rfl
theorem dX12_isLower_2 : decode cX12_isLower 2 = .ok (.i2l, 1) := dk133 (k := 2) bX12_isLower_0 rfl
theorem dX12_isLower_3 : decode cX12_isLower 3 = .ok (.invokevirtual 203, 3) := dk182 (k := 3) bX12_isLower_0 rfl rfl
theorem dX12_isLower_6 : decode cX12_isLower 6 = .ok (.ifCond .eq 22, 3) := dk153 (k := 6) bX12_isLower_0 rfl (by decide)
theorem dX12_isLower_9 : decode cX12_isLower 9 = .ok (.aload_n 0, 1) := dk42 (k := 9) bX12_isLower_0 rfl
theorem dX12_isLower_10 : decode cX12_isLower 10 = .ok (.getfield 34, 3) := dk180 (k := 10) bX12_isLower_0 rfl rfl
theorem dX12_isLower_13 : decode cX12_isLower 13 = .ok (.iload_n 1, 1) := dk27 (k := 13) bX12_isLower_0 rfl
theorem dX12_isLower_14 : decode cX12_isLower 14 = .ok (.iaload, 1) := dk46 (k := 14) bX12_isLower_0 rfl
theorem dX12_isLower_15 : decode cX12_isLower 15 = .ok (.aload_n 0, 1) := dk42 (k := 15) bX12_isLower_0 rfl
theorem dX12_isLower_16 : decode cX12_isLower 16 = .ok (.getfield 34, 3) := dk180 (k := 16) bX12_isLower_0 rfl rfl
theorem dX12_isLower_19 : decode cX12_isLower 19 = .ok (.iload_n 2, 1) := dk28 (k := 19) bX12_isLower_0 rfl
theorem dX12_isLower_20 : decode cX12_isLower 20 = .ok (.iaload, 1) := dk46 (k := 20) bX12_isLower_0 rfl
theorem dX12_isLower_21 : decode cX12_isLower 21 = .ok (.if_icmp .ge 7, 3) := dk162 (k := 21) bX12_isLower_0 rfl (by decide)
theorem bX12_isLower_24 : bL cX12_isLower 24 [4, 167, 0, 4, 3, 172] := bL_of (by decide +kernel)
theorem dX12_isLower_24 : decode cX12_isLower 24 = .ok (.iconst 1, 1) := dk4 (k := 0) bX12_isLower_24 rfl
theorem dX12_isLower_25 : decode cX12_isLower 25 = .ok (.goto 4, 3) := dk167 (k := 1) bX12_isLower_24 rfl (by decide)
theorem dX12_isLower_28 : decode cX12_isLower 28 = .ok (.iconst 0, 1) := dk3 (k := 4) bX12_isLower_24 rfl
theorem dX12_isLower_29 : decode cX12_isLower 29 = .ok (.ireturn, 1) := dk172 (k := 5) bX12_isLower_24 rfl
theorem bX12_flowOf_0 : bL cX12_flowOf 0 [27, 61, 42, 28, 4, 100, 28, 182, 1, 64, 154, 0, 14, 42, 28, 4, 96, 28, 182, 1, 64, 153, 0, 67] := bL_of (by decide +kernel)
theorem dX12_flowOf_0 : decode cX12_flowOf 0 = .ok (.iload_n 1, 1) := dk27 (k := 0) bX12_flowOf_0 rfl
theorem dX12_flowOf_1 : decode cX12_flowOf 1 = .ok (.istore_n 2, 1) := dk61 (k := 1) bX12_flowOf_0 rfl
theorem dX12_flowOf_2 : decode cX12_flowOf 2 = .ok (.aload_n 0, 1) := dk42 (k := 2) bX12_flowOf_0 rfl
theorem dX12_flowOf_3 : decode cX12_flowOf 3 = .ok (.iload_n 2, 1) := dk28 (k := 3) bX12_flowOf_0 rfl
theorem dX12_flowOf_4 : decode cX12_flowOf 4 = .ok (.iconst 1, 1) := dk4 (k := 4) bX12_flowOf_0 rfl
theorem dX12_flowOf_5 : decode cX12_flowOf 5 = .ok (.isub, 1) := dk100 (k := 5) bX12_flowOf_0 rfl
theorem dX12_flowOf_6 : decode cX12_flowOf 6 = .ok (.iload_n 2, 1) := dk28 (k := 6) bX12_flowOf_0 rfl
theorem dX12_flowOf_7 : decode cX12_flowOf 7 = .ok (.invokevirtual 320, 3) := dk182 (k := 7) bX12_flowOf_0 rfl rfl
theorem dX12_flowOf_10 : decode cX12_flowOf 10 = .ok (.ifCond .ne 14, 3) := dk154 (k := 10) bX12_flowOf_0 rfl (by decide)
theorem dX12_flowOf_13 : decode cX12_flowOf 13 = .ok (.aload_n 0, 1) := dk42 (k := 13) bX12_flowOf_0 rfl
theorem dX12_flowOf_14 : decode cX12_flowOf 14 = .ok (.iload_n 2, 1) := dk28 (k := 14) bX12_flowOf_0 rfl
theorem dX12_flowOf_15 : decode cX12_flowOf 15 = .ok (.iconst 1, 1) := dk4 (k := 15) bX12_flowOf_0 rfl
theorem dX12_flowOf_16 : decode cX12_flowOf 16 = .ok (.iadd, 1) := dk96 (k := 16) bX12_flowOf_0 rfl
theorem dX12_flowOf_17 : decode cX12_flowOf 17 = .ok (.iload_n 2, 1) := dk28 (k := 17) bX12_flowOf_0 rfl
theorem dX12_flowOf_18 : decode cX12_flowOf 18 = .ok (.invokevirtual 320, 3) := dk182 (k := 18) bX12_flowOf_0 rfl rfl
theorem dX12_flowOf_21 : decode cX12_flowOf 21 = .ok (.ifCond .eq 67, 3) := dk153 (k := 21) bX12_flowOf_0 rfl (by decide)
theorem bX12_flowOf_24 : bL cX12_flowOf 24 [42, 28, 4, 100, 28, 182, 1, 64, 153, 0, 37, 42, 28, 4, 96, 28, 182, 1, 64, 153, 0, 22, 42, 180, 0, 34] := bL_of (by decide +kernel)
theorem dX12_flowOf_24 : decode cX12_flowOf 24 = .ok (.aload_n 0, 1) := dk42 (k := 0) bX12_flowOf_24 rfl
theorem dX12_flowOf_25 : decode cX12_flowOf 25 = .ok (.iload_n 2, 1) := dk28 (k := 1) bX12_flowOf_24 rfl
theorem dX12_flowOf_26 : decode cX12_flowOf 26 = .ok (.iconst 1, 1) := dk4 (k := 2) bX12_flowOf_24 rfl
theorem dX12_flowOf_27 : decode cX12_flowOf 27 = .ok (.isub, 1) := dk100 (k := 3) bX12_flowOf_24 rfl
theorem dX12_flowOf_28 : decode cX12_flowOf 28 = .ok (.iload_n 2, 1) := dk28 (k := 4) bX12_flowOf_24 rfl
theorem dX12_flowOf_29 : decode cX12_flowOf 29 = .ok (.invokevirtual 320, 3) := dk182 (k := 5) bX12_flowOf_24 rfl rfl
theorem dX12_flowOf_32 : decode cX12_flowOf 32 = .ok (.ifCond .eq 37, 3) := dk153 (k := 8) bX12_flowOf_24 rfl (by decide)
theorem dX12_flowOf_35 : decode cX12_flowOf 35 = .ok (.aload_n 0, 1) := dk42 (k := 11) bX12_flowOf_24 rfl
theorem dX12_flowOf_36 : decode cX12_flowOf 36 = .ok (.iload_n 2, 1) := dk28 (k := 12) bX12_flowOf_24 rfl
theorem dX12_flowOf_37 : decode cX12_flowOf 37 = .ok (.iconst 1, 1) := dk4 (k := 13) bX12_flowOf_24 rfl
theorem dX12_flowOf_38 : decode cX12_flowOf 38 = .ok (.iadd, 1) := dk96 (k := 14) bX12_flowOf_24 rfl
theorem dX12_flowOf_39 : decode cX12_flowOf 39 = .ok (.iload_n 2, 1) := dk28 (k := 15) bX12_flowOf_24 rfl
theorem dX12_flowOf_40 : decode cX12_flowOf 40 = .ok (.invokevirtual 320, 3) := dk182 (k := 16) bX12_flowOf_24 rfl rfl
theorem dX12_flowOf_43 : decode cX12_flowOf 43 = .ok (.ifCond .eq 22, 3) := dk153 (k := 19) bX12_flowOf_24 rfl (by decide)
theorem dX12_flowOf_46 : decode cX12_flowOf 46 = .ok (.aload_n 0, 1) := dk42 (k := 22) bX12_flowOf_24 rfl
theorem dX12_flowOf_47 : decode cX12_flowOf 47 = .ok (.getfield 34, 3) := dk180 (k := 23) bX12_flowOf_24 rfl rfl
theorem bX12_flowOf_50 : bL cX12_flowOf 50 [28, 4, 100, 46, 42, 180, 0, 34, 28, 4, 96, 46, 163, 0, 7, 4, 167, 0, 4, 3, 62, 29, 153, 0, 9] := bL_of (by decide +kernel)
theorem dX12_flowOf_50 : decode cX12_flowOf 50 = .ok (.iload_n 2, 1) := dk28 (k := 0) bX12_flowOf_50 rfl
theorem dX12_flowOf_51 : decode cX12_flowOf 51 = .ok (.iconst 1, 1) := dk4 (k := 1) bX12_flowOf_50 rfl
theorem dX12_flowOf_52 : decode cX12_flowOf 52 = .ok (.isub, 1) := dk100 (k := 2) bX12_flowOf_50 rfl
theorem dX12_flowOf_53 : decode cX12_flowOf 53 = .ok (.iaload, 1) := dk46 (k := 3) bX12_flowOf_50 rfl
theorem dX12_flowOf_54 : decode cX12_flowOf 54 = .ok (.aload_n 0, 1) := dk42 (k := 4) bX12_flowOf_50 rfl
theorem dX12_flowOf_55 : decode cX12_flowOf 55 = .ok (.getfield 34, 3) := dk180 (k := 5) bX12_flowOf_50 rfl rfl
theorem dX12_flowOf_58 : decode cX12_flowOf 58 = .ok (.iload_n 2, 1) := dk28 (k := 8) bX12_flowOf_50 rfl
theorem dX12_flowOf_59 : decode cX12_flowOf 59 = .ok (.iconst 1, 1) := dk4 (k := 9) bX12_flowOf_50 rfl
theorem dX12_flowOf_60 : decode cX12_flowOf 60 = .ok (.iadd, 1) := dk96 (k := 10) bX12_flowOf_50 rfl
theorem dX12_flowOf_61 : decode cX12_flowOf 61 = .ok (.iaload, 1) := dk46 (k := 11) bX12_flowOf_50 rfl
theorem dX12_flowOf_62 : decode cX12_flowOf 62 = .ok (.if_icmp .gt 7, 3) := dk163 (k := 12) bX12_flowOf_50 rfl (by decide)
theorem dX12_flowOf_65 : decode cX12_flowOf 65 = .ok (.iconst 1, 1) := dk4 (k := 15) bX12_flowOf_50 rfl
theorem dX12_flowOf_66 : decode cX12_flowOf 66 = .ok (.goto 4, 3) := dk167 (k := 16) bX12_flowOf_50 rfl (by decide)
theorem dX12_flowOf_69 : decode cX12_flowOf 69 = .ok (.iconst 0, 1) := dk3 (k := 19) bX12_flowOf_50 rfl
theorem dX12_flowOf_70 : decode cX12_flowOf 70 = .ok (.istore_n 3, 1) := dk62 (k := 20) bX12_flowOf_50 rfl
theorem dX12_flowOf_71 : decode cX12_flowOf 71 = .ok (.iload_n 3, 1) := dk29 (k := 21) bX12_flowOf_50 rfl
theorem dX12_flowOf_72 : decode cX12_flowOf 72 = .ok (.ifCond .eq 9, 3) := dk153 (k := 22) bX12_flowOf_50 rfl (by decide)
theorem bX12_flowOf_75 : bL cX12_flowOf 75 [28, 4, 100, 167, 0, 6, 28, 4, 96, 61, 167, 255, 173, 28, 172] := bL_of (by decide +kernel)
theorem dX12_flowOf_75 : decode cX12_flowOf 75 = .ok (.iload_n 2, 1) := dk28 (k := 0) bX12_flowOf_75 rfl
theorem dX12_flowOf_76 : decode cX12_flowOf 76 = .ok (.iconst 1, 1) := dk4 (k := 1) bX12_flowOf_75 rfl
theorem dX12_flowOf_77 : decode cX12_flowOf 77 = .ok (.isub, 1) := dk100 (k := 2) bX12_flowOf_75 rfl
theorem dX12_flowOf_78 : decode cX12_flowOf 78 = .ok (.goto 6, 3) := dk167 (k := 3) bX12_flowOf_75 rfl (by decide)
theorem dX12_flowOf_81 : decode cX12_flowOf 81 = .ok (.iload_n 2, 1) := dk28 (k := 6) bX12_flowOf_75 rfl
theorem dX12_flowOf_82 : decode cX12_flowOf 82 = .ok (.iconst 1, 1) := dk4 (k := 7) bX12_flowOf_75 rfl
theorem dX12_flowOf_83 : decode cX12_flowOf 83 = .ok (.iadd, 1) := dk96 (k := 8) bX12_flowOf_75 rfl
theorem dX12_flowOf_84 : decode cX12_flowOf 84 = .ok (.istore_n 2, 1) := dk61 (k := 9) bX12_flowOf_75 rfl
theorem dX12_flowOf_85 : decode cX12_flowOf 85 = .ok (.goto (-83), 3) := dk167 (k := 10) bX12_flowOf_75 rfl (by decide)
theorem dX12_flowOf_88 : decode cX12_flowOf 88 = .ok (.iload_n 2, 1) := dk28 (k := 13) bX12_flowOf_75 rfl
theorem dX12_flowOf_89 : decode cX12_flowOf 89 = .ok (.ireturn, 1) := dk172 (k := 14) bX12_flowOf_75 rfl
theorem bX12_flows_0 : bL cX12_flows 0 [42, 27, 133, 182, 0, 203, 154, 0, 6, 16, 254, 172, 42, 182, 0, 240, 42, 27, 182, 1, 67, 172] := bL_of (by decide +kernel)
theorem dX12_flows_0 : decode cX12_flows 0 = .ok (.aload_n 0, 1) := dk42 (k := 0) bX12_flows_0 rfl
theorem dX12_flows_1 : decode cX12_flows 1 = .ok (.iload_n 1, 1) := dk27 (k := 1) bX12_flows_0 rfl
theorem dX12_flows_2 : decode cX12_flows 2 = .ok (.i2l, 1) := dk133 (k := 2) bX12_flows_0 rfl
theorem dX12_flows_3 : decode cX12_flows 3 = .ok (.invokevirtual 203, 3) := dk182 (k := 3) bX12_flows_0 rfl rfl
theorem dX12_flows_6 : decode cX12_flows 6 = .ok (.ifCond .ne 6, 3) := dk154 (k := 6) bX12_flows_0 rfl (by decide)
theorem dX12_flows_9 : decode cX12_flows 9 = .ok (.bipush (-2), 2) := dk16 (k := 9) bX12_flows_0 rfl (by decide)
theorem dX12_flows_11 : decode cX12_flows 11 = .ok (.ireturn, 1) := dk172 (k := 11) bX12_flows_0 rfl
theorem dX12_flows_12 : decode cX12_flows 12 = .ok (.aload_n 0, 1) := dk42 (k := 12) bX12_flows_0 rfl
theorem dX12_flows_13 : decode cX12_flows 13 = .ok (.invokevirtual 240, 3) := dk182 (k := 13) bX12_flows_0 rfl rfl
theorem dX12_flows_16 : decode cX12_flows 16 = .ok (.aload_n 0, 1) := dk42 (k := 16) bX12_flows_0 rfl
theorem dX12_flows_17 : decode cX12_flows 17 = .ok (.iload_n 1, 1) := dk27 (k := 17) bX12_flows_0 rfl
theorem dX12_flows_18 : decode cX12_flows 18 = .ok (.invokevirtual 323, 3) := dk182 (k := 18) bX12_flows_0 rfl rfl
theorem dX12_flows_21 : decode cX12_flows 21 = .ok (.ireturn, 1) := dk172 (k := 21) bX12_flows_0 rfl
theorem bX12_basin_0 : bL cX12_basin 0 [42, 27, 133, 182, 0, 203, 154, 0, 6, 16, 254, 172, 42, 182, 0, 240, 3, 61, 3, 62, 29, 42, 180, 0, 9] := bL_of (by decide +kernel)
theorem dX12_basin_0 : decode cX12_basin 0 = .ok (.aload_n 0, 1) := dk42 (k := 0) bX12_basin_0 rfl
theorem dX12_basin_1 : decode cX12_basin 1 = .ok (.iload_n 1, 1) := dk27 (k := 1) bX12_basin_0 rfl
theorem dX12_basin_2 : decode cX12_basin 2 = .ok (.i2l, 1) := dk133 (k := 2) bX12_basin_0 rfl
theorem dX12_basin_3 : decode cX12_basin 3 = .ok (.invokevirtual 203, 3) := dk182 (k := 3) bX12_basin_0 rfl rfl
theorem dX12_basin_6 : decode cX12_basin 6 = .ok (.ifCond .ne 6, 3) := dk154 (k := 6) bX12_basin_0 rfl (by decide)
theorem dX12_basin_9 : decode cX12_basin 9 = .ok (.bipush (-2), 2) := dk16 (k := 9) bX12_basin_0 rfl (by decide)
theorem dX12_basin_11 : decode cX12_basin 11 = .ok (.ireturn, 1) := dk172 (k := 11) bX12_basin_0 rfl
theorem dX12_basin_12 : decode cX12_basin 12 = .ok (.aload_n 0, 1) := dk42 (k := 12) bX12_basin_0 rfl
theorem dX12_basin_13 : decode cX12_basin 13 = .ok (.invokevirtual 240, 3) := dk182 (k := 13) bX12_basin_0 rfl rfl
theorem dX12_basin_16 : decode cX12_basin 16 = .ok (.iconst 0, 1) := dk3 (k := 16) bX12_basin_0 rfl
theorem dX12_basin_17 : decode cX12_basin 17 = .ok (.istore_n 2, 1) := dk61 (k := 17) bX12_basin_0 rfl
theorem dX12_basin_18 : decode cX12_basin 18 = .ok (.iconst 0, 1) := dk3 (k := 18) bX12_basin_0 rfl
theorem dX12_basin_19 : decode cX12_basin 19 = .ok (.istore_n 3, 1) := dk62 (k := 19) bX12_basin_0 rfl
theorem dX12_basin_20 : decode cX12_basin 20 = .ok (.iload_n 3, 1) := dk29 (k := 20) bX12_basin_0 rfl
theorem dX12_basin_21 : decode cX12_basin 21 = .ok (.aload_n 0, 1) := dk42 (k := 21) bX12_basin_0 rfl
theorem dX12_basin_22 : decode cX12_basin 22 = .ok (.getfield 9, 3) := dk180 (k := 22) bX12_basin_0 rfl rfl
theorem bX12_basin_25 : bL cX12_basin 25 [3, 46, 162, 0, 28, 28, 42, 29, 182, 1, 67, 27, 160, 0, 9, 4, 29, 120, 167, 0, 4, 3, 128, 61] := bL_of (by decide +kernel)
theorem dX12_basin_25 : decode cX12_basin 25 = .ok (.iconst 0, 1) := dk3 (k := 0) bX12_basin_25 rfl
theorem dX12_basin_26 : decode cX12_basin 26 = .ok (.iaload, 1) := dk46 (k := 1) bX12_basin_25 rfl
theorem dX12_basin_27 : decode cX12_basin 27 = .ok (.if_icmp .ge 28, 3) := dk162 (k := 2) bX12_basin_25 rfl (by decide)
theorem dX12_basin_30 : decode cX12_basin 30 = .ok (.iload_n 2, 1) := dk28 (k := 5) bX12_basin_25 rfl
theorem dX12_basin_31 : decode cX12_basin 31 = .ok (.aload_n 0, 1) := dk42 (k := 6) bX12_basin_25 rfl
theorem dX12_basin_32 : decode cX12_basin 32 = .ok (.iload_n 3, 1) := dk29 (k := 7) bX12_basin_25 rfl
theorem dX12_basin_33 : decode cX12_basin 33 = .ok (.invokevirtual 323, 3) := dk182 (k := 8) bX12_basin_25 rfl rfl
theorem dX12_basin_36 : decode cX12_basin 36 = .ok (.iload_n 1, 1) := dk27 (k := 11) bX12_basin_25 rfl
theorem dX12_basin_37 : decode cX12_basin 37 = .ok (.if_icmp .ne 9, 3) := dk160 (k := 12) bX12_basin_25 rfl (by decide)
theorem dX12_basin_40 : decode cX12_basin 40 = .ok (.iconst 1, 1) := dk4 (k := 15) bX12_basin_25 rfl
theorem dX12_basin_41 : decode cX12_basin 41 = .ok (.iload_n 3, 1) := dk29 (k := 16) bX12_basin_25 rfl
theorem dX12_basin_42 : decode cX12_basin 42 = .ok (.ishl, 1) := dk120 (k := 17) bX12_basin_25 rfl
theorem dX12_basin_43 : decode cX12_basin 43 = .ok (.goto 4, 3) := dk167 (k := 18) bX12_basin_25 rfl (by decide)
theorem dX12_basin_46 : decode cX12_basin 46 = .ok (.iconst 0, 1) := dk3 (k := 21) bX12_basin_25 rfl
theorem dX12_basin_47 : decode cX12_basin 47 = .ok (.ior, 1) := dk128 (k := 22) bX12_basin_25 rfl
theorem dX12_basin_48 : decode cX12_basin 48 = .ok (.istore_n 2, 1) := dk61 (k := 23) bX12_basin_25 rfl
theorem bX12_basin_49 : bL cX12_basin 49 [132, 3, 1, 167, 255, 224, 28, 172] := bL_of (by decide +kernel)
theorem dX12_basin_49 : decode cX12_basin 49 = .ok (.iinc 3 1, 3) := dk132 (k := 0) bX12_basin_49 rfl rfl (by decide)
theorem dX12_basin_52 : decode cX12_basin 52 = .ok (.goto (-32), 3) := dk167 (k := 3) bX12_basin_49 rfl (by decide)
theorem dX12_basin_55 : decode cX12_basin 55 = .ok (.iload_n 2, 1) := dk28 (k := 6) bX12_basin_49 rfl
theorem dX12_basin_56 : decode cX12_basin 56 = .ok (.ireturn, 1) := dk172 (k := 7) bX12_basin_49 rfl
theorem bX12_cliffs_0 : bL cX12_cliffs 0 [42, 182, 0, 73, 154, 0, 6, 16, 254, 172, 42, 182, 0, 240, 3, 60, 4, 61, 28, 42, 180, 0, 9, 3] := bL_of (by decide +kernel)
theorem dX12_cliffs_0 : decode cX12_cliffs 0 = .ok (.aload_n 0, 1) := dk42 (k := 0) bX12_cliffs_0 rfl
theorem dX12_cliffs_1 : decode cX12_cliffs 1 = .ok (.invokevirtual 73, 3) := dk182 (k := 1) bX12_cliffs_0 rfl rfl
theorem dX12_cliffs_4 : decode cX12_cliffs 4 = .ok (.ifCond .ne 6, 3) := dk154 (k := 4) bX12_cliffs_0 rfl (by decide)
theorem dX12_cliffs_7 : decode cX12_cliffs 7 = .ok (.bipush (-2), 2) := dk16 (k := 7) bX12_cliffs_0 rfl (by decide)
theorem dX12_cliffs_9 : decode cX12_cliffs 9 = .ok (.ireturn, 1) := dk172 (k := 9) bX12_cliffs_0 rfl
theorem dX12_cliffs_10 : decode cX12_cliffs 10 = .ok (.aload_n 0, 1) := dk42 (k := 10) bX12_cliffs_0 rfl
theorem dX12_cliffs_11 : decode cX12_cliffs 11 = .ok (.invokevirtual 240, 3) := dk182 (k := 11) bX12_cliffs_0 rfl rfl
theorem dX12_cliffs_14 : decode cX12_cliffs 14 = .ok (.iconst 0, 1) := dk3 (k := 14) bX12_cliffs_0 rfl
theorem dX12_cliffs_15 : decode cX12_cliffs 15 = .ok (.istore_n 1, 1) := dk60 (k := 15) bX12_cliffs_0 rfl
theorem dX12_cliffs_16 : decode cX12_cliffs 16 = .ok (.iconst 1, 1) := dk4 (k := 16) bX12_cliffs_0 rfl
theorem dX12_cliffs_17 : decode cX12_cliffs 17 = .ok (.istore_n 2, 1) := dk61 (k := 17) bX12_cliffs_0 rfl
theorem dX12_cliffs_18 : decode cX12_cliffs 18 = .ok (.iload_n 2, 1) := dk28 (k := 18) bX12_cliffs_0 rfl
theorem dX12_cliffs_19 : decode cX12_cliffs 19 = .ok (.aload_n 0, 1) := dk42 (k := 19) bX12_cliffs_0 rfl
theorem dX12_cliffs_20 : decode cX12_cliffs 20 = .ok (.getfield 9, 3) := dk180 (k := 20) bX12_cliffs_0 rfl rfl
theorem dX12_cliffs_23 : decode cX12_cliffs 23 = .ok (.iconst 0, 1) := dk3 (k := 23) bX12_cliffs_0 rfl
theorem bX12_cliffs_24 : bL cX12_cliffs 24 [46, 162, 0, 44, 27, 42, 180, 0, 34, 28, 46, 42, 180, 0, 34, 28, 4, 100, 46, 100, 184, 0, 214, 42] := bL_of (by decide +kernel)
theorem dX12_cliffs_24 : decode cX12_cliffs 24 = .ok (.iaload, 1) := dk46 (k := 0) bX12_cliffs_24 rfl
theorem dX12_cliffs_25 : decode cX12_cliffs 25 = .ok (.if_icmp .ge 44, 3) := dk162 (k := 1) bX12_cliffs_24 rfl (by decide)
theorem dX12_cliffs_28 : decode cX12_cliffs 28 = .ok (.iload_n 1, 1) := dk27 (k := 4) bX12_cliffs_24 rfl
theorem dX12_cliffs_29 : decode cX12_cliffs 29 = .ok (.aload_n 0, 1) := dk42 (k := 5) bX12_cliffs_24 rfl
theorem dX12_cliffs_30 : decode cX12_cliffs 30 = .ok (.getfield 34, 3) := dk180 (k := 6) bX12_cliffs_24 rfl rfl
theorem dX12_cliffs_33 : decode cX12_cliffs 33 = .ok (.iload_n 2, 1) := dk28 (k := 9) bX12_cliffs_24 rfl
theorem dX12_cliffs_34 : decode cX12_cliffs 34 = .ok (.iaload, 1) := dk46 (k := 10) bX12_cliffs_24 rfl
theorem dX12_cliffs_35 : decode cX12_cliffs 35 = .ok (.aload_n 0, 1) := dk42 (k := 11) bX12_cliffs_24 rfl
theorem dX12_cliffs_36 : decode cX12_cliffs 36 = .ok (.getfield 34, 3) := dk180 (k := 12) bX12_cliffs_24 rfl rfl
theorem dX12_cliffs_39 : decode cX12_cliffs 39 = .ok (.iload_n 2, 1) := dk28 (k := 15) bX12_cliffs_24 rfl
theorem dX12_cliffs_40 : decode cX12_cliffs 40 = .ok (.iconst 1, 1) := dk4 (k := 16) bX12_cliffs_24 rfl
theorem dX12_cliffs_41 : decode cX12_cliffs 41 = .ok (.isub, 1) := dk100 (k := 17) bX12_cliffs_24 rfl
theorem dX12_cliffs_42 : decode cX12_cliffs 42 = .ok (.iaload, 1) := dk46 (k := 18) bX12_cliffs_24 rfl
theorem dX12_cliffs_43 : decode cX12_cliffs 43 = .ok (.isub, 1) := dk100 (k := 19) bX12_cliffs_24 rfl
theorem dX12_cliffs_44 : decode cX12_cliffs 44 = .ok (.invokestatic 214, 3) := dk184 (k := 20) bX12_cliffs_24 rfl rfl
theorem dX12_cliffs_47 : decode cX12_cliffs 47 = .ok (.aload_n 0, 1) := dk42 (k := 23) bX12_cliffs_24 rfl
theorem bX12_cliffs_48 : bL cX12_cliffs 48 [180, 0, 9, 5, 46, 164, 0, 7, 4, 167, 0, 4, 3, 96, 60, 132, 2, 1, 167, 255, 208, 27, 172] := bL_of (by decide +kernel)
theorem dX12_cliffs_48 : decode cX12_cliffs 48 = .ok (.getfield 9, 3) := dk180 (k := 0) bX12_cliffs_48 rfl rfl
theorem dX12_cliffs_51 : decode cX12_cliffs 51 = .ok (.iconst 2, 1) := dk5 (k := 3) bX12_cliffs_48 rfl
theorem dX12_cliffs_52 : decode cX12_cliffs 52 = .ok (.iaload, 1) := dk46 (k := 4) bX12_cliffs_48 rfl
theorem dX12_cliffs_53 : decode cX12_cliffs 53 = .ok (.if_icmp .le 7, 3) := dk164 (k := 5) bX12_cliffs_48 rfl (by decide)
theorem dX12_cliffs_56 : decode cX12_cliffs 56 = .ok (.iconst 1, 1) := dk4 (k := 8) bX12_cliffs_48 rfl
theorem dX12_cliffs_57 : decode cX12_cliffs 57 = .ok (.goto 4, 3) := dk167 (k := 9) bX12_cliffs_48 rfl (by decide)
theorem dX12_cliffs_60 : decode cX12_cliffs 60 = .ok (.iconst 0, 1) := dk3 (k := 12) bX12_cliffs_48 rfl
theorem dX12_cliffs_61 : decode cX12_cliffs 61 = .ok (.iadd, 1) := dk96 (k := 13) bX12_cliffs_48 rfl
theorem dX12_cliffs_62 : decode cX12_cliffs 62 = .ok (.istore_n 1, 1) := dk60 (k := 14) bX12_cliffs_48 rfl
theorem dX12_cliffs_63 : decode cX12_cliffs 63 = .ok (.iinc 2 1, 3) := dk132 (k := 15) bX12_cliffs_48 rfl rfl (by decide)
theorem dX12_cliffs_66 : decode cX12_cliffs 66 = .ok (.goto (-48), 3) := dk167 (k := 18) bX12_cliffs_48 rfl (by decide)
theorem dX12_cliffs_69 : decode cX12_cliffs 69 = .ok (.iload_n 1, 1) := dk27 (k := 21) bX12_cliffs_48 rfl
theorem dX12_cliffs_70 : decode cX12_cliffs 70 = .ok (.ireturn, 1) := dk172 (k := 22) bX12_cliffs_48 rfl
theorem bX12_springs_0 : bL cX12_springs 0 [42, 182, 0, 73, 154, 0, 6, 16, 254, 172, 42, 182, 0, 240, 3, 60, 3, 61, 28, 42, 180, 0, 9, 3] := bL_of (by decide +kernel)
theorem dX12_springs_0 : decode cX12_springs 0 = .ok (.aload_n 0, 1) := dk42 (k := 0) bX12_springs_0 rfl
theorem dX12_springs_1 : decode cX12_springs 1 = .ok (.invokevirtual 73, 3) := dk182 (k := 1) bX12_springs_0 rfl rfl
theorem dX12_springs_4 : decode cX12_springs 4 = .ok (.ifCond .ne 6, 3) := dk154 (k := 4) bX12_springs_0 rfl (by decide)
theorem dX12_springs_7 : decode cX12_springs 7 = .ok (.bipush (-2), 2) := dk16 (k := 7) bX12_springs_0 rfl (by decide)
theorem dX12_springs_9 : decode cX12_springs 9 = .ok (.ireturn, 1) := dk172 (k := 9) bX12_springs_0 rfl
theorem dX12_springs_10 : decode cX12_springs 10 = .ok (.aload_n 0, 1) := dk42 (k := 10) bX12_springs_0 rfl
theorem dX12_springs_11 : decode cX12_springs 11 = .ok (.invokevirtual 240, 3) := dk182 (k := 11) bX12_springs_0 rfl rfl
theorem dX12_springs_14 : decode cX12_springs 14 = .ok (.iconst 0, 1) := dk3 (k := 14) bX12_springs_0 rfl
theorem dX12_springs_15 : decode cX12_springs 15 = .ok (.istore_n 1, 1) := dk60 (k := 15) bX12_springs_0 rfl
theorem dX12_springs_16 : decode cX12_springs 16 = .ok (.iconst 0, 1) := dk3 (k := 16) bX12_springs_0 rfl
theorem dX12_springs_17 : decode cX12_springs 17 = .ok (.istore_n 2, 1) := dk61 (k := 17) bX12_springs_0 rfl
theorem dX12_springs_18 : decode cX12_springs 18 = .ok (.iload_n 2, 1) := dk28 (k := 18) bX12_springs_0 rfl
theorem dX12_springs_19 : decode cX12_springs 19 = .ok (.aload_n 0, 1) := dk42 (k := 19) bX12_springs_0 rfl
theorem dX12_springs_20 : decode cX12_springs 20 = .ok (.getfield 9, 3) := dk180 (k := 20) bX12_springs_0 rfl rfl
theorem dX12_springs_23 : decode cX12_springs 23 = .ok (.iconst 0, 1) := dk3 (k := 23) bX12_springs_0 rfl
theorem bX12_springs_24 : bL cX12_springs 24 [46, 162, 0, 19, 27, 4, 42, 28, 182, 1, 67, 120, 128, 60, 132, 2, 1, 167, 255, 233, 27, 172] := bL_of (by decide +kernel)
theorem dX12_springs_24 : decode cX12_springs 24 = .ok (.iaload, 1) := dk46 (k := 0) bX12_springs_24 rfl
theorem dX12_springs_25 : decode cX12_springs 25 = .ok (.if_icmp .ge 19, 3) := dk162 (k := 1) bX12_springs_24 rfl (by decide)
theorem dX12_springs_28 : decode cX12_springs 28 = .ok (.iload_n 1, 1) := dk27 (k := 4) bX12_springs_24 rfl
theorem dX12_springs_29 : decode cX12_springs 29 = .ok (.iconst 1, 1) := dk4 (k := 5) bX12_springs_24 rfl
theorem dX12_springs_30 : decode cX12_springs 30 = .ok (.aload_n 0, 1) := dk42 (k := 6) bX12_springs_24 rfl
theorem dX12_springs_31 : decode cX12_springs 31 = .ok (.iload_n 2, 1) := dk28 (k := 7) bX12_springs_24 rfl
theorem dX12_springs_32 : decode cX12_springs 32 = .ok (.invokevirtual 323, 3) := dk182 (k := 8) bX12_springs_24 rfl rfl
theorem dX12_springs_35 : decode cX12_springs 35 = .ok (.ishl, 1) := dk120 (k := 11) bX12_springs_24 rfl
theorem dX12_springs_36 : decode cX12_springs 36 = .ok (.ior, 1) := dk128 (k := 12) bX12_springs_24 rfl
theorem dX12_springs_37 : decode cX12_springs 37 = .ok (.istore_n 1, 1) := dk60 (k := 13) bX12_springs_24 rfl
theorem dX12_springs_38 : decode cX12_springs 38 = .ok (.iinc 2 1, 3) := dk132 (k := 14) bX12_springs_24 rfl rfl (by decide)
theorem dX12_springs_41 : decode cX12_springs 41 = .ok (.goto (-23), 3) := dk167 (k := 17) bX12_springs_24 rfl (by decide)
theorem dX12_springs_44 : decode cX12_springs 44 = .ok (.iload_n 1, 1) := dk27 (k := 20) bX12_springs_24 rfl
theorem dX12_springs_45 : decode cX12_springs 45 = .ok (.ireturn, 1) := dk172 (k := 21) bX12_springs_24 rfl
theorem bX12_isSeen_0 : bL cX12_isSeen 0 [28, 27, 100, 184, 0, 214, 62, 4, 54, 4, 21, 4, 29, 162, 0, 60, 42, 180, 0, 34, 28, 27, 164, 0, 10] := bL_of (by decide +kernel)
theorem dX12_isSeen_0 : decode cX12_isSeen 0 = .ok (.iload_n 2, 1) := dk28 (k := 0) bX12_isSeen_0 rfl
theorem dX12_isSeen_1 : decode cX12_isSeen 1 = .ok (.iload_n 1, 1) := dk27 (k := 1) bX12_isSeen_0 rfl
theorem dX12_isSeen_2 : decode cX12_isSeen 2 = .ok (.isub, 1) := dk100 (k := 2) bX12_isSeen_0 rfl
theorem dX12_isSeen_3 : decode cX12_isSeen 3 = .ok (.invokestatic 214, 3) := dk184 (k := 3) bX12_isSeen_0 rfl rfl
theorem dX12_isSeen_6 : decode cX12_isSeen 6 = .ok (.istore_n 3, 1) := dk62 (k := 6) bX12_isSeen_0 rfl
theorem dX12_isSeen_7 : decode cX12_isSeen 7 = .ok (.iconst 1, 1) := dk4 (k := 7) bX12_isSeen_0 rfl
theorem dX12_isSeen_8 : decode cX12_isSeen 8 = .ok (.istore 4, 2) := dk54 (k := 8) bX12_isSeen_0 rfl rfl
theorem dX12_isSeen_10 : decode cX12_isSeen 10 = .ok (.iload 4, 2) := dk21 (k := 10) bX12_isSeen_0 rfl rfl
theorem dX12_isSeen_12 : decode cX12_isSeen 12 = .ok (.iload_n 3, 1) := dk29 (k := 12) bX12_isSeen_0 rfl
theorem dX12_isSeen_13 : decode cX12_isSeen 13 = .ok (.if_icmp .ge 60, 3) := dk162 (k := 13) bX12_isSeen_0 rfl (by decide)
theorem dX12_isSeen_16 : decode cX12_isSeen 16 = .ok (.aload_n 0, 1) := dk42 (k := 16) bX12_isSeen_0 rfl
theorem dX12_isSeen_17 : decode cX12_isSeen 17 = .ok (.getfield 34, 3) := dk180 (k := 17) bX12_isSeen_0 rfl rfl
theorem dX12_isSeen_20 : decode cX12_isSeen 20 = .ok (.iload_n 2, 1) := dk28 (k := 20) bX12_isSeen_0 rfl
theorem dX12_isSeen_21 : decode cX12_isSeen 21 = .ok (.iload_n 1, 1) := dk27 (k := 21) bX12_isSeen_0 rfl
theorem dX12_isSeen_22 : decode cX12_isSeen 22 = .ok (.if_icmp .le 10, 3) := dk164 (k := 22) bX12_isSeen_0 rfl (by decide)
theorem bX12_isSeen_25 : bL cX12_isSeen 25 [27, 21, 4, 96, 167, 0, 7, 27, 21, 4, 100, 46, 42, 180, 0, 34, 27, 46, 100, 29, 104, 42, 180, 0, 34] := bL_of (by decide +kernel)
theorem dX12_isSeen_25 : decode cX12_isSeen 25 = .ok (.iload_n 1, 1) := dk27 (k := 0) bX12_isSeen_25 rfl
theorem dX12_isSeen_26 : decode cX12_isSeen 26 = .ok (.iload 4, 2) := dk21 (k := 1) bX12_isSeen_25 rfl rfl
theorem dX12_isSeen_28 : decode cX12_isSeen 28 = .ok (.iadd, 1) := dk96 (k := 3) bX12_isSeen_25 rfl
theorem dX12_isSeen_29 : decode cX12_isSeen 29 = .ok (.goto 7, 3) := dk167 (k := 4) bX12_isSeen_25 rfl (by decide)
theorem dX12_isSeen_32 : decode cX12_isSeen 32 = .ok (.iload_n 1, 1) := dk27 (k := 7) bX12_isSeen_25 rfl
theorem dX12_isSeen_33 : decode cX12_isSeen 33 = .ok (.iload 4, 2) := dk21 (k := 8) bX12_isSeen_25 rfl rfl
theorem dX12_isSeen_35 : decode cX12_isSeen 35 = .ok (.isub, 1) := dk100 (k := 10) bX12_isSeen_25 rfl
theorem dX12_isSeen_36 : decode cX12_isSeen 36 = .ok (.iaload, 1) := dk46 (k := 11) bX12_isSeen_25 rfl
theorem dX12_isSeen_37 : decode cX12_isSeen 37 = .ok (.aload_n 0, 1) := dk42 (k := 12) bX12_isSeen_25 rfl
theorem dX12_isSeen_38 : decode cX12_isSeen 38 = .ok (.getfield 34, 3) := dk180 (k := 13) bX12_isSeen_25 rfl rfl
theorem dX12_isSeen_41 : decode cX12_isSeen 41 = .ok (.iload_n 1, 1) := dk27 (k := 16) bX12_isSeen_25 rfl
theorem dX12_isSeen_42 : decode cX12_isSeen 42 = .ok (.iaload, 1) := dk46 (k := 17) bX12_isSeen_25 rfl
theorem dX12_isSeen_43 : decode cX12_isSeen 43 = .ok (.isub, 1) := dk100 (k := 18) bX12_isSeen_25 rfl
theorem dX12_isSeen_44 : decode cX12_isSeen 44 = .ok (.iload_n 3, 1) := dk29 (k := 19) bX12_isSeen_25 rfl
theorem dX12_isSeen_45 : decode cX12_isSeen 45 = .ok (.imul, 1) := dk104 (k := 20) bX12_isSeen_25 rfl
theorem dX12_isSeen_46 : decode cX12_isSeen 46 = .ok (.aload_n 0, 1) := dk42 (k := 21) bX12_isSeen_25 rfl
theorem dX12_isSeen_47 : decode cX12_isSeen 47 = .ok (.getfield 34, 3) := dk180 (k := 22) bX12_isSeen_25 rfl rfl
theorem bX12_isSeen_50 : bL cX12_isSeen 50 [28, 46, 42, 180, 0, 34, 27, 46, 100, 21, 4, 104, 164, 0, 5, 3, 172, 132, 4, 1, 167, 255, 196, 4] := bL_of (by decide +kernel)
theorem dX12_isSeen_50 : decode cX12_isSeen 50 = .ok (.iload_n 2, 1) := dk28 (k := 0) bX12_isSeen_50 rfl
theorem dX12_isSeen_51 : decode cX12_isSeen 51 = .ok (.iaload, 1) := dk46 (k := 1) bX12_isSeen_50 rfl
theorem dX12_isSeen_52 : decode cX12_isSeen 52 = .ok (.aload_n 0, 1) := dk42 (k := 2) bX12_isSeen_50 rfl
theorem dX12_isSeen_53 : decode cX12_isSeen 53 = .ok (.getfield 34, 3) := dk180 (k := 3) bX12_isSeen_50 rfl rfl
theorem dX12_isSeen_56 : decode cX12_isSeen 56 = .ok (.iload_n 1, 1) := dk27 (k := 6) bX12_isSeen_50 rfl
theorem dX12_isSeen_57 : decode cX12_isSeen 57 = .ok (.iaload, 1) := dk46 (k := 7) bX12_isSeen_50 rfl
theorem dX12_isSeen_58 : decode cX12_isSeen 58 = .ok (.isub, 1) := dk100 (k := 8) bX12_isSeen_50 rfl
theorem dX12_isSeen_59 : decode cX12_isSeen 59 = .ok (.iload 4, 2) := dk21 (k := 9) bX12_isSeen_50 rfl rfl
theorem dX12_isSeen_61 : decode cX12_isSeen 61 = .ok (.imul, 1) := dk104 (k := 11) bX12_isSeen_50 rfl
theorem dX12_isSeen_62 : decode cX12_isSeen 62 = .ok (.if_icmp .le 5, 3) := dk164 (k := 12) bX12_isSeen_50 rfl (by decide)
theorem dX12_isSeen_65 : decode cX12_isSeen 65 = .ok (.iconst 0, 1) := dk3 (k := 15) bX12_isSeen_50 rfl
theorem dX12_isSeen_66 : decode cX12_isSeen 66 = .ok (.ireturn, 1) := dk172 (k := 16) bX12_isSeen_50 rfl
theorem dX12_isSeen_67 : decode cX12_isSeen 67 = .ok (.iinc 4 1, 3) := dk132 (k := 17) bX12_isSeen_50 rfl rfl (by decide)
theorem dX12_isSeen_70 : decode cX12_isSeen 70 = .ok (.goto (-60), 3) := dk167 (k := 20) bX12_isSeen_50 rfl (by decide)
theorem dX12_isSeen_73 : decode cX12_isSeen 73 = .ok (.iconst 1, 1) := dk4 (k := 23) bX12_isSeen_50 rfl
theorem bX12_isSeen_74 : bL cX12_isSeen 74 [172] := bL_of (by decide +kernel)
theorem dX12_isSeen_74 : decode cX12_isSeen 74 = .ok (.ireturn, 1) := dk172 (k := 0) bX12_isSeen_74 rfl
theorem bX12_seenFrom_0 : bL cX12_seenFrom 0 [3, 61, 3, 62, 29, 42, 180, 0, 9, 3, 46, 162, 0, 28, 28, 42, 27, 29, 182, 1, 70, 153, 0, 9] := bL_of (by decide +kernel)
theorem dX12_seenFrom_0 : decode cX12_seenFrom 0 = .ok (.iconst 0, 1) := dk3 (k := 0) bX12_seenFrom_0 rfl
theorem dX12_seenFrom_1 : decode cX12_seenFrom 1 = .ok (.istore_n 2, 1) := dk61 (k := 1) bX12_seenFrom_0 rfl
theorem dX12_seenFrom_2 : decode cX12_seenFrom 2 = .ok (.iconst 0, 1) := dk3 (k := 2) bX12_seenFrom_0 rfl
theorem dX12_seenFrom_3 : decode cX12_seenFrom 3 = .ok (.istore_n 3, 1) := dk62 (k := 3) bX12_seenFrom_0 rfl
theorem dX12_seenFrom_4 : decode cX12_seenFrom 4 = .ok (.iload_n 3, 1) := dk29 (k := 4) bX12_seenFrom_0 rfl
theorem dX12_seenFrom_5 : decode cX12_seenFrom 5 = .ok (.aload_n 0, 1) := dk42 (k := 5) bX12_seenFrom_0 rfl
theorem dX12_seenFrom_6 : decode cX12_seenFrom 6 = .ok (.getfield 9, 3) := dk180 (k := 6) bX12_seenFrom_0 rfl rfl
theorem dX12_seenFrom_9 : decode cX12_seenFrom 9 = .ok (.iconst 0, 1) := dk3 (k := 9) bX12_seenFrom_0 rfl
theorem dX12_seenFrom_10 : decode cX12_seenFrom 10 = .ok (.iaload, 1) := dk46 (k := 10) bX12_seenFrom_0 rfl
theorem dX12_seenFrom_11 : decode cX12_seenFrom 11 = .ok (.if_icmp .ge 28, 3) := dk162 (k := 11) bX12_seenFrom_0 rfl (by decide)
theorem dX12_seenFrom_14 : decode cX12_seenFrom 14 = .ok (.iload_n 2, 1) := dk28 (k := 14) bX12_seenFrom_0 rfl
theorem dX12_seenFrom_15 : decode cX12_seenFrom 15 = .ok (.aload_n 0, 1) := dk42 (k := 15) bX12_seenFrom_0 rfl
theorem dX12_seenFrom_16 : decode cX12_seenFrom 16 = .ok (.iload_n 1, 1) := dk27 (k := 16) bX12_seenFrom_0 rfl
theorem dX12_seenFrom_17 : decode cX12_seenFrom 17 = .ok (.iload_n 3, 1) := dk29 (k := 17) bX12_seenFrom_0 rfl
theorem dX12_seenFrom_18 : decode cX12_seenFrom 18 = .ok (.invokevirtual 326, 3) := dk182 (k := 18) bX12_seenFrom_0 rfl rfl
theorem dX12_seenFrom_21 : decode cX12_seenFrom 21 = .ok (.ifCond .eq 9, 3) := dk153 (k := 21) bX12_seenFrom_0 rfl (by decide)
theorem bX12_seenFrom_24 : bL cX12_seenFrom 24 [4, 29, 120, 167, 0, 4, 3, 128, 61, 132, 3, 1, 167, 255, 224, 28, 172] := bL_of (by decide +kernel)
theorem dX12_seenFrom_24 : decode cX12_seenFrom 24 = .ok (.iconst 1, 1) := dk4 (k := 0) bX12_seenFrom_24 rfl
theorem dX12_seenFrom_25 : decode cX12_seenFrom 25 = .ok (.iload_n 3, 1) := dk29 (k := 1) bX12_seenFrom_24 rfl
theorem dX12_seenFrom_26 : decode cX12_seenFrom 26 = .ok (.ishl, 1) := dk120 (k := 2) bX12_seenFrom_24 rfl
theorem dX12_seenFrom_27 : decode cX12_seenFrom 27 = .ok (.goto 4, 3) := dk167 (k := 3) bX12_seenFrom_24 rfl (by decide)
theorem dX12_seenFrom_30 : decode cX12_seenFrom 30 = .ok (.iconst 0, 1) := dk3 (k := 6) bX12_seenFrom_24 rfl
theorem dX12_seenFrom_31 : decode cX12_seenFrom 31 = .ok (.ior, 1) := dk128 (k := 7) bX12_seenFrom_24 rfl
theorem dX12_seenFrom_32 : decode cX12_seenFrom 32 = .ok (.istore_n 2, 1) := dk61 (k := 8) bX12_seenFrom_24 rfl
theorem dX12_seenFrom_33 : decode cX12_seenFrom 33 = .ok (.iinc 3 1, 3) := dk132 (k := 9) bX12_seenFrom_24 rfl rfl (by decide)
theorem dX12_seenFrom_36 : decode cX12_seenFrom 36 = .ok (.goto (-32), 3) := dk167 (k := 12) bX12_seenFrom_24 rfl (by decide)
theorem dX12_seenFrom_39 : decode cX12_seenFrom 39 = .ok (.iload_n 2, 1) := dk28 (k := 15) bX12_seenFrom_24 rfl
theorem dX12_seenFrom_40 : decode cX12_seenFrom 40 = .ok (.ireturn, 1) := dk172 (k := 16) bX12_seenFrom_24 rfl
theorem bX12_sees_0 : bL cX12_sees 0 [42, 27, 133, 182, 0, 203, 154, 0, 6, 16, 254, 172, 42, 182, 0, 240, 42, 27, 182, 1, 73, 172] := bL_of (by decide +kernel)
theorem dX12_sees_0 : decode cX12_sees 0 = .ok (.aload_n 0, 1) := dk42 (k := 0) bX12_sees_0 rfl
theorem dX12_sees_1 : decode cX12_sees 1 = .ok (.iload_n 1, 1) := dk27 (k := 1) bX12_sees_0 rfl
theorem dX12_sees_2 : decode cX12_sees 2 = .ok (.i2l, 1) := dk133 (k := 2) bX12_sees_0 rfl
theorem dX12_sees_3 : decode cX12_sees 3 = .ok (.invokevirtual 203, 3) := dk182 (k := 3) bX12_sees_0 rfl rfl
theorem dX12_sees_6 : decode cX12_sees 6 = .ok (.ifCond .ne 6, 3) := dk154 (k := 6) bX12_sees_0 rfl (by decide)
theorem dX12_sees_9 : decode cX12_sees 9 = .ok (.bipush (-2), 2) := dk16 (k := 9) bX12_sees_0 rfl (by decide)
theorem dX12_sees_11 : decode cX12_sees 11 = .ok (.ireturn, 1) := dk172 (k := 11) bX12_sees_0 rfl
theorem dX12_sees_12 : decode cX12_sees 12 = .ok (.aload_n 0, 1) := dk42 (k := 12) bX12_sees_0 rfl
theorem dX12_sees_13 : decode cX12_sees 13 = .ok (.invokevirtual 240, 3) := dk182 (k := 13) bX12_sees_0 rfl rfl
theorem dX12_sees_16 : decode cX12_sees 16 = .ok (.aload_n 0, 1) := dk42 (k := 16) bX12_sees_0 rfl
theorem dX12_sees_17 : decode cX12_sees 17 = .ok (.iload_n 1, 1) := dk27 (k := 17) bX12_sees_0 rfl
theorem dX12_sees_18 : decode cX12_sees 18 = .ok (.invokevirtual 329, 3) := dk182 (k := 18) bX12_sees_0 rfl rfl
theorem dX12_sees_21 : decode cX12_sees 21 = .ok (.ireturn, 1) := dk172 (k := 21) bX12_sees_0 rfl
theorem bX12_lookout_0 : bL cX12_lookout 0 [42, 182, 0, 73, 154, 0, 6, 16, 254, 172, 42, 182, 0, 240, 3, 60, 4, 61, 28, 42, 180, 0, 9, 3] := bL_of (by decide +kernel)
theorem dX12_lookout_0 : decode cX12_lookout 0 = .ok (.aload_n 0, 1) := dk42 (k := 0) bX12_lookout_0 rfl
theorem dX12_lookout_1 : decode cX12_lookout 1 = .ok (.invokevirtual 73, 3) := dk182 (k := 1) bX12_lookout_0 rfl rfl
theorem dX12_lookout_4 : decode cX12_lookout 4 = .ok (.ifCond .ne 6, 3) := dk154 (k := 4) bX12_lookout_0 rfl (by decide)
theorem dX12_lookout_7 : decode cX12_lookout 7 = .ok (.bipush (-2), 2) := dk16 (k := 7) bX12_lookout_0 rfl (by decide)
theorem dX12_lookout_9 : decode cX12_lookout 9 = .ok (.ireturn, 1) := dk172 (k := 9) bX12_lookout_0 rfl
theorem dX12_lookout_10 : decode cX12_lookout 10 = .ok (.aload_n 0, 1) := dk42 (k := 10) bX12_lookout_0 rfl
theorem dX12_lookout_11 : decode cX12_lookout 11 = .ok (.invokevirtual 240, 3) := dk182 (k := 11) bX12_lookout_0 rfl rfl
theorem dX12_lookout_14 : decode cX12_lookout 14 = .ok (.iconst 0, 1) := dk3 (k := 14) bX12_lookout_0 rfl
theorem dX12_lookout_15 : decode cX12_lookout 15 = .ok (.istore_n 1, 1) := dk60 (k := 15) bX12_lookout_0 rfl
theorem dX12_lookout_16 : decode cX12_lookout 16 = .ok (.iconst 1, 1) := dk4 (k := 16) bX12_lookout_0 rfl
theorem dX12_lookout_17 : decode cX12_lookout 17 = .ok (.istore_n 2, 1) := dk61 (k := 17) bX12_lookout_0 rfl
theorem dX12_lookout_18 : decode cX12_lookout 18 = .ok (.iload_n 2, 1) := dk28 (k := 18) bX12_lookout_0 rfl
theorem dX12_lookout_19 : decode cX12_lookout 19 = .ok (.aload_n 0, 1) := dk42 (k := 19) bX12_lookout_0 rfl
theorem dX12_lookout_20 : decode cX12_lookout 20 = .ok (.getfield 9, 3) := dk180 (k := 20) bX12_lookout_0 rfl rfl
theorem dX12_lookout_23 : decode cX12_lookout 23 = .ok (.iconst 0, 1) := dk3 (k := 23) bX12_lookout_0 rfl
theorem bX12_lookout_24 : bL cX12_lookout 24 [46, 162, 0, 34, 42, 28, 182, 1, 73, 184, 0, 229, 42, 27, 182, 1, 73, 184, 0, 229, 164, 0, 7, 28] := bL_of (by decide +kernel)
theorem dX12_lookout_24 : decode cX12_lookout 24 = .ok (.iaload, 1) := dk46 (k := 0) bX12_lookout_24 rfl
theorem dX12_lookout_25 : decode cX12_lookout 25 = .ok (.if_icmp .ge 34, 3) := dk162 (k := 1) bX12_lookout_24 rfl (by decide)
theorem dX12_lookout_28 : decode cX12_lookout 28 = .ok (.aload_n 0, 1) := dk42 (k := 4) bX12_lookout_24 rfl
theorem dX12_lookout_29 : decode cX12_lookout 29 = .ok (.iload_n 2, 1) := dk28 (k := 5) bX12_lookout_24 rfl
theorem dX12_lookout_30 : decode cX12_lookout 30 = .ok (.invokevirtual 329, 3) := dk182 (k := 6) bX12_lookout_24 rfl rfl
theorem dX12_lookout_33 : decode cX12_lookout 33 = .ok (.invokestatic 229, 3) := dk184 (k := 9) bX12_lookout_24 rfl rfl
theorem dX12_lookout_36 : decode cX12_lookout 36 = .ok (.aload_n 0, 1) := dk42 (k := 12) bX12_lookout_24 rfl
theorem dX12_lookout_37 : decode cX12_lookout 37 = .ok (.iload_n 1, 1) := dk27 (k := 13) bX12_lookout_24 rfl
theorem dX12_lookout_38 : decode cX12_lookout 38 = .ok (.invokevirtual 329, 3) := dk182 (k := 14) bX12_lookout_24 rfl rfl
theorem dX12_lookout_41 : decode cX12_lookout 41 = .ok (.invokestatic 229, 3) := dk184 (k := 17) bX12_lookout_24 rfl rfl
theorem dX12_lookout_44 : decode cX12_lookout 44 = .ok (.if_icmp .le 7, 3) := dk164 (k := 20) bX12_lookout_24 rfl (by decide)
theorem dX12_lookout_47 : decode cX12_lookout 47 = .ok (.iload_n 2, 1) := dk28 (k := 23) bX12_lookout_24 rfl
theorem bX12_lookout_48 : bL cX12_lookout 48 [167, 0, 4, 27, 60, 132, 2, 1, 167, 255, 218, 27, 172] := bL_of (by decide +kernel)
theorem dX12_lookout_48 : decode cX12_lookout 48 = .ok (.goto 4, 3) := dk167 (k := 0) bX12_lookout_48 rfl (by decide)
theorem dX12_lookout_51 : decode cX12_lookout 51 = .ok (.iload_n 1, 1) := dk27 (k := 3) bX12_lookout_48 rfl
theorem dX12_lookout_52 : decode cX12_lookout 52 = .ok (.istore_n 1, 1) := dk60 (k := 4) bX12_lookout_48 rfl
theorem dX12_lookout_53 : decode cX12_lookout 53 = .ok (.iinc 2 1, 3) := dk132 (k := 5) bX12_lookout_48 rfl rfl (by decide)
theorem dX12_lookout_56 : decode cX12_lookout 56 = .ok (.goto (-38), 3) := dk167 (k := 8) bX12_lookout_48 rfl (by decide)
theorem dX12_lookout_59 : decode cX12_lookout 59 = .ok (.iload_n 1, 1) := dk27 (k := 11) bX12_lookout_48 rfl
theorem dX12_lookout_60 : decode cX12_lookout 60 = .ok (.ireturn, 1) := dk172 (k := 12) bX12_lookout_48 rfl
theorem bX12_votesFor_0 : bL cX12_votesFor 0 [3, 62, 3, 54, 4, 21, 4, 42, 180, 0, 9, 16, 6, 46, 162, 0, 79, 42, 180, 0, 34, 27, 92, 46] := bL_of (by decide +kernel)
theorem dX12_votesFor_0 : decode cX12_votesFor 0 = .ok (.iconst 0, 1) := dk3 (k := 0) bX12_votesFor_0 rfl
theorem dX12_votesFor_1 : decode cX12_votesFor 1 = .ok (.istore_n 3, 1) := dk62 (k := 1) bX12_votesFor_0 rfl
theorem dX12_votesFor_2 : decode cX12_votesFor 2 = .ok (.iconst 0, 1) := dk3 (k := 2) bX12_votesFor_0 rfl
theorem dX12_votesFor_3 : decode cX12_votesFor 3 = .ok (.istore 4, 2) := dk54 (k := 3) bX12_votesFor_0 rfl rfl
theorem dX12_votesFor_5 : decode cX12_votesFor 5 = .ok (.iload 4, 2) := dk21 (k := 5) bX12_votesFor_0 rfl rfl
theorem dX12_votesFor_7 : decode cX12_votesFor 7 = .ok (.aload_n 0, 1) := dk42 (k := 7) bX12_votesFor_0 rfl
theorem dX12_votesFor_8 : decode cX12_votesFor 8 = .ok (.getfield 9, 3) := dk180 (k := 8) bX12_votesFor_0 rfl rfl
theorem dX12_votesFor_11 : decode cX12_votesFor 11 = .ok (.bipush 6, 2) := dk16 (k := 11) bX12_votesFor_0 rfl (by decide)
theorem dX12_votesFor_13 : decode cX12_votesFor 13 = .ok (.iaload, 1) := dk46 (k := 13) bX12_votesFor_0 rfl
theorem dX12_votesFor_14 : decode cX12_votesFor 14 = .ok (.if_icmp .ge 79, 3) := dk162 (k := 14) bX12_votesFor_0 rfl (by decide)
theorem dX12_votesFor_17 : decode cX12_votesFor 17 = .ok (.aload_n 0, 1) := dk42 (k := 17) bX12_votesFor_0 rfl
theorem dX12_votesFor_18 : decode cX12_votesFor 18 = .ok (.getfield 34, 3) := dk180 (k := 18) bX12_votesFor_0 rfl rfl
theorem dX12_votesFor_21 : decode cX12_votesFor 21 = .ok (.iload_n 1, 1) := dk27 (k := 21) bX12_votesFor_0 rfl
theorem dX12_votesFor_22 : decode cX12_votesFor 22 = .ok (.dup2, 1) := dk92 (k := 22) bX12_votesFor_0 rfl
theorem dX12_votesFor_23 : decode cX12_votesFor 23 = .ok (.iaload, 1) := dk46 (k := 23) bX12_votesFor_0 rfl
theorem bX12_votesFor_24 : bL cX12_votesFor 24 [4, 100, 79, 42, 21, 4, 182, 0, 232, 54, 5, 42, 180, 0, 34, 27, 92, 46, 4, 96, 79, 42, 180, 0, 34] := bL_of (by decide +kernel)
theorem dX12_votesFor_24 : decode cX12_votesFor 24 = .ok (.iconst 1, 1) := dk4 (k := 0) bX12_votesFor_24 rfl
theorem dX12_votesFor_25 : decode cX12_votesFor 25 = .ok (.isub, 1) := dk100 (k := 1) bX12_votesFor_24 rfl
theorem dX12_votesFor_26 : decode cX12_votesFor 26 = .ok (.iastore, 1) := dk79 (k := 2) bX12_votesFor_24 rfl
theorem dX12_votesFor_27 : decode cX12_votesFor 27 = .ok (.aload_n 0, 1) := dk42 (k := 3) bX12_votesFor_24 rfl
theorem dX12_votesFor_28 : decode cX12_votesFor 28 = .ok (.iload 4, 2) := dk21 (k := 4) bX12_votesFor_24 rfl rfl
theorem dX12_votesFor_30 : decode cX12_votesFor 30 = .ok (.invokevirtual 232, 3) := dk182 (k := 6) bX12_votesFor_24 rfl rfl
theorem dX12_votesFor_33 : decode cX12_votesFor 33 = .ok (.istore 5, 2) := dk54 (k := 9) bX12_votesFor_24 rfl rfl
theorem dX12_votesFor_35 : decode cX12_votesFor 35 = .ok (.aload_n 0, 1) := dk42 (k := 11) bX12_votesFor_24 rfl
theorem dX12_votesFor_36 : decode cX12_votesFor 36 = .ok (.getfield 34, 3) := dk180 (k := 12) bX12_votesFor_24 rfl rfl
theorem dX12_votesFor_39 : decode cX12_votesFor 39 = .ok (.iload_n 1, 1) := dk27 (k := 15) bX12_votesFor_24 rfl
theorem dX12_votesFor_40 : decode cX12_votesFor 40 = .ok (.dup2, 1) := dk92 (k := 16) bX12_votesFor_24 rfl
theorem dX12_votesFor_41 : decode cX12_votesFor 41 = .ok (.iaload, 1) := dk46 (k := 17) bX12_votesFor_24 rfl
theorem dX12_votesFor_42 : decode cX12_votesFor 42 = .ok (.iconst 1, 1) := dk4 (k := 18) bX12_votesFor_24 rfl
theorem dX12_votesFor_43 : decode cX12_votesFor 43 = .ok (.iadd, 1) := dk96 (k := 19) bX12_votesFor_24 rfl
theorem dX12_votesFor_44 : decode cX12_votesFor 44 = .ok (.iastore, 1) := dk79 (k := 20) bX12_votesFor_24 rfl
theorem dX12_votesFor_45 : decode cX12_votesFor 45 = .ok (.aload_n 0, 1) := dk42 (k := 21) bX12_votesFor_24 rfl
theorem dX12_votesFor_46 : decode cX12_votesFor 46 = .ok (.getfield 34, 3) := dk180 (k := 22) bX12_votesFor_24 rfl rfl
theorem bX12_votesFor_49 : bL cX12_votesFor 49 [28, 92, 46, 4, 100, 79, 29, 21, 5, 42, 21, 4, 182, 0, 232, 164, 0, 10, 4, 21, 4, 120, 167, 0, 4] := bL_of (by decide +kernel)
theorem dX12_votesFor_49 : decode cX12_votesFor 49 = .ok (.iload_n 2, 1) := dk28 (k := 0) bX12_votesFor_49 rfl
theorem dX12_votesFor_50 : decode cX12_votesFor 50 = .ok (.dup2, 1) := dk92 (k := 1) bX12_votesFor_49 rfl
theorem dX12_votesFor_51 : decode cX12_votesFor 51 = .ok (.iaload, 1) := dk46 (k := 2) bX12_votesFor_49 rfl
theorem dX12_votesFor_52 : decode cX12_votesFor 52 = .ok (.iconst 1, 1) := dk4 (k := 3) bX12_votesFor_49 rfl
theorem dX12_votesFor_53 : decode cX12_votesFor 53 = .ok (.isub, 1) := dk100 (k := 4) bX12_votesFor_49 rfl
theorem dX12_votesFor_54 : decode cX12_votesFor 54 = .ok (.iastore, 1) := dk79 (k := 5) bX12_votesFor_49 rfl
theorem dX12_votesFor_55 : decode cX12_votesFor 55 = .ok (.iload_n 3, 1) := dk29 (k := 6) bX12_votesFor_49 rfl
theorem dX12_votesFor_56 : decode cX12_votesFor 56 = .ok (.iload 5, 2) := dk21 (k := 7) bX12_votesFor_49 rfl rfl
theorem dX12_votesFor_58 : decode cX12_votesFor 58 = .ok (.aload_n 0, 1) := dk42 (k := 9) bX12_votesFor_49 rfl
theorem dX12_votesFor_59 : decode cX12_votesFor 59 = .ok (.iload 4, 2) := dk21 (k := 10) bX12_votesFor_49 rfl rfl
theorem dX12_votesFor_61 : decode cX12_votesFor 61 = .ok (.invokevirtual 232, 3) := dk182 (k := 12) bX12_votesFor_49 rfl rfl
theorem dX12_votesFor_64 : decode cX12_votesFor 64 = .ok (.if_icmp .le 10, 3) := dk164 (k := 15) bX12_votesFor_49 rfl (by decide)
theorem dX12_votesFor_67 : decode cX12_votesFor 67 = .ok (.iconst 1, 1) := dk4 (k := 18) bX12_votesFor_49 rfl
theorem dX12_votesFor_68 : decode cX12_votesFor 68 = .ok (.iload 4, 2) := dk21 (k := 19) bX12_votesFor_49 rfl rfl
theorem dX12_votesFor_70 : decode cX12_votesFor 70 = .ok (.ishl, 1) := dk120 (k := 21) bX12_votesFor_49 rfl
theorem dX12_votesFor_71 : decode cX12_votesFor 71 = .ok (.goto 4, 3) := dk167 (k := 22) bX12_votesFor_49 rfl (by decide)
theorem bX12_votesFor_74 : bL cX12_votesFor 74 [3, 128, 62, 42, 180, 0, 34, 28, 92, 46, 4, 96, 79, 132, 4, 1, 167, 255, 171, 29, 172] := bL_of (by decide +kernel)
theorem dX12_votesFor_74 : decode cX12_votesFor 74 = .ok (.iconst 0, 1) := dk3 (k := 0) bX12_votesFor_74 rfl
theorem dX12_votesFor_75 : decode cX12_votesFor 75 = .ok (.ior, 1) := dk128 (k := 1) bX12_votesFor_74 rfl
theorem dX12_votesFor_76 : decode cX12_votesFor 76 = .ok (.istore_n 3, 1) := dk62 (k := 2) bX12_votesFor_74 rfl
theorem dX12_votesFor_77 : decode cX12_votesFor 77 = .ok (.aload_n 0, 1) := dk42 (k := 3) bX12_votesFor_74 rfl
theorem dX12_votesFor_78 : decode cX12_votesFor 78 = .ok (.getfield 34, 3) := dk180 (k := 4) bX12_votesFor_74 rfl rfl
theorem dX12_votesFor_81 : decode cX12_votesFor 81 = .ok (.iload_n 2, 1) := dk28 (k := 7) bX12_votesFor_74 rfl
theorem dX12_votesFor_82 : decode cX12_votesFor 82 = .ok (.dup2, 1) := dk92 (k := 8) bX12_votesFor_74 rfl
theorem dX12_votesFor_83 : decode cX12_votesFor 83 = .ok (.iaload, 1) := dk46 (k := 9) bX12_votesFor_74 rfl
theorem dX12_votesFor_84 : decode cX12_votesFor 84 = .ok (.iconst 1, 1) := dk4 (k := 10) bX12_votesFor_74 rfl
theorem dX12_votesFor_85 : decode cX12_votesFor 85 = .ok (.iadd, 1) := dk96 (k := 11) bX12_votesFor_74 rfl
theorem dX12_votesFor_86 : decode cX12_votesFor 86 = .ok (.iastore, 1) := dk79 (k := 12) bX12_votesFor_74 rfl
theorem dX12_votesFor_87 : decode cX12_votesFor 87 = .ok (.iinc 4 1, 3) := dk132 (k := 13) bX12_votesFor_74 rfl rfl (by decide)
theorem dX12_votesFor_90 : decode cX12_votesFor 90 = .ok (.goto (-85), 3) := dk167 (k := 16) bX12_votesFor_74 rfl (by decide)
theorem dX12_votesFor_93 : decode cX12_votesFor 93 = .ok (.iload_n 3, 1) := dk29 (k := 19) bX12_votesFor_74 rfl
theorem dX12_votesFor_94 : decode cX12_votesFor 94 = .ok (.ireturn, 1) := dk172 (k := 20) bX12_votesFor_74 rfl
theorem bX12_votes_0 : bL cX12_votes 0 [42, 27, 133, 182, 0, 203, 153, 0, 12, 42, 28, 133, 182, 0, 203, 154, 0, 6, 16, 254, 172, 42, 182, 0, 240] := bL_of (by decide +kernel)
theorem dX12_votes_0 : decode cX12_votes 0 = .ok (.aload_n 0, 1) := dk42 (k := 0) bX12_votes_0 rfl
theorem dX12_votes_1 : decode cX12_votes 1 = .ok (.iload_n 1, 1) := dk27 (k := 1) bX12_votes_0 rfl
theorem dX12_votes_2 : decode cX12_votes 2 = .ok (.i2l, 1) := dk133 (k := 2) bX12_votes_0 rfl
theorem dX12_votes_3 : decode cX12_votes 3 = .ok (.invokevirtual 203, 3) := dk182 (k := 3) bX12_votes_0 rfl rfl
theorem dX12_votes_6 : decode cX12_votes 6 = .ok (.ifCond .eq 12, 3) := dk153 (k := 6) bX12_votes_0 rfl (by decide)
theorem dX12_votes_9 : decode cX12_votes 9 = .ok (.aload_n 0, 1) := dk42 (k := 9) bX12_votes_0 rfl
theorem dX12_votes_10 : decode cX12_votes 10 = .ok (.iload_n 2, 1) := dk28 (k := 10) bX12_votes_0 rfl
theorem dX12_votes_11 : decode cX12_votes 11 = .ok (.i2l, 1) := dk133 (k := 11) bX12_votes_0 rfl
theorem dX12_votes_12 : decode cX12_votes 12 = .ok (.invokevirtual 203, 3) := dk182 (k := 12) bX12_votes_0 rfl rfl
theorem dX12_votes_15 : decode cX12_votes 15 = .ok (.ifCond .ne 6, 3) := dk154 (k := 15) bX12_votes_0 rfl (by decide)
theorem dX12_votes_18 : decode cX12_votes 18 = .ok (.bipush (-2), 2) := dk16 (k := 18) bX12_votes_0 rfl (by decide)
theorem dX12_votes_20 : decode cX12_votes 20 = .ok (.ireturn, 1) := dk172 (k := 20) bX12_votes_0 rfl
theorem dX12_votes_21 : decode cX12_votes 21 = .ok (.aload_n 0, 1) := dk42 (k := 21) bX12_votes_0 rfl
theorem dX12_votes_22 : decode cX12_votes 22 = .ok (.invokevirtual 240, 3) := dk182 (k := 22) bX12_votes_0 rfl rfl
theorem bX12_votes_25 : bL cX12_votes 25 [42, 180, 0, 34, 27, 46, 153, 0, 12, 42, 180, 0, 34, 28, 46, 154, 0, 8, 16, 254, 167, 0, 9, 42] := bL_of (by decide +kernel)
theorem dX12_votes_25 : decode cX12_votes 25 = .ok (.aload_n 0, 1) := dk42 (k := 0) bX12_votes_25 rfl
theorem dX12_votes_26 : decode cX12_votes 26 = .ok (.getfield 34, 3) := dk180 (k := 1) bX12_votes_25 rfl rfl
theorem dX12_votes_29 : decode cX12_votes 29 = .ok (.iload_n 1, 1) := dk27 (k := 4) bX12_votes_25 rfl
theorem dX12_votes_30 : decode cX12_votes 30 = .ok (.iaload, 1) := dk46 (k := 5) bX12_votes_25 rfl
theorem dX12_votes_31 : decode cX12_votes 31 = .ok (.ifCond .eq 12, 3) := dk153 (k := 6) bX12_votes_25 rfl (by decide)
theorem dX12_votes_34 : decode cX12_votes 34 = .ok (.aload_n 0, 1) := dk42 (k := 9) bX12_votes_25 rfl
theorem dX12_votes_35 : decode cX12_votes 35 = .ok (.getfield 34, 3) := dk180 (k := 10) bX12_votes_25 rfl rfl
theorem dX12_votes_38 : decode cX12_votes 38 = .ok (.iload_n 2, 1) := dk28 (k := 13) bX12_votes_25 rfl
theorem dX12_votes_39 : decode cX12_votes 39 = .ok (.iaload, 1) := dk46 (k := 14) bX12_votes_25 rfl
theorem dX12_votes_40 : decode cX12_votes 40 = .ok (.ifCond .ne 8, 3) := dk154 (k := 15) bX12_votes_25 rfl (by decide)
theorem dX12_votes_43 : decode cX12_votes 43 = .ok (.bipush (-2), 2) := dk16 (k := 18) bX12_votes_25 rfl (by decide)
theorem dX12_votes_45 : decode cX12_votes 45 = .ok (.goto 9, 3) := dk167 (k := 20) bX12_votes_25 rfl (by decide)
theorem dX12_votes_48 : decode cX12_votes 48 = .ok (.aload_n 0, 1) := dk42 (k := 23) bX12_votes_25 rfl
theorem bX12_votes_49 : bL cX12_votes 49 [27, 28, 182, 1, 76, 172] := bL_of (by decide +kernel)
theorem dX12_votes_49 : decode cX12_votes 49 = .ok (.iload_n 1, 1) := dk27 (k := 0) bX12_votes_49 rfl
theorem dX12_votes_50 : decode cX12_votes 50 = .ok (.iload_n 2, 1) := dk28 (k := 1) bX12_votes_49 rfl
theorem dX12_votes_51 : decode cX12_votes 51 = .ok (.invokevirtual 332, 3) := dk182 (k := 2) bX12_votes_49 rfl rfl
theorem dX12_votes_54 : decode cX12_votes 54 = .ok (.ireturn, 1) := dk172 (k := 5) bX12_votes_49 rfl
theorem bX12_elected_0 : bL cX12_elected 0 [42, 182, 0, 73, 154, 0, 6, 16, 254, 172, 42, 182, 0, 240, 3, 60, 27, 42, 180, 0, 9, 3, 46, 162, 0, 90] := bL_of (by decide +kernel)
theorem dX12_elected_0 : decode cX12_elected 0 = .ok (.aload_n 0, 1) := dk42 (k := 0) bX12_elected_0 rfl
theorem dX12_elected_1 : decode cX12_elected 1 = .ok (.invokevirtual 73, 3) := dk182 (k := 1) bX12_elected_0 rfl rfl
theorem dX12_elected_4 : decode cX12_elected 4 = .ok (.ifCond .ne 6, 3) := dk154 (k := 4) bX12_elected_0 rfl (by decide)
theorem dX12_elected_7 : decode cX12_elected 7 = .ok (.bipush (-2), 2) := dk16 (k := 7) bX12_elected_0 rfl (by decide)
theorem dX12_elected_9 : decode cX12_elected 9 = .ok (.ireturn, 1) := dk172 (k := 9) bX12_elected_0 rfl
theorem dX12_elected_10 : decode cX12_elected 10 = .ok (.aload_n 0, 1) := dk42 (k := 10) bX12_elected_0 rfl
theorem dX12_elected_11 : decode cX12_elected 11 = .ok (.invokevirtual 240, 3) := dk182 (k := 11) bX12_elected_0 rfl rfl
theorem dX12_elected_14 : decode cX12_elected 14 = .ok (.iconst 0, 1) := dk3 (k := 14) bX12_elected_0 rfl
theorem dX12_elected_15 : decode cX12_elected 15 = .ok (.istore_n 1, 1) := dk60 (k := 15) bX12_elected_0 rfl
theorem dX12_elected_16 : decode cX12_elected 16 = .ok (.iload_n 1, 1) := dk27 (k := 16) bX12_elected_0 rfl
theorem dX12_elected_17 : decode cX12_elected 17 = .ok (.aload_n 0, 1) := dk42 (k := 17) bX12_elected_0 rfl
theorem dX12_elected_18 : decode cX12_elected 18 = .ok (.getfield 9, 3) := dk180 (k := 18) bX12_elected_0 rfl rfl
theorem dX12_elected_21 : decode cX12_elected 21 = .ok (.iconst 0, 1) := dk3 (k := 21) bX12_elected_0 rfl
theorem dX12_elected_22 : decode cX12_elected 22 = .ok (.iaload, 1) := dk46 (k := 22) bX12_elected_0 rfl
theorem dX12_elected_23 : decode cX12_elected 23 = .ok (.if_icmp .ge 90, 3) := dk162 (k := 23) bX12_elected_0 rfl (by decide)
theorem bX12_elected_26 : bL cX12_elected 26 [42, 180, 0, 34, 27, 46, 158, 0, 7, 4, 167, 0, 4, 3, 61, 3, 62, 29, 42, 180, 0, 9, 3, 46] := bL_of (by decide +kernel)
theorem dX12_elected_26 : decode cX12_elected 26 = .ok (.aload_n 0, 1) := dk42 (k := 0) bX12_elected_26 rfl
theorem dX12_elected_27 : decode cX12_elected 27 = .ok (.getfield 34, 3) := dk180 (k := 1) bX12_elected_26 rfl rfl
theorem dX12_elected_30 : decode cX12_elected 30 = .ok (.iload_n 1, 1) := dk27 (k := 4) bX12_elected_26 rfl
theorem dX12_elected_31 : decode cX12_elected 31 = .ok (.iaload, 1) := dk46 (k := 5) bX12_elected_26 rfl
theorem dX12_elected_32 : decode cX12_elected 32 = .ok (.ifCond .le 7, 3) := dk158 (k := 6) bX12_elected_26 rfl (by decide)
theorem dX12_elected_35 : decode cX12_elected 35 = .ok (.iconst 1, 1) := dk4 (k := 9) bX12_elected_26 rfl
theorem dX12_elected_36 : decode cX12_elected 36 = .ok (.goto 4, 3) := dk167 (k := 10) bX12_elected_26 rfl (by decide)
theorem dX12_elected_39 : decode cX12_elected 39 = .ok (.iconst 0, 1) := dk3 (k := 13) bX12_elected_26 rfl
theorem dX12_elected_40 : decode cX12_elected 40 = .ok (.istore_n 2, 1) := dk61 (k := 14) bX12_elected_26 rfl
theorem dX12_elected_41 : decode cX12_elected 41 = .ok (.iconst 0, 1) := dk3 (k := 15) bX12_elected_26 rfl
theorem dX12_elected_42 : decode cX12_elected 42 = .ok (.istore_n 3, 1) := dk62 (k := 16) bX12_elected_26 rfl
theorem dX12_elected_43 : decode cX12_elected 43 = .ok (.iload_n 3, 1) := dk29 (k := 17) bX12_elected_26 rfl
theorem dX12_elected_44 : decode cX12_elected 44 = .ok (.aload_n 0, 1) := dk42 (k := 18) bX12_elected_26 rfl
theorem dX12_elected_45 : decode cX12_elected 45 = .ok (.getfield 9, 3) := dk180 (k := 19) bX12_elected_26 rfl rfl
theorem dX12_elected_48 : decode cX12_elected 48 = .ok (.iconst 0, 1) := dk3 (k := 22) bX12_elected_26 rfl
theorem dX12_elected_49 : decode cX12_elected 49 = .ok (.iaload, 1) := dk46 (k := 23) bX12_elected_26 rfl
theorem bX12_elected_50 : bL cX12_elected 50 [162, 0, 51, 28, 153, 0, 47, 42, 180, 0, 34, 29, 46, 153, 0, 26, 42, 42, 27, 29, 182, 1, 76, 182, 1, 4] := bL_of (by decide +kernel)
theorem dX12_elected_50 : decode cX12_elected 50 = .ok (.if_icmp .ge 51, 3) := dk162 (k := 0) bX12_elected_50 rfl (by decide)
theorem dX12_elected_53 : decode cX12_elected 53 = .ok (.iload_n 2, 1) := dk28 (k := 3) bX12_elected_50 rfl
theorem dX12_elected_54 : decode cX12_elected 54 = .ok (.ifCond .eq 47, 3) := dk153 (k := 4) bX12_elected_50 rfl (by decide)
theorem dX12_elected_57 : decode cX12_elected 57 = .ok (.aload_n 0, 1) := dk42 (k := 7) bX12_elected_50 rfl
theorem dX12_elected_58 : decode cX12_elected 58 = .ok (.getfield 34, 3) := dk180 (k := 8) bX12_elected_50 rfl rfl
theorem dX12_elected_61 : decode cX12_elected 61 = .ok (.iload_n 3, 1) := dk29 (k := 11) bX12_elected_50 rfl
theorem dX12_elected_62 : decode cX12_elected 62 = .ok (.iaload, 1) := dk46 (k := 12) bX12_elected_50 rfl
theorem dX12_elected_63 : decode cX12_elected 63 = .ok (.ifCond .eq 26, 3) := dk153 (k := 13) bX12_elected_50 rfl (by decide)
theorem dX12_elected_66 : decode cX12_elected 66 = .ok (.aload_n 0, 1) := dk42 (k := 16) bX12_elected_50 rfl
theorem dX12_elected_67 : decode cX12_elected 67 = .ok (.aload_n 0, 1) := dk42 (k := 17) bX12_elected_50 rfl
theorem dX12_elected_68 : decode cX12_elected 68 = .ok (.iload_n 1, 1) := dk27 (k := 18) bX12_elected_50 rfl
theorem dX12_elected_69 : decode cX12_elected 69 = .ok (.iload_n 3, 1) := dk29 (k := 19) bX12_elected_50 rfl
theorem dX12_elected_70 : decode cX12_elected 70 = .ok (.invokevirtual 332, 3) := dk182 (k := 20) bX12_elected_50 rfl rfl
theorem dX12_elected_73 : decode cX12_elected 73 = .ok (.invokevirtual 260, 3) := dk182 (k := 23) bX12_elected_50 rfl rfl
theorem bX12_elected_76 : bL cX12_elected 76 [42, 42, 29, 27, 182, 1, 76, 182, 1, 4, 161, 0, 7, 4, 167, 0, 4, 3, 61, 132, 3, 1, 167, 255, 201] := bL_of (by decide +kernel)
theorem dX12_elected_76 : decode cX12_elected 76 = .ok (.aload_n 0, 1) := dk42 (k := 0) bX12_elected_76 rfl
theorem dX12_elected_77 : decode cX12_elected 77 = .ok (.aload_n 0, 1) := dk42 (k := 1) bX12_elected_76 rfl
theorem dX12_elected_78 : decode cX12_elected 78 = .ok (.iload_n 3, 1) := dk29 (k := 2) bX12_elected_76 rfl
theorem dX12_elected_79 : decode cX12_elected 79 = .ok (.iload_n 1, 1) := dk27 (k := 3) bX12_elected_76 rfl
theorem dX12_elected_80 : decode cX12_elected 80 = .ok (.invokevirtual 332, 3) := dk182 (k := 4) bX12_elected_76 rfl rfl
theorem dX12_elected_83 : decode cX12_elected 83 = .ok (.invokevirtual 260, 3) := dk182 (k := 7) bX12_elected_76 rfl rfl
theorem dX12_elected_86 : decode cX12_elected 86 = .ok (.if_icmp .lt 7, 3) := dk161 (k := 10) bX12_elected_76 rfl (by decide)
theorem dX12_elected_89 : decode cX12_elected 89 = .ok (.iconst 1, 1) := dk4 (k := 13) bX12_elected_76 rfl
theorem dX12_elected_90 : decode cX12_elected 90 = .ok (.goto 4, 3) := dk167 (k := 14) bX12_elected_76 rfl (by decide)
theorem dX12_elected_93 : decode cX12_elected 93 = .ok (.iconst 0, 1) := dk3 (k := 17) bX12_elected_76 rfl
theorem dX12_elected_94 : decode cX12_elected 94 = .ok (.istore_n 2, 1) := dk61 (k := 18) bX12_elected_76 rfl
theorem dX12_elected_95 : decode cX12_elected 95 = .ok (.iinc 3 1, 3) := dk132 (k := 19) bX12_elected_76 rfl rfl (by decide)
theorem dX12_elected_98 : decode cX12_elected 98 = .ok (.goto (-55), 3) := dk167 (k := 22) bX12_elected_76 rfl (by decide)
theorem bX12_elected_101 : bL cX12_elected 101 [28, 153, 0, 5, 27, 172, 132, 1, 1, 167, 255, 162, 2, 172] := bL_of (by decide +kernel)
theorem dX12_elected_101 : decode cX12_elected 101 = .ok (.iload_n 2, 1) := dk28 (k := 0) bX12_elected_101 rfl
theorem dX12_elected_102 : decode cX12_elected 102 = .ok (.ifCond .eq 5, 3) := dk153 (k := 1) bX12_elected_101 rfl (by decide)
theorem dX12_elected_105 : decode cX12_elected 105 = .ok (.iload_n 1, 1) := dk27 (k := 4) bX12_elected_101 rfl
theorem dX12_elected_106 : decode cX12_elected 106 = .ok (.ireturn, 1) := dk172 (k := 5) bX12_elected_101 rfl
theorem dX12_elected_107 : decode cX12_elected 107 = .ok (.iinc 1 1, 3) := dk132 (k := 6) bX12_elected_101 rfl rfl (by decide)
theorem dX12_elected_110 : decode cX12_elected 110 = .ok (.goto (-94), 3) := dk167 (k := 9) bX12_elected_101 rfl (by decide)
theorem dX12_elected_113 : decode cX12_elected 113 = .ok (.iconst (-1), 1) := dk2 (k := 12) bX12_elected_101 rfl
theorem dX12_elected_114 : decode cX12_elected 114 = .ok (.ireturn, 1) := dk172 (k := 13) bX12_elected_101 rfl
theorem bX12_best_0 : bL cX12_best 0 [42, 182, 0, 73, 154, 0, 6, 16, 254, 172, 42, 182, 0, 240, 2, 60, 19, 1, 79, 61, 3, 62, 29, 42] := bL_of (by decide +kernel)
theorem dX12_best_0 : decode cX12_best 0 = .ok (.aload_n 0, 1) := dk42 (k := 0) bX12_best_0 rfl
theorem dX12_best_1 : decode cX12_best 1 = .ok (.invokevirtual 73, 3) := dk182 (k := 1) bX12_best_0 rfl rfl
theorem dX12_best_4 : decode cX12_best 4 = .ok (.ifCond .ne 6, 3) := dk154 (k := 4) bX12_best_0 rfl (by decide)
theorem dX12_best_7 : decode cX12_best 7 = .ok (.bipush (-2), 2) := dk16 (k := 7) bX12_best_0 rfl (by decide)
theorem dX12_best_9 : decode cX12_best 9 = .ok (.ireturn, 1) := dk172 (k := 9) bX12_best_0 rfl
theorem dX12_best_10 : decode cX12_best 10 = .ok (.aload_n 0, 1) := dk42 (k := 10) bX12_best_0 rfl
theorem dX12_best_11 : decode cX12_best 11 = .ok (.invokevirtual 240, 3) := dk182 (k := 11) bX12_best_0 rfl rfl
theorem dX12_best_14 : decode cX12_best 14 = .ok (.iconst (-1), 1) := dk2 (k := 14) bX12_best_0 rfl
theorem dX12_best_15 : decode cX12_best 15 = .ok (.istore_n 1, 1) := dk60 (k := 15) bX12_best_0 rfl
theorem dX12_best_16 : decode cX12_best 16 = .ok (.ldc_w 335, 3) := dk19 (k := 16) bX12_best_0 rfl rfl
theorem dX12_best_19 : decode cX12_best 19 = .ok (.istore_n 2, 1) := dk61 (k := 19) bX12_best_0 rfl
theorem dX12_best_20 : decode cX12_best 20 = .ok (.iconst 0, 1) := dk3 (k := 20) bX12_best_0 rfl
theorem dX12_best_21 : decode cX12_best 21 = .ok (.istore_n 3, 1) := dk62 (k := 21) bX12_best_0 rfl
theorem dX12_best_22 : decode cX12_best 22 = .ok (.iload_n 3, 1) := dk29 (k := 22) bX12_best_0 rfl
theorem dX12_best_23 : decode cX12_best 23 = .ok (.aload_n 0, 1) := dk42 (k := 23) bX12_best_0 rfl
theorem bX12_best_24 : bL cX12_best 24 [180, 0, 9, 3, 46, 162, 0, 61, 42, 180, 0, 34, 29, 46, 154, 0, 6, 167, 0, 43, 42, 180, 0, 34] := bL_of (by decide +kernel)
theorem dX12_best_24 : decode cX12_best 24 = .ok (.getfield 9, 3) := dk180 (k := 0) bX12_best_24 rfl rfl
theorem dX12_best_27 : decode cX12_best 27 = .ok (.iconst 0, 1) := dk3 (k := 3) bX12_best_24 rfl
theorem dX12_best_28 : decode cX12_best 28 = .ok (.iaload, 1) := dk46 (k := 4) bX12_best_24 rfl
theorem dX12_best_29 : decode cX12_best 29 = .ok (.if_icmp .ge 61, 3) := dk162 (k := 5) bX12_best_24 rfl (by decide)
theorem dX12_best_32 : decode cX12_best 32 = .ok (.aload_n 0, 1) := dk42 (k := 8) bX12_best_24 rfl
theorem dX12_best_33 : decode cX12_best 33 = .ok (.getfield 34, 3) := dk180 (k := 9) bX12_best_24 rfl rfl
theorem dX12_best_36 : decode cX12_best 36 = .ok (.iload_n 3, 1) := dk29 (k := 12) bX12_best_24 rfl
theorem dX12_best_37 : decode cX12_best 37 = .ok (.iaload, 1) := dk46 (k := 13) bX12_best_24 rfl
theorem dX12_best_38 : decode cX12_best 38 = .ok (.ifCond .ne 6, 3) := dk154 (k := 14) bX12_best_24 rfl (by decide)
theorem dX12_best_41 : decode cX12_best 41 = .ok (.goto 43, 3) := dk167 (k := 17) bX12_best_24 rfl (by decide)
theorem dX12_best_44 : decode cX12_best 44 = .ok (.aload_n 0, 1) := dk42 (k := 20) bX12_best_24 rfl
theorem dX12_best_45 : decode cX12_best 45 = .ok (.getfield 34, 3) := dk180 (k := 21) bX12_best_24 rfl rfl
theorem bX12_best_48 : bL cX12_best 48 [29, 92, 46, 4, 100, 79, 42, 182, 0, 251, 54, 4, 42, 180, 0, 34, 29, 92, 46, 4, 96, 79, 21, 4] := bL_of (by decide +kernel)
theorem dX12_best_48 : decode cX12_best 48 = .ok (.iload_n 3, 1) := dk29 (k := 0) bX12_best_48 rfl
theorem dX12_best_49 : decode cX12_best 49 = .ok (.dup2, 1) := dk92 (k := 1) bX12_best_48 rfl
theorem dX12_best_50 : decode cX12_best 50 = .ok (.iaload, 1) := dk46 (k := 2) bX12_best_48 rfl
theorem dX12_best_51 : decode cX12_best 51 = .ok (.iconst 1, 1) := dk4 (k := 3) bX12_best_48 rfl
theorem dX12_best_52 : decode cX12_best 52 = .ok (.isub, 1) := dk100 (k := 4) bX12_best_48 rfl
theorem dX12_best_53 : decode cX12_best 53 = .ok (.iastore, 1) := dk79 (k := 5) bX12_best_48 rfl
theorem dX12_best_54 : decode cX12_best 54 = .ok (.aload_n 0, 1) := dk42 (k := 6) bX12_best_48 rfl
theorem dX12_best_55 : decode cX12_best 55 = .ok (.invokevirtual 251, 3) := dk182 (k := 7) bX12_best_48 rfl rfl
theorem dX12_best_58 : decode cX12_best 58 = .ok (.istore 4, 2) := dk54 (k := 10) bX12_best_48 rfl rfl
theorem dX12_best_60 : decode cX12_best 60 = .ok (.aload_n 0, 1) := dk42 (k := 12) bX12_best_48 rfl
theorem dX12_best_61 : decode cX12_best 61 = .ok (.getfield 34, 3) := dk180 (k := 13) bX12_best_48 rfl rfl
theorem dX12_best_64 : decode cX12_best 64 = .ok (.iload_n 3, 1) := dk29 (k := 16) bX12_best_48 rfl
theorem dX12_best_65 : decode cX12_best 65 = .ok (.dup2, 1) := dk92 (k := 17) bX12_best_48 rfl
theorem dX12_best_66 : decode cX12_best 66 = .ok (.iaload, 1) := dk46 (k := 18) bX12_best_48 rfl
theorem dX12_best_67 : decode cX12_best 67 = .ok (.iconst 1, 1) := dk4 (k := 19) bX12_best_48 rfl
theorem dX12_best_68 : decode cX12_best 68 = .ok (.iadd, 1) := dk96 (k := 20) bX12_best_48 rfl
theorem dX12_best_69 : decode cX12_best 69 = .ok (.iastore, 1) := dk79 (k := 21) bX12_best_48 rfl
theorem dX12_best_70 : decode cX12_best 70 = .ok (.iload 4, 2) := dk21 (k := 22) bX12_best_48 rfl rfl
theorem bX12_best_72 : bL cX12_best 72 [28, 163, 0, 6, 167, 0, 8, 21, 4, 61, 29, 60, 132, 3, 1, 167, 255, 191, 27, 172] := bL_of (by decide +kernel)
theorem dX12_best_72 : decode cX12_best 72 = .ok (.iload_n 2, 1) := dk28 (k := 0) bX12_best_72 rfl
theorem dX12_best_73 : decode cX12_best 73 = .ok (.if_icmp .gt 6, 3) := dk163 (k := 1) bX12_best_72 rfl (by decide)
theorem dX12_best_76 : decode cX12_best 76 = .ok (.goto 8, 3) := dk167 (k := 4) bX12_best_72 rfl (by decide)
theorem dX12_best_79 : decode cX12_best 79 = .ok (.iload 4, 2) := dk21 (k := 7) bX12_best_72 rfl rfl
theorem dX12_best_81 : decode cX12_best 81 = .ok (.istore_n 2, 1) := dk61 (k := 9) bX12_best_72 rfl
theorem dX12_best_82 : decode cX12_best 82 = .ok (.iload_n 3, 1) := dk29 (k := 10) bX12_best_72 rfl
theorem dX12_best_83 : decode cX12_best 83 = .ok (.istore_n 1, 1) := dk60 (k := 11) bX12_best_72 rfl
theorem dX12_best_84 : decode cX12_best 84 = .ok (.iinc 3 1, 3) := dk132 (k := 12) bX12_best_72 rfl rfl (by decide)
theorem dX12_best_87 : decode cX12_best 87 = .ok (.goto (-65), 3) := dk167 (k := 15) bX12_best_72 rfl (by decide)
theorem dX12_best_90 : decode cX12_best 90 = .ok (.iload_n 1, 1) := dk27 (k := 18) bX12_best_72 rfl
theorem dX12_best_91 : decode cX12_best 91 = .ok (.ireturn, 1) := dk172 (k := 19) bX12_best_72 rfl
theorem bX12_takeRow_0 : bL cX12_takeRow 0 [3, 61, 28, 27, 162, 0, 40, 42, 180, 0, 34, 42, 180, 0, 41, 28, 46, 46, 154, 0, 5, 28, 172, 42] := bL_of (by decide +kernel)
theorem dX12_takeRow_0 : decode cX12_takeRow 0 = .ok (.iconst 0, 1) := dk3 (k := 0) bX12_takeRow_0 rfl
theorem dX12_takeRow_1 : decode cX12_takeRow 1 = .ok (.istore_n 2, 1) := dk61 (k := 1) bX12_takeRow_0 rfl
theorem dX12_takeRow_2 : decode cX12_takeRow 2 = .ok (.iload_n 2, 1) := dk28 (k := 2) bX12_takeRow_0 rfl
theorem dX12_takeRow_3 : decode cX12_takeRow 3 = .ok (.iload_n 1, 1) := dk27 (k := 3) bX12_takeRow_0 rfl
theorem dX12_takeRow_4 : decode cX12_takeRow 4 = .ok (.if_icmp .ge 40, 3) := dk162 (k := 4) bX12_takeRow_0 rfl (by decide)
theorem dX12_takeRow_7 : decode cX12_takeRow 7 = .ok (.aload_n 0, 1) := dk42 (k := 7) bX12_takeRow_0 rfl
theorem dX12_takeRow_8 : decode cX12_takeRow 8 = .ok (.getfield 34, 3) := dk180 (k := 8) bX12_takeRow_0 rfl rfl
theorem dX12_takeRow_11 : decode cX12_takeRow 11 = .ok (.aload_n 0, 1) := dk42 (k := 11) bX12_takeRow_0 rfl
theorem dX12_takeRow_12 : decode cX12_takeRow 12 = .ok (.getfield 41, 3) := dk180 (k := 12) bX12_takeRow_0 rfl rfl
theorem dX12_takeRow_15 : decode cX12_takeRow 15 = .ok (.iload_n 2, 1) := dk28 (k := 15) bX12_takeRow_0 rfl
theorem dX12_takeRow_16 : decode cX12_takeRow 16 = .ok (.iaload, 1) := dk46 (k := 16) bX12_takeRow_0 rfl
theorem dX12_takeRow_17 : decode cX12_takeRow 17 = .ok (.iaload, 1) := dk46 (k := 17) bX12_takeRow_0 rfl
theorem dX12_takeRow_18 : decode cX12_takeRow 18 = .ok (.ifCond .ne 5, 3) := dk154 (k := 18) bX12_takeRow_0 rfl (by decide)
theorem dX12_takeRow_21 : decode cX12_takeRow 21 = .ok (.iload_n 2, 1) := dk28 (k := 21) bX12_takeRow_0 rfl
theorem dX12_takeRow_22 : decode cX12_takeRow 22 = .ok (.ireturn, 1) := dk172 (k := 22) bX12_takeRow_0 rfl
theorem dX12_takeRow_23 : decode cX12_takeRow 23 = .ok (.aload_n 0, 1) := dk42 (k := 23) bX12_takeRow_0 rfl
theorem bX12_takeRow_24 : bL cX12_takeRow 24 [180, 0, 34, 42, 180, 0, 41, 28, 46, 92, 46, 4, 100, 79, 132, 2, 1, 167, 255, 217, 27, 172] := bL_of (by decide +kernel)
theorem dX12_takeRow_24 : decode cX12_takeRow 24 = .ok (.getfield 34, 3) := dk180 (k := 0) bX12_takeRow_24 rfl rfl
theorem dX12_takeRow_27 : decode cX12_takeRow 27 = .ok (.aload_n 0, 1) := dk42 (k := 3) bX12_takeRow_24 rfl
theorem dX12_takeRow_28 : decode cX12_takeRow 28 = .ok (.getfield 41, 3) := dk180 (k := 4) bX12_takeRow_24 rfl rfl
theorem dX12_takeRow_31 : decode cX12_takeRow 31 = .ok (.iload_n 2, 1) := dk28 (k := 7) bX12_takeRow_24 rfl
theorem dX12_takeRow_32 : decode cX12_takeRow 32 = .ok (.iaload, 1) := dk46 (k := 8) bX12_takeRow_24 rfl
theorem dX12_takeRow_33 : decode cX12_takeRow 33 = .ok (.dup2, 1) := dk92 (k := 9) bX12_takeRow_24 rfl
theorem dX12_takeRow_34 : decode cX12_takeRow 34 = .ok (.iaload, 1) := dk46 (k := 10) bX12_takeRow_24 rfl
theorem dX12_takeRow_35 : decode cX12_takeRow 35 = .ok (.iconst 1, 1) := dk4 (k := 11) bX12_takeRow_24 rfl
theorem dX12_takeRow_36 : decode cX12_takeRow 36 = .ok (.isub, 1) := dk100 (k := 12) bX12_takeRow_24 rfl
theorem dX12_takeRow_37 : decode cX12_takeRow 37 = .ok (.iastore, 1) := dk79 (k := 13) bX12_takeRow_24 rfl
theorem dX12_takeRow_38 : decode cX12_takeRow 38 = .ok (.iinc 2 1, 3) := dk132 (k := 14) bX12_takeRow_24 rfl rfl (by decide)
theorem dX12_takeRow_41 : decode cX12_takeRow 41 = .ok (.goto (-39), 3) := dk167 (k := 17) bX12_takeRow_24 rfl (by decide)
theorem dX12_takeRow_44 : decode cX12_takeRow 44 = .ok (.iload_n 1, 1) := dk27 (k := 20) bX12_takeRow_24 rfl
theorem dX12_takeRow_45 : decode cX12_takeRow 45 = .ok (.ireturn, 1) := dk172 (k := 21) bX12_takeRow_24 rfl
theorem bX12_nextRow_0 : bL cX12_nextRow 0 [27, 4, 100, 61, 28, 155, 0, 68, 42, 180, 0, 41, 28, 46, 42, 180, 0, 9, 3, 46, 4, 100, 160, 0, 6] := bL_of (by decide +kernel)
theorem dX12_nextRow_0 : decode cX12_nextRow 0 = .ok (.iload_n 1, 1) := dk27 (k := 0) bX12_nextRow_0 rfl
theorem dX12_nextRow_1 : decode cX12_nextRow 1 = .ok (.iconst 1, 1) := dk4 (k := 1) bX12_nextRow_0 rfl
theorem dX12_nextRow_2 : decode cX12_nextRow 2 = .ok (.isub, 1) := dk100 (k := 2) bX12_nextRow_0 rfl
theorem dX12_nextRow_3 : decode cX12_nextRow 3 = .ok (.istore_n 2, 1) := dk61 (k := 3) bX12_nextRow_0 rfl
theorem dX12_nextRow_4 : decode cX12_nextRow 4 = .ok (.iload_n 2, 1) := dk28 (k := 4) bX12_nextRow_0 rfl
theorem dX12_nextRow_5 : decode cX12_nextRow 5 = .ok (.ifCond .lt 68, 3) := dk155 (k := 5) bX12_nextRow_0 rfl (by decide)
theorem dX12_nextRow_8 : decode cX12_nextRow 8 = .ok (.aload_n 0, 1) := dk42 (k := 8) bX12_nextRow_0 rfl
theorem dX12_nextRow_9 : decode cX12_nextRow 9 = .ok (.getfield 41, 3) := dk180 (k := 9) bX12_nextRow_0 rfl rfl
theorem dX12_nextRow_12 : decode cX12_nextRow 12 = .ok (.iload_n 2, 1) := dk28 (k := 12) bX12_nextRow_0 rfl
theorem dX12_nextRow_13 : decode cX12_nextRow 13 = .ok (.iaload, 1) := dk46 (k := 13) bX12_nextRow_0 rfl
theorem dX12_nextRow_14 : decode cX12_nextRow 14 = .ok (.aload_n 0, 1) := dk42 (k := 14) bX12_nextRow_0 rfl
theorem dX12_nextRow_15 : decode cX12_nextRow 15 = .ok (.getfield 9, 3) := dk180 (k := 15) bX12_nextRow_0 rfl rfl
theorem dX12_nextRow_18 : decode cX12_nextRow 18 = .ok (.iconst 0, 1) := dk3 (k := 18) bX12_nextRow_0 rfl
theorem dX12_nextRow_19 : decode cX12_nextRow 19 = .ok (.iaload, 1) := dk46 (k := 19) bX12_nextRow_0 rfl
theorem dX12_nextRow_20 : decode cX12_nextRow 20 = .ok (.iconst 1, 1) := dk4 (k := 20) bX12_nextRow_0 rfl
theorem dX12_nextRow_21 : decode cX12_nextRow 21 = .ok (.isub, 1) := dk100 (k := 21) bX12_nextRow_0 rfl
theorem dX12_nextRow_22 : decode cX12_nextRow 22 = .ok (.if_icmp .ne 6, 3) := dk160 (k := 22) bX12_nextRow_0 rfl (by decide)
theorem bX12_nextRow_25 : bL cX12_nextRow 25 [167, 0, 42, 42, 180, 0, 41, 28, 92, 46, 4, 96, 79, 28, 4, 96, 62, 29, 27, 162, 0, 21, 42, 180, 0, 41] := bL_of (by decide +kernel)
theorem dX12_nextRow_25 : decode cX12_nextRow 25 = .ok (.goto 42, 3) := dk167 (k := 0) bX12_nextRow_25 rfl (by decide)
theorem dX12_nextRow_28 : decode cX12_nextRow 28 = .ok (.aload_n 0, 1) := dk42 (k := 3) bX12_nextRow_25 rfl
theorem dX12_nextRow_29 : decode cX12_nextRow 29 = .ok (.getfield 41, 3) := dk180 (k := 4) bX12_nextRow_25 rfl rfl
theorem dX12_nextRow_32 : decode cX12_nextRow 32 = .ok (.iload_n 2, 1) := dk28 (k := 7) bX12_nextRow_25 rfl
theorem dX12_nextRow_33 : decode cX12_nextRow 33 = .ok (.dup2, 1) := dk92 (k := 8) bX12_nextRow_25 rfl
theorem dX12_nextRow_34 : decode cX12_nextRow 34 = .ok (.iaload, 1) := dk46 (k := 9) bX12_nextRow_25 rfl
theorem dX12_nextRow_35 : decode cX12_nextRow 35 = .ok (.iconst 1, 1) := dk4 (k := 10) bX12_nextRow_25 rfl
theorem dX12_nextRow_36 : decode cX12_nextRow 36 = .ok (.iadd, 1) := dk96 (k := 11) bX12_nextRow_25 rfl
theorem dX12_nextRow_37 : decode cX12_nextRow 37 = .ok (.iastore, 1) := dk79 (k := 12) bX12_nextRow_25 rfl
theorem dX12_nextRow_38 : decode cX12_nextRow 38 = .ok (.iload_n 2, 1) := dk28 (k := 13) bX12_nextRow_25 rfl
theorem dX12_nextRow_39 : decode cX12_nextRow 39 = .ok (.iconst 1, 1) := dk4 (k := 14) bX12_nextRow_25 rfl
theorem dX12_nextRow_40 : decode cX12_nextRow 40 = .ok (.iadd, 1) := dk96 (k := 15) bX12_nextRow_25 rfl
theorem dX12_nextRow_41 : decode cX12_nextRow 41 = .ok (.istore_n 3, 1) := dk62 (k := 16) bX12_nextRow_25 rfl
theorem dX12_nextRow_42 : decode cX12_nextRow 42 = .ok (.iload_n 3, 1) := dk29 (k := 17) bX12_nextRow_25 rfl
theorem dX12_nextRow_43 : decode cX12_nextRow 43 = .ok (.iload_n 1, 1) := dk27 (k := 18) bX12_nextRow_25 rfl
theorem dX12_nextRow_44 : decode cX12_nextRow 44 = .ok (.if_icmp .ge 21, 3) := dk162 (k := 19) bX12_nextRow_25 rfl (by decide)
theorem dX12_nextRow_47 : decode cX12_nextRow 47 = .ok (.aload_n 0, 1) := dk42 (k := 22) bX12_nextRow_25 rfl
theorem dX12_nextRow_48 : decode cX12_nextRow 48 = .ok (.getfield 41, 3) := dk180 (k := 23) bX12_nextRow_25 rfl rfl
theorem bX12_nextRow_51 : bL cX12_nextRow 51 [29, 42, 180, 0, 41, 28, 46, 79, 132, 3, 1, 167, 255, 236, 4, 172, 132, 2, 255, 167, 255, 190, 3, 172] := bL_of (by decide +kernel)
theorem dX12_nextRow_51 : decode cX12_nextRow 51 = .ok (.iload_n 3, 1) := dk29 (k := 0) bX12_nextRow_51 rfl
theorem dX12_nextRow_52 : decode cX12_nextRow 52 = .ok (.aload_n 0, 1) := dk42 (k := 1) bX12_nextRow_51 rfl
theorem dX12_nextRow_53 : decode cX12_nextRow 53 = .ok (.getfield 41, 3) := dk180 (k := 2) bX12_nextRow_51 rfl rfl
theorem dX12_nextRow_56 : decode cX12_nextRow 56 = .ok (.iload_n 2, 1) := dk28 (k := 5) bX12_nextRow_51 rfl
theorem dX12_nextRow_57 : decode cX12_nextRow 57 = .ok (.iaload, 1) := dk46 (k := 6) bX12_nextRow_51 rfl
theorem dX12_nextRow_58 : decode cX12_nextRow 58 = .ok (.iastore, 1) := dk79 (k := 7) bX12_nextRow_51 rfl
theorem dX12_nextRow_59 : decode cX12_nextRow 59 = .ok (.iinc 3 1, 3) := dk132 (k := 8) bX12_nextRow_51 rfl rfl (by decide)
theorem dX12_nextRow_62 : decode cX12_nextRow 62 = .ok (.goto (-20), 3) := dk167 (k := 11) bX12_nextRow_51 rfl (by decide)
theorem dX12_nextRow_65 : decode cX12_nextRow 65 = .ok (.iconst 1, 1) := dk4 (k := 14) bX12_nextRow_51 rfl
theorem dX12_nextRow_66 : decode cX12_nextRow 66 = .ok (.ireturn, 1) := dk172 (k := 15) bX12_nextRow_51 rfl
theorem dX12_nextRow_67 : decode cX12_nextRow 67 = .ok (.iinc 2 (-1), 3) := dk132 (k := 16) bX12_nextRow_51 rfl rfl (by decide)
theorem dX12_nextRow_70 : decode cX12_nextRow 70 = .ok (.goto (-66), 3) := dk167 (k := 19) bX12_nextRow_51 rfl (by decide)
theorem dX12_nextRow_73 : decode cX12_nextRow 73 = .ok (.iconst 0, 1) := dk3 (k := 22) bX12_nextRow_51 rfl
theorem dX12_nextRow_74 : decode cX12_nextRow 74 = .ok (.ireturn, 1) := dk172 (k := 23) bX12_nextRow_51 rfl
theorem bX12_shapeOf_0 : bL cX12_shapeOf 0 [42, 182, 0, 240, 3, 61, 28, 6, 162, 0, 16, 42, 180, 0, 41, 28, 3, 79, 132, 2, 1, 167, 255, 241] := bL_of (by decide +kernel)
theorem dX12_shapeOf_0 : decode cX12_shapeOf 0 = .ok (.aload_n 0, 1) := dk42 (k := 0) bX12_shapeOf_0 rfl
theorem dX12_shapeOf_1 : decode cX12_shapeOf 1 = .ok (.invokevirtual 240, 3) := dk182 (k := 1) bX12_shapeOf_0 rfl rfl
theorem dX12_shapeOf_4 : decode cX12_shapeOf 4 = .ok (.iconst 0, 1) := dk3 (k := 4) bX12_shapeOf_0 rfl
theorem dX12_shapeOf_5 : decode cX12_shapeOf 5 = .ok (.istore_n 2, 1) := dk61 (k := 5) bX12_shapeOf_0 rfl
theorem dX12_shapeOf_6 : decode cX12_shapeOf 6 = .ok (.iload_n 2, 1) := dk28 (k := 6) bX12_shapeOf_0 rfl
theorem dX12_shapeOf_7 : decode cX12_shapeOf 7 = .ok (.iconst 3, 1) := dk6 (k := 7) bX12_shapeOf_0 rfl
theorem dX12_shapeOf_8 : decode cX12_shapeOf 8 = .ok (.if_icmp .ge 16, 3) := dk162 (k := 8) bX12_shapeOf_0 rfl (by decide)
theorem dX12_shapeOf_11 : decode cX12_shapeOf 11 = .ok (.aload_n 0, 1) := dk42 (k := 11) bX12_shapeOf_0 rfl
theorem dX12_shapeOf_12 : decode cX12_shapeOf 12 = .ok (.getfield 41, 3) := dk180 (k := 12) bX12_shapeOf_0 rfl rfl
theorem dX12_shapeOf_15 : decode cX12_shapeOf 15 = .ok (.iload_n 2, 1) := dk28 (k := 15) bX12_shapeOf_0 rfl
theorem dX12_shapeOf_16 : decode cX12_shapeOf 16 = .ok (.iconst 0, 1) := dk3 (k := 16) bX12_shapeOf_0 rfl
theorem dX12_shapeOf_17 : decode cX12_shapeOf 17 = .ok (.iastore, 1) := dk79 (k := 17) bX12_shapeOf_0 rfl
theorem dX12_shapeOf_18 : decode cX12_shapeOf 18 = .ok (.iinc 2 1, 3) := dk132 (k := 18) bX12_shapeOf_0 rfl rfl (by decide)
theorem dX12_shapeOf_21 : decode cX12_shapeOf 21 = .ok (.goto (-15), 3) := dk167 (k := 21) bX12_shapeOf_0 rfl (by decide)
theorem bX12_shapeOf_24 : bL cX12_shapeOf 24 [19, 1, 79, 61, 42, 27, 182, 1, 80, 62, 29, 27, 160, 0, 10, 42, 182, 0, 251, 167, 0, 6, 19, 1, 79] := bL_of (by decide +kernel)
theorem dX12_shapeOf_24 : decode cX12_shapeOf 24 = .ok (.ldc_w 335, 3) := dk19 (k := 0) bX12_shapeOf_24 rfl rfl
theorem dX12_shapeOf_27 : decode cX12_shapeOf 27 = .ok (.istore_n 2, 1) := dk61 (k := 3) bX12_shapeOf_24 rfl
theorem dX12_shapeOf_28 : decode cX12_shapeOf 28 = .ok (.aload_n 0, 1) := dk42 (k := 4) bX12_shapeOf_24 rfl
theorem dX12_shapeOf_29 : decode cX12_shapeOf 29 = .ok (.iload_n 1, 1) := dk27 (k := 5) bX12_shapeOf_24 rfl
theorem dX12_shapeOf_30 : decode cX12_shapeOf 30 = .ok (.invokevirtual 336, 3) := dk182 (k := 6) bX12_shapeOf_24 rfl rfl
theorem dX12_shapeOf_33 : decode cX12_shapeOf 33 = .ok (.istore_n 3, 1) := dk62 (k := 9) bX12_shapeOf_24 rfl
theorem dX12_shapeOf_34 : decode cX12_shapeOf 34 = .ok (.iload_n 3, 1) := dk29 (k := 10) bX12_shapeOf_24 rfl
theorem dX12_shapeOf_35 : decode cX12_shapeOf 35 = .ok (.iload_n 1, 1) := dk27 (k := 11) bX12_shapeOf_24 rfl
theorem dX12_shapeOf_36 : decode cX12_shapeOf 36 = .ok (.if_icmp .ne 10, 3) := dk160 (k := 12) bX12_shapeOf_24 rfl (by decide)
theorem dX12_shapeOf_39 : decode cX12_shapeOf 39 = .ok (.aload_n 0, 1) := dk42 (k := 15) bX12_shapeOf_24 rfl
theorem dX12_shapeOf_40 : decode cX12_shapeOf 40 = .ok (.invokevirtual 251, 3) := dk182 (k := 16) bX12_shapeOf_24 rfl rfl
theorem dX12_shapeOf_43 : decode cX12_shapeOf 43 = .ok (.goto 6, 3) := dk167 (k := 19) bX12_shapeOf_24 rfl (by decide)
theorem dX12_shapeOf_46 : decode cX12_shapeOf 46 = .ok (.ldc_w 335, 3) := dk19 (k := 22) bX12_shapeOf_24 rfl rfl
theorem bX12_shapeOf_49 : bL cX12_shapeOf 49 [54, 4, 3, 54, 5, 21, 5, 29, 162, 0, 25, 42, 180, 0, 34, 42, 180, 0, 41, 21, 5, 46, 92, 46] := bL_of (by decide +kernel)
theorem dX12_shapeOf_49 : decode cX12_shapeOf 49 = .ok (.istore 4, 2) := dk54 (k := 0) bX12_shapeOf_49 rfl rfl
theorem dX12_shapeOf_51 : decode cX12_shapeOf 51 = .ok (.iconst 0, 1) := dk3 (k := 2) bX12_shapeOf_49 rfl
theorem dX12_shapeOf_52 : decode cX12_shapeOf 52 = .ok (.istore 5, 2) := dk54 (k := 3) bX12_shapeOf_49 rfl rfl
theorem dX12_shapeOf_54 : decode cX12_shapeOf 54 = .ok (.iload 5, 2) := dk21 (k := 5) bX12_shapeOf_49 rfl rfl
theorem dX12_shapeOf_56 : decode cX12_shapeOf 56 = .ok (.iload_n 3, 1) := dk29 (k := 7) bX12_shapeOf_49 rfl
theorem dX12_shapeOf_57 : decode cX12_shapeOf 57 = .ok (.if_icmp .ge 25, 3) := dk162 (k := 8) bX12_shapeOf_49 rfl (by decide)
theorem dX12_shapeOf_60 : decode cX12_shapeOf 60 = .ok (.aload_n 0, 1) := dk42 (k := 11) bX12_shapeOf_49 rfl
theorem dX12_shapeOf_61 : decode cX12_shapeOf 61 = .ok (.getfield 34, 3) := dk180 (k := 12) bX12_shapeOf_49 rfl rfl
theorem dX12_shapeOf_64 : decode cX12_shapeOf 64 = .ok (.aload_n 0, 1) := dk42 (k := 15) bX12_shapeOf_49 rfl
theorem dX12_shapeOf_65 : decode cX12_shapeOf 65 = .ok (.getfield 41, 3) := dk180 (k := 16) bX12_shapeOf_49 rfl rfl
theorem dX12_shapeOf_68 : decode cX12_shapeOf 68 = .ok (.iload 5, 2) := dk21 (k := 19) bX12_shapeOf_49 rfl rfl
theorem dX12_shapeOf_70 : decode cX12_shapeOf 70 = .ok (.iaload, 1) := dk46 (k := 21) bX12_shapeOf_49 rfl
theorem dX12_shapeOf_71 : decode cX12_shapeOf 71 = .ok (.dup2, 1) := dk92 (k := 22) bX12_shapeOf_49 rfl
theorem dX12_shapeOf_72 : decode cX12_shapeOf 72 = .ok (.iaload, 1) := dk46 (k := 23) bX12_shapeOf_49 rfl
theorem bX12_shapeOf_73 : bL cX12_shapeOf 73 [4, 96, 79, 132, 5, 1, 167, 255, 231, 21, 4, 28, 163, 0, 6, 167, 0, 35, 21, 4, 61, 3, 54, 5] := bL_of (by decide +kernel)
theorem dX12_shapeOf_73 : decode cX12_shapeOf 73 = .ok (.iconst 1, 1) := dk4 (k := 0) bX12_shapeOf_73 rfl
theorem dX12_shapeOf_74 : decode cX12_shapeOf 74 = .ok (.iadd, 1) := dk96 (k := 1) bX12_shapeOf_73 rfl
theorem dX12_shapeOf_75 : decode cX12_shapeOf 75 = .ok (.iastore, 1) := dk79 (k := 2) bX12_shapeOf_73 rfl
theorem dX12_shapeOf_76 : decode cX12_shapeOf 76 = .ok (.iinc 5 1, 3) := dk132 (k := 3) bX12_shapeOf_73 rfl rfl (by decide)
theorem dX12_shapeOf_79 : decode cX12_shapeOf 79 = .ok (.goto (-25), 3) := dk167 (k := 6) bX12_shapeOf_73 rfl (by decide)
theorem dX12_shapeOf_82 : decode cX12_shapeOf 82 = .ok (.iload 4, 2) := dk21 (k := 9) bX12_shapeOf_73 rfl rfl
theorem dX12_shapeOf_84 : decode cX12_shapeOf 84 = .ok (.iload_n 2, 1) := dk28 (k := 11) bX12_shapeOf_73 rfl
theorem dX12_shapeOf_85 : decode cX12_shapeOf 85 = .ok (.if_icmp .gt 6, 3) := dk163 (k := 12) bX12_shapeOf_73 rfl (by decide)
theorem dX12_shapeOf_88 : decode cX12_shapeOf 88 = .ok (.goto 35, 3) := dk167 (k := 15) bX12_shapeOf_73 rfl (by decide)
theorem dX12_shapeOf_91 : decode cX12_shapeOf 91 = .ok (.iload 4, 2) := dk21 (k := 18) bX12_shapeOf_73 rfl rfl
theorem dX12_shapeOf_93 : decode cX12_shapeOf 93 = .ok (.istore_n 2, 1) := dk61 (k := 20) bX12_shapeOf_73 rfl
theorem dX12_shapeOf_94 : decode cX12_shapeOf 94 = .ok (.iconst 0, 1) := dk3 (k := 21) bX12_shapeOf_73 rfl
theorem dX12_shapeOf_95 : decode cX12_shapeOf 95 = .ok (.istore 5, 2) := dk54 (k := 22) bX12_shapeOf_73 rfl rfl
theorem bX12_shapeOf_97 : bL cX12_shapeOf 97 [21, 5, 27, 162, 0, 23, 42, 180, 0, 44, 21, 5, 42, 180, 0, 41, 21, 5, 46, 79, 132, 5, 1, 167, 255, 233] := bL_of (by decide +kernel)
theorem dX12_shapeOf_97 : decode cX12_shapeOf 97 = .ok (.iload 5, 2) := dk21 (k := 0) bX12_shapeOf_97 rfl rfl
theorem dX12_shapeOf_99 : decode cX12_shapeOf 99 = .ok (.iload_n 1, 1) := dk27 (k := 2) bX12_shapeOf_97 rfl
theorem dX12_shapeOf_100 : decode cX12_shapeOf 100 = .ok (.if_icmp .ge 23, 3) := dk162 (k := 3) bX12_shapeOf_97 rfl (by decide)
theorem dX12_shapeOf_103 : decode cX12_shapeOf 103 = .ok (.aload_n 0, 1) := dk42 (k := 6) bX12_shapeOf_97 rfl
theorem dX12_shapeOf_104 : decode cX12_shapeOf 104 = .ok (.getfield 44, 3) := dk180 (k := 7) bX12_shapeOf_97 rfl rfl
theorem dX12_shapeOf_107 : decode cX12_shapeOf 107 = .ok (.iload 5, 2) := dk21 (k := 10) bX12_shapeOf_97 rfl rfl
theorem dX12_shapeOf_109 : decode cX12_shapeOf 109 = .ok (.aload_n 0, 1) := dk42 (k := 12) bX12_shapeOf_97 rfl
theorem dX12_shapeOf_110 : decode cX12_shapeOf 110 = .ok (.getfield 41, 3) := dk180 (k := 13) bX12_shapeOf_97 rfl rfl
theorem dX12_shapeOf_113 : decode cX12_shapeOf 113 = .ok (.iload 5, 2) := dk21 (k := 16) bX12_shapeOf_97 rfl rfl
theorem dX12_shapeOf_115 : decode cX12_shapeOf 115 = .ok (.iaload, 1) := dk46 (k := 18) bX12_shapeOf_97 rfl
theorem dX12_shapeOf_116 : decode cX12_shapeOf 116 = .ok (.iastore, 1) := dk79 (k := 19) bX12_shapeOf_97 rfl
theorem dX12_shapeOf_117 : decode cX12_shapeOf 117 = .ok (.iinc 5 1, 3) := dk132 (k := 20) bX12_shapeOf_97 rfl rfl (by decide)
theorem dX12_shapeOf_120 : decode cX12_shapeOf 120 = .ok (.goto (-23), 3) := dk167 (k := 23) bX12_shapeOf_97 rfl (by decide)
theorem bX12_shapeOf_123 : bL cX12_shapeOf 123 [42, 27, 182, 1, 83, 154, 255, 156, 28, 172] := bL_of (by decide +kernel)
theorem dX12_shapeOf_123 : decode cX12_shapeOf 123 = .ok (.aload_n 0, 1) := dk42 (k := 0) bX12_shapeOf_123 rfl
theorem dX12_shapeOf_124 : decode cX12_shapeOf 124 = .ok (.iload_n 1, 1) := dk27 (k := 1) bX12_shapeOf_123 rfl
theorem dX12_shapeOf_125 : decode cX12_shapeOf 125 = .ok (.invokevirtual 339, 3) := dk182 (k := 2) bX12_shapeOf_123 rfl rfl
theorem dX12_shapeOf_128 : decode cX12_shapeOf 128 = .ok (.ifCond .ne (-100), 3) := dk154 (k := 5) bX12_shapeOf_123 rfl (by decide)
theorem dX12_shapeOf_131 : decode cX12_shapeOf 131 = .ok (.iload_n 2, 1) := dk28 (k := 8) bX12_shapeOf_123 rfl
theorem dX12_shapeOf_132 : decode cX12_shapeOf 132 = .ok (.ireturn, 1) := dk172 (k := 9) bX12_shapeOf_123 rfl
theorem bX12_shape_0 : bL cX12_shape 0 [42, 182, 0, 73, 153, 0, 15, 27, 133, 9, 20, 1, 86] := bL_of (by decide +kernel)
theorem dX12_shape_0 : decode cX12_shape 0 = .ok (.aload_n 0, 1) := dk42 (k := 0) bX12_shape_0 rfl
theorem dX12_shape_1 : decode cX12_shape 1 = .ok (.invokevirtual 73, 3) := dk182 (k := 1) bX12_shape_0 rfl rfl
theorem dX12_shape_4 : decode cX12_shape 4 = .ok (.ifCond .eq 15, 3) := dk153 (k := 4) bX12_shape_0 rfl (by decide)
theorem dX12_shape_7 : decode cX12_shape 7 = .ok (.iload_n 1, 1) := dk27 (k := 7) bX12_shape_0 rfl
theorem dX12_shape_8 : decode cX12_shape 8 = .ok (.i2l, 1) := dk133 (k := 8) bX12_shape_0 rfl
theorem dX12_shape_9 : decode cX12_shape 9 = .ok (.lconst 0, 1) := dk9 (k := 9) bX12_shape_0 rfl
theorem dX12_shape_10 : decode cX12_shape 10 = .ok (.ldc2_w 342, 3) := dk20 (k := 10) bX12_shape_0 rfl rfl
