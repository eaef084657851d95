section
theorem bX12_feed_103 : bL cX12_feed 103 [180, 0, 81, 16, 20, 96, 181, 0, 81, 42, 180, 0, 81, 172] := bL_of (by decide +kernel)
theorem dX12_feed_103 : decode cX12_feed 103 = .ok (.getfield 81, 3) := dk180 (k := 0) bX12_feed_103 rfl rfl
theorem dX12_feed_106 : decode cX12_feed 106 = .ok (.bipush 20, 2) := dk16 (k := 3) bX12_feed_103 rfl (by decide)
theorem dX12_feed_108 : decode cX12_feed 108 = .ok (.iadd, 1) := dk96 (k := 5) bX12_feed_103 rfl
theorem dX12_feed_109 : decode cX12_feed 109 = .ok (.putfield 81, 3) := dk181 (k := 6) bX12_feed_103 rfl rfl
theorem dX12_feed_112 : decode cX12_feed 112 = .ok (.aload_n 0, 1) := dk42 (k := 9) bX12_feed_103 rfl
theorem dX12_feed_113 : decode cX12_feed 113 = .ok (.getfield 81, 3) := dk180 (k := 10) bX12_feed_103 rfl rfl
theorem dX12_feed_116 : decode cX12_feed 116 = .ok (.ireturn, 1) := dk172 (k := 13) bX12_feed_103 rfl
theorem bX12_end_0 : bL cX12_end 0 [27, 133, 9, 42, 180, 0, 81, 133, 184, 0, 65, 154, 0, 5, 2, 172, 42, 27, 181, 0, 81, 27, 172] := bL_of (by decide +kernel)
theorem dX12_end_0 : decode cX12_end 0 = .ok (.iload_n 1, 1) := dk27 (k := 0) bX12_end_0 rfl
theorem dX12_end_1 : decode cX12_end 1 = .ok (.i2l, 1) := dk133 (k := 1) bX12_end_0 rfl
theorem dX12_end_2 : decode cX12_end 2 = .ok (.lconst 0, 1) := dk9 (k := 2) bX12_end_0 rfl
theorem dX12_end_3 : decode cX12_end 3 = .ok (.aload_n 0, 1) := dk42 (k := 3) bX12_end_0 rfl
theorem dX12_end_4 : decode cX12_end 4 = .ok (.getfield 81, 3) := dk180 (k := 4) bX12_end_0 rfl rfl
theorem dX12_end_7 : decode cX12_end 7 = .ok (.i2l, 1) := dk133 (k := 7) bX12_end_0 rfl
theorem dX12_end_8 : decode cX12_end 8 = .ok (.invokestatic 65, 3) := dk184 (k := 8) bX12_end_0 rfl rfl
theorem dX12_end_11 : decode cX12_end 11 = .ok (.ifCond .ne 5, 3) := dk154 (k := 11) bX12_end_0 rfl (by decide)
theorem dX12_end_14 : decode cX12_end 14 = .ok (.iconst (-1), 1) := dk2 (k := 14) bX12_end_0 rfl
theorem dX12_end_15 : decode cX12_end 15 = .ok (.ireturn, 1) := dk172 (k := 15) bX12_end_0 rfl
theorem dX12_end_16 : decode cX12_end 16 = .ok (.aload_n 0, 1) := dk42 (k := 16) bX12_end_0 rfl
theorem dX12_end_17 : decode cX12_end 17 = .ok (.iload_n 1, 1) := dk27 (k := 17) bX12_end_0 rfl
theorem dX12_end_18 : decode cX12_end 18 = .ok (.putfield 81, 3) := dk181 (k := 18) bX12_end_0 rfl rfl
theorem dX12_end_21 : decode cX12_end 21 = .ok (.iload_n 1, 1) := dk27 (k := 21) bX12_end_0 rfl
theorem dX12_end_22 : decode cX12_end 22 = .ok (.ireturn, 1) := dk172 (k := 22) bX12_end_0 rfl
theorem bX12_see_0 : bL cX12_see 0 [27, 42, 180, 0, 84, 162, 0, 16, 42, 180, 0, 20, 27, 51, 17, 0, 255, 126, 167, 0, 4, 2, 172] := bL_of (by decide +kernel)
theorem dX12_see_0 : decode cX12_see 0 = .ok (.iload_n 1, 1) := dk27 (k := 0) bX12_see_0 rfl
theorem dX12_see_1 : decode cX12_see 1 = .ok (.aload_n 0, 1) := dk42 (k := 1) bX12_see_0 rfl
theorem dX12_see_2 : decode cX12_see 2 = .ok (.getfield 84, 3) := dk180 (k := 2) bX12_see_0 rfl rfl
theorem dX12_see_5 : decode cX12_see 5 = .ok (.if_icmp .ge 16, 3) := dk162 (k := 5) bX12_see_0 rfl (by decide)
theorem dX12_see_8 : decode cX12_see 8 = .ok (.aload_n 0, 1) := dk42 (k := 8) bX12_see_0 rfl
theorem dX12_see_9 : decode cX12_see 9 = .ok (.getfield 20, 3) := dk180 (k := 9) bX12_see_0 rfl rfl
theorem dX12_see_12 : decode cX12_see 12 = .ok (.iload_n 1, 1) := dk27 (k := 12) bX12_see_0 rfl
theorem dX12_see_13 : decode cX12_see 13 = .ok (.baload, 1) := dk51 (k := 13) bX12_see_0 rfl
theorem dX12_see_14 : decode cX12_see 14 = .ok (.sipush 255, 3) := dk17 (k := 14) bX12_see_0 rfl (by decide)
theorem dX12_see_17 : decode cX12_see 17 = .ok (.iand, 1) := dk126 (k := 17) bX12_see_0 rfl
theorem dX12_see_18 : decode cX12_see 18 = .ok (.goto 4, 3) := dk167 (k := 18) bX12_see_0 rfl (by decide)
theorem dX12_see_21 : decode cX12_see 21 = .ok (.iconst (-1), 1) := dk2 (k := 21) bX12_see_0 rfl
theorem dX12_see_22 : decode cX12_see 22 = .ok (.ireturn, 1) := dk172 (k := 22) bX12_see_0 rfl
theorem bX12_advance_0 : bL cX12_advance 0 [42, 42, 180, 0, 87, 182, 0, 90, 16, 32, 159, 0, 16, 42, 42, 180, 0, 87, 182, 0, 90, 16, 10, 160, 0, 16] := bL_of (by decide +kernel)
theorem dX12_advance_0 : decode cX12_advance 0 = .ok (.aload_n 0, 1) := dk42 (k := 0) bX12_advance_0 rfl
theorem dX12_advance_1 : decode cX12_advance 1 = .ok (.aload_n 0, 1) := dk42 (k := 1) bX12_advance_0 rfl
theorem dX12_advance_2 : decode cX12_advance 2 = .ok (.getfield 87, 3) := dk180 (k := 2) bX12_advance_0 rfl rfl
theorem dX12_advance_5 : decode cX12_advance 5 = .ok (.invokevirtual 90, 3) := dk182 (k := 5) bX12_advance_0 rfl rfl
theorem dX12_advance_8 : decode cX12_advance 8 = .ok (.bipush 32, 2) := dk16 (k := 8) bX12_advance_0 rfl (by decide)
theorem dX12_advance_10 : decode cX12_advance 10 = .ok (.if_icmp .eq 16, 3) := dk159 (k := 10) bX12_advance_0 rfl (by decide)
theorem dX12_advance_13 : decode cX12_advance 13 = .ok (.aload_n 0, 1) := dk42 (k := 13) bX12_advance_0 rfl
theorem dX12_advance_14 : decode cX12_advance 14 = .ok (.aload_n 0, 1) := dk42 (k := 14) bX12_advance_0 rfl
theorem dX12_advance_15 : decode cX12_advance 15 = .ok (.getfield 87, 3) := dk180 (k := 15) bX12_advance_0 rfl rfl
theorem dX12_advance_18 : decode cX12_advance 18 = .ok (.invokevirtual 90, 3) := dk182 (k := 18) bX12_advance_0 rfl rfl
theorem dX12_advance_21 : decode cX12_advance 21 = .ok (.bipush 10, 2) := dk16 (k := 21) bX12_advance_0 rfl (by decide)
theorem dX12_advance_23 : decode cX12_advance 23 = .ok (.if_icmp .ne 16, 3) := dk160 (k := 23) bX12_advance_0 rfl (by decide)
theorem bX12_advance_26 : bL cX12_advance 26 [42, 89, 180, 0, 87, 4, 96, 181, 0, 87, 167, 255, 220, 42, 42, 180, 0, 87, 181, 0, 94, 42, 42, 180, 0, 87] := bL_of (by decide +kernel)
theorem dX12_advance_26 : decode cX12_advance 26 = .ok (.aload_n 0, 1) := dk42 (k := 0) bX12_advance_26 rfl
theorem dX12_advance_27 : decode cX12_advance 27 = .ok (.dup, 1) := dk89 (k := 1) bX12_advance_26 rfl
theorem dX12_advance_28 : decode cX12_advance 28 = .ok (.getfield 87, 3) := dk180 (k := 2) bX12_advance_26 rfl rfl
theorem dX12_advance_31 : decode cX12_advance 31 = .ok (.iconst 1, 1) := dk4 (k := 5) bX12_advance_26 rfl
theorem dX12_advance_32 : decode cX12_advance 32 = .ok (.iadd, 1) := dk96 (k := 6) bX12_advance_26 rfl
theorem dX12_advance_33 : decode cX12_advance 33 = .ok (.putfield 87, 3) := dk181 (k := 7) bX12_advance_26 rfl rfl
theorem dX12_advance_36 : decode cX12_advance 36 = .ok (.goto (-36), 3) := dk167 (k := 10) bX12_advance_26 rfl (by decide)
theorem dX12_advance_39 : decode cX12_advance 39 = .ok (.aload_n 0, 1) := dk42 (k := 13) bX12_advance_26 rfl
theorem dX12_advance_40 : decode cX12_advance 40 = .ok (.aload_n 0, 1) := dk42 (k := 14) bX12_advance_26 rfl
theorem dX12_advance_41 : decode cX12_advance 41 = .ok (.getfield 87, 3) := dk180 (k := 15) bX12_advance_26 rfl rfl
theorem dX12_advance_44 : decode cX12_advance 44 = .ok (.putfield 94, 3) := dk181 (k := 18) bX12_advance_26 rfl rfl
theorem dX12_advance_47 : decode cX12_advance 47 = .ok (.aload_n 0, 1) := dk42 (k := 21) bX12_advance_26 rfl
theorem dX12_advance_48 : decode cX12_advance 48 = .ok (.aload_n 0, 1) := dk42 (k := 22) bX12_advance_26 rfl
theorem dX12_advance_49 : decode cX12_advance 49 = .ok (.getfield 87, 3) := dk180 (k := 23) bX12_advance_26 rfl rfl
theorem bX12_advance_52 : bL cX12_advance 52 [182, 0, 90, 60, 27, 2, 160, 0, 11, 42, 3, 181, 0, 97, 167, 0, 173, 27, 133, 20, 0, 100, 20, 0, 102] := bL_of (by decide +kernel)
theorem dX12_advance_52 : decode cX12_advance 52 = .ok (.invokevirtual 90, 3) := dk182 (k := 0) bX12_advance_52 rfl rfl
theorem dX12_advance_55 : decode cX12_advance 55 = .ok (.istore_n 1, 1) := dk60 (k := 3) bX12_advance_52 rfl
theorem dX12_advance_56 : decode cX12_advance 56 = .ok (.iload_n 1, 1) := dk27 (k := 4) bX12_advance_52 rfl
theorem dX12_advance_57 : decode cX12_advance 57 = .ok (.iconst (-1), 1) := dk2 (k := 5) bX12_advance_52 rfl
theorem dX12_advance_58 : decode cX12_advance 58 = .ok (.if_icmp .ne 11, 3) := dk160 (k := 6) bX12_advance_52 rfl (by decide)
theorem dX12_advance_61 : decode cX12_advance 61 = .ok (.aload_n 0, 1) := dk42 (k := 9) bX12_advance_52 rfl
theorem dX12_advance_62 : decode cX12_advance 62 = .ok (.iconst 0, 1) := dk3 (k := 10) bX12_advance_52 rfl
theorem dX12_advance_63 : decode cX12_advance 63 = .ok (.putfield 97, 3) := dk181 (k := 11) bX12_advance_52 rfl rfl
theorem dX12_advance_66 : decode cX12_advance 66 = .ok (.goto 173, 3) := dk167 (k := 14) bX12_advance_52 rfl (by decide)
theorem dX12_advance_69 : decode cX12_advance 69 = .ok (.iload_n 1, 1) := dk27 (k := 17) bX12_advance_52 rfl
theorem dX12_advance_70 : decode cX12_advance 70 = .ok (.i2l, 1) := dk133 (k := 18) bX12_advance_52 rfl
theorem dX12_advance_71 : decode cX12_advance 71 = .ok (.ldc2_w 100, 3) := dk20 (k := 19) bX12_advance_52 rfl rfl
theorem dX12_advance_74 : decode cX12_advance 74 = .ok (.ldc2_w 102, 3) := dk20 (k := 22) bX12_advance_52 rfl rfl
theorem bX12_advance_77 : bL cX12_advance 77 [184, 0, 65, 153, 0, 45, 42, 42, 180, 0, 87, 182, 0, 90, 133, 20, 0, 100, 20, 0, 102, 184, 0, 65] := bL_of (by decide +kernel)
theorem dX12_advance_77 : decode cX12_advance 77 = .ok (.invokestatic 65, 3) := dk184 (k := 0) bX12_advance_77 rfl rfl
theorem dX12_advance_80 : decode cX12_advance 80 = .ok (.ifCond .eq 45, 3) := dk153 (k := 3) bX12_advance_77 rfl (by decide)
theorem dX12_advance_83 : decode cX12_advance 83 = .ok (.aload_n 0, 1) := dk42 (k := 6) bX12_advance_77 rfl
theorem dX12_advance_84 : decode cX12_advance 84 = .ok (.aload_n 0, 1) := dk42 (k := 7) bX12_advance_77 rfl
theorem dX12_advance_85 : decode cX12_advance 85 = .ok (.getfield 87, 3) := dk180 (k := 8) bX12_advance_77 rfl rfl
theorem dX12_advance_88 : decode cX12_advance 88 = .ok (.invokevirtual 90, 3) := dk182 (k := 11) bX12_advance_77 rfl rfl
theorem dX12_advance_91 : decode cX12_advance 91 = .ok (.i2l, 1) := dk133 (k := 14) bX12_advance_77 rfl
theorem dX12_advance_92 : decode cX12_advance 92 = .ok (.ldc2_w 100, 3) := dk20 (k := 15) bX12_advance_77 rfl rfl
theorem dX12_advance_95 : decode cX12_advance 95 = .ok (.ldc2_w 102, 3) := dk20 (k := 18) bX12_advance_77 rfl rfl
theorem dX12_advance_98 : decode cX12_advance 98 = .ok (.invokestatic 65, 3) := dk184 (k := 21) bX12_advance_77 rfl rfl
theorem bX12_advance_101 : bL cX12_advance 101 [153, 0, 16, 42, 89, 180, 0, 87, 4, 96, 181, 0, 87, 167, 255, 225, 42, 4, 181, 0, 97, 167, 0, 117] := bL_of (by decide +kernel)
theorem dX12_advance_101 : decode cX12_advance 101 = .ok (.ifCond .eq 16, 3) := dk153 (k := 0) bX12_advance_101 rfl (by decide)
theorem dX12_advance_104 : decode cX12_advance 104 = .ok (.aload_n 0, 1) := dk42 (k := 3) bX12_advance_101 rfl
theorem dX12_advance_105 : decode cX12_advance 105 = .ok (.dup, 1) := dk89 (k := 4) bX12_advance_101 rfl
theorem dX12_advance_106 : decode cX12_advance 106 = .ok (.getfield 87, 3) := dk180 (k := 5) bX12_advance_101 rfl rfl
theorem dX12_advance_109 : decode cX12_advance 109 = .ok (.iconst 1, 1) := dk4 (k := 8) bX12_advance_101 rfl
theorem dX12_advance_110 : decode cX12_advance 110 = .ok (.iadd, 1) := dk96 (k := 9) bX12_advance_101 rfl
theorem dX12_advance_111 : decode cX12_advance 111 = .ok (.putfield 87, 3) := dk181 (k := 10) bX12_advance_101 rfl rfl
theorem dX12_advance_114 : decode cX12_advance 114 = .ok (.goto (-31), 3) := dk167 (k := 13) bX12_advance_101 rfl (by decide)
theorem dX12_advance_117 : decode cX12_advance 117 = .ok (.aload_n 0, 1) := dk42 (k := 16) bX12_advance_101 rfl
theorem dX12_advance_118 : decode cX12_advance 118 = .ok (.iconst 1, 1) := dk4 (k := 17) bX12_advance_101 rfl
theorem dX12_advance_119 : decode cX12_advance 119 = .ok (.putfield 97, 3) := dk181 (k := 18) bX12_advance_101 rfl rfl
theorem dX12_advance_122 : decode cX12_advance 122 = .ok (.goto 117, 3) := dk167 (k := 21) bX12_advance_101 rfl (by decide)
theorem bX12_advance_125 : bL cX12_advance 125 [27, 133, 20, 0, 104, 20, 0, 106, 184, 0, 65, 153, 0, 78, 42, 3, 181, 0, 108, 42, 42, 180, 0, 87] := bL_of (by decide +kernel)
theorem dX12_advance_125 : decode cX12_advance 125 = .ok (.iload_n 1, 1) := dk27 (k := 0) bX12_advance_125 rfl
theorem dX12_advance_126 : decode cX12_advance 126 = .ok (.i2l, 1) := dk133 (k := 1) bX12_advance_125 rfl
theorem dX12_advance_127 : decode cX12_advance 127 = .ok (.ldc2_w 104, 3) := dk20 (k := 2) bX12_advance_125 rfl rfl
theorem dX12_advance_130 : decode cX12_advance 130 = .ok (.ldc2_w 106, 3) := dk20 (k := 5) bX12_advance_125 rfl rfl
theorem dX12_advance_133 : decode cX12_advance 133 = .ok (.invokestatic 65, 3) := dk184 (k := 8) bX12_advance_125 rfl rfl
theorem dX12_advance_136 : decode cX12_advance 136 = .ok (.ifCond .eq 78, 3) := dk153 (k := 11) bX12_advance_125 rfl (by decide)
theorem dX12_advance_139 : decode cX12_advance 139 = .ok (.aload_n 0, 1) := dk42 (k := 14) bX12_advance_125 rfl
theorem dX12_advance_140 : decode cX12_advance 140 = .ok (.iconst 0, 1) := dk3 (k := 15) bX12_advance_125 rfl
theorem dX12_advance_141 : decode cX12_advance 141 = .ok (.putfield 108, 3) := dk181 (k := 16) bX12_advance_125 rfl rfl
theorem dX12_advance_144 : decode cX12_advance 144 = .ok (.aload_n 0, 1) := dk42 (k := 19) bX12_advance_125 rfl
theorem dX12_advance_145 : decode cX12_advance 145 = .ok (.aload_n 0, 1) := dk42 (k := 20) bX12_advance_125 rfl
theorem dX12_advance_146 : decode cX12_advance 146 = .ok (.getfield 87, 3) := dk180 (k := 21) bX12_advance_125 rfl rfl
theorem bX12_advance_149 : bL cX12_advance 149 [182, 0, 90, 133, 20, 0, 104, 20, 0, 106, 184, 0, 65, 153, 0, 44, 42, 18, 111, 16, 10, 42, 180, 0, 108] := bL_of (by decide +kernel)
theorem dX12_advance_149 : decode cX12_advance 149 = .ok (.invokevirtual 90, 3) := dk182 (k := 0) bX12_advance_149 rfl rfl
theorem dX12_advance_152 : decode cX12_advance 152 = .ok (.i2l, 1) := dk133 (k := 3) bX12_advance_149 rfl
theorem dX12_advance_153 : decode cX12_advance 153 = .ok (.ldc2_w 104, 3) := dk20 (k := 4) bX12_advance_149 rfl rfl
theorem dX12_advance_156 : decode cX12_advance 156 = .ok (.ldc2_w 106, 3) := dk20 (k := 7) bX12_advance_149 rfl rfl
theorem dX12_advance_159 : decode cX12_advance 159 = .ok (.invokestatic 65, 3) := dk184 (k := 10) bX12_advance_149 rfl rfl
theorem dX12_advance_162 : decode cX12_advance 162 = .ok (.ifCond .eq 44, 3) := dk153 (k := 13) bX12_advance_149 rfl (by decide)
theorem dX12_advance_165 : decode cX12_advance 165 = .ok (.aload_n 0, 1) := dk42 (k := 16) bX12_advance_149 rfl
theorem dX12_advance_166 : decode cX12_advance 166 = .ok (.ldc 111, 2) := dk18 (k := 17) bX12_advance_149 rfl rfl
theorem dX12_advance_168 : decode cX12_advance 168 = .ok (.bipush 10, 2) := dk16 (k := 19) bX12_advance_149 rfl (by decide)
theorem dX12_advance_170 : decode cX12_advance 170 = .ok (.aload_n 0, 1) := dk42 (k := 21) bX12_advance_149 rfl
theorem dX12_advance_171 : decode cX12_advance 171 = .ok (.getfield 108, 3) := dk180 (k := 22) bX12_advance_149 rfl rfl
theorem bX12_advance_174 : bL cX12_advance 174 [104, 42, 42, 180, 0, 87, 182, 0, 90, 96, 16, 48, 100, 184, 0, 112, 181, 0, 108, 42, 89, 180, 0, 87] := bL_of (by decide +kernel)
theorem dX12_advance_174 : decode cX12_advance 174 = .ok (.imul, 1) := dk104 (k := 0) bX12_advance_174 rfl
theorem dX12_advance_175 : decode cX12_advance 175 = .ok (.aload_n 0, 1) := dk42 (k := 1) bX12_advance_174 rfl
theorem dX12_advance_176 : decode cX12_advance 176 = .ok (.aload_n 0, 1) := dk42 (k := 2) bX12_advance_174 rfl
theorem dX12_advance_177 : decode cX12_advance 177 = .ok (.getfield 87, 3) := dk180 (k := 3) bX12_advance_174 rfl rfl
theorem dX12_advance_180 : decode cX12_advance 180 = .ok (.invokevirtual 90, 3) := dk182 (k := 6) bX12_advance_174 rfl rfl
theorem dX12_advance_183 : decode cX12_advance 183 = .ok (.iadd, 1) := dk96 (k := 9) bX12_advance_174 rfl
theorem dX12_advance_184 : decode cX12_advance 184 = .ok (.bipush 48, 2) := dk16 (k := 10) bX12_advance_174 rfl (by decide)
theorem dX12_advance_186 : decode cX12_advance 186 = .ok (.isub, 1) := dk100 (k := 12) bX12_advance_174 rfl
theorem dX12_advance_187 : decode cX12_advance 187 = .ok (.invokestatic 112, 3) := dk184 (k := 13) bX12_advance_174 rfl rfl
theorem dX12_advance_190 : decode cX12_advance 190 = .ok (.putfield 108, 3) := dk181 (k := 16) bX12_advance_174 rfl rfl
theorem dX12_advance_193 : decode cX12_advance 193 = .ok (.aload_n 0, 1) := dk42 (k := 19) bX12_advance_174 rfl
theorem dX12_advance_194 : decode cX12_advance 194 = .ok (.dup, 1) := dk89 (k := 20) bX12_advance_174 rfl
theorem dX12_advance_195 : decode cX12_advance 195 = .ok (.getfield 87, 3) := dk180 (k := 21) bX12_advance_174 rfl rfl
theorem bX12_advance_198 : bL cX12_advance 198 [4, 96, 181, 0, 87, 167, 255, 197, 42, 5, 181, 0, 97, 167, 0, 28, 42, 27, 16, 59, 160, 0, 7, 6] := bL_of (by decide +kernel)
theorem dX12_advance_198 : decode cX12_advance 198 = .ok (.iconst 1, 1) := dk4 (k := 0) bX12_advance_198 rfl
theorem dX12_advance_199 : decode cX12_advance 199 = .ok (.iadd, 1) := dk96 (k := 1) bX12_advance_198 rfl
theorem dX12_advance_200 : decode cX12_advance 200 = .ok (.putfield 87, 3) := dk181 (k := 2) bX12_advance_198 rfl rfl
theorem dX12_advance_203 : decode cX12_advance 203 = .ok (.goto (-59), 3) := dk167 (k := 5) bX12_advance_198 rfl (by decide)
theorem dX12_advance_206 : decode cX12_advance 206 = .ok (.aload_n 0, 1) := dk42 (k := 8) bX12_advance_198 rfl
theorem dX12_advance_207 : decode cX12_advance 207 = .ok (.iconst 2, 1) := dk5 (k := 9) bX12_advance_198 rfl
theorem dX12_advance_208 : decode cX12_advance 208 = .ok (.putfield 97, 3) := dk181 (k := 10) bX12_advance_198 rfl rfl
theorem dX12_advance_211 : decode cX12_advance 211 = .ok (.goto 28, 3) := dk167 (k := 13) bX12_advance_198 rfl (by decide)
theorem dX12_advance_214 : decode cX12_advance 214 = .ok (.aload_n 0, 1) := dk42 (k := 16) bX12_advance_198 rfl
theorem dX12_advance_215 : decode cX12_advance 215 = .ok (.iload_n 1, 1) := dk27 (k := 17) bX12_advance_198 rfl
theorem dX12_advance_216 : decode cX12_advance 216 = .ok (.bipush 59, 2) := dk16 (k := 18) bX12_advance_198 rfl (by decide)
theorem dX12_advance_218 : decode cX12_advance 218 = .ok (.if_icmp .ne 7, 3) := dk160 (k := 20) bX12_advance_198 rfl (by decide)
theorem dX12_advance_221 : decode cX12_advance 221 = .ok (.iconst 3, 1) := dk6 (k := 23) bX12_advance_198 rfl
theorem bX12_advance_222 : bL cX12_advance 222 [167, 0, 4, 7, 181, 0, 97, 42, 89, 180, 0, 87, 4, 96, 181, 0, 87, 177] := bL_of (by decide +kernel)
theorem dX12_advance_222 : decode cX12_advance 222 = .ok (.goto 4, 3) := dk167 (k := 0) bX12_advance_222 rfl (by decide)
theorem dX12_advance_225 : decode cX12_advance 225 = .ok (.iconst 4, 1) := dk7 (k := 3) bX12_advance_222 rfl
theorem dX12_advance_226 : decode cX12_advance 226 = .ok (.putfield 97, 3) := dk181 (k := 4) bX12_advance_222 rfl rfl
theorem dX12_advance_229 : decode cX12_advance 229 = .ok (.aload_n 0, 1) := dk42 (k := 7) bX12_advance_222 rfl
theorem dX12_advance_230 : decode cX12_advance 230 = .ok (.dup, 1) := dk89 (k := 8) bX12_advance_222 rfl
theorem dX12_advance_231 : decode cX12_advance 231 = .ok (.getfield 87, 3) := dk180 (k := 9) bX12_advance_222 rfl rfl
theorem dX12_advance_234 : decode cX12_advance 234 = .ok (.iconst 1, 1) := dk4 (k := 12) bX12_advance_222 rfl
theorem dX12_advance_235 : decode cX12_advance 235 = .ok (.iadd, 1) := dk96 (k := 13) bX12_advance_222 rfl
theorem dX12_advance_236 : decode cX12_advance 236 = .ok (.putfield 87, 3) := dk181 (k := 14) bX12_advance_222 rfl rfl
theorem dX12_advance_239 : decode cX12_advance 239 = .ok (.return_, 1) := dk177 (k := 17) bX12_advance_222 rfl
theorem bX12_good_0 : bL cX12_good 0 [42, 180, 0, 118, 154, 0, 7, 4, 167, 0, 4, 3, 172] := bL_of (by decide +kernel)
theorem dX12_good_0 : decode cX12_good 0 = .ok (.aload_n 0, 1) := dk42 (k := 0) bX12_good_0 rfl
theorem dX12_good_1 : decode cX12_good 1 = .ok (.getfield 118, 3) := dk180 (k := 1) bX12_good_0 rfl rfl
theorem dX12_good_4 : decode cX12_good 4 = .ok (.ifCond .ne 7, 3) := dk154 (k := 4) bX12_good_0 rfl (by decide)
theorem dX12_good_7 : decode cX12_good 7 = .ok (.iconst 1, 1) := dk4 (k := 7) bX12_good_0 rfl
theorem dX12_good_8 : decode cX12_good 8 = .ok (.goto 4, 3) := dk167 (k := 8) bX12_good_0 rfl (by decide)
theorem dX12_good_11 : decode cX12_good 11 = .ok (.iconst 0, 1) := dk3 (k := 11) bX12_good_0 rfl
theorem dX12_good_12 : decode cX12_good 12 = .ok (.ireturn, 1) := dk172 (k := 12) bX12_good_0 rfl
theorem bX12_errs_0 : bL cX12_errs 0 [42, 182, 0, 121, 154, 0, 4, 177, 42, 27, 181, 0, 118, 42, 42, 180, 0, 94, 181, 0, 27, 177] := bL_of (by decide +kernel)
theorem dX12_errs_0 : decode cX12_errs 0 = .ok (.aload_n 0, 1) := dk42 (k := 0) bX12_errs_0 rfl
theorem dX12_errs_1 : decode cX12_errs 1 = .ok (.invokevirtual 121, 3) := dk182 (k := 1) bX12_errs_0 rfl rfl
theorem dX12_errs_4 : decode cX12_errs 4 = .ok (.ifCond .ne 4, 3) := dk154 (k := 4) bX12_errs_0 rfl (by decide)
theorem dX12_errs_7 : decode cX12_errs 7 = .ok (.return_, 1) := dk177 (k := 7) bX12_errs_0 rfl
theorem dX12_errs_8 : decode cX12_errs 8 = .ok (.aload_n 0, 1) := dk42 (k := 8) bX12_errs_0 rfl
theorem dX12_errs_9 : decode cX12_errs 9 = .ok (.iload_n 1, 1) := dk27 (k := 9) bX12_errs_0 rfl
theorem dX12_errs_10 : decode cX12_errs 10 = .ok (.putfield 118, 3) := dk181 (k := 10) bX12_errs_0 rfl rfl
theorem dX12_errs_13 : decode cX12_errs 13 = .ok (.aload_n 0, 1) := dk42 (k := 13) bX12_errs_0 rfl
theorem dX12_errs_14 : decode cX12_errs 14 = .ok (.aload_n 0, 1) := dk42 (k := 14) bX12_errs_0 rfl
theorem dX12_errs_15 : decode cX12_errs 15 = .ok (.getfield 94, 3) := dk180 (k := 15) bX12_errs_0 rfl rfl
theorem dX12_errs_18 : decode cX12_errs 18 = .ok (.putfield 27, 3) := dk181 (k := 18) bX12_errs_0 rfl rfl
theorem dX12_errs_21 : decode cX12_errs 21 = .ok (.return_, 1) := dk177 (k := 21) bX12_errs_0 rfl
theorem bX12_is_0 : bL cX12_is 0 [42, 182, 0, 121, 153, 0, 31, 42, 180, 0, 97, 4, 160, 0, 23, 42, 180, 0, 87, 42, 180, 0, 94, 100] := bL_of (by decide +kernel)
theorem dX12_is_0 : decode cX12_is 0 = .ok (.aload_n 0, 1) := dk42 (k := 0) bX12_is_0 rfl
theorem dX12_is_1 : decode cX12_is 1 = .ok (.invokevirtual 121, 3) := dk182 (k := 1) bX12_is_0 rfl rfl
theorem dX12_is_4 : decode cX12_is 4 = .ok (.ifCond .eq 31, 3) := dk153 (k := 4) bX12_is_0 rfl (by decide)
theorem dX12_is_7 : decode cX12_is 7 = .ok (.aload_n 0, 1) := dk42 (k := 7) bX12_is_0 rfl
theorem dX12_is_8 : decode cX12_is 8 = .ok (.getfield 97, 3) := dk180 (k := 8) bX12_is_0 rfl rfl
theorem dX12_is_11 : decode cX12_is 11 = .ok (.iconst 1, 1) := dk4 (k := 11) bX12_is_0 rfl
theorem dX12_is_12 : decode cX12_is 12 = .ok (.if_icmp .ne 23, 3) := dk160 (k := 12) bX12_is_0 rfl (by decide)
theorem dX12_is_15 : decode cX12_is 15 = .ok (.aload_n 0, 1) := dk42 (k := 15) bX12_is_0 rfl
theorem dX12_is_16 : decode cX12_is 16 = .ok (.getfield 87, 3) := dk180 (k := 16) bX12_is_0 rfl rfl
theorem dX12_is_19 : decode cX12_is 19 = .ok (.aload_n 0, 1) := dk42 (k := 19) bX12_is_0 rfl
theorem dX12_is_20 : decode cX12_is 20 = .ok (.getfield 94, 3) := dk180 (k := 20) bX12_is_0 rfl rfl
theorem dX12_is_23 : decode cX12_is 23 = .ok (.isub, 1) := dk100 (k := 23) bX12_is_0 rfl
theorem bX12_is_24 : bL cX12_is 24 [43, 182, 0, 124, 160, 0, 7, 4, 167, 0, 4, 3, 61, 3, 62, 29, 43, 182, 0, 124, 162, 0, 38, 28] := bL_of (by decide +kernel)
theorem dX12_is_24 : decode cX12_is 24 = .ok (.aload_n 1, 1) := dk43 (k := 0) bX12_is_24 rfl
theorem dX12_is_25 : decode cX12_is 25 = .ok (.invokevirtual 124, 3) := dk182 (k := 1) bX12_is_24 rfl rfl
theorem dX12_is_28 : decode cX12_is 28 = .ok (.if_icmp .ne 7, 3) := dk160 (k := 4) bX12_is_24 rfl (by decide)
theorem dX12_is_31 : decode cX12_is 31 = .ok (.iconst 1, 1) := dk4 (k := 7) bX12_is_24 rfl
theorem dX12_is_32 : decode cX12_is 32 = .ok (.goto 4, 3) := dk167 (k := 8) bX12_is_24 rfl (by decide)
theorem dX12_is_35 : decode cX12_is 35 = .ok (.iconst 0, 1) := dk3 (k := 11) bX12_is_24 rfl
theorem dX12_is_36 : decode cX12_is 36 = .ok (.istore_n 2, 1) := dk61 (k := 12) bX12_is_24 rfl
theorem dX12_is_37 : decode cX12_is 37 = .ok (.iconst 0, 1) := dk3 (k := 13) bX12_is_24 rfl
theorem dX12_is_38 : decode cX12_is 38 = .ok (.istore_n 3, 1) := dk62 (k := 14) bX12_is_24 rfl
theorem dX12_is_39 : decode cX12_is 39 = .ok (.iload_n 3, 1) := dk29 (k := 15) bX12_is_24 rfl
theorem dX12_is_40 : decode cX12_is 40 = .ok (.aload_n 1, 1) := dk43 (k := 16) bX12_is_24 rfl
theorem dX12_is_41 : decode cX12_is 41 = .ok (.invokevirtual 124, 3) := dk182 (k := 17) bX12_is_24 rfl rfl
theorem dX12_is_44 : decode cX12_is 44 = .ok (.if_icmp .ge 38, 3) := dk162 (k := 20) bX12_is_24 rfl (by decide)
theorem dX12_is_47 : decode cX12_is 47 = .ok (.iload_n 2, 1) := dk28 (k := 23) bX12_is_24 rfl
theorem bX12_is_48 : bL cX12_is 48 [153, 0, 34, 42, 180, 0, 20, 42, 180, 0, 94, 29, 96, 51, 43, 29, 182, 0, 129, 160, 0, 7, 4, 167, 0, 4] := bL_of (by decide +kernel)
theorem dX12_is_48 : decode cX12_is 48 = .ok (.ifCond .eq 34, 3) := dk153 (k := 0) bX12_is_48 rfl (by decide)
theorem dX12_is_51 : decode cX12_is 51 = .ok (.aload_n 0, 1) := dk42 (k := 3) bX12_is_48 rfl
theorem dX12_is_52 : decode cX12_is 52 = .ok (.getfield 20, 3) := dk180 (k := 4) bX12_is_48 rfl rfl
theorem dX12_is_55 : decode cX12_is 55 = .ok (.aload_n 0, 1) := dk42 (k := 7) bX12_is_48 rfl
theorem dX12_is_56 : decode cX12_is 56 = .ok (.getfield 94, 3) := dk180 (k := 8) bX12_is_48 rfl rfl
theorem dX12_is_59 : decode cX12_is 59 = .ok (.iload_n 3, 1) := dk29 (k := 11) bX12_is_48 rfl
theorem dX12_is_60 : decode cX12_is 60 = .ok (.iadd, 1) := dk96 (k := 12) bX12_is_48 rfl
theorem dX12_is_61 : decode cX12_is 61 = .ok (.baload, 1) := dk51 (k := 13) bX12_is_48 rfl
theorem dX12_is_62 : decode cX12_is 62 = .ok (.aload_n 1, 1) := dk43 (k := 14) bX12_is_48 rfl
theorem dX12_is_63 : decode cX12_is 63 = .ok (.iload_n 3, 1) := dk29 (k := 15) bX12_is_48 rfl
theorem dX12_is_64 : decode cX12_is 64 = .ok (.invokevirtual 129, 3) := dk182 (k := 16) bX12_is_48 rfl rfl
theorem dX12_is_67 : decode cX12_is 67 = .ok (.if_icmp .ne 7, 3) := dk160 (k := 19) bX12_is_48 rfl (by decide)
theorem dX12_is_70 : decode cX12_is 70 = .ok (.iconst 1, 1) := dk4 (k := 22) bX12_is_48 rfl
theorem dX12_is_71 : decode cX12_is 71 = .ok (.goto 4, 3) := dk167 (k := 23) bX12_is_48 rfl (by decide)
theorem bX12_is_74 : bL cX12_is 74 [3, 61, 132, 3, 1, 167, 255, 216, 28, 172] := bL_of (by decide +kernel)
theorem dX12_is_74 : decode cX12_is 74 = .ok (.iconst 0, 1) := dk3 (k := 0) bX12_is_74 rfl
theorem dX12_is_75 : decode cX12_is 75 = .ok (.istore_n 2, 1) := dk61 (k := 1) bX12_is_74 rfl
theorem dX12_is_76 : decode cX12_is 76 = .ok (.iinc 3 1, 3) := dk132 (k := 2) bX12_is_74 rfl rfl (by decide)
theorem dX12_is_79 : decode cX12_is 79 = .ok (.goto (-40), 3) := dk167 (k := 5) bX12_is_74 rfl (by decide)
theorem dX12_is_82 : decode cX12_is 82 = .ok (.iload_n 2, 1) := dk28 (k := 8) bX12_is_74 rfl
theorem dX12_is_83 : decode cX12_is 83 = .ok (.ireturn, 1) := dk172 (k := 9) bX12_is_74 rfl
theorem bX12_takes_0 : bL cX12_takes 0 [42, 43, 182, 0, 133, 61, 28, 153, 0, 7, 42, 182, 0, 137, 28, 172] := bL_of (by decide +kernel)
theorem dX12_takes_0 : decode cX12_takes 0 = .ok (.aload_n 0, 1) := dk42 (k := 0) bX12_takes_0 rfl
theorem dX12_takes_1 : decode cX12_takes 1 = .ok (.aload_n 1, 1) := dk43 (k := 1) bX12_takes_0 rfl
theorem dX12_takes_2 : decode cX12_takes 2 = .ok (.invokevirtual 133, 3) := dk182 (k := 2) bX12_takes_0 rfl rfl
theorem dX12_takes_5 : decode cX12_takes 5 = .ok (.istore_n 2, 1) := dk61 (k := 5) bX12_takes_0 rfl
theorem dX12_takes_6 : decode cX12_takes 6 = .ok (.iload_n 2, 1) := dk28 (k := 6) bX12_takes_0 rfl
theorem dX12_takes_7 : decode cX12_takes 7 = .ok (.ifCond .eq 7, 3) := dk153 (k := 7) bX12_takes_0 rfl (by decide)
theorem dX12_takes_10 : decode cX12_takes 10 = .ok (.aload_n 0, 1) := dk42 (k := 10) bX12_takes_0 rfl
theorem dX12_takes_11 : decode cX12_takes 11 = .ok (.invokevirtual 137, 3) := dk182 (k := 11) bX12_takes_0 rfl rfl
theorem dX12_takes_14 : decode cX12_takes 14 = .ok (.iload_n 2, 1) := dk28 (k := 14) bX12_takes_0 rfl
theorem dX12_takes_15 : decode cX12_takes 15 = .ok (.ireturn, 1) := dk172 (k := 15) bX12_takes_0 rfl
theorem bX12_needs_0 : bL cX12_needs 0 [42, 43, 182, 0, 140, 154, 0, 8, 42, 4, 182, 0, 143, 177] := bL_of (by decide +kernel)
theorem dX12_needs_0 : decode cX12_needs 0 = .ok (.aload_n 0, 1) := dk42 (k := 0) bX12_needs_0 rfl
theorem dX12_needs_1 : decode cX12_needs 1 = .ok (.aload_n 1, 1) := dk43 (k := 1) bX12_needs_0 rfl
theorem dX12_needs_2 : decode cX12_needs 2 = .ok (.invokevirtual 140, 3) := dk182 (k := 2) bX12_needs_0 rfl rfl
theorem dX12_needs_5 : decode cX12_needs 5 = .ok (.ifCond .ne 8, 3) := dk154 (k := 5) bX12_needs_0 rfl (by decide)
theorem dX12_needs_8 : decode cX12_needs 8 = .ok (.aload_n 0, 1) := dk42 (k := 8) bX12_needs_0 rfl
theorem dX12_needs_9 : decode cX12_needs 9 = .ok (.iconst 1, 1) := dk4 (k := 9) bX12_needs_0 rfl
theorem dX12_needs_10 : decode cX12_needs 10 = .ok (.invokevirtual 143, 3) := dk182 (k := 10) bX12_needs_0 rfl rfl
theorem dX12_needs_13 : decode cX12_needs 13 = .ok (.return_, 1) := dk177 (k := 13) bX12_needs_0 rfl
theorem bX12_number_0 : bL cX12_number 0 [42, 182, 0, 121, 153, 0, 16, 42, 180, 0, 97, 5, 159, 0, 8, 42, 4, 182, 0, 143, 42, 182, 0, 121] := bL_of (by decide +kernel)
theorem dX12_number_0 : decode cX12_number 0 = .ok (.aload_n 0, 1) := dk42 (k := 0) bX12_number_0 rfl
theorem dX12_number_1 : decode cX12_number 1 = .ok (.invokevirtual 121, 3) := dk182 (k := 1) bX12_number_0 rfl rfl
theorem dX12_number_4 : decode cX12_number 4 = .ok (.ifCond .eq 16, 3) := dk153 (k := 4) bX12_number_0 rfl (by decide)
theorem dX12_number_7 : decode cX12_number 7 = .ok (.aload_n 0, 1) := dk42 (k := 7) bX12_number_0 rfl
theorem dX12_number_8 : decode cX12_number 8 = .ok (.getfield 97, 3) := dk180 (k := 8) bX12_number_0 rfl rfl
theorem dX12_number_11 : decode cX12_number 11 = .ok (.iconst 2, 1) := dk5 (k := 11) bX12_number_0 rfl
theorem dX12_number_12 : decode cX12_number 12 = .ok (.if_icmp .eq 8, 3) := dk159 (k := 12) bX12_number_0 rfl (by decide)
theorem dX12_number_15 : decode cX12_number 15 = .ok (.aload_n 0, 1) := dk42 (k := 15) bX12_number_0 rfl
theorem dX12_number_16 : decode cX12_number 16 = .ok (.iconst 1, 1) := dk4 (k := 16) bX12_number_0 rfl
theorem dX12_number_17 : decode cX12_number 17 = .ok (.invokevirtual 143, 3) := dk182 (k := 17) bX12_number_0 rfl rfl
theorem dX12_number_20 : decode cX12_number 20 = .ok (.aload_n 0, 1) := dk42 (k := 20) bX12_number_0 rfl
theorem dX12_number_21 : decode cX12_number 21 = .ok (.invokevirtual 121, 3) := dk182 (k := 21) bX12_number_0 rfl rfl
theorem bX12_number_24 : bL cX12_number 24 [153, 0, 23, 42, 180, 0, 108, 133, 27, 133, 28, 133, 184, 0, 65, 154, 0, 8, 42, 5, 182, 0, 143, 42] := bL_of (by decide +kernel)
theorem dX12_number_24 : decode cX12_number 24 = .ok (.ifCond .eq 23, 3) := dk153 (k := 0) bX12_number_24 rfl (by decide)
theorem dX12_number_27 : decode cX12_number 27 = .ok (.aload_n 0, 1) := dk42 (k := 3) bX12_number_24 rfl
theorem dX12_number_28 : decode cX12_number 28 = .ok (.getfield 108, 3) := dk180 (k := 4) bX12_number_24 rfl rfl
theorem dX12_number_31 : decode cX12_number 31 = .ok (.i2l, 1) := dk133 (k := 7) bX12_number_24 rfl
theorem dX12_number_32 : decode cX12_number 32 = .ok (.iload_n 1, 1) := dk27 (k := 8) bX12_number_24 rfl
theorem dX12_number_33 : decode cX12_number 33 = .ok (.i2l, 1) := dk133 (k := 9) bX12_number_24 rfl
theorem dX12_number_34 : decode cX12_number 34 = .ok (.iload_n 2, 1) := dk28 (k := 10) bX12_number_24 rfl
theorem dX12_number_35 : decode cX12_number 35 = .ok (.i2l, 1) := dk133 (k := 11) bX12_number_24 rfl
theorem dX12_number_36 : decode cX12_number 36 = .ok (.invokestatic 65, 3) := dk184 (k := 12) bX12_number_24 rfl rfl
theorem dX12_number_39 : decode cX12_number 39 = .ok (.ifCond .ne 8, 3) := dk154 (k := 15) bX12_number_24 rfl (by decide)
theorem dX12_number_42 : decode cX12_number 42 = .ok (.aload_n 0, 1) := dk42 (k := 18) bX12_number_24 rfl
theorem dX12_number_43 : decode cX12_number 43 = .ok (.iconst 2, 1) := dk5 (k := 19) bX12_number_24 rfl
theorem dX12_number_44 : decode cX12_number 44 = .ok (.invokevirtual 143, 3) := dk182 (k := 20) bX12_number_24 rfl rfl
theorem dX12_number_47 : decode cX12_number 47 = .ok (.aload_n 0, 1) := dk42 (k := 23) bX12_number_24 rfl
theorem bX12_number_48 : bL cX12_number 48 [182, 0, 121, 154, 0, 5, 3, 172, 42, 180, 0, 108, 62, 42, 182, 0, 137, 29, 172] := bL_of (by decide +kernel)
theorem dX12_number_48 : decode cX12_number 48 = .ok (.invokevirtual 121, 3) := dk182 (k := 0) bX12_number_48 rfl rfl
theorem dX12_number_51 : decode cX12_number 51 = .ok (.ifCond .ne 5, 3) := dk154 (k := 3) bX12_number_48 rfl (by decide)
theorem dX12_number_54 : decode cX12_number 54 = .ok (.iconst 0, 1) := dk3 (k := 6) bX12_number_48 rfl
theorem dX12_number_55 : decode cX12_number 55 = .ok (.ireturn, 1) := dk172 (k := 7) bX12_number_48 rfl
theorem dX12_number_56 : decode cX12_number 56 = .ok (.aload_n 0, 1) := dk42 (k := 8) bX12_number_48 rfl
theorem dX12_number_57 : decode cX12_number 57 = .ok (.getfield 108, 3) := dk180 (k := 9) bX12_number_48 rfl rfl
theorem dX12_number_60 : decode cX12_number 60 = .ok (.istore_n 3, 1) := dk62 (k := 12) bX12_number_48 rfl
theorem dX12_number_61 : decode cX12_number 61 = .ok (.aload_n 0, 1) := dk42 (k := 13) bX12_number_48 rfl
theorem dX12_number_62 : decode cX12_number 62 = .ok (.invokevirtual 137, 3) := dk182 (k := 14) bX12_number_48 rfl rfl
theorem dX12_number_65 : decode cX12_number 65 = .ok (.iload_n 3, 1) := dk29 (k := 17) bX12_number_48 rfl
theorem dX12_number_66 : decode cX12_number 66 = .ok (.ireturn, 1) := dk172 (k := 18) bX12_number_48 rfl
theorem bX12_told_0 : bL cX12_told 0 [42, 43, 182, 0, 147, 42, 28, 29, 182, 0, 151, 172] := bL_of (by decide +kernel)
theorem dX12_told_0 : decode cX12_told 0 = .ok (.aload_n 0, 1) := dk42 (k := 0) bX12_told_0 rfl
theorem dX12_told_1 : decode cX12_told 1 = .ok (.aload_n 1, 1) := dk43 (k := 1) bX12_told_0 rfl
theorem dX12_told_2 : decode cX12_told 2 = .ok (.invokevirtual 147, 3) := dk182 (k := 2) bX12_told_0 rfl rfl
theorem dX12_told_5 : decode cX12_told 5 = .ok (.aload_n 0, 1) := dk42 (k := 5) bX12_told_0 rfl
theorem dX12_told_6 : decode cX12_told 6 = .ok (.iload_n 2, 1) := dk28 (k := 6) bX12_told_0 rfl
theorem dX12_told_7 : decode cX12_told 7 = .ok (.iload_n 3, 1) := dk29 (k := 7) bX12_told_0 rfl
theorem dX12_told_8 : decode cX12_told 8 = .ok (.invokevirtual 151, 3) := dk182 (k := 8) bX12_told_0 rfl rfl
theorem dX12_told_11 : decode cX12_told 11 = .ok (.ireturn, 1) := dk172 (k := 11) bX12_told_0 rfl
theorem bX12_fault_0 : bL cX12_fault 0 [27, 154, 0, 10, 42, 180, 0, 118, 167, 0, 16, 27, 4, 160, 0, 10, 42, 180, 0, 27, 167, 0, 4, 2] := bL_of (by decide +kernel)
theorem dX12_fault_0 : decode cX12_fault 0 = .ok (.iload_n 1, 1) := dk27 (k := 0) bX12_fault_0 rfl
theorem dX12_fault_1 : decode cX12_fault 1 = .ok (.ifCond .ne 10, 3) := dk154 (k := 1) bX12_fault_0 rfl (by decide)
theorem dX12_fault_4 : decode cX12_fault 4 = .ok (.aload_n 0, 1) := dk42 (k := 4) bX12_fault_0 rfl
theorem dX12_fault_5 : decode cX12_fault 5 = .ok (.getfield 118, 3) := dk180 (k := 5) bX12_fault_0 rfl rfl
theorem dX12_fault_8 : decode cX12_fault 8 = .ok (.goto 16, 3) := dk167 (k := 8) bX12_fault_0 rfl (by decide)
theorem dX12_fault_11 : decode cX12_fault 11 = .ok (.iload_n 1, 1) := dk27 (k := 11) bX12_fault_0 rfl
theorem dX12_fault_12 : decode cX12_fault 12 = .ok (.iconst 1, 1) := dk4 (k := 12) bX12_fault_0 rfl
theorem dX12_fault_13 : decode cX12_fault 13 = .ok (.if_icmp .ne 10, 3) := dk160 (k := 13) bX12_fault_0 rfl (by decide)
theorem dX12_fault_16 : decode cX12_fault 16 = .ok (.aload_n 0, 1) := dk42 (k := 16) bX12_fault_0 rfl
theorem dX12_fault_17 : decode cX12_fault 17 = .ok (.getfield 27, 3) := dk180 (k := 17) bX12_fault_0 rfl rfl
theorem dX12_fault_20 : decode cX12_fault 20 = .ok (.goto 4, 3) := dk167 (k := 20) bX12_fault_0 rfl (by decide)
theorem dX12_fault_23 : decode cX12_fault 23 = .ok (.iconst (-1), 1) := dk2 (k := 23) bX12_fault_0 rfl
theorem bX12_fault_24 : bL cX12_fault 24 [172] := bL_of (by decide +kernel)
theorem dX12_fault_24 : decode cX12_fault 24 = .ok (.ireturn, 1) := dk172 (k := 0) bX12_fault_24 rfl
theorem bX12_readFirst_0 : bL cX12_readFirst 0 [42, 18, 154, 182, 0, 147, 42, 182, 0, 121, 153, 0, 104, 42, 180, 0, 97, 5, 159, 0, 13, 42, 180, 0, 31] := bL_of (by decide +kernel)
theorem dX12_readFirst_0 : decode cX12_readFirst 0 = .ok (.aload_n 0, 1) := dk42 (k := 0) bX12_readFirst_0 rfl
theorem dX12_readFirst_1 : decode cX12_readFirst 1 = .ok (.ldc 154, 2) := dk18 (k := 1) bX12_readFirst_0 rfl rfl
theorem dX12_readFirst_3 : decode cX12_readFirst 3 = .ok (.invokevirtual 147, 3) := dk182 (k := 3) bX12_readFirst_0 rfl rfl
theorem dX12_readFirst_6 : decode cX12_readFirst 6 = .ok (.aload_n 0, 1) := dk42 (k := 6) bX12_readFirst_0 rfl
theorem dX12_readFirst_7 : decode cX12_readFirst 7 = .ok (.invokevirtual 121, 3) := dk182 (k := 7) bX12_readFirst_0 rfl rfl
theorem dX12_readFirst_10 : decode cX12_readFirst 10 = .ok (.ifCond .eq 104, 3) := dk153 (k := 10) bX12_readFirst_0 rfl (by decide)
theorem dX12_readFirst_13 : decode cX12_readFirst 13 = .ok (.aload_n 0, 1) := dk42 (k := 13) bX12_readFirst_0 rfl
theorem dX12_readFirst_14 : decode cX12_readFirst 14 = .ok (.getfield 97, 3) := dk180 (k := 14) bX12_readFirst_0 rfl rfl
theorem dX12_readFirst_17 : decode cX12_readFirst 17 = .ok (.iconst 2, 1) := dk5 (k := 17) bX12_readFirst_0 rfl
theorem dX12_readFirst_18 : decode cX12_readFirst 18 = .ok (.if_icmp .eq 13, 3) := dk159 (k := 18) bX12_readFirst_0 rfl (by decide)
theorem dX12_readFirst_21 : decode cX12_readFirst 21 = .ok (.aload_n 0, 1) := dk42 (k := 21) bX12_readFirst_0 rfl
theorem dX12_readFirst_22 : decode cX12_readFirst 22 = .ok (.getfield 31, 3) := dk180 (k := 22) bX12_readFirst_0 rfl rfl
theorem bX12_readFirst_25 : bL cX12_readFirst 25 [3, 46, 6, 162, 0, 86, 42, 180, 0, 97, 5, 160, 0, 34, 42, 180, 0, 108, 133, 9, 20, 0, 156, 184, 0, 65] := bL_of (by decide +kernel)
theorem dX12_readFirst_25 : decode cX12_readFirst 25 = .ok (.iconst 0, 1) := dk3 (k := 0) bX12_readFirst_25 rfl
theorem dX12_readFirst_26 : decode cX12_readFirst 26 = .ok (.iaload, 1) := dk46 (k := 1) bX12_readFirst_25 rfl
theorem dX12_readFirst_27 : decode cX12_readFirst 27 = .ok (.iconst 3, 1) := dk6 (k := 2) bX12_readFirst_25 rfl
theorem dX12_readFirst_28 : decode cX12_readFirst 28 = .ok (.if_icmp .ge 86, 3) := dk162 (k := 3) bX12_readFirst_25 rfl (by decide)
theorem dX12_readFirst_31 : decode cX12_readFirst 31 = .ok (.aload_n 0, 1) := dk42 (k := 6) bX12_readFirst_25 rfl
theorem dX12_readFirst_32 : decode cX12_readFirst 32 = .ok (.getfield 97, 3) := dk180 (k := 7) bX12_readFirst_25 rfl rfl
theorem dX12_readFirst_35 : decode cX12_readFirst 35 = .ok (.iconst 2, 1) := dk5 (k := 10) bX12_readFirst_25 rfl
theorem dX12_readFirst_36 : decode cX12_readFirst 36 = .ok (.if_icmp .ne 34, 3) := dk160 (k := 11) bX12_readFirst_25 rfl (by decide)
theorem dX12_readFirst_39 : decode cX12_readFirst 39 = .ok (.aload_n 0, 1) := dk42 (k := 14) bX12_readFirst_25 rfl
theorem dX12_readFirst_40 : decode cX12_readFirst 40 = .ok (.getfield 108, 3) := dk180 (k := 15) bX12_readFirst_25 rfl rfl
theorem dX12_readFirst_43 : decode cX12_readFirst 43 = .ok (.i2l, 1) := dk133 (k := 18) bX12_readFirst_25 rfl
theorem dX12_readFirst_44 : decode cX12_readFirst 44 = .ok (.lconst 0, 1) := dk9 (k := 19) bX12_readFirst_25 rfl
theorem dX12_readFirst_45 : decode cX12_readFirst 45 = .ok (.ldc2_w 156, 3) := dk20 (k := 20) bX12_readFirst_25 rfl rfl
theorem dX12_readFirst_48 : decode cX12_readFirst 48 = .ok (.invokestatic 65, 3) := dk184 (k := 23) bX12_readFirst_25 rfl rfl
theorem bX12_readFirst_51 : bL cX12_readFirst 51 [153, 0, 19, 42, 180, 0, 31, 3, 46, 16, 10, 160, 0, 8, 42, 6, 182, 0, 143, 42, 3, 16, 40, 182, 0, 151] := bL_of (by decide +kernel)
theorem dX12_readFirst_51 : decode cX12_readFirst 51 = .ok (.ifCond .eq 19, 3) := dk153 (k := 0) bX12_readFirst_51 rfl (by decide)
theorem dX12_readFirst_54 : decode cX12_readFirst 54 = .ok (.aload_n 0, 1) := dk42 (k := 3) bX12_readFirst_51 rfl
theorem dX12_readFirst_55 : decode cX12_readFirst 55 = .ok (.getfield 31, 3) := dk180 (k := 4) bX12_readFirst_51 rfl rfl
theorem dX12_readFirst_58 : decode cX12_readFirst 58 = .ok (.iconst 0, 1) := dk3 (k := 7) bX12_readFirst_51 rfl
theorem dX12_readFirst_59 : decode cX12_readFirst 59 = .ok (.iaload, 1) := dk46 (k := 8) bX12_readFirst_51 rfl
theorem dX12_readFirst_60 : decode cX12_readFirst 60 = .ok (.bipush 10, 2) := dk16 (k := 9) bX12_readFirst_51 rfl (by decide)
theorem dX12_readFirst_62 : decode cX12_readFirst 62 = .ok (.if_icmp .ne 8, 3) := dk160 (k := 11) bX12_readFirst_51 rfl (by decide)
theorem dX12_readFirst_65 : decode cX12_readFirst 65 = .ok (.aload_n 0, 1) := dk42 (k := 14) bX12_readFirst_51 rfl
theorem dX12_readFirst_66 : decode cX12_readFirst 66 = .ok (.iconst 3, 1) := dk6 (k := 15) bX12_readFirst_51 rfl
theorem dX12_readFirst_67 : decode cX12_readFirst 67 = .ok (.invokevirtual 143, 3) := dk182 (k := 16) bX12_readFirst_51 rfl rfl
theorem dX12_readFirst_70 : decode cX12_readFirst 70 = .ok (.aload_n 0, 1) := dk42 (k := 19) bX12_readFirst_51 rfl
theorem dX12_readFirst_71 : decode cX12_readFirst 71 = .ok (.iconst 0, 1) := dk3 (k := 20) bX12_readFirst_51 rfl
theorem dX12_readFirst_72 : decode cX12_readFirst 72 = .ok (.bipush 40, 2) := dk16 (k := 21) bX12_readFirst_51 rfl (by decide)
theorem dX12_readFirst_74 : decode cX12_readFirst 74 = .ok (.invokevirtual 151, 3) := dk182 (k := 23) bX12_readFirst_51 rfl rfl
theorem bX12_readFirst_77 : bL cX12_readFirst 77 [60, 42, 182, 0, 121, 154, 0, 4, 177, 42, 180, 0, 31, 16, 9, 42, 180, 0, 31, 3, 46, 96, 27, 79] := bL_of (by decide +kernel)
theorem dX12_readFirst_77 : decode cX12_readFirst 77 = .ok (.istore_n 1, 1) := dk60 (k := 0) bX12_readFirst_77 rfl
theorem dX12_readFirst_78 : decode cX12_readFirst 78 = .ok (.aload_n 0, 1) := dk42 (k := 1) bX12_readFirst_77 rfl
theorem dX12_readFirst_79 : decode cX12_readFirst 79 = .ok (.invokevirtual 121, 3) := dk182 (k := 2) bX12_readFirst_77 rfl rfl
theorem dX12_readFirst_82 : decode cX12_readFirst 82 = .ok (.ifCond .ne 4, 3) := dk154 (k := 5) bX12_readFirst_77 rfl (by decide)
theorem dX12_readFirst_85 : decode cX12_readFirst 85 = .ok (.return_, 1) := dk177 (k := 8) bX12_readFirst_77 rfl
theorem dX12_readFirst_86 : decode cX12_readFirst 86 = .ok (.aload_n 0, 1) := dk42 (k := 9) bX12_readFirst_77 rfl
theorem dX12_readFirst_87 : decode cX12_readFirst 87 = .ok (.getfield 31, 3) := dk180 (k := 10) bX12_readFirst_77 rfl rfl
theorem dX12_readFirst_90 : decode cX12_readFirst 90 = .ok (.bipush 9, 2) := dk16 (k := 13) bX12_readFirst_77 rfl (by decide)
theorem dX12_readFirst_92 : decode cX12_readFirst 92 = .ok (.aload_n 0, 1) := dk42 (k := 15) bX12_readFirst_77 rfl
theorem dX12_readFirst_93 : decode cX12_readFirst 93 = .ok (.getfield 31, 3) := dk180 (k := 16) bX12_readFirst_77 rfl rfl
theorem dX12_readFirst_96 : decode cX12_readFirst 96 = .ok (.iconst 0, 1) := dk3 (k := 19) bX12_readFirst_77 rfl
theorem dX12_readFirst_97 : decode cX12_readFirst 97 = .ok (.iaload, 1) := dk46 (k := 20) bX12_readFirst_77 rfl
theorem dX12_readFirst_98 : decode cX12_readFirst 98 = .ok (.iadd, 1) := dk96 (k := 21) bX12_readFirst_77 rfl
theorem dX12_readFirst_99 : decode cX12_readFirst 99 = .ok (.iload_n 1, 1) := dk27 (k := 22) bX12_readFirst_77 rfl
theorem dX12_readFirst_100 : decode cX12_readFirst 100 = .ok (.iastore, 1) := dk79 (k := 23) bX12_readFirst_77 rfl
theorem bX12_readFirst_101 : bL cX12_readFirst 101 [42, 180, 0, 31, 3, 92, 46, 4, 96, 79, 167, 255, 151, 42, 180, 0, 31, 4, 42, 18, 158, 3, 16, 40] := bL_of (by decide +kernel)
theorem dX12_readFirst_101 : decode cX12_readFirst 101 = .ok (.aload_n 0, 1) := dk42 (k := 0) bX12_readFirst_101 rfl
theorem dX12_readFirst_102 : decode cX12_readFirst 102 = .ok (.getfield 31, 3) := dk180 (k := 1) bX12_readFirst_101 rfl rfl
theorem dX12_readFirst_105 : decode cX12_readFirst 105 = .ok (.iconst 0, 1) := dk3 (k := 4) bX12_readFirst_101 rfl
theorem dX12_readFirst_106 : decode cX12_readFirst 106 = .ok (.dup2, 1) := dk92 (k := 5) bX12_readFirst_101 rfl
theorem dX12_readFirst_107 : decode cX12_readFirst 107 = .ok (.iaload, 1) := dk46 (k := 6) bX12_readFirst_101 rfl
theorem dX12_readFirst_108 : decode cX12_readFirst 108 = .ok (.iconst 1, 1) := dk4 (k := 7) bX12_readFirst_101 rfl
theorem dX12_readFirst_109 : decode cX12_readFirst 109 = .ok (.iadd, 1) := dk96 (k := 8) bX12_readFirst_101 rfl
theorem dX12_readFirst_110 : decode cX12_readFirst 110 = .ok (.iastore, 1) := dk79 (k := 9) bX12_readFirst_101 rfl
theorem dX12_readFirst_111 : decode cX12_readFirst 111 = .ok (.goto (-105), 3) := dk167 (k := 10) bX12_readFirst_101 rfl (by decide)
theorem dX12_readFirst_114 : decode cX12_readFirst 114 = .ok (.aload_n 0, 1) := dk42 (k := 13) bX12_readFirst_101 rfl
theorem dX12_readFirst_115 : decode cX12_readFirst 115 = .ok (.getfield 31, 3) := dk180 (k := 14) bX12_readFirst_101 rfl rfl
theorem dX12_readFirst_118 : decode cX12_readFirst 118 = .ok (.iconst 1, 1) := dk4 (k := 17) bX12_readFirst_101 rfl
theorem dX12_readFirst_119 : decode cX12_readFirst 119 = .ok (.aload_n 0, 1) := dk42 (k := 18) bX12_readFirst_101 rfl
theorem dX12_readFirst_120 : decode cX12_readFirst 120 = .ok (.ldc 158, 2) := dk18 (k := 19) bX12_readFirst_101 rfl rfl
theorem dX12_readFirst_122 : decode cX12_readFirst 122 = .ok (.iconst 0, 1) := dk3 (k := 21) bX12_readFirst_101 rfl
theorem dX12_readFirst_123 : decode cX12_readFirst 123 = .ok (.bipush 40, 2) := dk16 (k := 22) bX12_readFirst_101 rfl (by decide)
theorem bX12_readFirst_125 : bL cX12_readFirst 125 [182, 0, 160, 79, 42, 180, 0, 31, 5, 42, 18, 164, 4, 16, 40, 182, 0, 160, 79, 42, 180, 0, 31, 6] := bL_of (by decide +kernel)
theorem dX12_readFirst_125 : decode cX12_readFirst 125 = .ok (.invokevirtual 160, 3) := dk182 (k := 0) bX12_readFirst_125 rfl rfl
theorem dX12_readFirst_128 : decode cX12_readFirst 128 = .ok (.iastore, 1) := dk79 (k := 3) bX12_readFirst_125 rfl
theorem dX12_readFirst_129 : decode cX12_readFirst 129 = .ok (.aload_n 0, 1) := dk42 (k := 4) bX12_readFirst_125 rfl
theorem dX12_readFirst_130 : decode cX12_readFirst 130 = .ok (.getfield 31, 3) := dk180 (k := 5) bX12_readFirst_125 rfl rfl
theorem dX12_readFirst_133 : decode cX12_readFirst 133 = .ok (.iconst 2, 1) := dk5 (k := 8) bX12_readFirst_125 rfl
theorem dX12_readFirst_134 : decode cX12_readFirst 134 = .ok (.aload_n 0, 1) := dk42 (k := 9) bX12_readFirst_125 rfl
theorem dX12_readFirst_135 : decode cX12_readFirst 135 = .ok (.ldc 164, 2) := dk18 (k := 10) bX12_readFirst_125 rfl rfl
theorem dX12_readFirst_137 : decode cX12_readFirst 137 = .ok (.iconst 1, 1) := dk4 (k := 12) bX12_readFirst_125 rfl
theorem dX12_readFirst_138 : decode cX12_readFirst 138 = .ok (.bipush 40, 2) := dk16 (k := 13) bX12_readFirst_125 rfl (by decide)
theorem dX12_readFirst_140 : decode cX12_readFirst 140 = .ok (.invokevirtual 160, 3) := dk182 (k := 15) bX12_readFirst_125 rfl rfl
theorem dX12_readFirst_143 : decode cX12_readFirst 143 = .ok (.iastore, 1) := dk79 (k := 18) bX12_readFirst_125 rfl
theorem dX12_readFirst_144 : decode cX12_readFirst 144 = .ok (.aload_n 0, 1) := dk42 (k := 19) bX12_readFirst_125 rfl
theorem dX12_readFirst_145 : decode cX12_readFirst 145 = .ok (.getfield 31, 3) := dk180 (k := 20) bX12_readFirst_125 rfl rfl
theorem dX12_readFirst_148 : decode cX12_readFirst 148 = .ok (.iconst 3, 1) := dk6 (k := 23) bX12_readFirst_125 rfl
theorem bX12_readFirst_149 : bL cX12_readFirst 149 [42, 18, 166, 4, 17, 3, 231, 182, 0, 160, 79, 42, 180, 0, 31, 7, 42, 18, 168, 182, 0, 140, 153, 0, 7] := bL_of (by decide +kernel)
theorem dX12_readFirst_149 : decode cX12_readFirst 149 = .ok (.aload_n 0, 1) := dk42 (k := 0) bX12_readFirst_149 rfl
theorem dX12_readFirst_150 : decode cX12_readFirst 150 = .ok (.ldc 166, 2) := dk18 (k := 1) bX12_readFirst_149 rfl rfl
theorem dX12_readFirst_152 : decode cX12_readFirst 152 = .ok (.iconst 1, 1) := dk4 (k := 3) bX12_readFirst_149 rfl
theorem dX12_readFirst_153 : decode cX12_readFirst 153 = .ok (.sipush 999, 3) := dk17 (k := 4) bX12_readFirst_149 rfl (by decide)
theorem dX12_readFirst_156 : decode cX12_readFirst 156 = .ok (.invokevirtual 160, 3) := dk182 (k := 7) bX12_readFirst_149 rfl rfl
theorem dX12_readFirst_159 : decode cX12_readFirst 159 = .ok (.iastore, 1) := dk79 (k := 10) bX12_readFirst_149 rfl
theorem dX12_readFirst_160 : decode cX12_readFirst 160 = .ok (.aload_n 0, 1) := dk42 (k := 11) bX12_readFirst_149 rfl
theorem dX12_readFirst_161 : decode cX12_readFirst 161 = .ok (.getfield 31, 3) := dk180 (k := 12) bX12_readFirst_149 rfl rfl
theorem dX12_readFirst_164 : decode cX12_readFirst 164 = .ok (.iconst 4, 1) := dk7 (k := 15) bX12_readFirst_149 rfl
theorem dX12_readFirst_165 : decode cX12_readFirst 165 = .ok (.aload_n 0, 1) := dk42 (k := 16) bX12_readFirst_149 rfl
theorem dX12_readFirst_166 : decode cX12_readFirst 166 = .ok (.ldc 168, 2) := dk18 (k := 17) bX12_readFirst_149 rfl rfl
theorem dX12_readFirst_168 : decode cX12_readFirst 168 = .ok (.invokevirtual 140, 3) := dk182 (k := 19) bX12_readFirst_149 rfl rfl
theorem dX12_readFirst_171 : decode cX12_readFirst 171 = .ok (.ifCond .eq 7, 3) := dk153 (k := 22) bX12_readFirst_149 rfl (by decide)
theorem bX12_readFirst_174 : bL cX12_readFirst 174 [4, 167, 0, 4, 3, 79, 42, 180, 0, 31, 7, 46, 154, 0, 9, 42, 18, 170, 182, 0, 147, 177] := bL_of (by decide +kernel)
theorem dX12_readFirst_174 : decode cX12_readFirst 174 = .ok (.iconst 1, 1) := dk4 (k := 0) bX12_readFirst_174 rfl
theorem dX12_readFirst_175 : decode cX12_readFirst 175 = .ok (.goto 4, 3) := dk167 (k := 1) bX12_readFirst_174 rfl (by decide)
theorem dX12_readFirst_178 : decode cX12_readFirst 178 = .ok (.iconst 0, 1) := dk3 (k := 4) bX12_readFirst_174 rfl
theorem dX12_readFirst_179 : decode cX12_readFirst 179 = .ok (.iastore, 1) := dk79 (k := 5) bX12_readFirst_174 rfl
theorem dX12_readFirst_180 : decode cX12_readFirst 180 = .ok (.aload_n 0, 1) := dk42 (k := 6) bX12_readFirst_174 rfl
theorem dX12_readFirst_181 : decode cX12_readFirst 181 = .ok (.getfield 31, 3) := dk180 (k := 7) bX12_readFirst_174 rfl rfl
theorem dX12_readFirst_184 : decode cX12_readFirst 184 = .ok (.iconst 4, 1) := dk7 (k := 10) bX12_readFirst_174 rfl
theorem dX12_readFirst_185 : decode cX12_readFirst 185 = .ok (.iaload, 1) := dk46 (k := 11) bX12_readFirst_174 rfl
theorem dX12_readFirst_186 : decode cX12_readFirst 186 = .ok (.ifCond .ne 9, 3) := dk154 (k := 12) bX12_readFirst_174 rfl (by decide)
theorem dX12_readFirst_189 : decode cX12_readFirst 189 = .ok (.aload_n 0, 1) := dk42 (k := 15) bX12_readFirst_174 rfl
theorem dX12_readFirst_190 : decode cX12_readFirst 190 = .ok (.ldc 170, 2) := dk18 (k := 16) bX12_readFirst_174 rfl rfl
theorem dX12_readFirst_192 : decode cX12_readFirst 192 = .ok (.invokevirtual 147, 3) := dk182 (k := 18) bX12_readFirst_174 rfl rfl
theorem dX12_readFirst_195 : decode cX12_readFirst 195 = .ok (.return_, 1) := dk177 (k := 21) bX12_readFirst_174 rfl
theorem bX12_readFolk_0 : bL cX12_readFolk 0 [42, 180, 0, 31, 16, 6, 46, 60, 16, 19, 16, 7, 27, 104, 96, 61, 42, 18, 172, 182, 0, 147, 42, 180, 0, 31] := bL_of (by decide +kernel)
theorem dX12_readFolk_0 : decode cX12_readFolk 0 = .ok (.aload_n 0, 1) := dk42 (k := 0) bX12_readFolk_0 rfl
theorem dX12_readFolk_1 : decode cX12_readFolk 1 = .ok (.getfield 31, 3) := dk180 (k := 1) bX12_readFolk_0 rfl rfl
theorem dX12_readFolk_4 : decode cX12_readFolk 4 = .ok (.bipush 6, 2) := dk16 (k := 4) bX12_readFolk_0 rfl (by decide)
theorem dX12_readFolk_6 : decode cX12_readFolk 6 = .ok (.iaload, 1) := dk46 (k := 6) bX12_readFolk_0 rfl
theorem dX12_readFolk_7 : decode cX12_readFolk 7 = .ok (.istore_n 1, 1) := dk60 (k := 7) bX12_readFolk_0 rfl
theorem dX12_readFolk_8 : decode cX12_readFolk 8 = .ok (.bipush 19, 2) := dk16 (k := 8) bX12_readFolk_0 rfl (by decide)
theorem dX12_readFolk_10 : decode cX12_readFolk 10 = .ok (.bipush 7, 2) := dk16 (k := 10) bX12_readFolk_0 rfl (by decide)
theorem dX12_readFolk_12 : decode cX12_readFolk 12 = .ok (.iload_n 1, 1) := dk27 (k := 12) bX12_readFolk_0 rfl
theorem dX12_readFolk_13 : decode cX12_readFolk 13 = .ok (.imul, 1) := dk104 (k := 13) bX12_readFolk_0 rfl
theorem dX12_readFolk_14 : decode cX12_readFolk 14 = .ok (.iadd, 1) := dk96 (k := 14) bX12_readFolk_0 rfl
theorem dX12_readFolk_15 : decode cX12_readFolk 15 = .ok (.istore_n 2, 1) := dk61 (k := 15) bX12_readFolk_0 rfl
theorem dX12_readFolk_16 : decode cX12_readFolk 16 = .ok (.aload_n 0, 1) := dk42 (k := 16) bX12_readFolk_0 rfl
theorem dX12_readFolk_17 : decode cX12_readFolk 17 = .ok (.ldc 172, 2) := dk18 (k := 17) bX12_readFolk_0 rfl rfl
theorem dX12_readFolk_19 : decode cX12_readFolk 19 = .ok (.invokevirtual 147, 3) := dk182 (k := 19) bX12_readFolk_0 rfl rfl
theorem dX12_readFolk_22 : decode cX12_readFolk 22 = .ok (.aload_n 0, 1) := dk42 (k := 22) bX12_readFolk_0 rfl
theorem dX12_readFolk_23 : decode cX12_readFolk 23 = .ok (.getfield 31, 3) := dk180 (k := 23) bX12_readFolk_0 rfl rfl
theorem bX12_readFolk_26 : bL cX12_readFolk 26 [28, 3, 96, 42, 3, 42, 180, 0, 31, 3, 46, 4, 100, 182, 0, 151, 79, 42, 180, 0, 31, 28, 4, 96] := bL_of (by decide +kernel)
theorem dX12_readFolk_26 : decode cX12_readFolk 26 = .ok (.iload_n 2, 1) := dk28 (k := 0) bX12_readFolk_26 rfl
theorem dX12_readFolk_27 : decode cX12_readFolk 27 = .ok (.iconst 0, 1) := dk3 (k := 1) bX12_readFolk_26 rfl
theorem dX12_readFolk_28 : decode cX12_readFolk 28 = .ok (.iadd, 1) := dk96 (k := 2) bX12_readFolk_26 rfl
theorem dX12_readFolk_29 : decode cX12_readFolk 29 = .ok (.aload_n 0, 1) := dk42 (k := 3) bX12_readFolk_26 rfl
theorem dX12_readFolk_30 : decode cX12_readFolk 30 = .ok (.iconst 0, 1) := dk3 (k := 4) bX12_readFolk_26 rfl
theorem dX12_readFolk_31 : decode cX12_readFolk 31 = .ok (.aload_n 0, 1) := dk42 (k := 5) bX12_readFolk_26 rfl
theorem dX12_readFolk_32 : decode cX12_readFolk 32 = .ok (.getfield 31, 3) := dk180 (k := 6) bX12_readFolk_26 rfl rfl
theorem dX12_readFolk_35 : decode cX12_readFolk 35 = .ok (.iconst 0, 1) := dk3 (k := 9) bX12_readFolk_26 rfl
theorem dX12_readFolk_36 : decode cX12_readFolk 36 = .ok (.iaload, 1) := dk46 (k := 10) bX12_readFolk_26 rfl
theorem dX12_readFolk_37 : decode cX12_readFolk 37 = .ok (.iconst 1, 1) := dk4 (k := 11) bX12_readFolk_26 rfl
theorem dX12_readFolk_38 : decode cX12_readFolk 38 = .ok (.isub, 1) := dk100 (k := 12) bX12_readFolk_26 rfl
theorem dX12_readFolk_39 : decode cX12_readFolk 39 = .ok (.invokevirtual 151, 3) := dk182 (k := 13) bX12_readFolk_26 rfl rfl
theorem dX12_readFolk_42 : decode cX12_readFolk 42 = .ok (.iastore, 1) := dk79 (k := 16) bX12_readFolk_26 rfl
theorem dX12_readFolk_43 : decode cX12_readFolk 43 = .ok (.aload_n 0, 1) := dk42 (k := 17) bX12_readFolk_26 rfl
theorem dX12_readFolk_44 : decode cX12_readFolk 44 = .ok (.getfield 31, 3) := dk180 (k := 18) bX12_readFolk_26 rfl rfl
theorem dX12_readFolk_47 : decode cX12_readFolk 47 = .ok (.iload_n 2, 1) := dk28 (k := 21) bX12_readFolk_26 rfl
theorem dX12_readFolk_48 : decode cX12_readFolk 48 = .ok (.iconst 1, 1) := dk4 (k := 22) bX12_readFolk_26 rfl
theorem dX12_readFolk_49 : decode cX12_readFolk 49 = .ok (.iadd, 1) := dk96 (k := 23) bX12_readFolk_26 rfl
theorem bX12_readFolk_50 : bL cX12_readFolk 50 [42, 18, 166, 4, 16, 99, 182, 0, 160, 79, 42, 180, 0, 31, 28, 5, 96, 42, 18, 173, 3, 16, 9, 182, 0, 160] := bL_of (by decide +kernel)
theorem dX12_readFolk_50 : decode cX12_readFolk 50 = .ok (.aload_n 0, 1) := dk42 (k := 0) bX12_readFolk_50 rfl
theorem dX12_readFolk_51 : decode cX12_readFolk 51 = .ok (.ldc 166, 2) := dk18 (k := 1) bX12_readFolk_50 rfl rfl
theorem dX12_readFolk_53 : decode cX12_readFolk 53 = .ok (.iconst 1, 1) := dk4 (k := 3) bX12_readFolk_50 rfl
theorem dX12_readFolk_54 : decode cX12_readFolk 54 = .ok (.bipush 99, 2) := dk16 (k := 4) bX12_readFolk_50 rfl (by decide)
theorem dX12_readFolk_56 : decode cX12_readFolk 56 = .ok (.invokevirtual 160, 3) := dk182 (k := 6) bX12_readFolk_50 rfl rfl
theorem dX12_readFolk_59 : decode cX12_readFolk 59 = .ok (.iastore, 1) := dk79 (k := 9) bX12_readFolk_50 rfl
theorem dX12_readFolk_60 : decode cX12_readFolk 60 = .ok (.aload_n 0, 1) := dk42 (k := 10) bX12_readFolk_50 rfl
theorem dX12_readFolk_61 : decode cX12_readFolk 61 = .ok (.getfield 31, 3) := dk180 (k := 11) bX12_readFolk_50 rfl rfl
theorem dX12_readFolk_64 : decode cX12_readFolk 64 = .ok (.iload_n 2, 1) := dk28 (k := 14) bX12_readFolk_50 rfl
theorem dX12_readFolk_65 : decode cX12_readFolk 65 = .ok (.iconst 2, 1) := dk5 (k := 15) bX12_readFolk_50 rfl
theorem dX12_readFolk_66 : decode cX12_readFolk 66 = .ok (.iadd, 1) := dk96 (k := 16) bX12_readFolk_50 rfl
theorem dX12_readFolk_67 : decode cX12_readFolk 67 = .ok (.aload_n 0, 1) := dk42 (k := 17) bX12_readFolk_50 rfl
theorem dX12_readFolk_68 : decode cX12_readFolk 68 = .ok (.ldc 173, 2) := dk18 (k := 18) bX12_readFolk_50 rfl rfl
theorem dX12_readFolk_70 : decode cX12_readFolk 70 = .ok (.iconst 0, 1) := dk3 (k := 20) bX12_readFolk_50 rfl
theorem dX12_readFolk_71 : decode cX12_readFolk 71 = .ok (.bipush 9, 2) := dk16 (k := 21) bX12_readFolk_50 rfl (by decide)
theorem dX12_readFolk_73 : decode cX12_readFolk 73 = .ok (.invokevirtual 160, 3) := dk182 (k := 23) bX12_readFolk_50 rfl rfl
theorem bX12_readFolk_76 : bL cX12_readFolk 76 [79, 42, 180, 0, 31, 28, 6, 96, 42, 18, 158, 3, 16, 9, 182, 0, 160, 79, 42, 180, 0, 31, 28, 7] := bL_of (by decide +kernel)
theorem dX12_readFolk_76 : decode cX12_readFolk 76 = .ok (.iastore, 1) := dk79 (k := 0) bX12_readFolk_76 rfl
theorem dX12_readFolk_77 : decode cX12_readFolk 77 = .ok (.aload_n 0, 1) := dk42 (k := 1) bX12_readFolk_76 rfl
theorem dX12_readFolk_78 : decode cX12_readFolk 78 = .ok (.getfield 31, 3) := dk180 (k := 2) bX12_readFolk_76 rfl rfl
theorem dX12_readFolk_81 : decode cX12_readFolk 81 = .ok (.iload_n 2, 1) := dk28 (k := 5) bX12_readFolk_76 rfl
theorem dX12_readFolk_82 : decode cX12_readFolk 82 = .ok (.iconst 3, 1) := dk6 (k := 6) bX12_readFolk_76 rfl
theorem dX12_readFolk_83 : decode cX12_readFolk 83 = .ok (.iadd, 1) := dk96 (k := 7) bX12_readFolk_76 rfl
theorem dX12_readFolk_84 : decode cX12_readFolk 84 = .ok (.aload_n 0, 1) := dk42 (k := 8) bX12_readFolk_76 rfl
theorem dX12_readFolk_85 : decode cX12_readFolk 85 = .ok (.ldc 158, 2) := dk18 (k := 9) bX12_readFolk_76 rfl rfl
theorem dX12_readFolk_87 : decode cX12_readFolk 87 = .ok (.iconst 0, 1) := dk3 (k := 11) bX12_readFolk_76 rfl
theorem dX12_readFolk_88 : decode cX12_readFolk 88 = .ok (.bipush 9, 2) := dk16 (k := 12) bX12_readFolk_76 rfl (by decide)
theorem dX12_readFolk_90 : decode cX12_readFolk 90 = .ok (.invokevirtual 160, 3) := dk182 (k := 14) bX12_readFolk_76 rfl rfl
theorem dX12_readFolk_93 : decode cX12_readFolk 93 = .ok (.iastore, 1) := dk79 (k := 17) bX12_readFolk_76 rfl
theorem dX12_readFolk_94 : decode cX12_readFolk 94 = .ok (.aload_n 0, 1) := dk42 (k := 18) bX12_readFolk_76 rfl
theorem dX12_readFolk_95 : decode cX12_readFolk 95 = .ok (.getfield 31, 3) := dk180 (k := 19) bX12_readFolk_76 rfl rfl
theorem dX12_readFolk_98 : decode cX12_readFolk 98 = .ok (.iload_n 2, 1) := dk28 (k := 22) bX12_readFolk_76 rfl
theorem dX12_readFolk_99 : decode cX12_readFolk 99 = .ok (.iconst 4, 1) := dk7 (k := 23) bX12_readFolk_76 rfl
theorem bX12_readFolk_100 : bL cX12_readFolk 100 [96, 42, 18, 175, 3, 16, 9, 182, 0, 160, 79, 42, 180, 0, 31, 28, 8, 96, 3, 79, 42, 180, 0, 31] := bL_of (by decide +kernel)
theorem dX12_readFolk_100 : decode cX12_readFolk 100 = .ok (.iadd, 1) := dk96 (k := 0) bX12_readFolk_100 rfl
theorem dX12_readFolk_101 : decode cX12_readFolk 101 = .ok (.aload_n 0, 1) := dk42 (k := 1) bX12_readFolk_100 rfl
theorem dX12_readFolk_102 : decode cX12_readFolk 102 = .ok (.ldc 175, 2) := dk18 (k := 2) bX12_readFolk_100 rfl rfl
theorem dX12_readFolk_104 : decode cX12_readFolk 104 = .ok (.iconst 0, 1) := dk3 (k := 4) bX12_readFolk_100 rfl
theorem dX12_readFolk_105 : decode cX12_readFolk 105 = .ok (.bipush 9, 2) := dk16 (k := 5) bX12_readFolk_100 rfl (by decide)
theorem dX12_readFolk_107 : decode cX12_readFolk 107 = .ok (.invokevirtual 160, 3) := dk182 (k := 7) bX12_readFolk_100 rfl rfl
theorem dX12_readFolk_110 : decode cX12_readFolk 110 = .ok (.iastore, 1) := dk79 (k := 10) bX12_readFolk_100 rfl
theorem dX12_readFolk_111 : decode cX12_readFolk 111 = .ok (.aload_n 0, 1) := dk42 (k := 11) bX12_readFolk_100 rfl
theorem dX12_readFolk_112 : decode cX12_readFolk 112 = .ok (.getfield 31, 3) := dk180 (k := 12) bX12_readFolk_100 rfl rfl
theorem dX12_readFolk_115 : decode cX12_readFolk 115 = .ok (.iload_n 2, 1) := dk28 (k := 15) bX12_readFolk_100 rfl
theorem dX12_readFolk_116 : decode cX12_readFolk 116 = .ok (.iconst 5, 1) := dk8 (k := 16) bX12_readFolk_100 rfl
theorem dX12_readFolk_117 : decode cX12_readFolk 117 = .ok (.iadd, 1) := dk96 (k := 17) bX12_readFolk_100 rfl
theorem dX12_readFolk_118 : decode cX12_readFolk 118 = .ok (.iconst 0, 1) := dk3 (k := 18) bX12_readFolk_100 rfl
theorem dX12_readFolk_119 : decode cX12_readFolk 119 = .ok (.iastore, 1) := dk79 (k := 19) bX12_readFolk_100 rfl
theorem dX12_readFolk_120 : decode cX12_readFolk 120 = .ok (.aload_n 0, 1) := dk42 (k := 20) bX12_readFolk_100 rfl
theorem dX12_readFolk_121 : decode cX12_readFolk 121 = .ok (.getfield 31, 3) := dk180 (k := 21) bX12_readFolk_100 rfl rfl
theorem bX12_readFolk_124 : bL cX12_readFolk 124 [28, 16, 6, 96, 3, 79, 42, 18, 177, 182, 0, 140, 153, 0, 85, 42, 180, 0, 31, 28, 8, 96, 42, 4] := bL_of (by decide +kernel)
theorem dX12_readFolk_124 : decode cX12_readFolk 124 = .ok (.iload_n 2, 1) := dk28 (k := 0) bX12_readFolk_124 rfl
theorem dX12_readFolk_125 : decode cX12_readFolk 125 = .ok (.bipush 6, 2) := dk16 (k := 1) bX12_readFolk_124 rfl (by decide)
theorem dX12_readFolk_127 : decode cX12_readFolk 127 = .ok (.iadd, 1) := dk96 (k := 3) bX12_readFolk_124 rfl
theorem dX12_readFolk_128 : decode cX12_readFolk 128 = .ok (.iconst 0, 1) := dk3 (k := 4) bX12_readFolk_124 rfl
theorem dX12_readFolk_129 : decode cX12_readFolk 129 = .ok (.iastore, 1) := dk79 (k := 5) bX12_readFolk_124 rfl
theorem dX12_readFolk_130 : decode cX12_readFolk 130 = .ok (.aload_n 0, 1) := dk42 (k := 6) bX12_readFolk_124 rfl
theorem dX12_readFolk_131 : decode cX12_readFolk 131 = .ok (.ldc 177, 2) := dk18 (k := 7) bX12_readFolk_124 rfl rfl
theorem dX12_readFolk_133 : decode cX12_readFolk 133 = .ok (.invokevirtual 140, 3) := dk182 (k := 9) bX12_readFolk_124 rfl rfl
theorem dX12_readFolk_136 : decode cX12_readFolk 136 = .ok (.ifCond .eq 85, 3) := dk153 (k := 12) bX12_readFolk_124 rfl (by decide)
theorem dX12_readFolk_139 : decode cX12_readFolk 139 = .ok (.aload_n 0, 1) := dk42 (k := 15) bX12_readFolk_124 rfl
theorem dX12_readFolk_140 : decode cX12_readFolk 140 = .ok (.getfield 31, 3) := dk180 (k := 16) bX12_readFolk_124 rfl rfl
theorem dX12_readFolk_143 : decode cX12_readFolk 143 = .ok (.iload_n 2, 1) := dk28 (k := 19) bX12_readFolk_124 rfl
theorem dX12_readFolk_144 : decode cX12_readFolk 144 = .ok (.iconst 5, 1) := dk8 (k := 20) bX12_readFolk_124 rfl
theorem dX12_readFolk_145 : decode cX12_readFolk 145 = .ok (.iadd, 1) := dk96 (k := 21) bX12_readFolk_124 rfl
theorem dX12_readFolk_146 : decode cX12_readFolk 146 = .ok (.aload_n 0, 1) := dk42 (k := 22) bX12_readFolk_124 rfl
theorem dX12_readFolk_147 : decode cX12_readFolk 147 = .ok (.iconst 1, 1) := dk4 (k := 23) bX12_readFolk_124 rfl
theorem bX12_readFolk_148 : bL cX12_readFolk 148 [16, 7, 182, 0, 151, 79, 42, 18, 179, 182, 0, 147, 42, 3, 27, 4, 100, 182, 0, 151, 62, 42, 182, 0, 121] := bL_of (by decide +kernel)
theorem dX12_readFolk_148 : decode cX12_readFolk 148 = .ok (.bipush 7, 2) := dk16 (k := 0) bX12_readFolk_148 rfl (by decide)
theorem dX12_readFolk_150 : decode cX12_readFolk 150 = .ok (.invokevirtual 151, 3) := dk182 (k := 2) bX12_readFolk_148 rfl rfl
theorem dX12_readFolk_153 : decode cX12_readFolk 153 = .ok (.iastore, 1) := dk79 (k := 5) bX12_readFolk_148 rfl
theorem dX12_readFolk_154 : decode cX12_readFolk 154 = .ok (.aload_n 0, 1) := dk42 (k := 6) bX12_readFolk_148 rfl
theorem dX12_readFolk_155 : decode cX12_readFolk 155 = .ok (.ldc 179, 2) := dk18 (k := 7) bX12_readFolk_148 rfl rfl
theorem dX12_readFolk_157 : decode cX12_readFolk 157 = .ok (.invokevirtual 147, 3) := dk182 (k := 9) bX12_readFolk_148 rfl rfl
theorem dX12_readFolk_160 : decode cX12_readFolk 160 = .ok (.aload_n 0, 1) := dk42 (k := 12) bX12_readFolk_148 rfl
theorem dX12_readFolk_161 : decode cX12_readFolk 161 = .ok (.iconst 0, 1) := dk3 (k := 13) bX12_readFolk_148 rfl
theorem dX12_readFolk_162 : decode cX12_readFolk 162 = .ok (.iload_n 1, 1) := dk27 (k := 14) bX12_readFolk_148 rfl
theorem dX12_readFolk_163 : decode cX12_readFolk 163 = .ok (.iconst 1, 1) := dk4 (k := 15) bX12_readFolk_148 rfl
theorem dX12_readFolk_164 : decode cX12_readFolk 164 = .ok (.isub, 1) := dk100 (k := 16) bX12_readFolk_148 rfl
theorem dX12_readFolk_165 : decode cX12_readFolk 165 = .ok (.invokevirtual 151, 3) := dk182 (k := 17) bX12_readFolk_148 rfl rfl
theorem dX12_readFolk_168 : decode cX12_readFolk 168 = .ok (.istore_n 3, 1) := dk62 (k := 20) bX12_readFolk_148 rfl
theorem dX12_readFolk_169 : decode cX12_readFolk 169 = .ok (.aload_n 0, 1) := dk42 (k := 21) bX12_readFolk_148 rfl
theorem dX12_readFolk_170 : decode cX12_readFolk 170 = .ok (.invokevirtual 121, 3) := dk182 (k := 22) bX12_readFolk_148 rfl rfl
theorem bX12_readFolk_173 : bL cX12_readFolk 173 [154, 0, 4, 177, 42, 180, 0, 31, 28, 16, 6, 96, 92, 46, 4, 29, 120, 128, 79, 42, 180, 0, 31, 16, 19] := bL_of (by decide +kernel)
theorem dX12_readFolk_173 : decode cX12_readFolk 173 = .ok (.ifCond .ne 4, 3) := dk154 (k := 0) bX12_readFolk_173 rfl (by decide)
theorem dX12_readFolk_176 : decode cX12_readFolk 176 = .ok (.return_, 1) := dk177 (k := 3) bX12_readFolk_173 rfl
theorem dX12_readFolk_177 : decode cX12_readFolk 177 = .ok (.aload_n 0, 1) := dk42 (k := 4) bX12_readFolk_173 rfl
theorem dX12_readFolk_178 : decode cX12_readFolk 178 = .ok (.getfield 31, 3) := dk180 (k := 5) bX12_readFolk_173 rfl rfl
theorem dX12_readFolk_181 : decode cX12_readFolk 181 = .ok (.iload_n 2, 1) := dk28 (k := 8) bX12_readFolk_173 rfl
theorem dX12_readFolk_182 : decode cX12_readFolk 182 = .ok (.bipush 6, 2) := dk16 (k := 9) bX12_readFolk_173 rfl (by decide)
theorem dX12_readFolk_184 : decode cX12_readFolk 184 = .ok (.iadd, 1) := dk96 (k := 11) bX12_readFolk_173 rfl
theorem dX12_readFolk_185 : decode cX12_readFolk 185 = .ok (.dup2, 1) := dk92 (k := 12) bX12_readFolk_173 rfl
theorem dX12_readFolk_186 : decode cX12_readFolk 186 = .ok (.iaload, 1) := dk46 (k := 13) bX12_readFolk_173 rfl
theorem dX12_readFolk_187 : decode cX12_readFolk 187 = .ok (.iconst 1, 1) := dk4 (k := 14) bX12_readFolk_173 rfl
theorem dX12_readFolk_188 : decode cX12_readFolk 188 = .ok (.iload_n 3, 1) := dk29 (k := 15) bX12_readFolk_173 rfl
theorem dX12_readFolk_189 : decode cX12_readFolk 189 = .ok (.ishl, 1) := dk120 (k := 16) bX12_readFolk_173 rfl
theorem dX12_readFolk_190 : decode cX12_readFolk 190 = .ok (.ior, 1) := dk128 (k := 17) bX12_readFolk_173 rfl
theorem dX12_readFolk_191 : decode cX12_readFolk 191 = .ok (.iastore, 1) := dk79 (k := 18) bX12_readFolk_173 rfl
theorem dX12_readFolk_192 : decode cX12_readFolk 192 = .ok (.aload_n 0, 1) := dk42 (k := 19) bX12_readFolk_173 rfl
theorem dX12_readFolk_193 : decode cX12_readFolk 193 = .ok (.getfield 31, 3) := dk180 (k := 20) bX12_readFolk_173 rfl rfl
theorem dX12_readFolk_196 : decode cX12_readFolk 196 = .ok (.bipush 19, 2) := dk16 (k := 23) bX12_readFolk_173 rfl (by decide)
theorem bX12_readFolk_198 : bL cX12_readFolk 198 [16, 7, 29, 104, 96, 16, 6, 96, 92, 46, 4, 27, 120, 128, 79, 42, 180, 0, 97, 6, 160, 255, 198, 42] := bL_of (by decide +kernel)
theorem dX12_readFolk_198 : decode cX12_readFolk 198 = .ok (.bipush 7, 2) := dk16 (k := 0) bX12_readFolk_198 rfl (by decide)
theorem dX12_readFolk_200 : decode cX12_readFolk 200 = .ok (.iload_n 3, 1) := dk29 (k := 2) bX12_readFolk_198 rfl
theorem dX12_readFolk_201 : decode cX12_readFolk 201 = .ok (.imul, 1) := dk104 (k := 3) bX12_readFolk_198 rfl
theorem dX12_readFolk_202 : decode cX12_readFolk 202 = .ok (.iadd, 1) := dk96 (k := 4) bX12_readFolk_198 rfl
theorem dX12_readFolk_203 : decode cX12_readFolk 203 = .ok (.bipush 6, 2) := dk16 (k := 5) bX12_readFolk_198 rfl (by decide)
theorem dX12_readFolk_205 : decode cX12_readFolk 205 = .ok (.iadd, 1) := dk96 (k := 7) bX12_readFolk_198 rfl
theorem dX12_readFolk_206 : decode cX12_readFolk 206 = .ok (.dup2, 1) := dk92 (k := 8) bX12_readFolk_198 rfl
theorem dX12_readFolk_207 : decode cX12_readFolk 207 = .ok (.iaload, 1) := dk46 (k := 9) bX12_readFolk_198 rfl
theorem dX12_readFolk_208 : decode cX12_readFolk 208 = .ok (.iconst 1, 1) := dk4 (k := 10) bX12_readFolk_198 rfl
theorem dX12_readFolk_209 : decode cX12_readFolk 209 = .ok (.iload_n 1, 1) := dk27 (k := 11) bX12_readFolk_198 rfl
theorem dX12_readFolk_210 : decode cX12_readFolk 210 = .ok (.ishl, 1) := dk120 (k := 12) bX12_readFolk_198 rfl
theorem dX12_readFolk_211 : decode cX12_readFolk 211 = .ok (.ior, 1) := dk128 (k := 13) bX12_readFolk_198 rfl
theorem dX12_readFolk_212 : decode cX12_readFolk 212 = .ok (.iastore, 1) := dk79 (k := 14) bX12_readFolk_198 rfl
theorem dX12_readFolk_213 : decode cX12_readFolk 213 = .ok (.aload_n 0, 1) := dk42 (k := 15) bX12_readFolk_198 rfl
theorem dX12_readFolk_214 : decode cX12_readFolk 214 = .ok (.getfield 97, 3) := dk180 (k := 16) bX12_readFolk_198 rfl rfl
theorem dX12_readFolk_217 : decode cX12_readFolk 217 = .ok (.iconst 3, 1) := dk6 (k := 19) bX12_readFolk_198 rfl
theorem dX12_readFolk_218 : decode cX12_readFolk 218 = .ok (.if_icmp .ne (-58), 3) := dk160 (k := 20) bX12_readFolk_198 rfl (by decide)
theorem dX12_readFolk_221 : decode cX12_readFolk 221 = .ok (.aload_n 0, 1) := dk42 (k := 23) bX12_readFolk_198 rfl
theorem bX12_readFolk_222 : bL cX12_readFolk 222 [180, 0, 31, 16, 6, 92, 46, 4, 96, 79, 177] := bL_of (by decide +kernel)
theorem dX12_readFolk_222 : decode cX12_readFolk 222 = .ok (.getfield 31, 3) := dk180 (k := 0) bX12_readFolk_222 rfl rfl
theorem dX12_readFolk_225 : decode cX12_readFolk 225 = .ok (.bipush 6, 2) := dk16 (k := 3) bX12_readFolk_222 rfl (by decide)
theorem dX12_readFolk_227 : decode cX12_readFolk 227 = .ok (.dup2, 1) := dk92 (k := 5) bX12_readFolk_222 rfl
theorem dX12_readFolk_228 : decode cX12_readFolk 228 = .ok (.iaload, 1) := dk46 (k := 6) bX12_readFolk_222 rfl
theorem dX12_readFolk_229 : decode cX12_readFolk 229 = .ok (.iconst 1, 1) := dk4 (k := 7) bX12_readFolk_222 rfl
theorem dX12_readFolk_230 : decode cX12_readFolk 230 = .ok (.iadd, 1) := dk96 (k := 8) bX12_readFolk_222 rfl
theorem dX12_readFolk_231 : decode cX12_readFolk 231 = .ok (.iastore, 1) := dk79 (k := 9) bX12_readFolk_222 rfl
theorem dX12_readFolk_232 : decode cX12_readFolk 232 = .ok (.return_, 1) := dk177 (k := 10) bX12_readFolk_222 rfl
theorem bX12_readNext_0 : bL cX12_readNext 0 [42, 18, 181, 182, 0, 133, 154, 0, 17, 42, 18, 183, 182, 0, 133, 154, 0, 8, 42, 4, 182, 0, 143, 42] := bL_of (by decide +kernel)
theorem dX12_readNext_0 : decode cX12_readNext 0 = .ok (.aload_n 0, 1) := dk42 (k := 0) bX12_readNext_0 rfl
theorem dX12_readNext_1 : decode cX12_readNext 1 = .ok (.ldc 181, 2) := dk18 (k := 1) bX12_readNext_0 rfl rfl
theorem dX12_readNext_3 : decode cX12_readNext 3 = .ok (.invokevirtual 133, 3) := dk182 (k := 3) bX12_readNext_0 rfl rfl
theorem dX12_readNext_6 : decode cX12_readNext 6 = .ok (.ifCond .ne 17, 3) := dk154 (k := 6) bX12_readNext_0 rfl (by decide)
theorem dX12_readNext_9 : decode cX12_readNext 9 = .ok (.aload_n 0, 1) := dk42 (k := 9) bX12_readNext_0 rfl
theorem dX12_readNext_10 : decode cX12_readNext 10 = .ok (.ldc 183, 2) := dk18 (k := 10) bX12_readNext_0 rfl rfl
theorem dX12_readNext_12 : decode cX12_readNext 12 = .ok (.invokevirtual 133, 3) := dk182 (k := 12) bX12_readNext_0 rfl rfl
theorem dX12_readNext_15 : decode cX12_readNext 15 = .ok (.ifCond .ne 8, 3) := dk154 (k := 15) bX12_readNext_0 rfl (by decide)
theorem dX12_readNext_18 : decode cX12_readNext 18 = .ok (.aload_n 0, 1) := dk42 (k := 18) bX12_readNext_0 rfl
theorem dX12_readNext_19 : decode cX12_readNext 19 = .ok (.iconst 1, 1) := dk4 (k := 19) bX12_readNext_0 rfl
theorem dX12_readNext_20 : decode cX12_readNext 20 = .ok (.invokevirtual 143, 3) := dk182 (k := 20) bX12_readNext_0 rfl rfl
theorem dX12_readNext_23 : decode cX12_readNext 23 = .ok (.aload_n 0, 1) := dk42 (k := 23) bX12_readNext_0 rfl
theorem bX12_readNext_24 : bL cX12_readNext 24 [18, 181, 182, 0, 133, 153, 0, 20, 42, 180, 0, 31, 16, 6, 46, 16, 8, 160, 0, 8, 42, 6, 182, 0, 143] := bL_of (by decide +kernel)
theorem dX12_readNext_24 : decode cX12_readNext 24 = .ok (.ldc 181, 2) := dk18 (k := 0) bX12_readNext_24 rfl rfl
theorem dX12_readNext_26 : decode cX12_readNext 26 = .ok (.invokevirtual 133, 3) := dk182 (k := 2) bX12_readNext_24 rfl rfl
theorem dX12_readNext_29 : decode cX12_readNext 29 = .ok (.ifCond .eq 20, 3) := dk153 (k := 5) bX12_readNext_24 rfl (by decide)
theorem dX12_readNext_32 : decode cX12_readNext 32 = .ok (.aload_n 0, 1) := dk42 (k := 8) bX12_readNext_24 rfl
theorem dX12_readNext_33 : decode cX12_readNext 33 = .ok (.getfield 31, 3) := dk180 (k := 9) bX12_readNext_24 rfl rfl
theorem dX12_readNext_36 : decode cX12_readNext 36 = .ok (.bipush 6, 2) := dk16 (k := 12) bX12_readNext_24 rfl (by decide)
theorem dX12_readNext_38 : decode cX12_readNext 38 = .ok (.iaload, 1) := dk46 (k := 14) bX12_readNext_24 rfl
theorem dX12_readNext_39 : decode cX12_readNext 39 = .ok (.bipush 8, 2) := dk16 (k := 15) bX12_readNext_24 rfl (by decide)
theorem dX12_readNext_41 : decode cX12_readNext 41 = .ok (.if_icmp .ne 8, 3) := dk160 (k := 17) bX12_readNext_24 rfl (by decide)
theorem dX12_readNext_44 : decode cX12_readNext 44 = .ok (.aload_n 0, 1) := dk42 (k := 20) bX12_readNext_24 rfl
theorem dX12_readNext_45 : decode cX12_readNext 45 = .ok (.iconst 3, 1) := dk6 (k := 21) bX12_readNext_24 rfl
theorem dX12_readNext_46 : decode cX12_readNext 46 = .ok (.invokevirtual 143, 3) := dk182 (k := 22) bX12_readNext_24 rfl rfl
theorem bX12_readNext_49 : bL cX12_readNext 49 [42, 182, 0, 121, 154, 0, 4, 177, 42, 18, 181, 182, 0, 140, 153, 0, 10, 42, 182, 0, 185, 167, 0, 35] := bL_of (by decide +kernel)
theorem dX12_readNext_49 : decode cX12_readNext 49 = .ok (.aload_n 0, 1) := dk42 (k := 0) bX12_readNext_49 rfl
theorem dX12_readNext_50 : decode cX12_readNext 50 = .ok (.invokevirtual 121, 3) := dk182 (k := 1) bX12_readNext_49 rfl rfl
theorem dX12_readNext_53 : decode cX12_readNext 53 = .ok (.ifCond .ne 4, 3) := dk154 (k := 4) bX12_readNext_49 rfl (by decide)
theorem dX12_readNext_56 : decode cX12_readNext 56 = .ok (.return_, 1) := dk177 (k := 7) bX12_readNext_49 rfl
theorem dX12_readNext_57 : decode cX12_readNext 57 = .ok (.aload_n 0, 1) := dk42 (k := 8) bX12_readNext_49 rfl
theorem dX12_readNext_58 : decode cX12_readNext 58 = .ok (.ldc 181, 2) := dk18 (k := 9) bX12_readNext_49 rfl rfl
theorem dX12_readNext_60 : decode cX12_readNext 60 = .ok (.invokevirtual 140, 3) := dk182 (k := 11) bX12_readNext_49 rfl rfl
theorem dX12_readNext_63 : decode cX12_readNext 63 = .ok (.ifCond .eq 10, 3) := dk153 (k := 14) bX12_readNext_49 rfl (by decide)
theorem dX12_readNext_66 : decode cX12_readNext 66 = .ok (.aload_n 0, 1) := dk42 (k := 17) bX12_readNext_49 rfl
theorem dX12_readNext_67 : decode cX12_readNext 67 = .ok (.invokevirtual 185, 3) := dk182 (k := 18) bX12_readNext_49 rfl rfl
theorem dX12_readNext_70 : decode cX12_readNext 70 = .ok (.goto 35, 3) := dk167 (k := 21) bX12_readNext_49 rfl (by decide)
theorem bX12_readNext_73 : bL cX12_readNext 73 [42, 182, 0, 137, 42, 3, 42, 180, 0, 31, 3, 46, 4, 100, 182, 0, 151, 60, 42, 182, 0, 121, 153, 0, 10] := bL_of (by decide +kernel)
theorem dX12_readNext_73 : decode cX12_readNext 73 = .ok (.aload_n 0, 1) := dk42 (k := 0) bX12_readNext_73 rfl
theorem dX12_readNext_74 : decode cX12_readNext 74 = .ok (.invokevirtual 137, 3) := dk182 (k := 1) bX12_readNext_73 rfl rfl
theorem dX12_readNext_77 : decode cX12_readNext 77 = .ok (.aload_n 0, 1) := dk42 (k := 4) bX12_readNext_73 rfl
theorem dX12_readNext_78 : decode cX12_readNext 78 = .ok (.iconst 0, 1) := dk3 (k := 5) bX12_readNext_73 rfl
theorem dX12_readNext_79 : decode cX12_readNext 79 = .ok (.aload_n 0, 1) := dk42 (k := 6) bX12_readNext_73 rfl
theorem dX12_readNext_80 : decode cX12_readNext 80 = .ok (.getfield 31, 3) := dk180 (k := 7) bX12_readNext_73 rfl rfl
theorem dX12_readNext_83 : decode cX12_readNext 83 = .ok (.iconst 0, 1) := dk3 (k := 10) bX12_readNext_73 rfl
theorem dX12_readNext_84 : decode cX12_readNext 84 = .ok (.iaload, 1) := dk46 (k := 11) bX12_readNext_73 rfl
theorem dX12_readNext_85 : decode cX12_readNext 85 = .ok (.iconst 1, 1) := dk4 (k := 12) bX12_readNext_73 rfl
theorem dX12_readNext_86 : decode cX12_readNext 86 = .ok (.isub, 1) := dk100 (k := 13) bX12_readNext_73 rfl
theorem dX12_readNext_87 : decode cX12_readNext 87 = .ok (.invokevirtual 151, 3) := dk182 (k := 14) bX12_readNext_73 rfl rfl
theorem dX12_readNext_90 : decode cX12_readNext 90 = .ok (.istore_n 1, 1) := dk60 (k := 17) bX12_readNext_73 rfl
theorem dX12_readNext_91 : decode cX12_readNext 91 = .ok (.aload_n 0, 1) := dk42 (k := 18) bX12_readNext_73 rfl
theorem dX12_readNext_92 : decode cX12_readNext 92 = .ok (.invokevirtual 121, 3) := dk182 (k := 19) bX12_readNext_73 rfl rfl
theorem dX12_readNext_95 : decode cX12_readNext 95 = .ok (.ifCond .eq 10, 3) := dk153 (k := 22) bX12_readNext_73 rfl (by decide)
theorem bX12_readNext_98 : bL cX12_readNext 98 [42, 180, 0, 31, 8, 27, 79, 177] := bL_of (by decide +kernel)
theorem dX12_readNext_98 : decode cX12_readNext 98 = .ok (.aload_n 0, 1) := dk42 (k := 0) bX12_readNext_98 rfl
theorem dX12_readNext_99 : decode cX12_readNext 99 = .ok (.getfield 31, 3) := dk180 (k := 1) bX12_readNext_98 rfl rfl
theorem dX12_readNext_102 : decode cX12_readNext 102 = .ok (.iconst 5, 1) := dk8 (k := 4) bX12_readNext_98 rfl
theorem dX12_readNext_103 : decode cX12_readNext 103 = .ok (.iload_n 1, 1) := dk27 (k := 5) bX12_readNext_98 rfl
theorem dX12_readNext_104 : decode cX12_readNext 104 = .ok (.iastore, 1) := dk79 (k := 6) bX12_readNext_98 rfl
theorem dX12_readNext_105 : decode cX12_readNext 105 = .ok (.return_, 1) := dk177 (k := 7) bX12_readNext_98 rfl
theorem bX12_mount_0 : bL cX12_mount 0 [42, 42, 180, 0, 81, 181, 0, 84, 42, 3, 181, 0, 81, 42, 3, 181, 0, 87, 42, 3, 181, 0, 118, 42] := bL_of (by decide +kernel)
theorem dX12_mount_0 : decode cX12_mount 0 = .ok (.aload_n 0, 1) := dk42 (k := 0) bX12_mount_0 rfl
theorem dX12_mount_1 : decode cX12_mount 1 = .ok (.aload_n 0, 1) := dk42 (k := 1) bX12_mount_0 rfl
theorem dX12_mount_2 : decode cX12_mount 2 = .ok (.getfield 81, 3) := dk180 (k := 2) bX12_mount_0 rfl rfl
theorem dX12_mount_5 : decode cX12_mount 5 = .ok (.putfield 84, 3) := dk181 (k := 5) bX12_mount_0 rfl rfl
theorem dX12_mount_8 : decode cX12_mount 8 = .ok (.aload_n 0, 1) := dk42 (k := 8) bX12_mount_0 rfl
theorem dX12_mount_9 : decode cX12_mount 9 = .ok (.iconst 0, 1) := dk3 (k := 9) bX12_mount_0 rfl
theorem dX12_mount_10 : decode cX12_mount 10 = .ok (.putfield 81, 3) := dk181 (k := 10) bX12_mount_0 rfl rfl
theorem dX12_mount_13 : decode cX12_mount 13 = .ok (.aload_n 0, 1) := dk42 (k := 13) bX12_mount_0 rfl
theorem dX12_mount_14 : decode cX12_mount 14 = .ok (.iconst 0, 1) := dk3 (k := 14) bX12_mount_0 rfl
theorem dX12_mount_15 : decode cX12_mount 15 = .ok (.putfield 87, 3) := dk181 (k := 15) bX12_mount_0 rfl rfl
theorem dX12_mount_18 : decode cX12_mount 18 = .ok (.aload_n 0, 1) := dk42 (k := 18) bX12_mount_0 rfl
theorem dX12_mount_19 : decode cX12_mount 19 = .ok (.iconst 0, 1) := dk3 (k := 19) bX12_mount_0 rfl
theorem dX12_mount_20 : decode cX12_mount 20 = .ok (.putfield 118, 3) := dk181 (k := 20) bX12_mount_0 rfl rfl
theorem dX12_mount_23 : decode cX12_mount 23 = .ok (.aload_n 0, 1) := dk42 (k := 23) bX12_mount_0 rfl
theorem bX12_mount_24 : bL cX12_mount 24 [2, 181, 0, 27, 3, 60, 27, 17, 0, 135, 162, 0, 16, 42, 180, 0, 31, 27, 3, 79, 132, 1, 1, 167, 255, 239] := bL_of (by decide +kernel)
theorem dX12_mount_24 : decode cX12_mount 24 = .ok (.iconst (-1), 1) := dk2 (k := 0) bX12_mount_24 rfl
theorem dX12_mount_25 : decode cX12_mount 25 = .ok (.putfield 27, 3) := dk181 (k := 1) bX12_mount_24 rfl rfl
theorem dX12_mount_28 : decode cX12_mount 28 = .ok (.iconst 0, 1) := dk3 (k := 4) bX12_mount_24 rfl
theorem dX12_mount_29 : decode cX12_mount 29 = .ok (.istore_n 1, 1) := dk60 (k := 5) bX12_mount_24 rfl
theorem dX12_mount_30 : decode cX12_mount 30 = .ok (.iload_n 1, 1) := dk27 (k := 6) bX12_mount_24 rfl
theorem dX12_mount_31 : decode cX12_mount 31 = .ok (.sipush 135, 3) := dk17 (k := 7) bX12_mount_24 rfl (by decide)
theorem dX12_mount_34 : decode cX12_mount 34 = .ok (.if_icmp .ge 16, 3) := dk162 (k := 10) bX12_mount_24 rfl (by decide)
theorem dX12_mount_37 : decode cX12_mount 37 = .ok (.aload_n 0, 1) := dk42 (k := 13) bX12_mount_24 rfl
theorem dX12_mount_38 : decode cX12_mount 38 = .ok (.getfield 31, 3) := dk180 (k := 14) bX12_mount_24 rfl rfl
theorem dX12_mount_41 : decode cX12_mount 41 = .ok (.iload_n 1, 1) := dk27 (k := 17) bX12_mount_24 rfl
theorem dX12_mount_42 : decode cX12_mount 42 = .ok (.iconst 0, 1) := dk3 (k := 18) bX12_mount_24 rfl
theorem dX12_mount_43 : decode cX12_mount 43 = .ok (.iastore, 1) := dk79 (k := 19) bX12_mount_24 rfl
theorem dX12_mount_44 : decode cX12_mount 44 = .ok (.iinc 1 1, 3) := dk132 (k := 20) bX12_mount_24 rfl rfl (by decide)
theorem dX12_mount_47 : decode cX12_mount 47 = .ok (.goto (-17), 3) := dk167 (k := 23) bX12_mount_24 rfl (by decide)
theorem bX12_mount_50 : bL cX12_mount 50 [42, 182, 0, 137, 42, 182, 0, 121, 153, 0, 76, 42, 180, 0, 97, 153, 0, 69, 42, 180, 0, 31, 16, 7] := bL_of (by decide +kernel)
theorem dX12_mount_50 : decode cX12_mount 50 = .ok (.aload_n 0, 1) := dk42 (k := 0) bX12_mount_50 rfl
theorem dX12_mount_51 : decode cX12_mount 51 = .ok (.invokevirtual 137, 3) := dk182 (k := 1) bX12_mount_50 rfl rfl
theorem dX12_mount_54 : decode cX12_mount 54 = .ok (.aload_n 0, 1) := dk42 (k := 4) bX12_mount_50 rfl
theorem dX12_mount_55 : decode cX12_mount 55 = .ok (.invokevirtual 121, 3) := dk182 (k := 5) bX12_mount_50 rfl rfl
theorem dX12_mount_58 : decode cX12_mount 58 = .ok (.ifCond .eq 76, 3) := dk153 (k := 8) bX12_mount_50 rfl (by decide)
theorem dX12_mount_61 : decode cX12_mount 61 = .ok (.aload_n 0, 1) := dk42 (k := 11) bX12_mount_50 rfl
theorem dX12_mount_62 : decode cX12_mount 62 = .ok (.getfield 97, 3) := dk180 (k := 12) bX12_mount_50 rfl rfl
theorem dX12_mount_65 : decode cX12_mount 65 = .ok (.ifCond .eq 69, 3) := dk153 (k := 15) bX12_mount_50 rfl (by decide)
theorem dX12_mount_68 : decode cX12_mount 68 = .ok (.aload_n 0, 1) := dk42 (k := 18) bX12_mount_50 rfl
theorem dX12_mount_69 : decode cX12_mount 69 = .ok (.getfield 31, 3) := dk180 (k := 19) bX12_mount_50 rfl rfl
theorem dX12_mount_72 : decode cX12_mount 72 = .ok (.bipush 7, 2) := dk16 (k := 22) bX12_mount_50 rfl (by decide)
theorem bX12_mount_74 : bL cX12_mount 74 [46, 154, 0, 10, 42, 182, 0, 188, 167, 0, 7, 42, 182, 0, 191, 42, 182, 0, 121, 153, 0, 16, 42, 180, 0, 97] := bL_of (by decide +kernel)
theorem dX12_mount_74 : decode cX12_mount 74 = .ok (.iaload, 1) := dk46 (k := 0) bX12_mount_74 rfl
theorem dX12_mount_75 : decode cX12_mount 75 = .ok (.ifCond .ne 10, 3) := dk154 (k := 1) bX12_mount_74 rfl (by decide)
theorem dX12_mount_78 : decode cX12_mount 78 = .ok (.aload_n 0, 1) := dk42 (k := 4) bX12_mount_74 rfl
theorem dX12_mount_79 : decode cX12_mount 79 = .ok (.invokevirtual 188, 3) := dk182 (k := 5) bX12_mount_74 rfl rfl
theorem dX12_mount_82 : decode cX12_mount 82 = .ok (.goto 7, 3) := dk167 (k := 8) bX12_mount_74 rfl (by decide)
theorem dX12_mount_85 : decode cX12_mount 85 = .ok (.aload_n 0, 1) := dk42 (k := 11) bX12_mount_74 rfl
theorem dX12_mount_86 : decode cX12_mount 86 = .ok (.invokevirtual 191, 3) := dk182 (k := 12) bX12_mount_74 rfl rfl
theorem dX12_mount_89 : decode cX12_mount 89 = .ok (.aload_n 0, 1) := dk42 (k := 15) bX12_mount_74 rfl
theorem dX12_mount_90 : decode cX12_mount 90 = .ok (.invokevirtual 121, 3) := dk182 (k := 16) bX12_mount_74 rfl rfl
theorem dX12_mount_93 : decode cX12_mount 93 = .ok (.ifCond .eq 16, 3) := dk153 (k := 19) bX12_mount_74 rfl (by decide)
theorem dX12_mount_96 : decode cX12_mount 96 = .ok (.aload_n 0, 1) := dk42 (k := 22) bX12_mount_74 rfl
theorem dX12_mount_97 : decode cX12_mount 97 = .ok (.getfield 97, 3) := dk180 (k := 23) bX12_mount_74 rfl rfl
theorem bX12_mount_100 : bL cX12_mount 100 [6, 159, 0, 8, 42, 4, 182, 0, 143, 42, 182, 0, 121, 153, 0, 7, 42, 182, 0, 137, 42, 180, 0, 31] := bL_of (by decide +kernel)
theorem dX12_mount_100 : decode cX12_mount 100 = .ok (.iconst 3, 1) := dk6 (k := 0) bX12_mount_100 rfl
theorem dX12_mount_101 : decode cX12_mount 101 = .ok (.if_icmp .eq 8, 3) := dk159 (k := 1) bX12_mount_100 rfl (by decide)
theorem dX12_mount_104 : decode cX12_mount 104 = .ok (.aload_n 0, 1) := dk42 (k := 4) bX12_mount_100 rfl
theorem dX12_mount_105 : decode cX12_mount 105 = .ok (.iconst 1, 1) := dk4 (k := 5) bX12_mount_100 rfl
theorem dX12_mount_106 : decode cX12_mount 106 = .ok (.invokevirtual 143, 3) := dk182 (k := 6) bX12_mount_100 rfl rfl
theorem dX12_mount_109 : decode cX12_mount 109 = .ok (.aload_n 0, 1) := dk42 (k := 9) bX12_mount_100 rfl
theorem dX12_mount_110 : decode cX12_mount 110 = .ok (.invokevirtual 121, 3) := dk182 (k := 10) bX12_mount_100 rfl rfl
theorem dX12_mount_113 : decode cX12_mount 113 = .ok (.ifCond .eq 7, 3) := dk153 (k := 13) bX12_mount_100 rfl (by decide)
theorem dX12_mount_116 : decode cX12_mount 116 = .ok (.aload_n 0, 1) := dk42 (k := 16) bX12_mount_100 rfl
theorem dX12_mount_117 : decode cX12_mount 117 = .ok (.invokevirtual 137, 3) := dk182 (k := 17) bX12_mount_100 rfl rfl
theorem dX12_mount_120 : decode cX12_mount 120 = .ok (.aload_n 0, 1) := dk42 (k := 20) bX12_mount_100 rfl
theorem dX12_mount_121 : decode cX12_mount 121 = .ok (.getfield 31, 3) := dk180 (k := 21) bX12_mount_100 rfl rfl
theorem bX12_mount_124 : bL cX12_mount 124 [16, 7, 92, 46, 4, 96, 79, 167, 255, 179, 42, 182, 0, 121, 154, 0, 6, 16, 252, 172, 3, 60, 27, 17, 0, 135] := bL_of (by decide +kernel)
theorem dX12_mount_124 : decode cX12_mount 124 = .ok (.bipush 7, 2) := dk16 (k := 0) bX12_mount_124 rfl (by decide)
theorem dX12_mount_126 : decode cX12_mount 126 = .ok (.dup2, 1) := dk92 (k := 2) bX12_mount_124 rfl
theorem dX12_mount_127 : decode cX12_mount 127 = .ok (.iaload, 1) := dk46 (k := 3) bX12_mount_124 rfl
theorem dX12_mount_128 : decode cX12_mount 128 = .ok (.iconst 1, 1) := dk4 (k := 4) bX12_mount_124 rfl
theorem dX12_mount_129 : decode cX12_mount 129 = .ok (.iadd, 1) := dk96 (k := 5) bX12_mount_124 rfl
theorem dX12_mount_130 : decode cX12_mount 130 = .ok (.iastore, 1) := dk79 (k := 6) bX12_mount_124 rfl
theorem dX12_mount_131 : decode cX12_mount 131 = .ok (.goto (-77), 3) := dk167 (k := 7) bX12_mount_124 rfl (by decide)
theorem dX12_mount_134 : decode cX12_mount 134 = .ok (.aload_n 0, 1) := dk42 (k := 10) bX12_mount_124 rfl
theorem dX12_mount_135 : decode cX12_mount 135 = .ok (.invokevirtual 121, 3) := dk182 (k := 11) bX12_mount_124 rfl rfl
theorem dX12_mount_138 : decode cX12_mount 138 = .ok (.ifCond .ne 6, 3) := dk154 (k := 14) bX12_mount_124 rfl (by decide)
theorem dX12_mount_141 : decode cX12_mount 141 = .ok (.bipush (-4), 2) := dk16 (k := 17) bX12_mount_124 rfl (by decide)
theorem dX12_mount_143 : decode cX12_mount 143 = .ok (.ireturn, 1) := dk172 (k := 19) bX12_mount_124 rfl
theorem dX12_mount_144 : decode cX12_mount 144 = .ok (.iconst 0, 1) := dk3 (k := 20) bX12_mount_124 rfl
theorem dX12_mount_145 : decode cX12_mount 145 = .ok (.istore_n 1, 1) := dk60 (k := 21) bX12_mount_124 rfl
theorem dX12_mount_146 : decode cX12_mount 146 = .ok (.iload_n 1, 1) := dk27 (k := 22) bX12_mount_124 rfl
theorem dX12_mount_147 : decode cX12_mount 147 = .ok (.sipush 135, 3) := dk17 (k := 23) bX12_mount_124 rfl (by decide)
theorem bX12_mount_150 : bL cX12_mount 150 [162, 0, 21, 42, 180, 0, 9, 27, 42, 180, 0, 31, 27, 46, 79, 132, 1, 1, 167, 255, 234, 42, 180, 0, 9] := bL_of (by decide +kernel)
theorem dX12_mount_150 : decode cX12_mount 150 = .ok (.if_icmp .ge 21, 3) := dk162 (k := 0) bX12_mount_150 rfl (by decide)
theorem dX12_mount_153 : decode cX12_mount 153 = .ok (.aload_n 0, 1) := dk42 (k := 3) bX12_mount_150 rfl
theorem dX12_mount_154 : decode cX12_mount 154 = .ok (.getfield 9, 3) := dk180 (k := 4) bX12_mount_150 rfl rfl
theorem dX12_mount_157 : decode cX12_mount 157 = .ok (.iload_n 1, 1) := dk27 (k := 7) bX12_mount_150 rfl
theorem dX12_mount_158 : decode cX12_mount 158 = .ok (.aload_n 0, 1) := dk42 (k := 8) bX12_mount_150 rfl
theorem dX12_mount_159 : decode cX12_mount 159 = .ok (.getfield 31, 3) := dk180 (k := 9) bX12_mount_150 rfl rfl
theorem dX12_mount_162 : decode cX12_mount 162 = .ok (.iload_n 1, 1) := dk27 (k := 12) bX12_mount_150 rfl
theorem dX12_mount_163 : decode cX12_mount 163 = .ok (.iaload, 1) := dk46 (k := 13) bX12_mount_150 rfl
theorem dX12_mount_164 : decode cX12_mount 164 = .ok (.iastore, 1) := dk79 (k := 14) bX12_mount_150 rfl
theorem dX12_mount_165 : decode cX12_mount 165 = .ok (.iinc 1 1, 3) := dk132 (k := 15) bX12_mount_150 rfl rfl (by decide)
theorem dX12_mount_168 : decode cX12_mount 168 = .ok (.goto (-22), 3) := dk167 (k := 18) bX12_mount_150 rfl (by decide)
theorem dX12_mount_171 : decode cX12_mount 171 = .ok (.aload_n 0, 1) := dk42 (k := 21) bX12_mount_150 rfl
theorem dX12_mount_172 : decode cX12_mount 172 = .ok (.getfield 9, 3) := dk180 (k := 22) bX12_mount_150 rfl rfl
theorem bX12_mount_175 : bL cX12_mount 175 [16, 7, 46, 172] := bL_of (by decide +kernel)
theorem dX12_mount_175 : decode cX12_mount 175 = .ok (.bipush 7, 2) := dk16 (k := 0) bX12_mount_175 rfl (by decide)
theorem dX12_mount_177 : decode cX12_mount 177 = .ok (.iaload, 1) := dk46 (k := 2) bX12_mount_175 rfl
theorem dX12_mount_178 : decode cX12_mount 178 = .ok (.ireturn, 1) := dk172 (k := 3) bX12_mount_175 rfl
theorem bX12_asItIs_0 : bL cX12_asItIs 0 [3, 60, 27, 16, 10, 162, 0, 38, 42, 180, 0, 34, 27, 27, 42, 180, 0, 9, 3, 46, 162, 0, 15, 42] := bL_of (by decide +kernel)
theorem dX12_asItIs_0 : decode cX12_asItIs 0 = .ok (.iconst 0, 1) := dk3 (k := 0) bX12_asItIs_0 rfl
theorem dX12_asItIs_1 : decode cX12_asItIs 1 = .ok (.istore_n 1, 1) := dk60 (k := 1) bX12_asItIs_0 rfl
theorem dX12_asItIs_2 : decode cX12_asItIs 2 = .ok (.iload_n 1, 1) := dk27 (k := 2) bX12_asItIs_0 rfl
theorem dX12_asItIs_3 : decode cX12_asItIs 3 = .ok (.bipush 10, 2) := dk16 (k := 3) bX12_asItIs_0 rfl (by decide)
theorem dX12_asItIs_5 : decode cX12_asItIs 5 = .ok (.if_icmp .ge 38, 3) := dk162 (k := 5) bX12_asItIs_0 rfl (by decide)
theorem dX12_asItIs_8 : decode cX12_asItIs 8 = .ok (.aload_n 0, 1) := dk42 (k := 8) bX12_asItIs_0 rfl
theorem dX12_asItIs_9 : decode cX12_asItIs 9 = .ok (.getfield 34, 3) := dk180 (k := 9) bX12_asItIs_0 rfl rfl
theorem dX12_asItIs_12 : decode cX12_asItIs 12 = .ok (.iload_n 1, 1) := dk27 (k := 12) bX12_asItIs_0 rfl
theorem dX12_asItIs_13 : decode cX12_asItIs 13 = .ok (.iload_n 1, 1) := dk27 (k := 13) bX12_asItIs_0 rfl
theorem dX12_asItIs_14 : decode cX12_asItIs 14 = .ok (.aload_n 0, 1) := dk42 (k := 14) bX12_asItIs_0 rfl
theorem dX12_asItIs_15 : decode cX12_asItIs 15 = .ok (.getfield 9, 3) := dk180 (k := 15) bX12_asItIs_0 rfl rfl
theorem dX12_asItIs_18 : decode cX12_asItIs 18 = .ok (.iconst 0, 1) := dk3 (k := 18) bX12_asItIs_0 rfl
theorem dX12_asItIs_19 : decode cX12_asItIs 19 = .ok (.iaload, 1) := dk46 (k := 19) bX12_asItIs_0 rfl
theorem dX12_asItIs_20 : decode cX12_asItIs 20 = .ok (.if_icmp .ge 15, 3) := dk162 (k := 20) bX12_asItIs_0 rfl (by decide)
theorem dX12_asItIs_23 : decode cX12_asItIs 23 = .ok (.aload_n 0, 1) := dk42 (k := 23) bX12_asItIs_0 rfl
theorem bX12_asItIs_24 : bL cX12_asItIs 24 [180, 0, 9, 16, 9, 27, 96, 46, 167, 0, 4, 3, 79, 132, 1, 1, 167, 255, 218, 3, 60, 27, 42, 180, 0, 9] := bL_of (by decide +kernel)
theorem dX12_asItIs_24 : decode cX12_asItIs 24 = .ok (.getfield 9, 3) := dk180 (k := 0) bX12_asItIs_24 rfl rfl
theorem dX12_asItIs_27 : decode cX12_asItIs 27 = .ok (.bipush 9, 2) := dk16 (k := 3) bX12_asItIs_24 rfl (by decide)
theorem dX12_asItIs_29 : decode cX12_asItIs 29 = .ok (.iload_n 1, 1) := dk27 (k := 5) bX12_asItIs_24 rfl
theorem dX12_asItIs_30 : decode cX12_asItIs 30 = .ok (.iadd, 1) := dk96 (k := 6) bX12_asItIs_24 rfl
theorem dX12_asItIs_31 : decode cX12_asItIs 31 = .ok (.iaload, 1) := dk46 (k := 7) bX12_asItIs_24 rfl
theorem dX12_asItIs_32 : decode cX12_asItIs 32 = .ok (.goto 4, 3) := dk167 (k := 8) bX12_asItIs_24 rfl (by decide)
theorem dX12_asItIs_35 : decode cX12_asItIs 35 = .ok (.iconst 0, 1) := dk3 (k := 11) bX12_asItIs_24 rfl
theorem dX12_asItIs_36 : decode cX12_asItIs 36 = .ok (.iastore, 1) := dk79 (k := 12) bX12_asItIs_24 rfl
theorem dX12_asItIs_37 : decode cX12_asItIs 37 = .ok (.iinc 1 1, 3) := dk132 (k := 13) bX12_asItIs_24 rfl rfl (by decide)
theorem dX12_asItIs_40 : decode cX12_asItIs 40 = .ok (.goto (-38), 3) := dk167 (k := 16) bX12_asItIs_24 rfl (by decide)
theorem dX12_asItIs_43 : decode cX12_asItIs 43 = .ok (.iconst 0, 1) := dk3 (k := 19) bX12_asItIs_24 rfl
theorem dX12_asItIs_44 : decode cX12_asItIs 44 = .ok (.istore_n 1, 1) := dk60 (k := 20) bX12_asItIs_24 rfl
theorem dX12_asItIs_45 : decode cX12_asItIs 45 = .ok (.iload_n 1, 1) := dk27 (k := 21) bX12_asItIs_24 rfl
theorem dX12_asItIs_46 : decode cX12_asItIs 46 = .ok (.aload_n 0, 1) := dk42 (k := 22) bX12_asItIs_24 rfl
theorem dX12_asItIs_47 : decode cX12_asItIs 47 = .ok (.getfield 9, 3) := dk180 (k := 23) bX12_asItIs_24 rfl rfl
theorem bX12_asItIs_50 : bL cX12_asItIs 50 [16, 8, 46, 162, 0, 45, 42, 180, 0, 9, 16, 75, 27, 96, 46, 154, 0, 11, 42, 182, 0, 194, 87, 167, 0, 19] := bL_of (by decide +kernel)
theorem dX12_asItIs_50 : decode cX12_asItIs 50 = .ok (.bipush 8, 2) := dk16 (k := 0) bX12_asItIs_50 rfl (by decide)
theorem dX12_asItIs_52 : decode cX12_asItIs 52 = .ok (.iaload, 1) := dk46 (k := 2) bX12_asItIs_50 rfl
theorem dX12_asItIs_53 : decode cX12_asItIs 53 = .ok (.if_icmp .ge 45, 3) := dk162 (k := 3) bX12_asItIs_50 rfl (by decide)
theorem dX12_asItIs_56 : decode cX12_asItIs 56 = .ok (.aload_n 0, 1) := dk42 (k := 6) bX12_asItIs_50 rfl
theorem dX12_asItIs_57 : decode cX12_asItIs 57 = .ok (.getfield 9, 3) := dk180 (k := 7) bX12_asItIs_50 rfl rfl
theorem dX12_asItIs_60 : decode cX12_asItIs 60 = .ok (.bipush 75, 2) := dk16 (k := 10) bX12_asItIs_50 rfl (by decide)
theorem dX12_asItIs_62 : decode cX12_asItIs 62 = .ok (.iload_n 1, 1) := dk27 (k := 12) bX12_asItIs_50 rfl
theorem dX12_asItIs_63 : decode cX12_asItIs 63 = .ok (.iadd, 1) := dk96 (k := 13) bX12_asItIs_50 rfl
theorem dX12_asItIs_64 : decode cX12_asItIs 64 = .ok (.iaload, 1) := dk46 (k := 14) bX12_asItIs_50 rfl
theorem dX12_asItIs_65 : decode cX12_asItIs 65 = .ok (.ifCond .ne 11, 3) := dk154 (k := 15) bX12_asItIs_50 rfl (by decide)
theorem dX12_asItIs_68 : decode cX12_asItIs 68 = .ok (.aload_n 0, 1) := dk42 (k := 18) bX12_asItIs_50 rfl
theorem dX12_asItIs_69 : decode cX12_asItIs 69 = .ok (.invokevirtual 194, 3) := dk182 (k := 19) bX12_asItIs_50 rfl rfl
theorem dX12_asItIs_72 : decode cX12_asItIs 72 = .ok (.pop, 1) := dk87 (k := 22) bX12_asItIs_50 rfl
theorem dX12_asItIs_73 : decode cX12_asItIs 73 = .ok (.goto 19, 3) := dk167 (k := 23) bX12_asItIs_50 rfl (by decide)
theorem bX12_asItIs_76 : bL cX12_asItIs 76 [42, 42, 180, 0, 9, 16, 75, 27, 96, 46, 4, 100, 182, 0, 197, 87, 132, 1, 1, 167, 255, 206, 177] := bL_of (by decide +kernel)
theorem dX12_asItIs_76 : decode cX12_asItIs 76 = .ok (.aload_n 0, 1) := dk42 (k := 0) bX12_asItIs_76 rfl
theorem dX12_asItIs_77 : decode cX12_asItIs 77 = .ok (.aload_n 0, 1) := dk42 (k := 1) bX12_asItIs_76 rfl
theorem dX12_asItIs_78 : decode cX12_asItIs 78 = .ok (.getfield 9, 3) := dk180 (k := 2) bX12_asItIs_76 rfl rfl
theorem dX12_asItIs_81 : decode cX12_asItIs 81 = .ok (.bipush 75, 2) := dk16 (k := 5) bX12_asItIs_76 rfl (by decide)
theorem dX12_asItIs_83 : decode cX12_asItIs 83 = .ok (.iload_n 1, 1) := dk27 (k := 7) bX12_asItIs_76 rfl
theorem dX12_asItIs_84 : decode cX12_asItIs 84 = .ok (.iadd, 1) := dk96 (k := 8) bX12_asItIs_76 rfl
theorem dX12_asItIs_85 : decode cX12_asItIs 85 = .ok (.iaload, 1) := dk46 (k := 9) bX12_asItIs_76 rfl
theorem dX12_asItIs_86 : decode cX12_asItIs 86 = .ok (.iconst 1, 1) := dk4 (k := 10) bX12_asItIs_76 rfl
theorem dX12_asItIs_87 : decode cX12_asItIs 87 = .ok (.isub, 1) := dk100 (k := 11) bX12_asItIs_76 rfl
theorem dX12_asItIs_88 : decode cX12_asItIs 88 = .ok (.invokevirtual 197, 3) := dk182 (k := 12) bX12_asItIs_76 rfl rfl
theorem dX12_asItIs_91 : decode cX12_asItIs 91 = .ok (.pop, 1) := dk87 (k := 15) bX12_asItIs_76 rfl
theorem dX12_asItIs_92 : decode cX12_asItIs 92 = .ok (.iinc 1 1, 3) := dk132 (k := 16) bX12_asItIs_76 rfl rfl (by decide)
theorem dX12_asItIs_95 : decode cX12_asItIs 95 = .ok (.goto (-50), 3) := dk167 (k := 19) bX12_asItIs_76 rfl (by decide)
theorem dX12_asItIs_98 : decode cX12_asItIs 98 = .ok (.return_, 1) := dk177 (k := 22) bX12_asItIs_76 rfl
theorem bX12_topCell_0 : bL cX12_topCell 0 [3, 60, 4, 61, 28, 42, 180, 0, 9, 3, 46, 162, 0, 51, 42, 180, 0, 34, 28, 46, 42, 180, 0, 34] := bL_of (by decide +kernel)
theorem dX12_topCell_0 : decode cX12_topCell 0 = .ok (.iconst 0, 1) := dk3 (k := 0) bX12_topCell_0 rfl
theorem dX12_topCell_1 : decode cX12_topCell 1 = .ok (.istore_n 1, 1) := dk60 (k := 1) bX12_topCell_0 rfl
theorem dX12_topCell_2 : decode cX12_topCell 2 = .ok (.iconst 1, 1) := dk4 (k := 2) bX12_topCell_0 rfl
theorem dX12_topCell_3 : decode cX12_topCell 3 = .ok (.istore_n 2, 1) := dk61 (k := 3) bX12_topCell_0 rfl
theorem dX12_topCell_4 : decode cX12_topCell 4 = .ok (.iload_n 2, 1) := dk28 (k := 4) bX12_topCell_0 rfl
theorem dX12_topCell_5 : decode cX12_topCell 5 = .ok (.aload_n 0, 1) := dk42 (k := 5) bX12_topCell_0 rfl
theorem dX12_topCell_6 : decode cX12_topCell 6 = .ok (.getfield 9, 3) := dk180 (k := 6) bX12_topCell_0 rfl rfl
theorem dX12_topCell_9 : decode cX12_topCell 9 = .ok (.iconst 0, 1) := dk3 (k := 9) bX12_topCell_0 rfl
theorem dX12_topCell_10 : decode cX12_topCell 10 = .ok (.iaload, 1) := dk46 (k := 10) bX12_topCell_0 rfl
theorem dX12_topCell_11 : decode cX12_topCell 11 = .ok (.if_icmp .ge 51, 3) := dk162 (k := 11) bX12_topCell_0 rfl (by decide)
theorem dX12_topCell_14 : decode cX12_topCell 14 = .ok (.aload_n 0, 1) := dk42 (k := 14) bX12_topCell_0 rfl
theorem dX12_topCell_15 : decode cX12_topCell 15 = .ok (.getfield 34, 3) := dk180 (k := 15) bX12_topCell_0 rfl rfl
theorem dX12_topCell_18 : decode cX12_topCell 18 = .ok (.iload_n 2, 1) := dk28 (k := 18) bX12_topCell_0 rfl
theorem dX12_topCell_19 : decode cX12_topCell 19 = .ok (.iaload, 1) := dk46 (k := 19) bX12_topCell_0 rfl
theorem dX12_topCell_20 : decode cX12_topCell 20 = .ok (.aload_n 0, 1) := dk42 (k := 20) bX12_topCell_0 rfl
theorem dX12_topCell_21 : decode cX12_topCell 21 = .ok (.getfield 34, 3) := dk180 (k := 21) bX12_topCell_0 rfl rfl
theorem bX12_topCell_24 : bL cX12_topCell 24 [27, 46, 163, 0, 28, 42, 180, 0, 34, 28, 46, 42, 180, 0, 34, 27, 46, 160, 0, 15, 42, 180, 0, 9] := bL_of (by decide +kernel)
theorem dX12_topCell_24 : decode cX12_topCell 24 = .ok (.iload_n 1, 1) := dk27 (k := 0) bX12_topCell_24 rfl
theorem dX12_topCell_25 : decode cX12_topCell 25 = .ok (.iaload, 1) := dk46 (k := 1) bX12_topCell_24 rfl
theorem dX12_topCell_26 : decode cX12_topCell 26 = .ok (.if_icmp .gt 28, 3) := dk163 (k := 2) bX12_topCell_24 rfl (by decide)
theorem dX12_topCell_29 : decode cX12_topCell 29 = .ok (.aload_n 0, 1) := dk42 (k := 5) bX12_topCell_24 rfl
theorem dX12_topCell_30 : decode cX12_topCell 30 = .ok (.getfield 34, 3) := dk180 (k := 6) bX12_topCell_24 rfl rfl
theorem dX12_topCell_33 : decode cX12_topCell 33 = .ok (.iload_n 2, 1) := dk28 (k := 9) bX12_topCell_24 rfl
theorem dX12_topCell_34 : decode cX12_topCell 34 = .ok (.iaload, 1) := dk46 (k := 10) bX12_topCell_24 rfl
theorem dX12_topCell_35 : decode cX12_topCell 35 = .ok (.aload_n 0, 1) := dk42 (k := 11) bX12_topCell_24 rfl
theorem dX12_topCell_36 : decode cX12_topCell 36 = .ok (.getfield 34, 3) := dk180 (k := 12) bX12_topCell_24 rfl rfl
theorem dX12_topCell_39 : decode cX12_topCell 39 = .ok (.iload_n 1, 1) := dk27 (k := 15) bX12_topCell_24 rfl
theorem dX12_topCell_40 : decode cX12_topCell 40 = .ok (.iaload, 1) := dk46 (k := 16) bX12_topCell_24 rfl
theorem dX12_topCell_41 : decode cX12_topCell 41 = .ok (.if_icmp .ne 15, 3) := dk160 (k := 17) bX12_topCell_24 rfl (by decide)
theorem dX12_topCell_44 : decode cX12_topCell 44 = .ok (.aload_n 0, 1) := dk42 (k := 20) bX12_topCell_24 rfl
theorem dX12_topCell_45 : decode cX12_topCell 45 = .ok (.getfield 9, 3) := dk180 (k := 21) bX12_topCell_24 rfl rfl
theorem bX12_topCell_48 : bL cX12_topCell 48 [7, 46, 4, 160, 0, 5, 28, 60, 132, 2, 1, 167, 255, 201, 27, 172] := bL_of (by decide +kernel)
theorem dX12_topCell_48 : decode cX12_topCell 48 = .ok (.iconst 4, 1) := dk7 (k := 0) bX12_topCell_48 rfl
theorem dX12_topCell_49 : decode cX12_topCell 49 = .ok (.iaload, 1) := dk46 (k := 1) bX12_topCell_48 rfl
theorem dX12_topCell_50 : decode cX12_topCell 50 = .ok (.iconst 1, 1) := dk4 (k := 2) bX12_topCell_48 rfl
theorem dX12_topCell_51 : decode cX12_topCell 51 = .ok (.if_icmp .ne 5, 3) := dk160 (k := 3) bX12_topCell_48 rfl (by decide)
theorem dX12_topCell_54 : decode cX12_topCell 54 = .ok (.iload_n 2, 1) := dk28 (k := 6) bX12_topCell_48 rfl
theorem dX12_topCell_55 : decode cX12_topCell 55 = .ok (.istore_n 1, 1) := dk60 (k := 7) bX12_topCell_48 rfl
theorem dX12_topCell_56 : decode cX12_topCell 56 = .ok (.iinc 2 1, 3) := dk132 (k := 8) bX12_topCell_48 rfl rfl (by decide)
theorem dX12_topCell_59 : decode cX12_topCell 59 = .ok (.goto (-55), 3) := dk167 (k := 11) bX12_topCell_48 rfl (by decide)
theorem dX12_topCell_62 : decode cX12_topCell 62 = .ok (.iload_n 1, 1) := dk27 (k := 14) bX12_topCell_48 rfl
theorem dX12_topCell_63 : decode cX12_topCell 63 = .ok (.ireturn, 1) := dk172 (k := 15) bX12_topCell_48 rfl
theorem bX12_take0_0 : bL cX12_take0 0 [42, 182, 0, 200, 60, 42, 180, 0, 34, 27, 46, 154, 0, 5, 3, 172, 42, 180, 0, 34, 27, 92, 46, 4] := bL_of (by decide +kernel)
theorem dX12_take0_0 : decode cX12_take0 0 = .ok (.aload_n 0, 1) := dk42 (k := 0) bX12_take0_0 rfl
theorem dX12_take0_1 : decode cX12_take0 1 = .ok (.invokevirtual 200, 3) := dk182 (k := 1) bX12_take0_0 rfl rfl
theorem dX12_take0_4 : decode cX12_take0 4 = .ok (.istore_n 1, 1) := dk60 (k := 4) bX12_take0_0 rfl
theorem dX12_take0_5 : decode cX12_take0 5 = .ok (.aload_n 0, 1) := dk42 (k := 5) bX12_take0_0 rfl
theorem dX12_take0_6 : decode cX12_take0 6 = .ok (.getfield 34, 3) := dk180 (k := 6) bX12_take0_0 rfl rfl
theorem dX12_take0_9 : decode cX12_take0 9 = .ok (.iload_n 1, 1) := dk27 (k := 9) bX12_take0_0 rfl
theorem dX12_take0_10 : decode cX12_take0 10 = .ok (.iaload, 1) := dk46 (k := 10) bX12_take0_0 rfl
theorem dX12_take0_11 : decode cX12_take0 11 = .ok (.ifCond .ne 5, 3) := dk154 (k := 11) bX12_take0_0 rfl (by decide)
theorem dX12_take0_14 : decode cX12_take0 14 = .ok (.iconst 0, 1) := dk3 (k := 14) bX12_take0_0 rfl
theorem dX12_take0_15 : decode cX12_take0 15 = .ok (.ireturn, 1) := dk172 (k := 15) bX12_take0_0 rfl
theorem dX12_take0_16 : decode cX12_take0 16 = .ok (.aload_n 0, 1) := dk42 (k := 16) bX12_take0_0 rfl
theorem dX12_take0_17 : decode cX12_take0 17 = .ok (.getfield 34, 3) := dk180 (k := 17) bX12_take0_0 rfl rfl
theorem dX12_take0_20 : decode cX12_take0 20 = .ok (.iload_n 1, 1) := dk27 (k := 20) bX12_take0_0 rfl
theorem dX12_take0_21 : decode cX12_take0 21 = .ok (.dup2, 1) := dk92 (k := 21) bX12_take0_0 rfl
theorem dX12_take0_22 : decode cX12_take0 22 = .ok (.iaload, 1) := dk46 (k := 22) bX12_take0_0 rfl
theorem dX12_take0_23 : decode cX12_take0 23 = .ok (.iconst 1, 1) := dk4 (k := 23) bX12_take0_0 rfl
theorem bX12_take0_24 : bL cX12_take0 24 [100, 79, 4, 172] := bL_of (by decide +kernel)
theorem dX12_take0_24 : decode cX12_take0 24 = .ok (.isub, 1) := dk100 (k := 0) bX12_take0_24 rfl
theorem dX12_take0_25 : decode cX12_take0 25 = .ok (.iastore, 1) := dk79 (k := 1) bX12_take0_24 rfl
theorem dX12_take0_26 : decode cX12_take0 26 = .ok (.iconst 1, 1) := dk4 (k := 2) bX12_take0_24 rfl
theorem dX12_take0_27 : decode cX12_take0 27 = .ok (.ireturn, 1) := dk172 (k := 3) bX12_take0_24 rfl
theorem bX12_falls_0 : bL cX12_falls 0 [42, 28, 133, 182, 0, 203, 153, 0, 31, 42, 180, 0, 34, 27, 46, 4, 96, 42, 180, 0, 34, 28, 46, 100] := bL_of (by decide +kernel)
theorem dX12_falls_0 : decode cX12_falls 0 = .ok (.aload_n 0, 1) := dk42 (k := 0) bX12_falls_0 rfl
theorem dX12_falls_1 : decode cX12_falls 1 = .ok (.iload_n 2, 1) := dk28 (k := 1) bX12_falls_0 rfl
theorem dX12_falls_2 : decode cX12_falls 2 = .ok (.i2l, 1) := dk133 (k := 2) bX12_falls_0 rfl
theorem dX12_falls_3 : decode cX12_falls 3 = .ok (.invokevirtual 203, 3) := dk182 (k := 3) bX12_falls_0 rfl rfl
theorem dX12_falls_6 : decode cX12_falls 6 = .ok (.ifCond .eq 31, 3) := dk153 (k := 6) bX12_falls_0 rfl (by decide)
theorem dX12_falls_9 : decode cX12_falls 9 = .ok (.aload_n 0, 1) := dk42 (k := 9) bX12_falls_0 rfl
theorem dX12_falls_10 : decode cX12_falls 10 = .ok (.getfield 34, 3) := dk180 (k := 10) bX12_falls_0 rfl rfl
theorem dX12_falls_13 : decode cX12_falls 13 = .ok (.iload_n 1, 1) := dk27 (k := 13) bX12_falls_0 rfl
theorem dX12_falls_14 : decode cX12_falls 14 = .ok (.iaload, 1) := dk46 (k := 14) bX12_falls_0 rfl
theorem dX12_falls_15 : decode cX12_falls 15 = .ok (.iconst 1, 1) := dk4 (k := 15) bX12_falls_0 rfl
theorem dX12_falls_16 : decode cX12_falls 16 = .ok (.iadd, 1) := dk96 (k := 16) bX12_falls_0 rfl
theorem dX12_falls_17 : decode cX12_falls 17 = .ok (.aload_n 0, 1) := dk42 (k := 17) bX12_falls_0 rfl
theorem dX12_falls_18 : decode cX12_falls 18 = .ok (.getfield 34, 3) := dk180 (k := 18) bX12_falls_0 rfl rfl
theorem dX12_falls_21 : decode cX12_falls 21 = .ok (.iload_n 2, 1) := dk28 (k := 21) bX12_falls_0 rfl
theorem dX12_falls_22 : decode cX12_falls 22 = .ok (.iaload, 1) := dk46 (k := 22) bX12_falls_0 rfl
theorem dX12_falls_23 : decode cX12_falls 23 = .ok (.isub, 1) := dk100 (k := 23) bX12_falls_0 rfl
theorem bX12_falls_24 : bL cX12_falls 24 [42, 180, 0, 9, 5, 46, 164, 0, 7, 4, 167, 0, 4, 3, 172] := bL_of (by decide +kernel)
theorem dX12_falls_24 : decode cX12_falls 24 = .ok (.aload_n 0, 1) := dk42 (k := 0) bX12_falls_24 rfl
theorem dX12_falls_25 : decode cX12_falls 25 = .ok (.getfield 9, 3) := dk180 (k := 1) bX12_falls_24 rfl rfl
theorem dX12_falls_28 : decode cX12_falls 28 = .ok (.iconst 2, 1) := dk5 (k := 4) bX12_falls_24 rfl
theorem dX12_falls_29 : decode cX12_falls 29 = .ok (.iaload, 1) := dk46 (k := 5) bX12_falls_24 rfl
theorem dX12_falls_30 : decode cX12_falls 30 = .ok (.if_icmp .le 7, 3) := dk164 (k := 6) bX12_falls_24 rfl (by decide)
theorem dX12_falls_33 : decode cX12_falls 33 = .ok (.iconst 1, 1) := dk4 (k := 9) bX12_falls_24 rfl
theorem dX12_falls_34 : decode cX12_falls 34 = .ok (.goto 4, 3) := dk167 (k := 10) bX12_falls_24 rfl (by decide)
theorem dX12_falls_37 : decode cX12_falls 37 = .ok (.iconst 0, 1) := dk3 (k := 13) bX12_falls_24 rfl
theorem dX12_falls_38 : decode cX12_falls 38 = .ok (.ireturn, 1) := dk172 (k := 14) bX12_falls_24 rfl
theorem bX12_slideOf_0 : bL cX12_slideOf 0 [27, 61, 42, 28, 28, 4, 100, 182, 0, 207, 154, 0, 14, 42, 28, 28, 4, 96, 182, 0, 207, 153, 0, 67] := bL_of (by decide +kernel)
theorem dX12_slideOf_0 : decode cX12_slideOf 0 = .ok (.iload_n 1, 1) := dk27 (k := 0) bX12_slideOf_0 rfl
theorem dX12_slideOf_1 : decode cX12_slideOf 1 = .ok (.istore_n 2, 1) := dk61 (k := 1) bX12_slideOf_0 rfl
theorem dX12_slideOf_2 : decode cX12_slideOf 2 = .ok (.aload_n 0, 1) := dk42 (k := 2) bX12_slideOf_0 rfl
theorem dX12_slideOf_3 : decode cX12_slideOf 3 = .ok (.iload_n 2, 1) := dk28 (k := 3) bX12_slideOf_0 rfl
theorem dX12_slideOf_4 : decode cX12_slideOf 4 = .ok (.iload_n 2, 1) := dk28 (k := 4) bX12_slideOf_0 rfl
theorem dX12_slideOf_5 : decode cX12_slideOf 5 = .ok (.iconst 1, 1) := dk4 (k := 5) bX12_slideOf_0 rfl
theorem dX12_slideOf_6 : decode cX12_slideOf 6 = .ok (.isub, 1) := dk100 (k := 6) bX12_slideOf_0 rfl
theorem dX12_slideOf_7 : decode cX12_slideOf 7 = .ok (.invokevirtual 207, 3) := dk182 (k := 7) bX12_slideOf_0 rfl rfl
theorem dX12_slideOf_10 : decode cX12_slideOf 10 = .ok (.ifCond .ne 14, 3) := dk154 (k := 10) bX12_slideOf_0 rfl (by decide)
theorem dX12_slideOf_13 : decode cX12_slideOf 13 = .ok (.aload_n 0, 1) := dk42 (k := 13) bX12_slideOf_0 rfl
theorem dX12_slideOf_14 : decode cX12_slideOf 14 = .ok (.iload_n 2, 1) := dk28 (k := 14) bX12_slideOf_0 rfl
theorem dX12_slideOf_15 : decode cX12_slideOf 15 = .ok (.iload_n 2, 1) := dk28 (k := 15) bX12_slideOf_0 rfl
theorem dX12_slideOf_16 : decode cX12_slideOf 16 = .ok (.iconst 1, 1) := dk4 (k := 16) bX12_slideOf_0 rfl
theorem dX12_slideOf_17 : decode cX12_slideOf 17 = .ok (.iadd, 1) := dk96 (k := 17) bX12_slideOf_0 rfl
theorem dX12_slideOf_18 : decode cX12_slideOf 18 = .ok (.invokevirtual 207, 3) := dk182 (k := 18) bX12_slideOf_0 rfl rfl
theorem dX12_slideOf_21 : decode cX12_slideOf 21 = .ok (.ifCond .eq 67, 3) := dk153 (k := 21) bX12_slideOf_0 rfl (by decide)
theorem bX12_slideOf_24 : bL cX12_slideOf 24 [42, 28, 28, 4, 100, 182, 0, 207, 153, 0, 37, 42, 28, 28, 4, 96, 182, 0, 207, 153, 0, 22, 42, 180, 0, 34] := bL_of (by decide +kernel)
theorem dX12_slideOf_24 : decode cX12_slideOf 24 = .ok (.aload_n 0, 1) := dk42 (k := 0) bX12_slideOf_24 rfl
theorem dX12_slideOf_25 : decode cX12_slideOf 25 = .ok (.iload_n 2, 1) := dk28 (k := 1) bX12_slideOf_24 rfl
theorem dX12_slideOf_26 : decode cX12_slideOf 26 = .ok (.iload_n 2, 1) := dk28 (k := 2) bX12_slideOf_24 rfl
theorem dX12_slideOf_27 : decode cX12_slideOf 27 = .ok (.iconst 1, 1) := dk4 (k := 3) bX12_slideOf_24 rfl
theorem dX12_slideOf_28 : decode cX12_slideOf 28 = .ok (.isub, 1) := dk100 (k := 4) bX12_slideOf_24 rfl
theorem dX12_slideOf_29 : decode cX12_slideOf 29 = .ok (.invokevirtual 207, 3) := dk182 (k := 5) bX12_slideOf_24 rfl rfl
theorem dX12_slideOf_32 : decode cX12_slideOf 32 = .ok (.ifCond .eq 37, 3) := dk153 (k := 8) bX12_slideOf_24 rfl (by decide)
theorem dX12_slideOf_35 : decode cX12_slideOf 35 = .ok (.aload_n 0, 1) := dk42 (k := 11) bX12_slideOf_24 rfl
theorem dX12_slideOf_36 : decode cX12_slideOf 36 = .ok (.iload_n 2, 1) := dk28 (k := 12) bX12_slideOf_24 rfl
theorem dX12_slideOf_37 : decode cX12_slideOf 37 = .ok (.iload_n 2, 1) := dk28 (k := 13) bX12_slideOf_24 rfl
theorem dX12_slideOf_38 : decode cX12_slideOf 38 = .ok (.iconst 1, 1) := dk4 (k := 14) bX12_slideOf_24 rfl
theorem dX12_slideOf_39 : decode cX12_slideOf 39 = .ok (.iadd, 1) := dk96 (k := 15) bX12_slideOf_24 rfl
theorem dX12_slideOf_40 : decode cX12_slideOf 40 = .ok (.invokevirtual 207, 3) := dk182 (k := 16) bX12_slideOf_24 rfl rfl
theorem dX12_slideOf_43 : decode cX12_slideOf 43 = .ok (.ifCond .eq 22, 3) := dk153 (k := 19) bX12_slideOf_24 rfl (by decide)
theorem dX12_slideOf_46 : decode cX12_slideOf 46 = .ok (.aload_n 0, 1) := dk42 (k := 22) bX12_slideOf_24 rfl
theorem dX12_slideOf_47 : decode cX12_slideOf 47 = .ok (.getfield 34, 3) := dk180 (k := 23) bX12_slideOf_24 rfl rfl
theorem bX12_slideOf_50 : bL cX12_slideOf 50 [28, 4, 100, 46, 42, 180, 0, 34, 28, 4, 96, 46, 163, 0, 7, 4, 167, 0, 4, 3, 62, 29, 153, 0, 9] := bL_of (by decide +kernel)
theorem dX12_slideOf_50 : decode cX12_slideOf 50 = .ok (.iload_n 2, 1) := dk28 (k := 0) bX12_slideOf_50 rfl
theorem dX12_slideOf_51 : decode cX12_slideOf 51 = .ok (.iconst 1, 1) := dk4 (k := 1) bX12_slideOf_50 rfl
theorem dX12_slideOf_52 : decode cX12_slideOf 52 = .ok (.isub, 1) := dk100 (k := 2) bX12_slideOf_50 rfl
theorem dX12_slideOf_53 : decode cX12_slideOf 53 = .ok (.iaload, 1) := dk46 (k := 3) bX12_slideOf_50 rfl
theorem dX12_slideOf_54 : decode cX12_slideOf 54 = .ok (.aload_n 0, 1) := dk42 (k := 4) bX12_slideOf_50 rfl
theorem dX12_slideOf_55 : decode cX12_slideOf 55 = .ok (.getfield 34, 3) := dk180 (k := 5) bX12_slideOf_50 rfl rfl
theorem dX12_slideOf_58 : decode cX12_slideOf 58 = .ok (.iload_n 2, 1) := dk28 (k := 8) bX12_slideOf_50 rfl
theorem dX12_slideOf_59 : decode cX12_slideOf 59 = .ok (.iconst 1, 1) := dk4 (k := 9) bX12_slideOf_50 rfl
theorem dX12_slideOf_60 : decode cX12_slideOf 60 = .ok (.iadd, 1) := dk96 (k := 10) bX12_slideOf_50 rfl
theorem dX12_slideOf_61 : decode cX12_slideOf 61 = .ok (.iaload, 1) := dk46 (k := 11) bX12_slideOf_50 rfl
theorem dX12_slideOf_62 : decode cX12_slideOf 62 = .ok (.if_icmp .gt 7, 3) := dk163 (k := 12) bX12_slideOf_50 rfl (by decide)
theorem dX12_slideOf_65 : decode cX12_slideOf 65 = .ok (.iconst 1, 1) := dk4 (k := 15) bX12_slideOf_50 rfl
theorem dX12_slideOf_66 : decode cX12_slideOf 66 = .ok (.goto 4, 3) := dk167 (k := 16) bX12_slideOf_50 rfl (by decide)
theorem dX12_slideOf_69 : decode cX12_slideOf 69 = .ok (.iconst 0, 1) := dk3 (k := 19) bX12_slideOf_50 rfl
theorem dX12_slideOf_70 : decode cX12_slideOf 70 = .ok (.istore_n 3, 1) := dk62 (k := 20) bX12_slideOf_50 rfl
theorem dX12_slideOf_71 : decode cX12_slideOf 71 = .ok (.iload_n 3, 1) := dk29 (k := 21) bX12_slideOf_50 rfl
theorem dX12_slideOf_72 : decode cX12_slideOf 72 = .ok (.ifCond .eq 9, 3) := dk153 (k := 22) bX12_slideOf_50 rfl (by decide)
theorem bX12_slideOf_75 : bL cX12_slideOf 75 [28, 4, 100, 167, 0, 6, 28, 4, 96, 61, 167, 255, 173, 42, 180, 0, 34, 28, 46, 16, 99, 160, 0, 7] := bL_of (by decide +kernel)
theorem dX12_slideOf_75 : decode cX12_slideOf 75 = .ok (.iload_n 2, 1) := dk28 (k := 0) bX12_slideOf_75 rfl
theorem dX12_slideOf_76 : decode cX12_slideOf 76 = .ok (.iconst 1, 1) := dk4 (k := 1) bX12_slideOf_75 rfl
theorem dX12_slideOf_77 : decode cX12_slideOf 77 = .ok (.isub, 1) := dk100 (k := 2) bX12_slideOf_75 rfl
theorem dX12_slideOf_78 : decode cX12_slideOf 78 = .ok (.goto 6, 3) := dk167 (k := 3) bX12_slideOf_75 rfl (by decide)
theorem dX12_slideOf_81 : decode cX12_slideOf 81 = .ok (.iload_n 2, 1) := dk28 (k := 6) bX12_slideOf_75 rfl
theorem dX12_slideOf_82 : decode cX12_slideOf 82 = .ok (.iconst 1, 1) := dk4 (k := 7) bX12_slideOf_75 rfl
theorem dX12_slideOf_83 : decode cX12_slideOf 83 = .ok (.iadd, 1) := dk96 (k := 8) bX12_slideOf_75 rfl
theorem dX12_slideOf_84 : decode cX12_slideOf 84 = .ok (.istore_n 2, 1) := dk61 (k := 9) bX12_slideOf_75 rfl
theorem dX12_slideOf_85 : decode cX12_slideOf 85 = .ok (.goto (-83), 3) := dk167 (k := 10) bX12_slideOf_75 rfl (by decide)
theorem dX12_slideOf_88 : decode cX12_slideOf 88 = .ok (.aload_n 0, 1) := dk42 (k := 13) bX12_slideOf_75 rfl
theorem dX12_slideOf_89 : decode cX12_slideOf 89 = .ok (.getfield 34, 3) := dk180 (k := 14) bX12_slideOf_75 rfl rfl
theorem dX12_slideOf_92 : decode cX12_slideOf 92 = .ok (.iload_n 2, 1) := dk28 (k := 17) bX12_slideOf_75 rfl
theorem dX12_slideOf_93 : decode cX12_slideOf 93 = .ok (.iaload, 1) := dk46 (k := 18) bX12_slideOf_75 rfl
theorem dX12_slideOf_94 : decode cX12_slideOf 94 = .ok (.bipush 99, 2) := dk16 (k := 19) bX12_slideOf_75 rfl (by decide)
theorem dX12_slideOf_96 : decode cX12_slideOf 96 = .ok (.if_icmp .ne 7, 3) := dk160 (k := 21) bX12_slideOf_75 rfl (by decide)
theorem bX12_slideOf_99 : bL cX12_slideOf 99 [2, 167, 0, 4, 28, 172] := bL_of (by decide +kernel)
theorem dX12_slideOf_99 : decode cX12_slideOf 99 = .ok (.iconst (-1), 1) := dk2 (k := 0) bX12_slideOf_99 rfl
theorem dX12_slideOf_100 : decode cX12_slideOf 100 = .ok (.goto 4, 3) := dk167 (k := 1) bX12_slideOf_99 rfl (by decide)
theorem dX12_slideOf_103 : decode cX12_slideOf 103 = .ok (.iload_n 2, 1) := dk28 (k := 4) bX12_slideOf_99 rfl
theorem dX12_slideOf_104 : decode cX12_slideOf 104 = .ok (.ireturn, 1) := dk172 (k := 5) bX12_slideOf_99 rfl
theorem bX12_heap0_0 : bL cX12_heap0 0 [42, 27, 182, 0, 211, 61, 28, 2, 159, 0, 13, 42, 180, 0, 34, 28, 92, 46, 4, 96, 79, 28, 172] := bL_of (by decide +kernel)
theorem dX12_heap0_0 : decode cX12_heap0 0 = .ok (.aload_n 0, 1) := dk42 (k := 0) bX12_heap0_0 rfl
theorem dX12_heap0_1 : decode cX12_heap0 1 = .ok (.iload_n 1, 1) := dk27 (k := 1) bX12_heap0_0 rfl
theorem dX12_heap0_2 : decode cX12_heap0 2 = .ok (.invokevirtual 211, 3) := dk182 (k := 2) bX12_heap0_0 rfl rfl
theorem dX12_heap0_5 : decode cX12_heap0 5 = .ok (.istore_n 2, 1) := dk61 (k := 5) bX12_heap0_0 rfl
theorem dX12_heap0_6 : decode cX12_heap0 6 = .ok (.iload_n 2, 1) := dk28 (k := 6) bX12_heap0_0 rfl
theorem dX12_heap0_7 : decode cX12_heap0 7 = .ok (.iconst (-1), 1) := dk2 (k := 7) bX12_heap0_0 rfl
theorem dX12_heap0_8 : decode cX12_heap0 8 = .ok (.if_icmp .eq 13, 3) := dk159 (k := 8) bX12_heap0_0 rfl (by decide)
theorem dX12_heap0_11 : decode cX12_heap0 11 = .ok (.aload_n 0, 1) := dk42 (k := 11) bX12_heap0_0 rfl
theorem dX12_heap0_12 : decode cX12_heap0 12 = .ok (.getfield 34, 3) := dk180 (k := 12) bX12_heap0_0 rfl rfl
theorem dX12_heap0_15 : decode cX12_heap0 15 = .ok (.iload_n 2, 1) := dk28 (k := 15) bX12_heap0_0 rfl
theorem dX12_heap0_16 : decode cX12_heap0 16 = .ok (.dup2, 1) := dk92 (k := 16) bX12_heap0_0 rfl
theorem dX12_heap0_17 : decode cX12_heap0 17 = .ok (.iaload, 1) := dk46 (k := 17) bX12_heap0_0 rfl
theorem dX12_heap0_18 : decode cX12_heap0 18 = .ok (.iconst 1, 1) := dk4 (k := 18) bX12_heap0_0 rfl
theorem dX12_heap0_19 : decode cX12_heap0 19 = .ok (.iadd, 1) := dk96 (k := 19) bX12_heap0_0 rfl
theorem dX12_heap0_20 : decode cX12_heap0 20 = .ok (.iastore, 1) := dk79 (k := 20) bX12_heap0_0 rfl
theorem dX12_heap0_21 : decode cX12_heap0 21 = .ok (.iload_n 2, 1) := dk28 (k := 21) bX12_heap0_0 rfl
theorem dX12_heap0_22 : decode cX12_heap0 22 = .ok (.ireturn, 1) := dk172 (k := 22) bX12_heap0_0 rfl
theorem bX12_isDark_0 : bL cX12_isDark 0 [28, 158, 0, 7, 2, 167, 0, 4, 4, 62, 28, 184, 0, 214, 54, 4, 27, 29, 96, 54, 5, 4, 54, 6] := bL_of (by decide +kernel)
theorem dX12_isDark_0 : decode cX12_isDark 0 = .ok (.iload_n 2, 1) := dk28 (k := 0) bX12_isDark_0 rfl
theorem dX12_isDark_1 : decode cX12_isDark 1 = .ok (.ifCond .le 7, 3) := dk158 (k := 1) bX12_isDark_0 rfl (by decide)
theorem dX12_isDark_4 : decode cX12_isDark 4 = .ok (.iconst (-1), 1) := dk2 (k := 4) bX12_isDark_0 rfl
theorem dX12_isDark_5 : decode cX12_isDark 5 = .ok (.goto 4, 3) := dk167 (k := 5) bX12_isDark_0 rfl (by decide)
theorem dX12_isDark_8 : decode cX12_isDark 8 = .ok (.iconst 1, 1) := dk4 (k := 8) bX12_isDark_0 rfl
theorem dX12_isDark_9 : decode cX12_isDark 9 = .ok (.istore_n 3, 1) := dk62 (k := 9) bX12_isDark_0 rfl
theorem dX12_isDark_10 : decode cX12_isDark 10 = .ok (.iload_n 2, 1) := dk28 (k := 10) bX12_isDark_0 rfl
theorem dX12_isDark_11 : decode cX12_isDark 11 = .ok (.invokestatic 214, 3) := dk184 (k := 11) bX12_isDark_0 rfl rfl
theorem dX12_isDark_14 : decode cX12_isDark 14 = .ok (.istore 4, 2) := dk54 (k := 14) bX12_isDark_0 rfl rfl
theorem dX12_isDark_16 : decode cX12_isDark 16 = .ok (.iload_n 1, 1) := dk27 (k := 16) bX12_isDark_0 rfl
theorem dX12_isDark_17 : decode cX12_isDark 17 = .ok (.iload_n 3, 1) := dk29 (k := 17) bX12_isDark_0 rfl
theorem dX12_isDark_18 : decode cX12_isDark 18 = .ok (.iadd, 1) := dk96 (k := 18) bX12_isDark_0 rfl
theorem dX12_isDark_19 : decode cX12_isDark 19 = .ok (.istore 5, 2) := dk54 (k := 19) bX12_isDark_0 rfl rfl
theorem dX12_isDark_21 : decode cX12_isDark 21 = .ok (.iconst 1, 1) := dk4 (k := 21) bX12_isDark_0 rfl
theorem dX12_isDark_22 : decode cX12_isDark 22 = .ok (.istore 6, 2) := dk54 (k := 22) bX12_isDark_0 rfl rfl
theorem bX12_isDark_24 : bL cX12_isDark 24 [42, 21, 5, 133, 182, 0, 203, 153, 0, 39, 42, 180, 0, 34, 21, 5, 46, 42, 180, 0, 34, 27, 46, 100] := bL_of (by decide +kernel)
theorem dX12_isDark_24 : decode cX12_isDark 24 = .ok (.aload_n 0, 1) := dk42 (k := 0) bX12_isDark_24 rfl
theorem dX12_isDark_25 : decode cX12_isDark 25 = .ok (.iload 5, 2) := dk21 (k := 1) bX12_isDark_24 rfl rfl
theorem dX12_isDark_27 : decode cX12_isDark 27 = .ok (.i2l, 1) := dk133 (k := 3) bX12_isDark_24 rfl
theorem dX12_isDark_28 : decode cX12_isDark 28 = .ok (.invokevirtual 203, 3) := dk182 (k := 4) bX12_isDark_24 rfl rfl
theorem dX12_isDark_31 : decode cX12_isDark 31 = .ok (.ifCond .eq 39, 3) := dk153 (k := 7) bX12_isDark_24 rfl (by decide)
theorem dX12_isDark_34 : decode cX12_isDark 34 = .ok (.aload_n 0, 1) := dk42 (k := 10) bX12_isDark_24 rfl
theorem dX12_isDark_35 : decode cX12_isDark 35 = .ok (.getfield 34, 3) := dk180 (k := 11) bX12_isDark_24 rfl rfl
theorem dX12_isDark_38 : decode cX12_isDark 38 = .ok (.iload 5, 2) := dk21 (k := 14) bX12_isDark_24 rfl rfl
theorem dX12_isDark_40 : decode cX12_isDark 40 = .ok (.iaload, 1) := dk46 (k := 16) bX12_isDark_24 rfl
theorem dX12_isDark_41 : decode cX12_isDark 41 = .ok (.aload_n 0, 1) := dk42 (k := 17) bX12_isDark_24 rfl
theorem dX12_isDark_42 : decode cX12_isDark 42 = .ok (.getfield 34, 3) := dk180 (k := 18) bX12_isDark_24 rfl rfl
theorem dX12_isDark_45 : decode cX12_isDark 45 = .ok (.iload_n 1, 1) := dk27 (k := 21) bX12_isDark_24 rfl
theorem dX12_isDark_46 : decode cX12_isDark 46 = .ok (.iaload, 1) := dk46 (k := 22) bX12_isDark_24 rfl
theorem dX12_isDark_47 : decode cX12_isDark 47 = .ok (.isub, 1) := dk100 (k := 23) bX12_isDark_24 rfl
theorem bX12_isDark_48 : bL cX12_isDark 48 [21, 4, 21, 6, 104, 164, 0, 5, 4, 172, 21, 5, 29, 96, 54, 5, 132, 6, 1, 167, 255, 213, 3, 172] := bL_of (by decide +kernel)
theorem dX12_isDark_48 : decode cX12_isDark 48 = .ok (.iload 4, 2) := dk21 (k := 0) bX12_isDark_48 rfl rfl
theorem dX12_isDark_50 : decode cX12_isDark 50 = .ok (.iload 6, 2) := dk21 (k := 2) bX12_isDark_48 rfl rfl
theorem dX12_isDark_52 : decode cX12_isDark 52 = .ok (.imul, 1) := dk104 (k := 4) bX12_isDark_48 rfl
theorem dX12_isDark_53 : decode cX12_isDark 53 = .ok (.if_icmp .le 5, 3) := dk164 (k := 5) bX12_isDark_48 rfl (by decide)
theorem dX12_isDark_56 : decode cX12_isDark 56 = .ok (.iconst 1, 1) := dk4 (k := 8) bX12_isDark_48 rfl
theorem dX12_isDark_57 : decode cX12_isDark 57 = .ok (.ireturn, 1) := dk172 (k := 9) bX12_isDark_48 rfl
theorem dX12_isDark_58 : decode cX12_isDark 58 = .ok (.iload 5, 2) := dk21 (k := 10) bX12_isDark_48 rfl rfl
theorem dX12_isDark_60 : decode cX12_isDark 60 = .ok (.iload_n 3, 1) := dk29 (k := 12) bX12_isDark_48 rfl
theorem dX12_isDark_61 : decode cX12_isDark 61 = .ok (.iadd, 1) := dk96 (k := 13) bX12_isDark_48 rfl
theorem dX12_isDark_62 : decode cX12_isDark 62 = .ok (.istore 5, 2) := dk54 (k := 14) bX12_isDark_48 rfl rfl
theorem dX12_isDark_64 : decode cX12_isDark 64 = .ok (.iinc 6 1, 3) := dk132 (k := 16) bX12_isDark_48 rfl rfl (by decide)
theorem dX12_isDark_67 : decode cX12_isDark 67 = .ok (.goto (-43), 3) := dk167 (k := 19) bX12_isDark_48 rfl (by decide)
theorem dX12_isDark_70 : decode cX12_isDark 70 = .ok (.iconst 0, 1) := dk3 (k := 22) bX12_isDark_48 rfl
theorem dX12_isDark_71 : decode cX12_isDark 71 = .ok (.ireturn, 1) := dk172 (k := 23) bX12_isDark_48 rfl
theorem bX12_lightOf_0 : bL cX12_lightOf 0 [3, 61, 16, 247, 62, 29, 16, 9, 163, 0, 30, 28, 29, 153, 0, 16, 42, 27, 29, 182, 0, 217, 154, 0, 7] := bL_of (by decide +kernel)
theorem dX12_lightOf_0 : decode cX12_lightOf 0 = .ok (.iconst 0, 1) := dk3 (k := 0) bX12_lightOf_0 rfl
theorem dX12_lightOf_1 : decode cX12_lightOf 1 = .ok (.istore_n 2, 1) := dk61 (k := 1) bX12_lightOf_0 rfl
theorem dX12_lightOf_2 : decode cX12_lightOf 2 = .ok (.bipush (-9), 2) := dk16 (k := 2) bX12_lightOf_0 rfl (by decide)
theorem dX12_lightOf_4 : decode cX12_lightOf 4 = .ok (.istore_n 3, 1) := dk62 (k := 4) bX12_lightOf_0 rfl
theorem dX12_lightOf_5 : decode cX12_lightOf 5 = .ok (.iload_n 3, 1) := dk29 (k := 5) bX12_lightOf_0 rfl
theorem dX12_lightOf_6 : decode cX12_lightOf 6 = .ok (.bipush 9, 2) := dk16 (k := 6) bX12_lightOf_0 rfl (by decide)
theorem dX12_lightOf_8 : decode cX12_lightOf 8 = .ok (.if_icmp .gt 30, 3) := dk163 (k := 8) bX12_lightOf_0 rfl (by decide)
theorem dX12_lightOf_11 : decode cX12_lightOf 11 = .ok (.iload_n 2, 1) := dk28 (k := 11) bX12_lightOf_0 rfl
theorem dX12_lightOf_12 : decode cX12_lightOf 12 = .ok (.iload_n 3, 1) := dk29 (k := 12) bX12_lightOf_0 rfl
theorem dX12_lightOf_13 : decode cX12_lightOf 13 = .ok (.ifCond .eq 16, 3) := dk153 (k := 13) bX12_lightOf_0 rfl (by decide)
theorem dX12_lightOf_16 : decode cX12_lightOf 16 = .ok (.aload_n 0, 1) := dk42 (k := 16) bX12_lightOf_0 rfl
theorem dX12_lightOf_17 : decode cX12_lightOf 17 = .ok (.iload_n 1, 1) := dk27 (k := 17) bX12_lightOf_0 rfl
theorem dX12_lightOf_18 : decode cX12_lightOf 18 = .ok (.iload_n 3, 1) := dk29 (k := 18) bX12_lightOf_0 rfl
theorem dX12_lightOf_19 : decode cX12_lightOf 19 = .ok (.invokevirtual 217, 3) := dk182 (k := 19) bX12_lightOf_0 rfl rfl
theorem dX12_lightOf_22 : decode cX12_lightOf 22 = .ok (.ifCond .ne 7, 3) := dk154 (k := 22) bX12_lightOf_0 rfl (by decide)
theorem bX12_lightOf_25 : bL cX12_lightOf 25 [4, 167, 0, 4, 3, 96, 61, 132, 3, 1, 167, 255, 226, 28, 172] := bL_of (by decide +kernel)
theorem dX12_lightOf_25 : decode cX12_lightOf 25 = .ok (.iconst 1, 1) := dk4 (k := 0) bX12_lightOf_25 rfl
theorem dX12_lightOf_26 : decode cX12_lightOf 26 = .ok (.goto 4, 3) := dk167 (k := 1) bX12_lightOf_25 rfl (by decide)
theorem dX12_lightOf_29 : decode cX12_lightOf 29 = .ok (.iconst 0, 1) := dk3 (k := 4) bX12_lightOf_25 rfl
theorem dX12_lightOf_30 : decode cX12_lightOf 30 = .ok (.iadd, 1) := dk96 (k := 5) bX12_lightOf_25 rfl
theorem dX12_lightOf_31 : decode cX12_lightOf 31 = .ok (.istore_n 2, 1) := dk61 (k := 6) bX12_lightOf_25 rfl
theorem dX12_lightOf_32 : decode cX12_lightOf 32 = .ok (.iinc 3 1, 3) := dk132 (k := 7) bX12_lightOf_25 rfl rfl (by decide)
theorem dX12_lightOf_35 : decode cX12_lightOf 35 = .ok (.goto (-30), 3) := dk167 (k := 10) bX12_lightOf_25 rfl (by decide)
theorem dX12_lightOf_38 : decode cX12_lightOf 38 = .ok (.iload_n 2, 1) := dk28 (k := 13) bX12_lightOf_25 rfl
theorem dX12_lightOf_39 : decode cX12_lightOf 39 = .ok (.ireturn, 1) := dk172 (k := 14) bX12_lightOf_25 rfl
theorem bX12_snowSet_0 : bL cX12_snowSet 0 [3, 60, 3, 61, 28, 42, 180, 0, 9, 3, 46, 162, 0, 34, 27, 42, 180, 0, 34, 28, 46, 42, 180, 0, 9] := bL_of (by decide +kernel)
theorem dX12_snowSet_0 : decode cX12_snowSet 0 = .ok (.iconst 0, 1) := dk3 (k := 0) bX12_snowSet_0 rfl
theorem dX12_snowSet_1 : decode cX12_snowSet 1 = .ok (.istore_n 1, 1) := dk60 (k := 1) bX12_snowSet_0 rfl
theorem dX12_snowSet_2 : decode cX12_snowSet 2 = .ok (.iconst 0, 1) := dk3 (k := 2) bX12_snowSet_0 rfl
theorem dX12_snowSet_3 : decode cX12_snowSet 3 = .ok (.istore_n 2, 1) := dk61 (k := 3) bX12_snowSet_0 rfl
theorem dX12_snowSet_4 : decode cX12_snowSet 4 = .ok (.iload_n 2, 1) := dk28 (k := 4) bX12_snowSet_0 rfl
theorem dX12_snowSet_5 : decode cX12_snowSet 5 = .ok (.aload_n 0, 1) := dk42 (k := 5) bX12_snowSet_0 rfl
theorem dX12_snowSet_6 : decode cX12_snowSet 6 = .ok (.getfield 9, 3) := dk180 (k := 6) bX12_snowSet_0 rfl rfl
theorem dX12_snowSet_9 : decode cX12_snowSet 9 = .ok (.iconst 0, 1) := dk3 (k := 9) bX12_snowSet_0 rfl
theorem dX12_snowSet_10 : decode cX12_snowSet 10 = .ok (.iaload, 1) := dk46 (k := 10) bX12_snowSet_0 rfl
theorem dX12_snowSet_11 : decode cX12_snowSet 11 = .ok (.if_icmp .ge 34, 3) := dk162 (k := 11) bX12_snowSet_0 rfl (by decide)
theorem dX12_snowSet_14 : decode cX12_snowSet 14 = .ok (.iload_n 1, 1) := dk27 (k := 14) bX12_snowSet_0 rfl
theorem dX12_snowSet_15 : decode cX12_snowSet 15 = .ok (.aload_n 0, 1) := dk42 (k := 15) bX12_snowSet_0 rfl
theorem dX12_snowSet_16 : decode cX12_snowSet 16 = .ok (.getfield 34, 3) := dk180 (k := 16) bX12_snowSet_0 rfl rfl
theorem dX12_snowSet_19 : decode cX12_snowSet 19 = .ok (.iload_n 2, 1) := dk28 (k := 19) bX12_snowSet_0 rfl
theorem dX12_snowSet_20 : decode cX12_snowSet 20 = .ok (.iaload, 1) := dk46 (k := 20) bX12_snowSet_0 rfl
theorem dX12_snowSet_21 : decode cX12_snowSet 21 = .ok (.aload_n 0, 1) := dk42 (k := 21) bX12_snowSet_0 rfl
theorem dX12_snowSet_22 : decode cX12_snowSet 22 = .ok (.getfield 9, 3) := dk180 (k := 22) bX12_snowSet_0 rfl rfl
theorem bX12_snowSet_25 : bL cX12_snowSet 25 [4, 46, 161, 0, 9, 4, 28, 120, 167, 0, 4, 3, 128, 60, 132, 2, 1, 167, 255, 218, 27, 172] := bL_of (by decide +kernel)
theorem dX12_snowSet_25 : decode cX12_snowSet 25 = .ok (.iconst 1, 1) := dk4 (k := 0) bX12_snowSet_25 rfl
theorem dX12_snowSet_26 : decode cX12_snowSet 26 = .ok (.iaload, 1) := dk46 (k := 1) bX12_snowSet_25 rfl
theorem dX12_snowSet_27 : decode cX12_snowSet 27 = .ok (.if_icmp .lt 9, 3) := dk161 (k := 2) bX12_snowSet_25 rfl (by decide)
theorem dX12_snowSet_30 : decode cX12_snowSet 30 = .ok (.iconst 1, 1) := dk4 (k := 5) bX12_snowSet_25 rfl
theorem dX12_snowSet_31 : decode cX12_snowSet 31 = .ok (.iload_n 2, 1) := dk28 (k := 6) bX12_snowSet_25 rfl
theorem dX12_snowSet_32 : decode cX12_snowSet 32 = .ok (.ishl, 1) := dk120 (k := 7) bX12_snowSet_25 rfl
theorem dX12_snowSet_33 : decode cX12_snowSet 33 = .ok (.goto 4, 3) := dk167 (k := 8) bX12_snowSet_25 rfl (by decide)
theorem dX12_snowSet_36 : decode cX12_snowSet 36 = .ok (.iconst 0, 1) := dk3 (k := 11) bX12_snowSet_25 rfl
theorem dX12_snowSet_37 : decode cX12_snowSet 37 = .ok (.ior, 1) := dk128 (k := 12) bX12_snowSet_25 rfl
theorem dX12_snowSet_38 : decode cX12_snowSet 38 = .ok (.istore_n 1, 1) := dk60 (k := 13) bX12_snowSet_25 rfl
theorem dX12_snowSet_39 : decode cX12_snowSet 39 = .ok (.iinc 2 1, 3) := dk132 (k := 14) bX12_snowSet_25 rfl rfl (by decide)
theorem dX12_snowSet_42 : decode cX12_snowSet 42 = .ok (.goto (-38), 3) := dk167 (k := 17) bX12_snowSet_25 rfl (by decide)
theorem dX12_snowSet_45 : decode cX12_snowSet 45 = .ok (.iload_n 1, 1) := dk27 (k := 20) bX12_snowSet_25 rfl
theorem dX12_snowSet_46 : decode cX12_snowSet 46 = .ok (.ireturn, 1) := dk172 (k := 21) bX12_snowSet_25 rfl
theorem bX12_gainOf_0 : bL cX12_gainOf 0 [42, 27, 5, 182, 0, 220, 42, 42, 27, 3, 182, 0, 220, 182, 0, 223, 104, 42, 27, 6, 182, 0, 220, 42] := bL_of (by decide +kernel)
theorem dX12_gainOf_0 : decode cX12_gainOf 0 = .ok (.aload_n 0, 1) := dk42 (k := 0) bX12_gainOf_0 rfl
theorem dX12_gainOf_1 : decode cX12_gainOf 1 = .ok (.iload_n 1, 1) := dk27 (k := 1) bX12_gainOf_0 rfl
theorem dX12_gainOf_2 : decode cX12_gainOf 2 = .ok (.iconst 2, 1) := dk5 (k := 2) bX12_gainOf_0 rfl
theorem dX12_gainOf_3 : decode cX12_gainOf 3 = .ok (.invokevirtual 220, 3) := dk182 (k := 3) bX12_gainOf_0 rfl rfl
theorem dX12_gainOf_6 : decode cX12_gainOf 6 = .ok (.aload_n 0, 1) := dk42 (k := 6) bX12_gainOf_0 rfl
theorem dX12_gainOf_7 : decode cX12_gainOf 7 = .ok (.aload_n 0, 1) := dk42 (k := 7) bX12_gainOf_0 rfl
theorem dX12_gainOf_8 : decode cX12_gainOf 8 = .ok (.iload_n 1, 1) := dk27 (k := 8) bX12_gainOf_0 rfl
theorem dX12_gainOf_9 : decode cX12_gainOf 9 = .ok (.iconst 0, 1) := dk3 (k := 9) bX12_gainOf_0 rfl
theorem dX12_gainOf_10 : decode cX12_gainOf 10 = .ok (.invokevirtual 220, 3) := dk182 (k := 10) bX12_gainOf_0 rfl rfl
theorem dX12_gainOf_13 : decode cX12_gainOf 13 = .ok (.invokevirtual 223, 3) := dk182 (k := 13) bX12_gainOf_0 rfl rfl
theorem dX12_gainOf_16 : decode cX12_gainOf 16 = .ok (.imul, 1) := dk104 (k := 16) bX12_gainOf_0 rfl
theorem dX12_gainOf_17 : decode cX12_gainOf 17 = .ok (.aload_n 0, 1) := dk42 (k := 17) bX12_gainOf_0 rfl
theorem dX12_gainOf_18 : decode cX12_gainOf 18 = .ok (.iload_n 1, 1) := dk27 (k := 18) bX12_gainOf_0 rfl
theorem dX12_gainOf_19 : decode cX12_gainOf 19 = .ok (.iconst 3, 1) := dk6 (k := 19) bX12_gainOf_0 rfl
theorem dX12_gainOf_20 : decode cX12_gainOf 20 = .ok (.invokevirtual 220, 3) := dk182 (k := 20) bX12_gainOf_0 rfl rfl
theorem dX12_gainOf_23 : decode cX12_gainOf 23 = .ok (.aload_n 0, 1) := dk42 (k := 23) bX12_gainOf_0 rfl
theorem bX12_gainOf_24 : bL cX12_gainOf 24 [182, 0, 226, 184, 0, 229, 104, 96, 42, 27, 7, 182, 0, 220, 42, 180, 0, 34, 42, 182, 0, 200, 46, 104] := bL_of (by decide +kernel)
theorem dX12_gainOf_24 : decode cX12_gainOf 24 = .ok (.invokevirtual 226, 3) := dk182 (k := 0) bX12_gainOf_24 rfl rfl
theorem dX12_gainOf_27 : decode cX12_gainOf 27 = .ok (.invokestatic 229, 3) := dk184 (k := 3) bX12_gainOf_24 rfl rfl
theorem dX12_gainOf_30 : decode cX12_gainOf 30 = .ok (.imul, 1) := dk104 (k := 6) bX12_gainOf_24 rfl
theorem dX12_gainOf_31 : decode cX12_gainOf 31 = .ok (.iadd, 1) := dk96 (k := 7) bX12_gainOf_24 rfl
theorem dX12_gainOf_32 : decode cX12_gainOf 32 = .ok (.aload_n 0, 1) := dk42 (k := 8) bX12_gainOf_24 rfl
theorem dX12_gainOf_33 : decode cX12_gainOf 33 = .ok (.iload_n 1, 1) := dk27 (k := 9) bX12_gainOf_24 rfl
theorem dX12_gainOf_34 : decode cX12_gainOf 34 = .ok (.iconst 4, 1) := dk7 (k := 10) bX12_gainOf_24 rfl
theorem dX12_gainOf_35 : decode cX12_gainOf 35 = .ok (.invokevirtual 220, 3) := dk182 (k := 11) bX12_gainOf_24 rfl rfl
theorem dX12_gainOf_38 : decode cX12_gainOf 38 = .ok (.aload_n 0, 1) := dk42 (k := 14) bX12_gainOf_24 rfl
theorem dX12_gainOf_39 : decode cX12_gainOf 39 = .ok (.getfield 34, 3) := dk180 (k := 15) bX12_gainOf_24 rfl rfl
theorem dX12_gainOf_42 : decode cX12_gainOf 42 = .ok (.aload_n 0, 1) := dk42 (k := 18) bX12_gainOf_24 rfl
theorem dX12_gainOf_43 : decode cX12_gainOf 43 = .ok (.invokevirtual 200, 3) := dk182 (k := 19) bX12_gainOf_24 rfl rfl
theorem dX12_gainOf_46 : decode cX12_gainOf 46 = .ok (.iaload, 1) := dk46 (k := 22) bX12_gainOf_24 rfl
theorem dX12_gainOf_47 : decode cX12_gainOf 47 = .ok (.imul, 1) := dk104 (k := 23) bX12_gainOf_24 rfl
theorem bX12_gainOf_48 : bL cX12_gainOf 48 [96, 172] := bL_of (by decide +kernel)
theorem dX12_gainOf_48 : decode cX12_gainOf 48 = .ok (.iadd, 1) := dk96 (k := 0) bX12_gainOf_48 rfl
theorem dX12_gainOf_49 : decode cX12_gainOf 49 = .ok (.ireturn, 1) := dk172 (k := 1) bX12_gainOf_48 rfl
theorem bX12_gainOfAll_0 : bL cX12_gainOfAll 0 [3, 60, 3, 61, 28, 42, 180, 0, 9, 16, 6, 46, 162, 0, 17, 27, 42, 28, 182, 0, 232, 96, 60, 132, 2, 1] := bL_of (by decide +kernel)
theorem dX12_gainOfAll_0 : decode cX12_gainOfAll 0 = .ok (.iconst 0, 1) := dk3 (k := 0) bX12_gainOfAll_0 rfl
theorem dX12_gainOfAll_1 : decode cX12_gainOfAll 1 = .ok (.istore_n 1, 1) := dk60 (k := 1) bX12_gainOfAll_0 rfl
theorem dX12_gainOfAll_2 : decode cX12_gainOfAll 2 = .ok (.iconst 0, 1) := dk3 (k := 2) bX12_gainOfAll_0 rfl
theorem dX12_gainOfAll_3 : decode cX12_gainOfAll 3 = .ok (.istore_n 2, 1) := dk61 (k := 3) bX12_gainOfAll_0 rfl
theorem dX12_gainOfAll_4 : decode cX12_gainOfAll 4 = .ok (.iload_n 2, 1) := dk28 (k := 4) bX12_gainOfAll_0 rfl
theorem dX12_gainOfAll_5 : decode cX12_gainOfAll 5 = .ok (.aload_n 0, 1) := dk42 (k := 5) bX12_gainOfAll_0 rfl
theorem dX12_gainOfAll_6 : decode cX12_gainOfAll 6 = .ok (.getfield 9, 3) := dk180 (k := 6) bX12_gainOfAll_0 rfl rfl
theorem dX12_gainOfAll_9 : decode cX12_gainOfAll 9 = .ok (.bipush 6, 2) := dk16 (k := 9) bX12_gainOfAll_0 rfl (by decide)
theorem dX12_gainOfAll_11 : decode cX12_gainOfAll 11 = .ok (.iaload, 1) := dk46 (k := 11) bX12_gainOfAll_0 rfl
theorem dX12_gainOfAll_12 : decode cX12_gainOfAll 12 = .ok (.if_icmp .ge 17, 3) := dk162 (k := 12) bX12_gainOfAll_0 rfl (by decide)
theorem dX12_gainOfAll_15 : decode cX12_gainOfAll 15 = .ok (.iload_n 1, 1) := dk27 (k := 15) bX12_gainOfAll_0 rfl
theorem dX12_gainOfAll_16 : decode cX12_gainOfAll 16 = .ok (.aload_n 0, 1) := dk42 (k := 16) bX12_gainOfAll_0 rfl
theorem dX12_gainOfAll_17 : decode cX12_gainOfAll 17 = .ok (.iload_n 2, 1) := dk28 (k := 17) bX12_gainOfAll_0 rfl
theorem dX12_gainOfAll_18 : decode cX12_gainOfAll 18 = .ok (.invokevirtual 232, 3) := dk182 (k := 18) bX12_gainOfAll_0 rfl rfl
theorem dX12_gainOfAll_21 : decode cX12_gainOfAll 21 = .ok (.iadd, 1) := dk96 (k := 21) bX12_gainOfAll_0 rfl
theorem dX12_gainOfAll_22 : decode cX12_gainOfAll 22 = .ok (.istore_n 1, 1) := dk60 (k := 22) bX12_gainOfAll_0 rfl
theorem dX12_gainOfAll_23 : decode cX12_gainOfAll 23 = .ok (.iinc 2 1, 3) := dk132 (k := 23) bX12_gainOfAll_0 rfl rfl (by decide)
theorem bX12_gainOfAll_26 : bL cX12_gainOfAll 26 [167, 255, 234, 27, 172] := bL_of (by decide +kernel)
theorem dX12_gainOfAll_26 : decode cX12_gainOfAll 26 = .ok (.goto (-22), 3) := dk167 (k := 0) bX12_gainOfAll_26 rfl (by decide)
theorem dX12_gainOfAll_29 : decode cX12_gainOfAll 29 = .ok (.iload_n 1, 1) := dk27 (k := 3) bX12_gainOfAll_26 rfl
theorem dX12_gainOfAll_30 : decode cX12_gainOfAll 30 = .ok (.ireturn, 1) := dk172 (k := 4) bX12_gainOfAll_26 rfl
theorem bX12_folk_0 : bL cX12_folk 0 [42, 27, 133, 182, 0, 235, 153, 0, 24, 28, 133, 9, 20, 0, 238, 184, 0, 65, 153, 0, 12, 42, 27, 28] := bL_of (by decide +kernel)
theorem dX12_folk_0 : decode cX12_folk 0 = .ok (.aload_n 0, 1) := dk42 (k := 0) bX12_folk_0 rfl
theorem dX12_folk_1 : decode cX12_folk 1 = .ok (.iload_n 1, 1) := dk27 (k := 1) bX12_folk_0 rfl
theorem dX12_folk_2 : decode cX12_folk 2 = .ok (.i2l, 1) := dk133 (k := 2) bX12_folk_0 rfl
theorem dX12_folk_3 : decode cX12_folk 3 = .ok (.invokevirtual 235, 3) := dk182 (k := 3) bX12_folk_0 rfl rfl
theorem dX12_folk_6 : decode cX12_folk 6 = .ok (.ifCond .eq 24, 3) := dk153 (k := 6) bX12_folk_0 rfl (by decide)
theorem dX12_folk_9 : decode cX12_folk 9 = .ok (.iload_n 2, 1) := dk28 (k := 9) bX12_folk_0 rfl
theorem dX12_folk_10 : decode cX12_folk 10 = .ok (.i2l, 1) := dk133 (k := 10) bX12_folk_0 rfl
theorem dX12_folk_11 : decode cX12_folk 11 = .ok (.lconst 0, 1) := dk9 (k := 11) bX12_folk_0 rfl
theorem dX12_folk_12 : decode cX12_folk 12 = .ok (.ldc2_w 238, 3) := dk20 (k := 12) bX12_folk_0 rfl rfl
theorem dX12_folk_15 : decode cX12_folk 15 = .ok (.invokestatic 65, 3) := dk184 (k := 15) bX12_folk_0 rfl rfl
theorem dX12_folk_18 : decode cX12_folk 18 = .ok (.ifCond .eq 12, 3) := dk153 (k := 18) bX12_folk_0 rfl (by decide)
theorem dX12_folk_21 : decode cX12_folk 21 = .ok (.aload_n 0, 1) := dk42 (k := 21) bX12_folk_0 rfl
theorem dX12_folk_22 : decode cX12_folk 22 = .ok (.iload_n 1, 1) := dk27 (k := 22) bX12_folk_0 rfl
theorem dX12_folk_23 : decode cX12_folk 23 = .ok (.iload_n 2, 1) := dk28 (k := 23) bX12_folk_0 rfl
theorem bX12_folk_24 : bL cX12_folk 24 [182, 0, 220, 167, 0, 5, 16, 254, 172] := bL_of (by decide +kernel)
theorem dX12_folk_24 : decode cX12_folk 24 = .ok (.invokevirtual 220, 3) := dk182 (k := 0) bX12_folk_24 rfl rfl
theorem dX12_folk_27 : decode cX12_folk 27 = .ok (.goto 5, 3) := dk167 (k := 3) bX12_folk_24 rfl (by decide)
theorem dX12_folk_30 : decode cX12_folk 30 = .ok (.bipush (-2), 2) := dk16 (k := 6) bX12_folk_24 rfl (by decide)
theorem dX12_folk_32 : decode cX12_folk 32 = .ok (.ireturn, 1) := dk172 (k := 8) bX12_folk_24 rfl
theorem bX12_height_0 : bL cX12_height 0 [42, 27, 133, 182, 0, 203, 154, 0, 6, 16, 254, 172, 42, 182, 0, 240, 42, 180, 0, 34, 27, 46, 172] := bL_of (by decide +kernel)
theorem dX12_height_0 : decode cX12_height 0 = .ok (.aload_n 0, 1) := dk42 (k := 0) bX12_height_0 rfl
theorem dX12_height_1 : decode cX12_height 1 = .ok (.iload_n 1, 1) := dk27 (k := 1) bX12_height_0 rfl
theorem dX12_height_2 : decode cX12_height 2 = .ok (.i2l, 1) := dk133 (k := 2) bX12_height_0 rfl
theorem dX12_height_3 : decode cX12_height 3 = .ok (.invokevirtual 203, 3) := dk182 (k := 3) bX12_height_0 rfl rfl
theorem dX12_height_6 : decode cX12_height 6 = .ok (.ifCond .ne 6, 3) := dk154 (k := 6) bX12_height_0 rfl (by decide)
theorem dX12_height_9 : decode cX12_height 9 = .ok (.bipush (-2), 2) := dk16 (k := 9) bX12_height_0 rfl (by decide)
theorem dX12_height_11 : decode cX12_height 11 = .ok (.ireturn, 1) := dk172 (k := 11) bX12_height_0 rfl
theorem dX12_height_12 : decode cX12_height 12 = .ok (.aload_n 0, 1) := dk42 (k := 12) bX12_height_0 rfl
theorem dX12_height_13 : decode cX12_height 13 = .ok (.invokevirtual 240, 3) := dk182 (k := 13) bX12_height_0 rfl rfl
theorem dX12_height_16 : decode cX12_height 16 = .ok (.aload_n 0, 1) := dk42 (k := 16) bX12_height_0 rfl
theorem dX12_height_17 : decode cX12_height 17 = .ok (.getfield 34, 3) := dk180 (k := 17) bX12_height_0 rfl rfl
theorem dX12_height_20 : decode cX12_height 20 = .ok (.iload_n 1, 1) := dk27 (k := 20) bX12_height_0 rfl
theorem dX12_height_21 : decode cX12_height 21 = .ok (.iaload, 1) := dk46 (k := 21) bX12_height_0 rfl
theorem dX12_height_22 : decode cX12_height 22 = .ok (.ireturn, 1) := dk172 (k := 22) bX12_height_0 rfl
theorem bX12_shade_0 : bL cX12_shade 0 [42, 27, 133, 182, 0, 203, 153, 0, 11, 28, 133, 184, 0, 243, 154, 0, 6, 16, 254, 172, 42, 182, 0, 240] := bL_of (by decide +kernel)
theorem dX12_shade_0 : decode cX12_shade 0 = .ok (.aload_n 0, 1) := dk42 (k := 0) bX12_shade_0 rfl
theorem dX12_shade_1 : decode cX12_shade 1 = .ok (.iload_n 1, 1) := dk27 (k := 1) bX12_shade_0 rfl
theorem dX12_shade_2 : decode cX12_shade 2 = .ok (.i2l, 1) := dk133 (k := 2) bX12_shade_0 rfl
theorem dX12_shade_3 : decode cX12_shade 3 = .ok (.invokevirtual 203, 3) := dk182 (k := 3) bX12_shade_0 rfl rfl
theorem dX12_shade_6 : decode cX12_shade 6 = .ok (.ifCond .eq 11, 3) := dk153 (k := 6) bX12_shade_0 rfl (by decide)
theorem dX12_shade_9 : decode cX12_shade 9 = .ok (.iload_n 2, 1) := dk28 (k := 9) bX12_shade_0 rfl
theorem dX12_shade_10 : decode cX12_shade 10 = .ok (.i2l, 1) := dk133 (k := 10) bX12_shade_0 rfl
theorem dX12_shade_11 : decode cX12_shade 11 = .ok (.invokestatic 243, 3) := dk184 (k := 11) bX12_shade_0 rfl rfl
theorem dX12_shade_14 : decode cX12_shade 14 = .ok (.ifCond .ne 6, 3) := dk154 (k := 14) bX12_shade_0 rfl (by decide)
theorem dX12_shade_17 : decode cX12_shade 17 = .ok (.bipush (-2), 2) := dk16 (k := 17) bX12_shade_0 rfl (by decide)
theorem dX12_shade_19 : decode cX12_shade 19 = .ok (.ireturn, 1) := dk172 (k := 19) bX12_shade_0 rfl
theorem dX12_shade_20 : decode cX12_shade 20 = .ok (.aload_n 0, 1) := dk42 (k := 20) bX12_shade_0 rfl
theorem dX12_shade_21 : decode cX12_shade 21 = .ok (.invokevirtual 240, 3) := dk182 (k := 21) bX12_shade_0 rfl rfl
theorem bX12_shade_24 : bL cX12_shade 24 [42, 27, 28, 182, 0, 217, 153, 0, 7, 4, 167, 0, 4, 3, 172] := bL_of (by decide +kernel)
theorem dX12_shade_24 : decode cX12_shade 24 = .ok (.aload_n 0, 1) := dk42 (k := 0) bX12_shade_24 rfl
theorem dX12_shade_25 : decode cX12_shade 25 = .ok (.iload_n 1, 1) := dk27 (k := 1) bX12_shade_24 rfl
theorem dX12_shade_26 : decode cX12_shade 26 = .ok (.iload_n 2, 1) := dk28 (k := 2) bX12_shade_24 rfl
theorem dX12_shade_27 : decode cX12_shade 27 = .ok (.invokevirtual 217, 3) := dk182 (k := 3) bX12_shade_24 rfl rfl
theorem dX12_shade_30 : decode cX12_shade 30 = .ok (.ifCond .eq 7, 3) := dk153 (k := 6) bX12_shade_24 rfl (by decide)
theorem dX12_shade_33 : decode cX12_shade 33 = .ok (.iconst 1, 1) := dk4 (k := 9) bX12_shade_24 rfl
theorem dX12_shade_34 : decode cX12_shade 34 = .ok (.goto 4, 3) := dk167 (k := 10) bX12_shade_24 rfl (by decide)
theorem dX12_shade_37 : decode cX12_shade 37 = .ok (.iconst 0, 1) := dk3 (k := 13) bX12_shade_24 rfl
theorem dX12_shade_38 : decode cX12_shade 38 = .ok (.ireturn, 1) := dk172 (k := 14) bX12_shade_24 rfl
theorem bX12_light_0 : bL cX12_light 0 [42, 27, 133, 182, 0, 203, 154, 0, 6, 16, 254, 172, 42, 182, 0, 240, 42, 27, 182, 0, 223, 172] := bL_of (by decide +kernel)
theorem dX12_light_0 : decode cX12_light 0 = .ok (.aload_n 0, 1) := dk42 (k := 0) bX12_light_0 rfl
theorem dX12_light_1 : decode cX12_light 1 = .ok (.iload_n 1, 1) := dk27 (k := 1) bX12_light_0 rfl
theorem dX12_light_2 : decode cX12_light 2 = .ok (.i2l, 1) := dk133 (k := 2) bX12_light_0 rfl
theorem dX12_light_3 : decode cX12_light 3 = .ok (.invokevirtual 203, 3) := dk182 (k := 3) bX12_light_0 rfl rfl
theorem dX12_light_6 : decode cX12_light 6 = .ok (.ifCond .ne 6, 3) := dk154 (k := 6) bX12_light_0 rfl (by decide)
theorem dX12_light_9 : decode cX12_light 9 = .ok (.bipush (-2), 2) := dk16 (k := 9) bX12_light_0 rfl (by decide)
theorem dX12_light_11 : decode cX12_light 11 = .ok (.ireturn, 1) := dk172 (k := 11) bX12_light_0 rfl
theorem dX12_light_12 : decode cX12_light 12 = .ok (.aload_n 0, 1) := dk42 (k := 12) bX12_light_0 rfl
theorem dX12_light_13 : decode cX12_light 13 = .ok (.invokevirtual 240, 3) := dk182 (k := 13) bX12_light_0 rfl rfl
theorem dX12_light_16 : decode cX12_light 16 = .ok (.aload_n 0, 1) := dk42 (k := 16) bX12_light_0 rfl
theorem dX12_light_17 : decode cX12_light 17 = .ok (.iload_n 1, 1) := dk27 (k := 17) bX12_light_0 rfl
theorem dX12_light_18 : decode cX12_light 18 = .ok (.invokevirtual 223, 3) := dk182 (k := 18) bX12_light_0 rfl rfl
theorem dX12_light_21 : decode cX12_light 21 = .ok (.ireturn, 1) := dk172 (k := 21) bX12_light_0 rfl
theorem bX12_dark_0 : bL cX12_dark 0 [42, 182, 0, 73, 153, 0, 11, 27, 133, 184, 0, 243, 154, 0, 6, 16, 254, 172, 42, 182, 0, 240, 3, 61] := bL_of (by decide +kernel)
theorem dX12_dark_0 : decode cX12_dark 0 = .ok (.aload_n 0, 1) := dk42 (k := 0) bX12_dark_0 rfl
theorem dX12_dark_1 : decode cX12_dark 1 = .ok (.invokevirtual 73, 3) := dk182 (k := 1) bX12_dark_0 rfl rfl
theorem dX12_dark_4 : decode cX12_dark 4 = .ok (.ifCond .eq 11, 3) := dk153 (k := 4) bX12_dark_0 rfl (by decide)
theorem dX12_dark_7 : decode cX12_dark 7 = .ok (.iload_n 1, 1) := dk27 (k := 7) bX12_dark_0 rfl
theorem dX12_dark_8 : decode cX12_dark 8 = .ok (.i2l, 1) := dk133 (k := 8) bX12_dark_0 rfl
theorem dX12_dark_9 : decode cX12_dark 9 = .ok (.invokestatic 243, 3) := dk184 (k := 9) bX12_dark_0 rfl rfl
theorem dX12_dark_12 : decode cX12_dark 12 = .ok (.ifCond .ne 6, 3) := dk154 (k := 12) bX12_dark_0 rfl (by decide)
theorem dX12_dark_15 : decode cX12_dark 15 = .ok (.bipush (-2), 2) := dk16 (k := 15) bX12_dark_0 rfl (by decide)
theorem dX12_dark_17 : decode cX12_dark 17 = .ok (.ireturn, 1) := dk172 (k := 17) bX12_dark_0 rfl
theorem dX12_dark_18 : decode cX12_dark 18 = .ok (.aload_n 0, 1) := dk42 (k := 18) bX12_dark_0 rfl
theorem dX12_dark_19 : decode cX12_dark 19 = .ok (.invokevirtual 240, 3) := dk182 (k := 19) bX12_dark_0 rfl rfl
theorem dX12_dark_22 : decode cX12_dark 22 = .ok (.iconst 0, 1) := dk3 (k := 22) bX12_dark_0 rfl
theorem dX12_dark_23 : decode cX12_dark 23 = .ok (.istore_n 2, 1) := dk61 (k := 23) bX12_dark_0 rfl
theorem bX12_dark_24 : bL cX12_dark 24 [3, 62, 29, 42, 180, 0, 9, 3, 46, 162, 0, 28, 28, 42, 29, 27, 182, 0, 217, 153, 0, 9, 4, 29] := bL_of (by decide +kernel)
theorem dX12_dark_24 : decode cX12_dark 24 = .ok (.iconst 0, 1) := dk3 (k := 0) bX12_dark_24 rfl
theorem dX12_dark_25 : decode cX12_dark 25 = .ok (.istore_n 3, 1) := dk62 (k := 1) bX12_dark_24 rfl
theorem dX12_dark_26 : decode cX12_dark 26 = .ok (.iload_n 3, 1) := dk29 (k := 2) bX12_dark_24 rfl
theorem dX12_dark_27 : decode cX12_dark 27 = .ok (.aload_n 0, 1) := dk42 (k := 3) bX12_dark_24 rfl
theorem dX12_dark_28 : decode cX12_dark 28 = .ok (.getfield 9, 3) := dk180 (k := 4) bX12_dark_24 rfl rfl
theorem dX12_dark_31 : decode cX12_dark 31 = .ok (.iconst 0, 1) := dk3 (k := 7) bX12_dark_24 rfl
theorem dX12_dark_32 : decode cX12_dark 32 = .ok (.iaload, 1) := dk46 (k := 8) bX12_dark_24 rfl
theorem dX12_dark_33 : decode cX12_dark 33 = .ok (.if_icmp .ge 28, 3) := dk162 (k := 9) bX12_dark_24 rfl (by decide)
theorem dX12_dark_36 : decode cX12_dark 36 = .ok (.iload_n 2, 1) := dk28 (k := 12) bX12_dark_24 rfl
theorem dX12_dark_37 : decode cX12_dark 37 = .ok (.aload_n 0, 1) := dk42 (k := 13) bX12_dark_24 rfl
theorem dX12_dark_38 : decode cX12_dark 38 = .ok (.iload_n 3, 1) := dk29 (k := 14) bX12_dark_24 rfl
theorem dX12_dark_39 : decode cX12_dark 39 = .ok (.iload_n 1, 1) := dk27 (k := 15) bX12_dark_24 rfl
theorem dX12_dark_40 : decode cX12_dark 40 = .ok (.invokevirtual 217, 3) := dk182 (k := 16) bX12_dark_24 rfl rfl
theorem dX12_dark_43 : decode cX12_dark 43 = .ok (.ifCond .eq 9, 3) := dk153 (k := 19) bX12_dark_24 rfl (by decide)
theorem dX12_dark_46 : decode cX12_dark 46 = .ok (.iconst 1, 1) := dk4 (k := 22) bX12_dark_24 rfl
theorem dX12_dark_47 : decode cX12_dark 47 = .ok (.iload_n 3, 1) := dk29 (k := 23) bX12_dark_24 rfl
theorem bX12_dark_48 : bL cX12_dark 48 [120, 167, 0, 4, 3, 128, 61, 132, 3, 1, 167, 255, 224, 28, 172] := bL_of (by decide +kernel)
theorem dX12_dark_48 : decode cX12_dark 48 = .ok (.ishl, 1) := dk120 (k := 0) bX12_dark_48 rfl
theorem dX12_dark_49 : decode cX12_dark 49 = .ok (.goto 4, 3) := dk167 (k := 1) bX12_dark_48 rfl (by decide)
theorem dX12_dark_52 : decode cX12_dark 52 = .ok (.iconst 0, 1) := dk3 (k := 4) bX12_dark_48 rfl
theorem dX12_dark_53 : decode cX12_dark 53 = .ok (.ior, 1) := dk128 (k := 5) bX12_dark_48 rfl
theorem dX12_dark_54 : decode cX12_dark 54 = .ok (.istore_n 2, 1) := dk61 (k := 6) bX12_dark_48 rfl
theorem dX12_dark_55 : decode cX12_dark 55 = .ok (.iinc 3 1, 3) := dk132 (k := 7) bX12_dark_48 rfl rfl (by decide)
theorem dX12_dark_58 : decode cX12_dark 58 = .ok (.goto (-32), 3) := dk167 (k := 10) bX12_dark_48 rfl (by decide)
theorem dX12_dark_61 : decode cX12_dark 61 = .ok (.iload_n 2, 1) := dk28 (k := 13) bX12_dark_48 rfl
theorem dX12_dark_62 : decode cX12_dark 62 = .ok (.ireturn, 1) := dk172 (k := 14) bX12_dark_48 rfl
theorem bX12_snow_0 : bL cX12_snow 0 [42, 182, 0, 73, 154, 0, 6, 16, 254, 172, 42, 182, 0, 240, 42, 182, 0, 226, 172] := bL_of (by decide +kernel)
theorem dX12_snow_0 : decode cX12_snow 0 = .ok (.aload_n 0, 1) := dk42 (k := 0) bX12_snow_0 rfl
theorem dX12_snow_1 : decode cX12_snow 1 = .ok (.invokevirtual 73, 3) := dk182 (k := 1) bX12_snow_0 rfl rfl
theorem dX12_snow_4 : decode cX12_snow 4 = .ok (.ifCond .ne 6, 3) := dk154 (k := 4) bX12_snow_0 rfl (by decide)
theorem dX12_snow_7 : decode cX12_snow 7 = .ok (.bipush (-2), 2) := dk16 (k := 7) bX12_snow_0 rfl (by decide)
theorem dX12_snow_9 : decode cX12_snow 9 = .ok (.ireturn, 1) := dk172 (k := 9) bX12_snow_0 rfl
theorem dX12_snow_10 : decode cX12_snow 10 = .ok (.aload_n 0, 1) := dk42 (k := 10) bX12_snow_0 rfl
theorem dX12_snow_11 : decode cX12_snow 11 = .ok (.invokevirtual 240, 3) := dk182 (k := 11) bX12_snow_0 rfl rfl
theorem dX12_snow_14 : decode cX12_snow 14 = .ok (.aload_n 0, 1) := dk42 (k := 14) bX12_snow_0 rfl
theorem dX12_snow_15 : decode cX12_snow 15 = .ok (.invokevirtual 226, 3) := dk182 (k := 15) bX12_snow_0 rfl rfl
theorem dX12_snow_18 : decode cX12_snow 18 = .ok (.ireturn, 1) := dk172 (k := 18) bX12_snow_0 rfl
theorem bX12_top_0 : bL cX12_top 0 [42, 182, 0, 73, 154, 0, 6, 16, 254, 172, 42, 182, 0, 240, 42, 182, 0, 200, 172] := bL_of (by decide +kernel)
theorem dX12_top_0 : decode cX12_top 0 = .ok (.aload_n 0, 1) := dk42 (k := 0) bX12_top_0 rfl
theorem dX12_top_1 : decode cX12_top 1 = .ok (.invokevirtual 73, 3) := dk182 (k := 1) bX12_top_0 rfl rfl
theorem dX12_top_4 : decode cX12_top 4 = .ok (.ifCond .ne 6, 3) := dk154 (k := 4) bX12_top_0 rfl (by decide)
theorem dX12_top_7 : decode cX12_top 7 = .ok (.bipush (-2), 2) := dk16 (k := 7) bX12_top_0 rfl (by decide)
theorem dX12_top_9 : decode cX12_top 9 = .ok (.ireturn, 1) := dk172 (k := 9) bX12_top_0 rfl
theorem dX12_top_10 : decode cX12_top 10 = .ok (.aload_n 0, 1) := dk42 (k := 10) bX12_top_0 rfl
theorem dX12_top_11 : decode cX12_top 11 = .ok (.invokevirtual 240, 3) := dk182 (k := 11) bX12_top_0 rfl rfl
theorem dX12_top_14 : decode cX12_top 14 = .ok (.aload_n 0, 1) := dk42 (k := 14) bX12_top_0 rfl
theorem dX12_top_15 : decode cX12_top 15 = .ok (.invokevirtual 200, 3) := dk182 (k := 15) bX12_top_0 rfl rfl
theorem dX12_top_18 : decode cX12_top 18 = .ok (.ireturn, 1) := dk172 (k := 18) bX12_top_0 rfl
theorem bX12_gain_0 : bL cX12_gain 0 [42, 27, 133, 182, 0, 235, 154, 0, 7, 17, 252, 24, 172, 42, 182, 0, 240, 42, 27, 182, 0, 232, 172] := bL_of (by decide +kernel)
theorem dX12_gain_0 : decode cX12_gain 0 = .ok (.aload_n 0, 1) := dk42 (k := 0) bX12_gain_0 rfl
theorem dX12_gain_1 : decode cX12_gain 1 = .ok (.iload_n 1, 1) := dk27 (k := 1) bX12_gain_0 rfl
theorem dX12_gain_2 : decode cX12_gain 2 = .ok (.i2l, 1) := dk133 (k := 2) bX12_gain_0 rfl
theorem dX12_gain_3 : decode cX12_gain 3 = .ok (.invokevirtual 235, 3) := dk182 (k := 3) bX12_gain_0 rfl rfl
theorem dX12_gain_6 : decode cX12_gain 6 = .ok (.ifCond .ne 7, 3) := dk154 (k := 6) bX12_gain_0 rfl (by decide)
theorem dX12_gain_9 : decode cX12_gain 9 = .ok (.sipush (-1000), 3) := dk17 (k := 9) bX12_gain_0 rfl (by decide)
theorem dX12_gain_12 : decode cX12_gain 12 = .ok (.ireturn, 1) := dk172 (k := 12) bX12_gain_0 rfl
theorem dX12_gain_13 : decode cX12_gain 13 = .ok (.aload_n 0, 1) := dk42 (k := 13) bX12_gain_0 rfl
theorem dX12_gain_14 : decode cX12_gain 14 = .ok (.invokevirtual 240, 3) := dk182 (k := 14) bX12_gain_0 rfl rfl
theorem dX12_gain_17 : decode cX12_gain 17 = .ok (.aload_n 0, 1) := dk42 (k := 17) bX12_gain_0 rfl
theorem dX12_gain_18 : decode cX12_gain 18 = .ok (.iload_n 1, 1) := dk27 (k := 18) bX12_gain_0 rfl
theorem dX12_gain_19 : decode cX12_gain 19 = .ok (.invokevirtual 232, 3) := dk182 (k := 19) bX12_gain_0 rfl rfl
theorem dX12_gain_22 : decode cX12_gain 22 = .ok (.ireturn, 1) := dk172 (k := 22) bX12_gain_0 rfl
theorem bX12_hopesOf_0 : bL cX12_hopesOf 0 [42, 182, 0, 240, 42, 27, 182, 0, 232, 62, 3, 54, 4, 21, 4, 28, 162, 0, 14, 42, 182, 0, 194, 87] := bL_of (by decide +kernel)
theorem dX12_hopesOf_0 : decode cX12_hopesOf 0 = .ok (.aload_n 0, 1) := dk42 (k := 0) bX12_hopesOf_0 rfl
theorem dX12_hopesOf_1 : decode cX12_hopesOf 1 = .ok (.invokevirtual 240, 3) := dk182 (k := 1) bX12_hopesOf_0 rfl rfl
theorem dX12_hopesOf_4 : decode cX12_hopesOf 4 = .ok (.aload_n 0, 1) := dk42 (k := 4) bX12_hopesOf_0 rfl
theorem dX12_hopesOf_5 : decode cX12_hopesOf 5 = .ok (.iload_n 1, 1) := dk27 (k := 5) bX12_hopesOf_0 rfl
theorem dX12_hopesOf_6 : decode cX12_hopesOf 6 = .ok (.invokevirtual 232, 3) := dk182 (k := 6) bX12_hopesOf_0 rfl rfl
theorem dX12_hopesOf_9 : decode cX12_hopesOf 9 = .ok (.istore_n 3, 1) := dk62 (k := 9) bX12_hopesOf_0 rfl
theorem dX12_hopesOf_10 : decode cX12_hopesOf 10 = .ok (.iconst 0, 1) := dk3 (k := 10) bX12_hopesOf_0 rfl
theorem dX12_hopesOf_11 : decode cX12_hopesOf 11 = .ok (.istore 4, 2) := dk54 (k := 11) bX12_hopesOf_0 rfl rfl
theorem dX12_hopesOf_13 : decode cX12_hopesOf 13 = .ok (.iload 4, 2) := dk21 (k := 13) bX12_hopesOf_0 rfl rfl
theorem dX12_hopesOf_15 : decode cX12_hopesOf 15 = .ok (.iload_n 2, 1) := dk28 (k := 15) bX12_hopesOf_0 rfl
theorem dX12_hopesOf_16 : decode cX12_hopesOf 16 = .ok (.if_icmp .ge 14, 3) := dk162 (k := 16) bX12_hopesOf_0 rfl (by decide)
theorem dX12_hopesOf_19 : decode cX12_hopesOf 19 = .ok (.aload_n 0, 1) := dk42 (k := 19) bX12_hopesOf_0 rfl
theorem dX12_hopesOf_20 : decode cX12_hopesOf 20 = .ok (.invokevirtual 194, 3) := dk182 (k := 20) bX12_hopesOf_0 rfl rfl
theorem dX12_hopesOf_23 : decode cX12_hopesOf 23 = .ok (.pop, 1) := dk87 (k := 23) bX12_hopesOf_0 rfl
theorem bX12_hopesOf_24 : bL cX12_hopesOf 24 [132, 4, 1, 167, 255, 242, 42, 27, 182, 0, 232, 29, 100, 172] := bL_of (by decide +kernel)
theorem dX12_hopesOf_24 : decode cX12_hopesOf 24 = .ok (.iinc 4 1, 3) := dk132 (k := 0) bX12_hopesOf_24 rfl rfl (by decide)
theorem dX12_hopesOf_27 : decode cX12_hopesOf 27 = .ok (.goto (-14), 3) := dk167 (k := 3) bX12_hopesOf_24 rfl (by decide)
theorem dX12_hopesOf_30 : decode cX12_hopesOf 30 = .ok (.aload_n 0, 1) := dk42 (k := 6) bX12_hopesOf_24 rfl
theorem dX12_hopesOf_31 : decode cX12_hopesOf 31 = .ok (.iload_n 1, 1) := dk27 (k := 7) bX12_hopesOf_24 rfl
theorem dX12_hopesOf_32 : decode cX12_hopesOf 32 = .ok (.invokevirtual 232, 3) := dk182 (k := 8) bX12_hopesOf_24 rfl rfl
theorem dX12_hopesOf_35 : decode cX12_hopesOf 35 = .ok (.iload_n 3, 1) := dk29 (k := 11) bX12_hopesOf_24 rfl
theorem dX12_hopesOf_36 : decode cX12_hopesOf 36 = .ok (.isub, 1) := dk100 (k := 12) bX12_hopesOf_24 rfl
theorem dX12_hopesOf_37 : decode cX12_hopesOf 37 = .ok (.ireturn, 1) := dk172 (k := 13) bX12_hopesOf_24 rfl
theorem bX12_hopes_0 : bL cX12_hopes 0 [42, 27, 133, 182, 0, 235, 153, 0, 24, 28, 133, 9, 20, 0, 246, 184, 0, 65, 153, 0, 12, 42, 27, 28] := bL_of (by decide +kernel)
theorem dX12_hopes_0 : decode cX12_hopes 0 = .ok (.aload_n 0, 1) := dk42 (k := 0) bX12_hopes_0 rfl
theorem dX12_hopes_1 : decode cX12_hopes 1 = .ok (.iload_n 1, 1) := dk27 (k := 1) bX12_hopes_0 rfl
theorem dX12_hopes_2 : decode cX12_hopes 2 = .ok (.i2l, 1) := dk133 (k := 2) bX12_hopes_0 rfl
theorem dX12_hopes_3 : decode cX12_hopes 3 = .ok (.invokevirtual 235, 3) := dk182 (k := 3) bX12_hopes_0 rfl rfl
theorem dX12_hopes_6 : decode cX12_hopes 6 = .ok (.ifCond .eq 24, 3) := dk153 (k := 6) bX12_hopes_0 rfl (by decide)
theorem dX12_hopes_9 : decode cX12_hopes 9 = .ok (.iload_n 2, 1) := dk28 (k := 9) bX12_hopes_0 rfl
theorem dX12_hopes_10 : decode cX12_hopes 10 = .ok (.i2l, 1) := dk133 (k := 10) bX12_hopes_0 rfl
theorem dX12_hopes_11 : decode cX12_hopes 11 = .ok (.lconst 0, 1) := dk9 (k := 11) bX12_hopes_0 rfl
theorem dX12_hopes_12 : decode cX12_hopes 12 = .ok (.ldc2_w 246, 3) := dk20 (k := 12) bX12_hopes_0 rfl rfl
theorem dX12_hopes_15 : decode cX12_hopes 15 = .ok (.invokestatic 65, 3) := dk184 (k := 15) bX12_hopes_0 rfl rfl
theorem dX12_hopes_18 : decode cX12_hopes 18 = .ok (.ifCond .eq 12, 3) := dk153 (k := 18) bX12_hopes_0 rfl (by decide)
theorem dX12_hopes_21 : decode cX12_hopes 21 = .ok (.aload_n 0, 1) := dk42 (k := 21) bX12_hopes_0 rfl
theorem dX12_hopes_22 : decode cX12_hopes 22 = .ok (.iload_n 1, 1) := dk27 (k := 22) bX12_hopes_0 rfl
theorem dX12_hopes_23 : decode cX12_hopes 23 = .ok (.iload_n 2, 1) := dk28 (k := 23) bX12_hopes_0 rfl
theorem bX12_hopes_24 : bL cX12_hopes 24 [182, 0, 248, 167, 0, 6, 17, 252, 24, 172] := bL_of (by decide +kernel)
theorem dX12_hopes_24 : decode cX12_hopes 24 = .ok (.invokevirtual 248, 3) := dk182 (k := 0) bX12_hopes_24 rfl rfl
theorem dX12_hopes_27 : decode cX12_hopes 27 = .ok (.goto 6, 3) := dk167 (k := 3) bX12_hopes_24 rfl (by decide)
theorem dX12_hopes_30 : decode cX12_hopes 30 = .ok (.sipush (-1000), 3) := dk17 (k := 6) bX12_hopes_24 rfl (by decide)
theorem dX12_hopes_33 : decode cX12_hopes 33 = .ok (.ireturn, 1) := dk172 (k := 9) bX12_hopes_24 rfl
theorem bX12_wishes_0 : bL cX12_wishes 0 [42, 27, 133, 182, 0, 235, 154, 0, 6, 16, 254, 172, 3, 61, 4, 62, 29, 16, 20, 163, 0, 30, 42, 27] := bL_of (by decide +kernel)
theorem dX12_wishes_0 : decode cX12_wishes 0 = .ok (.aload_n 0, 1) := dk42 (k := 0) bX12_wishes_0 rfl
theorem dX12_wishes_1 : decode cX12_wishes 1 = .ok (.iload_n 1, 1) := dk27 (k := 1) bX12_wishes_0 rfl
theorem dX12_wishes_2 : decode cX12_wishes 2 = .ok (.i2l, 1) := dk133 (k := 2) bX12_wishes_0 rfl
theorem dX12_wishes_3 : decode cX12_wishes 3 = .ok (.invokevirtual 235, 3) := dk182 (k := 3) bX12_wishes_0 rfl rfl
theorem dX12_wishes_6 : decode cX12_wishes 6 = .ok (.ifCond .ne 6, 3) := dk154 (k := 6) bX12_wishes_0 rfl (by decide)
theorem dX12_wishes_9 : decode cX12_wishes 9 = .ok (.bipush (-2), 2) := dk16 (k := 9) bX12_wishes_0 rfl (by decide)
theorem dX12_wishes_11 : decode cX12_wishes 11 = .ok (.ireturn, 1) := dk172 (k := 11) bX12_wishes_0 rfl
theorem dX12_wishes_12 : decode cX12_wishes 12 = .ok (.iconst 0, 1) := dk3 (k := 12) bX12_wishes_0 rfl
theorem dX12_wishes_13 : decode cX12_wishes 13 = .ok (.istore_n 2, 1) := dk61 (k := 13) bX12_wishes_0 rfl
theorem dX12_wishes_14 : decode cX12_wishes 14 = .ok (.iconst 1, 1) := dk4 (k := 14) bX12_wishes_0 rfl
theorem dX12_wishes_15 : decode cX12_wishes 15 = .ok (.istore_n 3, 1) := dk62 (k := 15) bX12_wishes_0 rfl
theorem dX12_wishes_16 : decode cX12_wishes 16 = .ok (.iload_n 3, 1) := dk29 (k := 16) bX12_wishes_0 rfl
theorem dX12_wishes_17 : decode cX12_wishes 17 = .ok (.bipush 20, 2) := dk16 (k := 17) bX12_wishes_0 rfl (by decide)
theorem dX12_wishes_19 : decode cX12_wishes 19 = .ok (.if_icmp .gt 30, 3) := dk163 (k := 19) bX12_wishes_0 rfl (by decide)
theorem dX12_wishes_22 : decode cX12_wishes 22 = .ok (.aload_n 0, 1) := dk42 (k := 22) bX12_wishes_0 rfl
theorem dX12_wishes_23 : decode cX12_wishes 23 = .ok (.iload_n 1, 1) := dk27 (k := 23) bX12_wishes_0 rfl
theorem bX12_wishes_24 : bL cX12_wishes 24 [29, 182, 0, 248, 42, 27, 28, 182, 0, 248, 164, 0, 7, 29, 167, 0, 4, 28, 61, 132, 3, 1, 167, 255, 226] := bL_of (by decide +kernel)
theorem dX12_wishes_24 : decode cX12_wishes 24 = .ok (.iload_n 3, 1) := dk29 (k := 0) bX12_wishes_24 rfl
theorem dX12_wishes_25 : decode cX12_wishes 25 = .ok (.invokevirtual 248, 3) := dk182 (k := 1) bX12_wishes_24 rfl rfl
theorem dX12_wishes_28 : decode cX12_wishes 28 = .ok (.aload_n 0, 1) := dk42 (k := 4) bX12_wishes_24 rfl
theorem dX12_wishes_29 : decode cX12_wishes 29 = .ok (.iload_n 1, 1) := dk27 (k := 5) bX12_wishes_24 rfl
theorem dX12_wishes_30 : decode cX12_wishes 30 = .ok (.iload_n 2, 1) := dk28 (k := 6) bX12_wishes_24 rfl
theorem dX12_wishes_31 : decode cX12_wishes 31 = .ok (.invokevirtual 248, 3) := dk182 (k := 7) bX12_wishes_24 rfl rfl
theorem dX12_wishes_34 : decode cX12_wishes 34 = .ok (.if_icmp .le 7, 3) := dk164 (k := 10) bX12_wishes_24 rfl (by decide)
theorem dX12_wishes_37 : decode cX12_wishes 37 = .ok (.iload_n 3, 1) := dk29 (k := 13) bX12_wishes_24 rfl
theorem dX12_wishes_38 : decode cX12_wishes 38 = .ok (.goto 4, 3) := dk167 (k := 14) bX12_wishes_24 rfl (by decide)
theorem dX12_wishes_41 : decode cX12_wishes 41 = .ok (.iload_n 2, 1) := dk28 (k := 17) bX12_wishes_24 rfl
theorem dX12_wishes_42 : decode cX12_wishes 42 = .ok (.istore_n 2, 1) := dk61 (k := 18) bX12_wishes_24 rfl
theorem dX12_wishes_43 : decode cX12_wishes 43 = .ok (.iinc 3 1, 3) := dk132 (k := 19) bX12_wishes_24 rfl rfl (by decide)
theorem dX12_wishes_46 : decode cX12_wishes 46 = .ok (.goto (-30), 3) := dk167 (k := 22) bX12_wishes_24 rfl (by decide)
theorem bX12_wishes_49 : bL cX12_wishes 49 [28, 172] := bL_of (by decide +kernel)
theorem dX12_wishes_49 : decode cX12_wishes 49 = .ok (.iload_n 2, 1) := dk28 (k := 0) bX12_wishes_49 rfl
theorem dX12_wishes_50 : decode cX12_wishes 50 = .ok (.ireturn, 1) := dk172 (k := 1) bX12_wishes_49 rfl
theorem bX12_gains_0 : bL cX12_gains 0 [42, 182, 0, 73, 154, 0, 6, 16, 254, 172, 42, 182, 0, 240, 42, 182, 0, 251, 172] := bL_of (by decide +kernel)
theorem dX12_gains_0 : decode cX12_gains 0 = .ok (.aload_n 0, 1) := dk42 (k := 0) bX12_gains_0 rfl
theorem dX12_gains_1 : decode cX12_gains 1 = .ok (.invokevirtual 73, 3) := dk182 (k := 1) bX12_gains_0 rfl rfl
theorem dX12_gains_4 : decode cX12_gains 4 = .ok (.ifCond .ne 6, 3) := dk154 (k := 4) bX12_gains_0 rfl (by decide)
theorem dX12_gains_7 : decode cX12_gains 7 = .ok (.bipush (-2), 2) := dk16 (k := 7) bX12_gains_0 rfl (by decide)
theorem dX12_gains_9 : decode cX12_gains 9 = .ok (.ireturn, 1) := dk172 (k := 9) bX12_gains_0 rfl
theorem dX12_gains_10 : decode cX12_gains 10 = .ok (.aload_n 0, 1) := dk42 (k := 10) bX12_gains_0 rfl
theorem dX12_gains_11 : decode cX12_gains 11 = .ok (.invokevirtual 240, 3) := dk182 (k := 11) bX12_gains_0 rfl rfl
theorem dX12_gains_14 : decode cX12_gains 14 = .ok (.aload_n 0, 1) := dk42 (k := 14) bX12_gains_0 rfl
theorem dX12_gains_15 : decode cX12_gains 15 = .ok (.invokevirtual 251, 3) := dk182 (k := 15) bX12_gains_0 rfl rfl
theorem dX12_gains_18 : decode cX12_gains 18 = .ok (.ireturn, 1) := dk172 (k := 18) bX12_gains_0 rfl
theorem bX12_keepAct_0 : bL cX12_keepAct 0 [42, 180, 0, 9, 16, 75, 42, 180, 0, 9, 16, 8, 46, 96, 27, 79, 42, 180, 0, 9, 16, 8, 92, 46] := bL_of (by decide +kernel)
theorem dX12_keepAct_0 : decode cX12_keepAct 0 = .ok (.aload_n 0, 1) := dk42 (k := 0) bX12_keepAct_0 rfl
theorem dX12_keepAct_1 : decode cX12_keepAct 1 = .ok (.getfield 9, 3) := dk180 (k := 1) bX12_keepAct_0 rfl rfl
theorem dX12_keepAct_4 : decode cX12_keepAct 4 = .ok (.bipush 75, 2) := dk16 (k := 4) bX12_keepAct_0 rfl (by decide)
theorem dX12_keepAct_6 : decode cX12_keepAct 6 = .ok (.aload_n 0, 1) := dk42 (k := 6) bX12_keepAct_0 rfl
theorem dX12_keepAct_7 : decode cX12_keepAct 7 = .ok (.getfield 9, 3) := dk180 (k := 7) bX12_keepAct_0 rfl rfl
theorem dX12_keepAct_10 : decode cX12_keepAct 10 = .ok (.bipush 8, 2) := dk16 (k := 10) bX12_keepAct_0 rfl (by decide)
theorem dX12_keepAct_12 : decode cX12_keepAct 12 = .ok (.iaload, 1) := dk46 (k := 12) bX12_keepAct_0 rfl
theorem dX12_keepAct_13 : decode cX12_keepAct 13 = .ok (.iadd, 1) := dk96 (k := 13) bX12_keepAct_0 rfl
theorem dX12_keepAct_14 : decode cX12_keepAct 14 = .ok (.iload_n 1, 1) := dk27 (k := 14) bX12_keepAct_0 rfl
theorem dX12_keepAct_15 : decode cX12_keepAct 15 = .ok (.iastore, 1) := dk79 (k := 15) bX12_keepAct_0 rfl
theorem dX12_keepAct_16 : decode cX12_keepAct 16 = .ok (.aload_n 0, 1) := dk42 (k := 16) bX12_keepAct_0 rfl
theorem dX12_keepAct_17 : decode cX12_keepAct 17 = .ok (.getfield 9, 3) := dk180 (k := 17) bX12_keepAct_0 rfl rfl
theorem dX12_keepAct_20 : decode cX12_keepAct 20 = .ok (.bipush 8, 2) := dk16 (k := 20) bX12_keepAct_0 rfl (by decide)
theorem dX12_keepAct_22 : decode cX12_keepAct 22 = .ok (.dup2, 1) := dk92 (k := 22) bX12_keepAct_0 rfl
theorem dX12_keepAct_23 : decode cX12_keepAct 23 = .ok (.iaload, 1) := dk46 (k := 23) bX12_keepAct_0 rfl
theorem bX12_keepAct_24 : bL cX12_keepAct 24 [4, 96, 79, 177] := bL_of (by decide +kernel)
theorem dX12_keepAct_24 : decode cX12_keepAct 24 = .ok (.iconst 1, 1) := dk4 (k := 0) bX12_keepAct_24 rfl
theorem dX12_keepAct_25 : decode cX12_keepAct 25 = .ok (.iadd, 1) := dk96 (k := 1) bX12_keepAct_24 rfl
theorem dX12_keepAct_26 : decode cX12_keepAct 26 = .ok (.iastore, 1) := dk79 (k := 2) bX12_keepAct_24 rfl
theorem dX12_keepAct_27 : decode cX12_keepAct 27 = .ok (.return_, 1) := dk177 (k := 3) bX12_keepAct_24 rfl
theorem bX12_take_0 : bL cX12_take 0 [42, 182, 0, 73, 154, 0, 6, 16, 254, 172, 42, 182, 0, 240, 42, 182, 0, 200, 60, 42, 180, 0, 34, 27] := bL_of (by decide +kernel)
theorem dX12_take_0 : decode cX12_take 0 = .ok (.aload_n 0, 1) := dk42 (k := 0) bX12_take_0 rfl
theorem dX12_take_1 : decode cX12_take 1 = .ok (.invokevirtual 73, 3) := dk182 (k := 1) bX12_take_0 rfl rfl
theorem dX12_take_4 : decode cX12_take 4 = .ok (.ifCond .ne 6, 3) := dk154 (k := 4) bX12_take_0 rfl (by decide)
theorem dX12_take_7 : decode cX12_take 7 = .ok (.bipush (-2), 2) := dk16 (k := 7) bX12_take_0 rfl (by decide)
theorem dX12_take_9 : decode cX12_take 9 = .ok (.ireturn, 1) := dk172 (k := 9) bX12_take_0 rfl
theorem dX12_take_10 : decode cX12_take 10 = .ok (.aload_n 0, 1) := dk42 (k := 10) bX12_take_0 rfl
theorem dX12_take_11 : decode cX12_take 11 = .ok (.invokevirtual 240, 3) := dk182 (k := 11) bX12_take_0 rfl rfl
theorem dX12_take_14 : decode cX12_take 14 = .ok (.aload_n 0, 1) := dk42 (k := 14) bX12_take_0 rfl
theorem dX12_take_15 : decode cX12_take 15 = .ok (.invokevirtual 200, 3) := dk182 (k := 15) bX12_take_0 rfl rfl
theorem dX12_take_18 : decode cX12_take 18 = .ok (.istore_n 1, 1) := dk60 (k := 18) bX12_take_0 rfl
theorem dX12_take_19 : decode cX12_take 19 = .ok (.aload_n 0, 1) := dk42 (k := 19) bX12_take_0 rfl
theorem dX12_take_20 : decode cX12_take 20 = .ok (.getfield 34, 3) := dk180 (k := 20) bX12_take_0 rfl rfl
theorem dX12_take_23 : decode cX12_take 23 = .ok (.iload_n 1, 1) := dk27 (k := 23) bX12_take_0 rfl
theorem bX12_take_24 : bL cX12_take 24 [46, 153, 0, 15, 42, 180, 0, 9, 16, 8, 46, 16, 60, 160, 0, 6, 16, 251, 172, 42, 3, 182, 0, 254] := bL_of (by decide +kernel)
theorem dX12_take_24 : decode cX12_take 24 = .ok (.iaload, 1) := dk46 (k := 0) bX12_take_24 rfl
theorem dX12_take_25 : decode cX12_take 25 = .ok (.ifCond .eq 15, 3) := dk153 (k := 1) bX12_take_24 rfl (by decide)
theorem dX12_take_28 : decode cX12_take 28 = .ok (.aload_n 0, 1) := dk42 (k := 4) bX12_take_24 rfl
theorem dX12_take_29 : decode cX12_take 29 = .ok (.getfield 9, 3) := dk180 (k := 5) bX12_take_24 rfl rfl
theorem dX12_take_32 : decode cX12_take 32 = .ok (.bipush 8, 2) := dk16 (k := 8) bX12_take_24 rfl (by decide)
theorem dX12_take_34 : decode cX12_take 34 = .ok (.iaload, 1) := dk46 (k := 10) bX12_take_24 rfl
theorem dX12_take_35 : decode cX12_take 35 = .ok (.bipush 60, 2) := dk16 (k := 11) bX12_take_24 rfl (by decide)
theorem dX12_take_37 : decode cX12_take 37 = .ok (.if_icmp .ne 6, 3) := dk160 (k := 13) bX12_take_24 rfl (by decide)
theorem dX12_take_40 : decode cX12_take 40 = .ok (.bipush (-5), 2) := dk16 (k := 16) bX12_take_24 rfl (by decide)
theorem dX12_take_42 : decode cX12_take 42 = .ok (.ireturn, 1) := dk172 (k := 18) bX12_take_24 rfl
theorem dX12_take_43 : decode cX12_take 43 = .ok (.aload_n 0, 1) := dk42 (k := 19) bX12_take_24 rfl
theorem dX12_take_44 : decode cX12_take 44 = .ok (.iconst 0, 1) := dk3 (k := 20) bX12_take_24 rfl
theorem dX12_take_45 : decode cX12_take 45 = .ok (.invokevirtual 254, 3) := dk182 (k := 21) bX12_take_24 rfl rfl
theorem bX12_take_48 : bL cX12_take 48 [27, 172] := bL_of (by decide +kernel)
theorem dX12_take_48 : decode cX12_take 48 = .ok (.iload_n 1, 1) := dk27 (k := 0) bX12_take_48 rfl
theorem dX12_take_49 : decode cX12_take 49 = .ok (.ireturn, 1) := dk172 (k := 1) bX12_take_48 rfl
theorem bX12_heap_0 : bL cX12_heap 0 [42, 27, 133, 182, 0, 203, 154, 0, 6, 16, 254, 172, 42, 182, 0, 240, 42, 27, 182, 0, 211, 61, 28, 2] := bL_of (by decide +kernel)
theorem dX12_heap_0 : decode cX12_heap 0 = .ok (.aload_n 0, 1) := dk42 (k := 0) bX12_heap_0 rfl
theorem dX12_heap_1 : decode cX12_heap 1 = .ok (.iload_n 1, 1) := dk27 (k := 1) bX12_heap_0 rfl
theorem dX12_heap_2 : decode cX12_heap 2 = .ok (.i2l, 1) := dk133 (k := 2) bX12_heap_0 rfl
theorem dX12_heap_3 : decode cX12_heap 3 = .ok (.invokevirtual 203, 3) := dk182 (k := 3) bX12_heap_0 rfl rfl
theorem dX12_heap_6 : decode cX12_heap 6 = .ok (.ifCond .ne 6, 3) := dk154 (k := 6) bX12_heap_0 rfl (by decide)
theorem dX12_heap_9 : decode cX12_heap 9 = .ok (.bipush (-2), 2) := dk16 (k := 9) bX12_heap_0 rfl (by decide)
theorem dX12_heap_11 : decode cX12_heap 11 = .ok (.ireturn, 1) := dk172 (k := 11) bX12_heap_0 rfl
theorem dX12_heap_12 : decode cX12_heap 12 = .ok (.aload_n 0, 1) := dk42 (k := 12) bX12_heap_0 rfl
theorem dX12_heap_13 : decode cX12_heap 13 = .ok (.invokevirtual 240, 3) := dk182 (k := 13) bX12_heap_0 rfl rfl
theorem dX12_heap_16 : decode cX12_heap 16 = .ok (.aload_n 0, 1) := dk42 (k := 16) bX12_heap_0 rfl
theorem dX12_heap_17 : decode cX12_heap 17 = .ok (.iload_n 1, 1) := dk27 (k := 17) bX12_heap_0 rfl
theorem dX12_heap_18 : decode cX12_heap 18 = .ok (.invokevirtual 211, 3) := dk182 (k := 18) bX12_heap_0 rfl rfl
theorem dX12_heap_21 : decode cX12_heap 21 = .ok (.istore_n 2, 1) := dk61 (k := 21) bX12_heap_0 rfl
theorem dX12_heap_22 : decode cX12_heap 22 = .ok (.iload_n 2, 1) := dk28 (k := 22) bX12_heap_0 rfl
theorem dX12_heap_23 : decode cX12_heap 23 = .ok (.iconst (-1), 1) := dk2 (k := 23) bX12_heap_0 rfl
theorem bX12_heap_24 : bL cX12_heap 24 [159, 0, 15, 42, 180, 0, 9, 16, 8, 46, 16, 60, 160, 0, 6, 16, 251, 172, 42, 4, 27, 96, 182, 0, 254] := bL_of (by decide +kernel)
theorem dX12_heap_24 : decode cX12_heap 24 = .ok (.if_icmp .eq 15, 3) := dk159 (k := 0) bX12_heap_24 rfl (by decide)
theorem dX12_heap_27 : decode cX12_heap 27 = .ok (.aload_n 0, 1) := dk42 (k := 3) bX12_heap_24 rfl
theorem dX12_heap_28 : decode cX12_heap 28 = .ok (.getfield 9, 3) := dk180 (k := 4) bX12_heap_24 rfl rfl
theorem dX12_heap_31 : decode cX12_heap 31 = .ok (.bipush 8, 2) := dk16 (k := 7) bX12_heap_24 rfl (by decide)
theorem dX12_heap_33 : decode cX12_heap 33 = .ok (.iaload, 1) := dk46 (k := 9) bX12_heap_24 rfl
theorem dX12_heap_34 : decode cX12_heap 34 = .ok (.bipush 60, 2) := dk16 (k := 10) bX12_heap_24 rfl (by decide)
theorem dX12_heap_36 : decode cX12_heap 36 = .ok (.if_icmp .ne 6, 3) := dk160 (k := 12) bX12_heap_24 rfl (by decide)
theorem dX12_heap_39 : decode cX12_heap 39 = .ok (.bipush (-5), 2) := dk16 (k := 15) bX12_heap_24 rfl (by decide)
theorem dX12_heap_41 : decode cX12_heap 41 = .ok (.ireturn, 1) := dk172 (k := 17) bX12_heap_24 rfl
theorem dX12_heap_42 : decode cX12_heap 42 = .ok (.aload_n 0, 1) := dk42 (k := 18) bX12_heap_24 rfl
theorem dX12_heap_43 : decode cX12_heap 43 = .ok (.iconst 1, 1) := dk4 (k := 19) bX12_heap_24 rfl
theorem dX12_heap_44 : decode cX12_heap 44 = .ok (.iload_n 1, 1) := dk27 (k := 20) bX12_heap_24 rfl
theorem dX12_heap_45 : decode cX12_heap 45 = .ok (.iadd, 1) := dk96 (k := 21) bX12_heap_24 rfl
theorem dX12_heap_46 : decode cX12_heap 46 = .ok (.invokevirtual 254, 3) := dk182 (k := 22) bX12_heap_24 rfl rfl
theorem bX12_heap_49 : bL cX12_heap 49 [28, 172] := bL_of (by decide +kernel)
theorem dX12_heap_49 : decode cX12_heap 49 = .ok (.iload_n 2, 1) := dk28 (k := 0) bX12_heap_49 rfl
theorem dX12_heap_50 : decode cX12_heap 50 = .ok (.ireturn, 1) := dk172 (k := 1) bX12_heap_49 rfl
theorem bX12_slides_0 : bL cX12_slides 0 [42, 27, 133, 182, 0, 203, 154, 0, 6, 16, 254, 172, 42, 182, 0, 240, 42, 27, 182, 0, 211, 172] := bL_of (by decide +kernel)
theorem dX12_slides_0 : decode cX12_slides 0 = .ok (.aload_n 0, 1) := dk42 (k := 0) bX12_slides_0 rfl
theorem dX12_slides_1 : decode cX12_slides 1 = .ok (.iload_n 1, 1) := dk27 (k := 1) bX12_slides_0 rfl
theorem dX12_slides_2 : decode cX12_slides 2 = .ok (.i2l, 1) := dk133 (k := 2) bX12_slides_0 rfl
theorem dX12_slides_3 : decode cX12_slides 3 = .ok (.invokevirtual 203, 3) := dk182 (k := 3) bX12_slides_0 rfl rfl
theorem dX12_slides_6 : decode cX12_slides 6 = .ok (.ifCond .ne 6, 3) := dk154 (k := 6) bX12_slides_0 rfl (by decide)
theorem dX12_slides_9 : decode cX12_slides 9 = .ok (.bipush (-2), 2) := dk16 (k := 9) bX12_slides_0 rfl (by decide)
theorem dX12_slides_11 : decode cX12_slides 11 = .ok (.ireturn, 1) := dk172 (k := 11) bX12_slides_0 rfl
theorem dX12_slides_12 : decode cX12_slides 12 = .ok (.aload_n 0, 1) := dk42 (k := 12) bX12_slides_0 rfl
theorem dX12_slides_13 : decode cX12_slides 13 = .ok (.invokevirtual 240, 3) := dk182 (k := 13) bX12_slides_0 rfl rfl
theorem dX12_slides_16 : decode cX12_slides 16 = .ok (.aload_n 0, 1) := dk42 (k := 16) bX12_slides_0 rfl
theorem dX12_slides_17 : decode cX12_slides 17 = .ok (.iload_n 1, 1) := dk27 (k := 17) bX12_slides_0 rfl
theorem dX12_slides_18 : decode cX12_slides 18 = .ok (.invokevirtual 211, 3) := dk182 (k := 18) bX12_slides_0 rfl rfl
theorem dX12_slides_21 : decode cX12_slides 21 = .ok (.ireturn, 1) := dk172 (k := 21) bX12_slides_0 rfl
theorem bX12_undo_0 : bL cX12_undo 0 [42, 182, 0, 73, 154, 0, 6, 16, 254, 172, 42, 180, 0, 9, 16, 8, 46, 154, 0, 6, 16, 251, 172, 42] := bL_of (by decide +kernel)
theorem dX12_undo_0 : decode cX12_undo 0 = .ok (.aload_n 0, 1) := dk42 (k := 0) bX12_undo_0 rfl
theorem dX12_undo_1 : decode cX12_undo 1 = .ok (.invokevirtual 73, 3) := dk182 (k := 1) bX12_undo_0 rfl rfl
theorem dX12_undo_4 : decode cX12_undo 4 = .ok (.ifCond .ne 6, 3) := dk154 (k := 4) bX12_undo_0 rfl (by decide)
theorem dX12_undo_7 : decode cX12_undo 7 = .ok (.bipush (-2), 2) := dk16 (k := 7) bX12_undo_0 rfl (by decide)
theorem dX12_undo_9 : decode cX12_undo 9 = .ok (.ireturn, 1) := dk172 (k := 9) bX12_undo_0 rfl
theorem dX12_undo_10 : decode cX12_undo 10 = .ok (.aload_n 0, 1) := dk42 (k := 10) bX12_undo_0 rfl
theorem dX12_undo_11 : decode cX12_undo 11 = .ok (.getfield 9, 3) := dk180 (k := 11) bX12_undo_0 rfl rfl
theorem dX12_undo_14 : decode cX12_undo 14 = .ok (.bipush 8, 2) := dk16 (k := 14) bX12_undo_0 rfl (by decide)
theorem dX12_undo_16 : decode cX12_undo 16 = .ok (.iaload, 1) := dk46 (k := 16) bX12_undo_0 rfl
theorem dX12_undo_17 : decode cX12_undo 17 = .ok (.ifCond .ne 6, 3) := dk154 (k := 17) bX12_undo_0 rfl (by decide)
theorem dX12_undo_20 : decode cX12_undo 20 = .ok (.bipush (-5), 2) := dk16 (k := 20) bX12_undo_0 rfl (by decide)
theorem dX12_undo_22 : decode cX12_undo 22 = .ok (.ireturn, 1) := dk172 (k := 22) bX12_undo_0 rfl
theorem dX12_undo_23 : decode cX12_undo 23 = .ok (.aload_n 0, 1) := dk42 (k := 23) bX12_undo_0 rfl
theorem bX12_undo_24 : bL cX12_undo 24 [180, 0, 9, 16, 8, 92, 46, 4, 100, 79, 42, 180, 0, 9, 16, 8, 46, 172] := bL_of (by decide +kernel)
theorem dX12_undo_24 : decode cX12_undo 24 = .ok (.getfield 9, 3) := dk180 (k := 0) bX12_undo_24 rfl rfl
theorem dX12_undo_27 : decode cX12_undo 27 = .ok (.bipush 8, 2) := dk16 (k := 3) bX12_undo_24 rfl (by decide)
theorem dX12_undo_29 : decode cX12_undo 29 = .ok (.dup2, 1) := dk92 (k := 5) bX12_undo_24 rfl
theorem dX12_undo_30 : decode cX12_undo 30 = .ok (.iaload, 1) := dk46 (k := 6) bX12_undo_24 rfl
theorem dX12_undo_31 : decode cX12_undo 31 = .ok (.iconst 1, 1) := dk4 (k := 7) bX12_undo_24 rfl
theorem dX12_undo_32 : decode cX12_undo 32 = .ok (.isub, 1) := dk100 (k := 8) bX12_undo_24 rfl
theorem dX12_undo_33 : decode cX12_undo 33 = .ok (.iastore, 1) := dk79 (k := 9) bX12_undo_24 rfl
theorem dX12_undo_34 : decode cX12_undo 34 = .ok (.aload_n 0, 1) := dk42 (k := 10) bX12_undo_24 rfl
theorem dX12_undo_35 : decode cX12_undo 35 = .ok (.getfield 9, 3) := dk180 (k := 11) bX12_undo_24 rfl rfl
theorem dX12_undo_38 : decode cX12_undo 38 = .ok (.bipush 8, 2) := dk16 (k := 14) bX12_undo_24 rfl (by decide)
theorem dX12_undo_40 : decode cX12_undo 40 = .ok (.iaload, 1) := dk46 (k := 16) bX12_undo_24 rfl
theorem dX12_undo_41 : decode cX12_undo 41 = .ok (.ireturn, 1) := dk172 (k := 17) bX12_undo_24 rfl
theorem bX12_anew_0 : bL cX12_anew 0 [42, 182, 0, 73, 154, 0, 6, 16, 254, 172, 42, 180, 0, 9, 16, 8, 46, 60, 42, 180, 0, 9, 16, 8] := bL_of (by decide +kernel)
theorem dX12_anew_0 : decode cX12_anew 0 = .ok (.aload_n 0, 1) := dk42 (k := 0) bX12_anew_0 rfl
theorem dX12_anew_1 : decode cX12_anew 1 = .ok (.invokevirtual 73, 3) := dk182 (k := 1) bX12_anew_0 rfl rfl
theorem dX12_anew_4 : decode cX12_anew 4 = .ok (.ifCond .ne 6, 3) := dk154 (k := 4) bX12_anew_0 rfl (by decide)
theorem dX12_anew_7 : decode cX12_anew 7 = .ok (.bipush (-2), 2) := dk16 (k := 7) bX12_anew_0 rfl (by decide)
theorem dX12_anew_9 : decode cX12_anew 9 = .ok (.ireturn, 1) := dk172 (k := 9) bX12_anew_0 rfl
theorem dX12_anew_10 : decode cX12_anew 10 = .ok (.aload_n 0, 1) := dk42 (k := 10) bX12_anew_0 rfl
theorem dX12_anew_11 : decode cX12_anew 11 = .ok (.getfield 9, 3) := dk180 (k := 11) bX12_anew_0 rfl rfl
theorem dX12_anew_14 : decode cX12_anew 14 = .ok (.bipush 8, 2) := dk16 (k := 14) bX12_anew_0 rfl (by decide)
theorem dX12_anew_16 : decode cX12_anew 16 = .ok (.iaload, 1) := dk46 (k := 16) bX12_anew_0 rfl
theorem dX12_anew_17 : decode cX12_anew 17 = .ok (.istore_n 1, 1) := dk60 (k := 17) bX12_anew_0 rfl
theorem dX12_anew_18 : decode cX12_anew 18 = .ok (.aload_n 0, 1) := dk42 (k := 18) bX12_anew_0 rfl
theorem dX12_anew_19 : decode cX12_anew 19 = .ok (.getfield 9, 3) := dk180 (k := 19) bX12_anew_0 rfl rfl
theorem dX12_anew_22 : decode cX12_anew 22 = .ok (.bipush 8, 2) := dk16 (k := 22) bX12_anew_0 rfl (by decide)
theorem bX12_anew_24 : bL cX12_anew 24 [3, 79, 27, 172] := bL_of (by decide +kernel)
theorem dX12_anew_24 : decode cX12_anew 24 = .ok (.iconst 0, 1) := dk3 (k := 0) bX12_anew_24 rfl
theorem dX12_anew_25 : decode cX12_anew 25 = .ok (.iastore, 1) := dk79 (k := 1) bX12_anew_24 rfl
theorem dX12_anew_26 : decode cX12_anew 26 = .ok (.iload_n 1, 1) := dk27 (k := 2) bX12_anew_24 rfl
theorem dX12_anew_27 : decode cX12_anew 27 = .ok (.ireturn, 1) := dk172 (k := 3) bX12_anew_24 rfl
theorem bX12_willingSet_0 : bL cX12_willingSet 0 [3, 60, 42, 182, 0, 200, 61, 42, 180, 0, 34, 28, 46, 154, 0, 5, 3, 172, 3, 62, 29, 42, 180, 0, 9] := bL_of (by decide +kernel)
theorem dX12_willingSet_0 : decode cX12_willingSet 0 = .ok (.iconst 0, 1) := dk3 (k := 0) bX12_willingSet_0 rfl
theorem dX12_willingSet_1 : decode cX12_willingSet 1 = .ok (.istore_n 1, 1) := dk60 (k := 1) bX12_willingSet_0 rfl
theorem dX12_willingSet_2 : decode cX12_willingSet 2 = .ok (.aload_n 0, 1) := dk42 (k := 2) bX12_willingSet_0 rfl
theorem dX12_willingSet_3 : decode cX12_willingSet 3 = .ok (.invokevirtual 200, 3) := dk182 (k := 3) bX12_willingSet_0 rfl rfl
theorem dX12_willingSet_6 : decode cX12_willingSet 6 = .ok (.istore_n 2, 1) := dk61 (k := 6) bX12_willingSet_0 rfl
theorem dX12_willingSet_7 : decode cX12_willingSet 7 = .ok (.aload_n 0, 1) := dk42 (k := 7) bX12_willingSet_0 rfl
theorem dX12_willingSet_8 : decode cX12_willingSet 8 = .ok (.getfield 34, 3) := dk180 (k := 8) bX12_willingSet_0 rfl rfl
theorem dX12_willingSet_11 : decode cX12_willingSet 11 = .ok (.iload_n 2, 1) := dk28 (k := 11) bX12_willingSet_0 rfl
theorem dX12_willingSet_12 : decode cX12_willingSet 12 = .ok (.iaload, 1) := dk46 (k := 12) bX12_willingSet_0 rfl
theorem dX12_willingSet_13 : decode cX12_willingSet 13 = .ok (.ifCond .ne 5, 3) := dk154 (k := 13) bX12_willingSet_0 rfl (by decide)
theorem dX12_willingSet_16 : decode cX12_willingSet 16 = .ok (.iconst 0, 1) := dk3 (k := 16) bX12_willingSet_0 rfl
theorem dX12_willingSet_17 : decode cX12_willingSet 17 = .ok (.ireturn, 1) := dk172 (k := 17) bX12_willingSet_0 rfl
theorem dX12_willingSet_18 : decode cX12_willingSet 18 = .ok (.iconst 0, 1) := dk3 (k := 18) bX12_willingSet_0 rfl
theorem dX12_willingSet_19 : decode cX12_willingSet 19 = .ok (.istore_n 3, 1) := dk62 (k := 19) bX12_willingSet_0 rfl
theorem dX12_willingSet_20 : decode cX12_willingSet 20 = .ok (.iload_n 3, 1) := dk29 (k := 20) bX12_willingSet_0 rfl
theorem dX12_willingSet_21 : decode cX12_willingSet 21 = .ok (.aload_n 0, 1) := dk42 (k := 21) bX12_willingSet_0 rfl
theorem dX12_willingSet_22 : decode cX12_willingSet 22 = .ok (.getfield 9, 3) := dk180 (k := 22) bX12_willingSet_0 rfl rfl
theorem bX12_willingSet_25 : bL cX12_willingSet 25 [16, 6, 46, 162, 0, 56, 42, 29, 182, 0, 232, 54, 4, 42, 180, 0, 34, 28, 92, 46, 4, 100, 79, 27] := bL_of (by decide +kernel)
theorem dX12_willingSet_25 : decode cX12_willingSet 25 = .ok (.bipush 6, 2) := dk16 (k := 0) bX12_willingSet_25 rfl (by decide)
theorem dX12_willingSet_27 : decode cX12_willingSet 27 = .ok (.iaload, 1) := dk46 (k := 2) bX12_willingSet_25 rfl
theorem dX12_willingSet_28 : decode cX12_willingSet 28 = .ok (.if_icmp .ge 56, 3) := dk162 (k := 3) bX12_willingSet_25 rfl (by decide)
theorem dX12_willingSet_31 : decode cX12_willingSet 31 = .ok (.aload_n 0, 1) := dk42 (k := 6) bX12_willingSet_25 rfl
theorem dX12_willingSet_32 : decode cX12_willingSet 32 = .ok (.iload_n 3, 1) := dk29 (k := 7) bX12_willingSet_25 rfl
theorem dX12_willingSet_33 : decode cX12_willingSet 33 = .ok (.invokevirtual 232, 3) := dk182 (k := 8) bX12_willingSet_25 rfl rfl
theorem dX12_willingSet_36 : decode cX12_willingSet 36 = .ok (.istore 4, 2) := dk54 (k := 11) bX12_willingSet_25 rfl rfl
theorem dX12_willingSet_38 : decode cX12_willingSet 38 = .ok (.aload_n 0, 1) := dk42 (k := 13) bX12_willingSet_25 rfl
theorem dX12_willingSet_39 : decode cX12_willingSet 39 = .ok (.getfield 34, 3) := dk180 (k := 14) bX12_willingSet_25 rfl rfl
theorem dX12_willingSet_42 : decode cX12_willingSet 42 = .ok (.iload_n 2, 1) := dk28 (k := 17) bX12_willingSet_25 rfl
theorem dX12_willingSet_43 : decode cX12_willingSet 43 = .ok (.dup2, 1) := dk92 (k := 18) bX12_willingSet_25 rfl
theorem dX12_willingSet_44 : decode cX12_willingSet 44 = .ok (.iaload, 1) := dk46 (k := 19) bX12_willingSet_25 rfl
theorem dX12_willingSet_45 : decode cX12_willingSet 45 = .ok (.iconst 1, 1) := dk4 (k := 20) bX12_willingSet_25 rfl
theorem dX12_willingSet_46 : decode cX12_willingSet 46 = .ok (.isub, 1) := dk100 (k := 21) bX12_willingSet_25 rfl
theorem dX12_willingSet_47 : decode cX12_willingSet 47 = .ok (.iastore, 1) := dk79 (k := 22) bX12_willingSet_25 rfl
theorem dX12_willingSet_48 : decode cX12_willingSet 48 = .ok (.iload_n 1, 1) := dk27 (k := 23) bX12_willingSet_25 rfl
theorem bX12_willingSet_49 : bL cX12_willingSet 49 [42, 29, 182, 0, 232, 21, 4, 164, 0, 9, 4, 29, 120, 167, 0, 4, 3, 128, 60, 42, 180, 0, 34, 28] := bL_of (by decide +kernel)
theorem dX12_willingSet_49 : decode cX12_willingSet 49 = .ok (.aload_n 0, 1) := dk42 (k := 0) bX12_willingSet_49 rfl
theorem dX12_willingSet_50 : decode cX12_willingSet 50 = .ok (.iload_n 3, 1) := dk29 (k := 1) bX12_willingSet_49 rfl
theorem dX12_willingSet_51 : decode cX12_willingSet 51 = .ok (.invokevirtual 232, 3) := dk182 (k := 2) bX12_willingSet_49 rfl rfl
theorem dX12_willingSet_54 : decode cX12_willingSet 54 = .ok (.iload 4, 2) := dk21 (k := 5) bX12_willingSet_49 rfl rfl
theorem dX12_willingSet_56 : decode cX12_willingSet 56 = .ok (.if_icmp .le 9, 3) := dk164 (k := 7) bX12_willingSet_49 rfl (by decide)
theorem dX12_willingSet_59 : decode cX12_willingSet 59 = .ok (.iconst 1, 1) := dk4 (k := 10) bX12_willingSet_49 rfl
theorem dX12_willingSet_60 : decode cX12_willingSet 60 = .ok (.iload_n 3, 1) := dk29 (k := 11) bX12_willingSet_49 rfl
theorem dX12_willingSet_61 : decode cX12_willingSet 61 = .ok (.ishl, 1) := dk120 (k := 12) bX12_willingSet_49 rfl
theorem dX12_willingSet_62 : decode cX12_willingSet 62 = .ok (.goto 4, 3) := dk167 (k := 13) bX12_willingSet_49 rfl (by decide)
theorem dX12_willingSet_65 : decode cX12_willingSet 65 = .ok (.iconst 0, 1) := dk3 (k := 16) bX12_willingSet_49 rfl
theorem dX12_willingSet_66 : decode cX12_willingSet 66 = .ok (.ior, 1) := dk128 (k := 17) bX12_willingSet_49 rfl
theorem dX12_willingSet_67 : decode cX12_willingSet 67 = .ok (.istore_n 1, 1) := dk60 (k := 18) bX12_willingSet_49 rfl
theorem dX12_willingSet_68 : decode cX12_willingSet 68 = .ok (.aload_n 0, 1) := dk42 (k := 19) bX12_willingSet_49 rfl
theorem dX12_willingSet_69 : decode cX12_willingSet 69 = .ok (.getfield 34, 3) := dk180 (k := 20) bX12_willingSet_49 rfl rfl
theorem dX12_willingSet_72 : decode cX12_willingSet 72 = .ok (.iload_n 2, 1) := dk28 (k := 23) bX12_willingSet_49 rfl
theorem bX12_willingSet_73 : bL cX12_willingSet 73 [92, 46, 4, 96, 79, 132, 3, 1, 167, 255, 195, 27, 172] := bL_of (by decide +kernel)
theorem dX12_willingSet_73 : decode cX12_willingSet 73 = .ok (.dup2, 1) := dk92 (k := 0) bX12_willingSet_73 rfl
theorem dX12_willingSet_74 : decode cX12_willingSet 74 = .ok (.iaload, 1) := dk46 (k := 1) bX12_willingSet_73 rfl
theorem dX12_willingSet_75 : decode cX12_willingSet 75 = .ok (.iconst 1, 1) := dk4 (k := 2) bX12_willingSet_73 rfl
theorem dX12_willingSet_76 : decode cX12_willingSet 76 = .ok (.iadd, 1) := dk96 (k := 3) bX12_willingSet_73 rfl
theorem dX12_willingSet_77 : decode cX12_willingSet 77 = .ok (.iastore, 1) := dk79 (k := 4) bX12_willingSet_73 rfl
theorem dX12_willingSet_78 : decode cX12_willingSet 78 = .ok (.iinc 3 1, 3) := dk132 (k := 5) bX12_willingSet_73 rfl rfl (by decide)
theorem dX12_willingSet_81 : decode cX12_willingSet 81 = .ok (.goto (-61), 3) := dk167 (k := 8) bX12_willingSet_73 rfl (by decide)
theorem dX12_willingSet_84 : decode cX12_willingSet 84 = .ok (.iload_n 1, 1) := dk27 (k := 11) bX12_willingSet_73 rfl
theorem dX12_willingSet_85 : decode cX12_willingSet 85 = .ok (.ireturn, 1) := dk172 (k := 12) bX12_willingSet_73 rfl
theorem bX12_signing_0 : bL cX12_signing 0 [27, 28, 2, 130, 126, 62, 4, 54, 4, 21, 4, 153, 0, 88, 3, 54, 4, 3, 54, 5, 21, 5, 42, 180, 0, 9] := bL_of (by decide +kernel)
theorem dX12_signing_0 : decode cX12_signing 0 = .ok (.iload_n 1, 1) := dk27 (k := 0) bX12_signing_0 rfl
theorem dX12_signing_1 : decode cX12_signing 1 = .ok (.iload_n 2, 1) := dk28 (k := 1) bX12_signing_0 rfl
theorem dX12_signing_2 : decode cX12_signing 2 = .ok (.iconst (-1), 1) := dk2 (k := 2) bX12_signing_0 rfl
theorem dX12_signing_3 : decode cX12_signing 3 = .ok (.ixor, 1) := dk130 (k := 3) bX12_signing_0 rfl
theorem dX12_signing_4 : decode cX12_signing 4 = .ok (.iand, 1) := dk126 (k := 4) bX12_signing_0 rfl
theorem dX12_signing_5 : decode cX12_signing 5 = .ok (.istore_n 3, 1) := dk62 (k := 5) bX12_signing_0 rfl
theorem dX12_signing_6 : decode cX12_signing 6 = .ok (.iconst 1, 1) := dk4 (k := 6) bX12_signing_0 rfl
theorem dX12_signing_7 : decode cX12_signing 7 = .ok (.istore 4, 2) := dk54 (k := 7) bX12_signing_0 rfl rfl
theorem dX12_signing_9 : decode cX12_signing 9 = .ok (.iload 4, 2) := dk21 (k := 9) bX12_signing_0 rfl rfl
theorem dX12_signing_11 : decode cX12_signing 11 = .ok (.ifCond .eq 88, 3) := dk153 (k := 11) bX12_signing_0 rfl (by decide)
theorem dX12_signing_14 : decode cX12_signing 14 = .ok (.iconst 0, 1) := dk3 (k := 14) bX12_signing_0 rfl
theorem dX12_signing_15 : decode cX12_signing 15 = .ok (.istore 4, 2) := dk54 (k := 15) bX12_signing_0 rfl rfl
theorem dX12_signing_17 : decode cX12_signing 17 = .ok (.iconst 0, 1) := dk3 (k := 17) bX12_signing_0 rfl
theorem dX12_signing_18 : decode cX12_signing 18 = .ok (.istore 5, 2) := dk54 (k := 18) bX12_signing_0 rfl rfl
theorem dX12_signing_20 : decode cX12_signing 20 = .ok (.iload 5, 2) := dk21 (k := 20) bX12_signing_0 rfl rfl
theorem dX12_signing_22 : decode cX12_signing 22 = .ok (.aload_n 0, 1) := dk42 (k := 22) bX12_signing_0 rfl
theorem dX12_signing_23 : decode cX12_signing 23 = .ok (.getfield 9, 3) := dk180 (k := 23) bX12_signing_0 rfl rfl
theorem bX12_signing_26 : bL cX12_signing 26 [16, 6, 46, 162, 0, 67, 29, 28, 128, 21, 5, 184, 1, 1, 4, 159, 0, 49, 42, 21, 5, 8, 182, 0, 220] := bL_of (by decide +kernel)
theorem dX12_signing_26 : decode cX12_signing 26 = .ok (.bipush 6, 2) := dk16 (k := 0) bX12_signing_26 rfl (by decide)
theorem dX12_signing_28 : decode cX12_signing 28 = .ok (.iaload, 1) := dk46 (k := 2) bX12_signing_26 rfl
theorem dX12_signing_29 : decode cX12_signing 29 = .ok (.if_icmp .ge 67, 3) := dk162 (k := 3) bX12_signing_26 rfl (by decide)
theorem dX12_signing_32 : decode cX12_signing 32 = .ok (.iload_n 3, 1) := dk29 (k := 6) bX12_signing_26 rfl
theorem dX12_signing_33 : decode cX12_signing 33 = .ok (.iload_n 2, 1) := dk28 (k := 7) bX12_signing_26 rfl
theorem dX12_signing_34 : decode cX12_signing 34 = .ok (.ior, 1) := dk128 (k := 8) bX12_signing_26 rfl
theorem dX12_signing_35 : decode cX12_signing 35 = .ok (.iload 5, 2) := dk21 (k := 9) bX12_signing_26 rfl rfl
theorem dX12_signing_37 : decode cX12_signing 37 = .ok (.invokestatic 257, 3) := dk184 (k := 11) bX12_signing_26 rfl rfl
theorem dX12_signing_40 : decode cX12_signing 40 = .ok (.iconst 1, 1) := dk4 (k := 14) bX12_signing_26 rfl
theorem dX12_signing_41 : decode cX12_signing 41 = .ok (.if_icmp .eq 49, 3) := dk159 (k := 15) bX12_signing_26 rfl (by decide)
theorem dX12_signing_44 : decode cX12_signing 44 = .ok (.aload_n 0, 1) := dk42 (k := 18) bX12_signing_26 rfl
theorem dX12_signing_45 : decode cX12_signing 45 = .ok (.iload 5, 2) := dk21 (k := 19) bX12_signing_26 rfl rfl
theorem dX12_signing_47 : decode cX12_signing 47 = .ok (.iconst 5, 1) := dk8 (k := 21) bX12_signing_26 rfl
theorem dX12_signing_48 : decode cX12_signing 48 = .ok (.invokevirtual 220, 3) := dk182 (k := 22) bX12_signing_26 rfl rfl
theorem bX12_signing_51 : bL cX12_signing 51 [153, 0, 39, 29, 42, 21, 5, 16, 6, 182, 0, 220, 126, 184, 0, 229, 42, 21, 5, 8, 182, 0, 220, 162, 0, 6] := bL_of (by decide +kernel)
theorem dX12_signing_51 : decode cX12_signing 51 = .ok (.ifCond .eq 39, 3) := dk153 (k := 0) bX12_signing_51 rfl (by decide)
theorem dX12_signing_54 : decode cX12_signing 54 = .ok (.iload_n 3, 1) := dk29 (k := 3) bX12_signing_51 rfl
theorem dX12_signing_55 : decode cX12_signing 55 = .ok (.aload_n 0, 1) := dk42 (k := 4) bX12_signing_51 rfl
theorem dX12_signing_56 : decode cX12_signing 56 = .ok (.iload 5, 2) := dk21 (k := 5) bX12_signing_51 rfl rfl
theorem dX12_signing_58 : decode cX12_signing 58 = .ok (.bipush 6, 2) := dk16 (k := 7) bX12_signing_51 rfl (by decide)
theorem dX12_signing_60 : decode cX12_signing 60 = .ok (.invokevirtual 220, 3) := dk182 (k := 9) bX12_signing_51 rfl rfl
theorem dX12_signing_63 : decode cX12_signing 63 = .ok (.iand, 1) := dk126 (k := 12) bX12_signing_51 rfl
theorem dX12_signing_64 : decode cX12_signing 64 = .ok (.invokestatic 229, 3) := dk184 (k := 13) bX12_signing_51 rfl rfl
theorem dX12_signing_67 : decode cX12_signing 67 = .ok (.aload_n 0, 1) := dk42 (k := 16) bX12_signing_51 rfl
theorem dX12_signing_68 : decode cX12_signing 68 = .ok (.iload 5, 2) := dk21 (k := 17) bX12_signing_51 rfl rfl
theorem dX12_signing_70 : decode cX12_signing 70 = .ok (.iconst 5, 1) := dk8 (k := 19) bX12_signing_51 rfl
theorem dX12_signing_71 : decode cX12_signing 71 = .ok (.invokevirtual 220, 3) := dk182 (k := 20) bX12_signing_51 rfl rfl
theorem dX12_signing_74 : decode cX12_signing 74 = .ok (.if_icmp .ge 6, 3) := dk162 (k := 23) bX12_signing_51 rfl (by decide)
theorem bX12_signing_77 : bL cX12_signing 77 [167, 0, 13, 29, 4, 21, 5, 120, 128, 62, 4, 54, 4, 132, 5, 1, 167, 255, 183, 167, 255, 169, 29, 172] := bL_of (by decide +kernel)
theorem dX12_signing_77 : decode cX12_signing 77 = .ok (.goto 13, 3) := dk167 (k := 0) bX12_signing_77 rfl (by decide)
theorem dX12_signing_80 : decode cX12_signing 80 = .ok (.iload_n 3, 1) := dk29 (k := 3) bX12_signing_77 rfl
theorem dX12_signing_81 : decode cX12_signing 81 = .ok (.iconst 1, 1) := dk4 (k := 4) bX12_signing_77 rfl
theorem dX12_signing_82 : decode cX12_signing 82 = .ok (.iload 5, 2) := dk21 (k := 5) bX12_signing_77 rfl rfl
theorem dX12_signing_84 : decode cX12_signing 84 = .ok (.ishl, 1) := dk120 (k := 7) bX12_signing_77 rfl
theorem dX12_signing_85 : decode cX12_signing 85 = .ok (.ior, 1) := dk128 (k := 8) bX12_signing_77 rfl
theorem dX12_signing_86 : decode cX12_signing 86 = .ok (.istore_n 3, 1) := dk62 (k := 9) bX12_signing_77 rfl
theorem dX12_signing_87 : decode cX12_signing 87 = .ok (.iconst 1, 1) := dk4 (k := 10) bX12_signing_77 rfl
theorem dX12_signing_88 : decode cX12_signing 88 = .ok (.istore 4, 2) := dk54 (k := 11) bX12_signing_77 rfl rfl
theorem dX12_signing_90 : decode cX12_signing 90 = .ok (.iinc 5 1, 3) := dk132 (k := 13) bX12_signing_77 rfl rfl (by decide)
theorem dX12_signing_93 : decode cX12_signing 93 = .ok (.goto (-73), 3) := dk167 (k := 16) bX12_signing_77 rfl (by decide)
theorem dX12_signing_96 : decode cX12_signing 96 = .ok (.goto (-87), 3) := dk167 (k := 19) bX12_signing_77 rfl (by decide)
theorem dX12_signing_99 : decode cX12_signing 99 = .ok (.iload_n 3, 1) := dk29 (k := 22) bX12_signing_77 rfl
theorem dX12_signing_100 : decode cX12_signing 100 = .ok (.ireturn, 1) := dk172 (k := 23) bX12_signing_77 rfl
theorem bX12_namesOf_0 : bL cX12_namesOf 0 [3, 61, 3, 62, 29, 42, 180, 0, 9, 16, 6, 46, 162, 0, 24, 28, 27, 29, 184, 1, 1, 42, 29, 4] := bL_of (by decide +kernel)
theorem dX12_namesOf_0 : decode cX12_namesOf 0 = .ok (.iconst 0, 1) := dk3 (k := 0) bX12_namesOf_0 rfl
theorem dX12_namesOf_1 : decode cX12_namesOf 1 = .ok (.istore_n 2, 1) := dk61 (k := 1) bX12_namesOf_0 rfl
theorem dX12_namesOf_2 : decode cX12_namesOf 2 = .ok (.iconst 0, 1) := dk3 (k := 2) bX12_namesOf_0 rfl
theorem dX12_namesOf_3 : decode cX12_namesOf 3 = .ok (.istore_n 3, 1) := dk62 (k := 3) bX12_namesOf_0 rfl
theorem dX12_namesOf_4 : decode cX12_namesOf 4 = .ok (.iload_n 3, 1) := dk29 (k := 4) bX12_namesOf_0 rfl
theorem dX12_namesOf_5 : decode cX12_namesOf 5 = .ok (.aload_n 0, 1) := dk42 (k := 5) bX12_namesOf_0 rfl
theorem dX12_namesOf_6 : decode cX12_namesOf 6 = .ok (.getfield 9, 3) := dk180 (k := 6) bX12_namesOf_0 rfl rfl
theorem dX12_namesOf_9 : decode cX12_namesOf 9 = .ok (.bipush 6, 2) := dk16 (k := 9) bX12_namesOf_0 rfl (by decide)
theorem dX12_namesOf_11 : decode cX12_namesOf 11 = .ok (.iaload, 1) := dk46 (k := 11) bX12_namesOf_0 rfl
theorem dX12_namesOf_12 : decode cX12_namesOf 12 = .ok (.if_icmp .ge 24, 3) := dk162 (k := 12) bX12_namesOf_0 rfl (by decide)
theorem dX12_namesOf_15 : decode cX12_namesOf 15 = .ok (.iload_n 2, 1) := dk28 (k := 15) bX12_namesOf_0 rfl
theorem dX12_namesOf_16 : decode cX12_namesOf 16 = .ok (.iload_n 1, 1) := dk27 (k := 16) bX12_namesOf_0 rfl
theorem dX12_namesOf_17 : decode cX12_namesOf 17 = .ok (.iload_n 3, 1) := dk29 (k := 17) bX12_namesOf_0 rfl
theorem dX12_namesOf_18 : decode cX12_namesOf 18 = .ok (.invokestatic 257, 3) := dk184 (k := 18) bX12_namesOf_0 rfl rfl
theorem dX12_namesOf_21 : decode cX12_namesOf 21 = .ok (.aload_n 0, 1) := dk42 (k := 21) bX12_namesOf_0 rfl
theorem dX12_namesOf_22 : decode cX12_namesOf 22 = .ok (.iload_n 3, 1) := dk29 (k := 22) bX12_namesOf_0 rfl
theorem dX12_namesOf_23 : decode cX12_namesOf 23 = .ok (.iconst 1, 1) := dk4 (k := 23) bX12_namesOf_0 rfl
theorem bX12_namesOf_24 : bL cX12_namesOf 24 [182, 0, 220, 104, 96, 61, 132, 3, 1, 167, 255, 227, 28, 172] := bL_of (by decide +kernel)
theorem dX12_namesOf_24 : decode cX12_namesOf 24 = .ok (.invokevirtual 220, 3) := dk182 (k := 0) bX12_namesOf_24 rfl rfl
theorem dX12_namesOf_27 : decode cX12_namesOf 27 = .ok (.imul, 1) := dk104 (k := 3) bX12_namesOf_24 rfl
theorem dX12_namesOf_28 : decode cX12_namesOf 28 = .ok (.iadd, 1) := dk96 (k := 4) bX12_namesOf_24 rfl
theorem dX12_namesOf_29 : decode cX12_namesOf 29 = .ok (.istore_n 2, 1) := dk61 (k := 5) bX12_namesOf_24 rfl
theorem dX12_namesOf_30 : decode cX12_namesOf 30 = .ok (.iinc 3 1, 3) := dk132 (k := 6) bX12_namesOf_24 rfl rfl (by decide)
theorem dX12_namesOf_33 : decode cX12_namesOf 33 = .ok (.goto (-29), 3) := dk167 (k := 9) bX12_namesOf_24 rfl (by decide)
theorem dX12_namesOf_36 : decode cX12_namesOf 36 = .ok (.iload_n 2, 1) := dk28 (k := 12) bX12_namesOf_24 rfl
theorem dX12_namesOf_37 : decode cX12_namesOf 37 = .ok (.ireturn, 1) := dk172 (k := 13) bX12_namesOf_24 rfl
theorem bX12_isEnough_0 : bL cX12_isEnough 0 [42, 27, 182, 1, 4, 42, 180, 0, 9, 6, 46, 161, 0, 7, 4, 167, 0, 4, 3, 172] := bL_of (by decide +kernel)
theorem dX12_isEnough_0 : decode cX12_isEnough 0 = .ok (.aload_n 0, 1) := dk42 (k := 0) bX12_isEnough_0 rfl
theorem dX12_isEnough_1 : decode cX12_isEnough 1 = .ok (.iload_n 1, 1) := dk27 (k := 1) bX12_isEnough_0 rfl
theorem dX12_isEnough_2 : decode cX12_isEnough 2 = .ok (.invokevirtual 260, 3) := dk182 (k := 2) bX12_isEnough_0 rfl rfl
theorem dX12_isEnough_5 : decode cX12_isEnough 5 = .ok (.aload_n 0, 1) := dk42 (k := 5) bX12_isEnough_0 rfl
theorem dX12_isEnough_6 : decode cX12_isEnough 6 = .ok (.getfield 9, 3) := dk180 (k := 6) bX12_isEnough_0 rfl rfl
theorem dX12_isEnough_9 : decode cX12_isEnough 9 = .ok (.iconst 3, 1) := dk6 (k := 9) bX12_isEnough_0 rfl
theorem dX12_isEnough_10 : decode cX12_isEnough 10 = .ok (.iaload, 1) := dk46 (k := 10) bX12_isEnough_0 rfl
theorem dX12_isEnough_11 : decode cX12_isEnough 11 = .ok (.if_icmp .lt 7, 3) := dk161 (k := 11) bX12_isEnough_0 rfl (by decide)
theorem dX12_isEnough_14 : decode cX12_isEnough 14 = .ok (.iconst 1, 1) := dk4 (k := 14) bX12_isEnough_0 rfl
theorem dX12_isEnough_15 : decode cX12_isEnough 15 = .ok (.goto 4, 3) := dk167 (k := 15) bX12_isEnough_0 rfl (by decide)
theorem dX12_isEnough_18 : decode cX12_isEnough 18 = .ok (.iconst 0, 1) := dk3 (k := 18) bX12_isEnough_0 rfl
theorem dX12_isEnough_19 : decode cX12_isEnough 19 = .ok (.ireturn, 1) := dk172 (k := 19) bX12_isEnough_0 rfl
theorem bX12_willing_0 : bL cX12_willing 0 [42, 182, 0, 73, 154, 0, 6, 16, 254, 172, 42, 182, 0, 240, 42, 182, 1, 7, 172] := bL_of (by decide +kernel)
theorem dX12_willing_0 : decode cX12_willing 0 = .ok (.aload_n 0, 1) := dk42 (k := 0) bX12_willing_0 rfl
theorem dX12_willing_1 : decode cX12_willing 1 = .ok (.invokevirtual 73, 3) := dk182 (k := 1) bX12_willing_0 rfl rfl
theorem dX12_willing_4 : decode cX12_willing 4 = .ok (.ifCond .ne 6, 3) := dk154 (k := 4) bX12_willing_0 rfl (by decide)
theorem dX12_willing_7 : decode cX12_willing 7 = .ok (.bipush (-2), 2) := dk16 (k := 7) bX12_willing_0 rfl (by decide)
theorem dX12_willing_9 : decode cX12_willing 9 = .ok (.ireturn, 1) := dk172 (k := 9) bX12_willing_0 rfl
theorem dX12_willing_10 : decode cX12_willing 10 = .ok (.aload_n 0, 1) := dk42 (k := 10) bX12_willing_0 rfl
theorem dX12_willing_11 : decode cX12_willing 11 = .ok (.invokevirtual 240, 3) := dk182 (k := 11) bX12_willing_0 rfl rfl
theorem dX12_willing_14 : decode cX12_willing 14 = .ok (.aload_n 0, 1) := dk42 (k := 14) bX12_willing_0 rfl
theorem dX12_willing_15 : decode cX12_willing 15 = .ok (.invokevirtual 263, 3) := dk182 (k := 15) bX12_willing_0 rfl rfl
theorem dX12_willing_18 : decode cX12_willing 18 = .ok (.ireturn, 1) := dk172 (k := 18) bX12_willing_0 rfl
theorem bX12_signers_0 : bL cX12_signers 0 [42, 27, 182, 1, 10, 154, 0, 6, 16, 254, 172, 42, 182, 0, 240, 42, 42, 182, 1, 7, 27, 128, 3, 182, 1, 14] := bL_of (by decide +kernel)
theorem dX12_signers_0 : decode cX12_signers 0 = .ok (.aload_n 0, 1) := dk42 (k := 0) bX12_signers_0 rfl
theorem dX12_signers_1 : decode cX12_signers 1 = .ok (.iload_n 1, 1) := dk27 (k := 1) bX12_signers_0 rfl
theorem dX12_signers_2 : decode cX12_signers 2 = .ok (.invokevirtual 266, 3) := dk182 (k := 2) bX12_signers_0 rfl rfl
theorem dX12_signers_5 : decode cX12_signers 5 = .ok (.ifCond .ne 6, 3) := dk154 (k := 5) bX12_signers_0 rfl (by decide)
theorem dX12_signers_8 : decode cX12_signers 8 = .ok (.bipush (-2), 2) := dk16 (k := 8) bX12_signers_0 rfl (by decide)
theorem dX12_signers_10 : decode cX12_signers 10 = .ok (.ireturn, 1) := dk172 (k := 10) bX12_signers_0 rfl
theorem dX12_signers_11 : decode cX12_signers 11 = .ok (.aload_n 0, 1) := dk42 (k := 11) bX12_signers_0 rfl
theorem dX12_signers_12 : decode cX12_signers 12 = .ok (.invokevirtual 240, 3) := dk182 (k := 12) bX12_signers_0 rfl rfl
theorem dX12_signers_15 : decode cX12_signers 15 = .ok (.aload_n 0, 1) := dk42 (k := 15) bX12_signers_0 rfl
theorem dX12_signers_16 : decode cX12_signers 16 = .ok (.aload_n 0, 1) := dk42 (k := 16) bX12_signers_0 rfl
theorem dX12_signers_17 : decode cX12_signers 17 = .ok (.invokevirtual 263, 3) := dk182 (k := 17) bX12_signers_0 rfl rfl
theorem dX12_signers_20 : decode cX12_signers 20 = .ok (.iload_n 1, 1) := dk27 (k := 20) bX12_signers_0 rfl
theorem dX12_signers_21 : decode cX12_signers 21 = .ok (.ior, 1) := dk128 (k := 21) bX12_signers_0 rfl
theorem dX12_signers_22 : decode cX12_signers 22 = .ok (.iconst 0, 1) := dk3 (k := 22) bX12_signers_0 rfl
theorem dX12_signers_23 : decode cX12_signers 23 = .ok (.invokevirtual 270, 3) := dk182 (k := 23) bX12_signers_0 rfl rfl
theorem bX12_signers_26 : bL cX12_signers 26 [172] := bL_of (by decide +kernel)
theorem dX12_signers_26 : decode cX12_signers 26 = .ok (.ireturn, 1) := dk172 (k := 0) bX12_signers_26 rfl
theorem bX12_names_0 : bL cX12_names 0 [42, 27, 182, 1, 10, 154, 0, 6, 16, 254, 172, 42, 182, 0, 240, 42, 42, 42, 182, 1, 7, 27, 128, 3] := bL_of (by decide +kernel)
theorem dX12_names_0 : decode cX12_names 0 = .ok (.aload_n 0, 1) := dk42 (k := 0) bX12_names_0 rfl
theorem dX12_names_1 : decode cX12_names 1 = .ok (.iload_n 1, 1) := dk27 (k := 1) bX12_names_0 rfl
theorem dX12_names_2 : decode cX12_names 2 = .ok (.invokevirtual 266, 3) := dk182 (k := 2) bX12_names_0 rfl rfl
theorem dX12_names_5 : decode cX12_names 5 = .ok (.ifCond .ne 6, 3) := dk154 (k := 5) bX12_names_0 rfl (by decide)
theorem dX12_names_8 : decode cX12_names 8 = .ok (.bipush (-2), 2) := dk16 (k := 8) bX12_names_0 rfl (by decide)
theorem dX12_names_10 : decode cX12_names 10 = .ok (.ireturn, 1) := dk172 (k := 10) bX12_names_0 rfl
theorem dX12_names_11 : decode cX12_names 11 = .ok (.aload_n 0, 1) := dk42 (k := 11) bX12_names_0 rfl
theorem dX12_names_12 : decode cX12_names 12 = .ok (.invokevirtual 240, 3) := dk182 (k := 12) bX12_names_0 rfl rfl
theorem dX12_names_15 : decode cX12_names 15 = .ok (.aload_n 0, 1) := dk42 (k := 15) bX12_names_0 rfl
theorem dX12_names_16 : decode cX12_names 16 = .ok (.aload_n 0, 1) := dk42 (k := 16) bX12_names_0 rfl
theorem dX12_names_17 : decode cX12_names 17 = .ok (.aload_n 0, 1) := dk42 (k := 17) bX12_names_0 rfl
theorem dX12_names_18 : decode cX12_names 18 = .ok (.invokevirtual 263, 3) := dk182 (k := 18) bX12_names_0 rfl rfl
theorem dX12_names_21 : decode cX12_names 21 = .ok (.iload_n 1, 1) := dk27 (k := 21) bX12_names_0 rfl
theorem dX12_names_22 : decode cX12_names 22 = .ok (.ior, 1) := dk128 (k := 22) bX12_names_0 rfl
theorem dX12_names_23 : decode cX12_names 23 = .ok (.iconst 0, 1) := dk3 (k := 23) bX12_names_0 rfl
theorem bX12_names_24 : bL cX12_names 24 [182, 1, 14, 182, 1, 4, 172] := bL_of (by decide +kernel)
theorem dX12_names_24 : decode cX12_names 24 = .ok (.invokevirtual 270, 3) := dk182 (k := 0) bX12_names_24 rfl rfl
theorem dX12_names_27 : decode cX12_names 27 = .ok (.invokevirtual 260, 3) := dk182 (k := 3) bX12_names_24 rfl rfl
theorem dX12_names_30 : decode cX12_names 30 = .ok (.ireturn, 1) := dk172 (k := 6) bX12_names_24 rfl
theorem bX12_firstSet_0 : bL cX12_firstSet 0 [42, 182, 0, 240, 42, 182, 1, 7, 60, 2, 61, 3, 62, 29, 42, 182, 0, 77, 163, 0, 42, 28, 2, 159, 0, 14] := bL_of (by decide +kernel)
theorem dX12_firstSet_0 : decode cX12_firstSet 0 = .ok (.aload_n 0, 1) := dk42 (k := 0) bX12_firstSet_0 rfl
theorem dX12_firstSet_1 : decode cX12_firstSet 1 = .ok (.invokevirtual 240, 3) := dk182 (k := 1) bX12_firstSet_0 rfl rfl
theorem dX12_firstSet_4 : decode cX12_firstSet 4 = .ok (.aload_n 0, 1) := dk42 (k := 4) bX12_firstSet_0 rfl
theorem dX12_firstSet_5 : decode cX12_firstSet 5 = .ok (.invokevirtual 263, 3) := dk182 (k := 5) bX12_firstSet_0 rfl rfl
theorem dX12_firstSet_8 : decode cX12_firstSet 8 = .ok (.istore_n 1, 1) := dk60 (k := 8) bX12_firstSet_0 rfl
theorem dX12_firstSet_9 : decode cX12_firstSet 9 = .ok (.iconst (-1), 1) := dk2 (k := 9) bX12_firstSet_0 rfl
theorem dX12_firstSet_10 : decode cX12_firstSet 10 = .ok (.istore_n 2, 1) := dk61 (k := 10) bX12_firstSet_0 rfl
theorem dX12_firstSet_11 : decode cX12_firstSet 11 = .ok (.iconst 0, 1) := dk3 (k := 11) bX12_firstSet_0 rfl
theorem dX12_firstSet_12 : decode cX12_firstSet 12 = .ok (.istore_n 3, 1) := dk62 (k := 12) bX12_firstSet_0 rfl
theorem dX12_firstSet_13 : decode cX12_firstSet 13 = .ok (.iload_n 3, 1) := dk29 (k := 13) bX12_firstSet_0 rfl
theorem dX12_firstSet_14 : decode cX12_firstSet 14 = .ok (.aload_n 0, 1) := dk42 (k := 14) bX12_firstSet_0 rfl
theorem dX12_firstSet_15 : decode cX12_firstSet 15 = .ok (.invokevirtual 77, 3) := dk182 (k := 15) bX12_firstSet_0 rfl rfl
theorem dX12_firstSet_18 : decode cX12_firstSet 18 = .ok (.if_icmp .gt 42, 3) := dk163 (k := 18) bX12_firstSet_0 rfl (by decide)
theorem dX12_firstSet_21 : decode cX12_firstSet 21 = .ok (.iload_n 2, 1) := dk28 (k := 21) bX12_firstSet_0 rfl
theorem dX12_firstSet_22 : decode cX12_firstSet 22 = .ok (.iconst (-1), 1) := dk2 (k := 22) bX12_firstSet_0 rfl
theorem dX12_firstSet_23 : decode cX12_firstSet 23 = .ok (.if_icmp .eq 14, 3) := dk159 (k := 23) bX12_firstSet_0 rfl (by decide)
theorem bX12_firstSet_26 : bL cX12_firstSet 26 [29, 184, 0, 229, 28, 184, 0, 229, 162, 0, 20, 42, 42, 27, 29, 128, 3, 182, 1, 14, 182, 1, 17, 153, 0, 5] := bL_of (by decide +kernel)
theorem dX12_firstSet_26 : decode cX12_firstSet 26 = .ok (.iload_n 3, 1) := dk29 (k := 0) bX12_firstSet_26 rfl
theorem dX12_firstSet_27 : decode cX12_firstSet 27 = .ok (.invokestatic 229, 3) := dk184 (k := 1) bX12_firstSet_26 rfl rfl
theorem dX12_firstSet_30 : decode cX12_firstSet 30 = .ok (.iload_n 2, 1) := dk28 (k := 4) bX12_firstSet_26 rfl
theorem dX12_firstSet_31 : decode cX12_firstSet 31 = .ok (.invokestatic 229, 3) := dk184 (k := 5) bX12_firstSet_26 rfl rfl
theorem dX12_firstSet_34 : decode cX12_firstSet 34 = .ok (.if_icmp .ge 20, 3) := dk162 (k := 8) bX12_firstSet_26 rfl (by decide)
theorem dX12_firstSet_37 : decode cX12_firstSet 37 = .ok (.aload_n 0, 1) := dk42 (k := 11) bX12_firstSet_26 rfl
theorem dX12_firstSet_38 : decode cX12_firstSet 38 = .ok (.aload_n 0, 1) := dk42 (k := 12) bX12_firstSet_26 rfl
theorem dX12_firstSet_39 : decode cX12_firstSet 39 = .ok (.iload_n 1, 1) := dk27 (k := 13) bX12_firstSet_26 rfl
theorem dX12_firstSet_40 : decode cX12_firstSet 40 = .ok (.iload_n 3, 1) := dk29 (k := 14) bX12_firstSet_26 rfl
theorem dX12_firstSet_41 : decode cX12_firstSet 41 = .ok (.ior, 1) := dk128 (k := 15) bX12_firstSet_26 rfl
theorem dX12_firstSet_42 : decode cX12_firstSet 42 = .ok (.iconst 0, 1) := dk3 (k := 16) bX12_firstSet_26 rfl
theorem dX12_firstSet_43 : decode cX12_firstSet 43 = .ok (.invokevirtual 270, 3) := dk182 (k := 17) bX12_firstSet_26 rfl rfl
theorem dX12_firstSet_46 : decode cX12_firstSet 46 = .ok (.invokevirtual 273, 3) := dk182 (k := 20) bX12_firstSet_26 rfl rfl
theorem dX12_firstSet_49 : decode cX12_firstSet 49 = .ok (.ifCond .eq 5, 3) := dk153 (k := 23) bX12_firstSet_26 rfl (by decide)
theorem bX12_firstSet_52 : bL cX12_firstSet 52 [29, 61, 132, 3, 1, 167, 255, 212, 28, 172] := bL_of (by decide +kernel)
theorem dX12_firstSet_52 : decode cX12_firstSet 52 = .ok (.iload_n 3, 1) := dk29 (k := 0) bX12_firstSet_52 rfl
theorem dX12_firstSet_53 : decode cX12_firstSet 53 = .ok (.istore_n 2, 1) := dk61 (k := 1) bX12_firstSet_52 rfl
theorem dX12_firstSet_54 : decode cX12_firstSet 54 = .ok (.iinc 3 1, 3) := dk132 (k := 2) bX12_firstSet_52 rfl rfl (by decide)
theorem dX12_firstSet_57 : decode cX12_firstSet 57 = .ok (.goto (-44), 3) := dk167 (k := 5) bX12_firstSet_52 rfl (by decide)
theorem dX12_firstSet_60 : decode cX12_firstSet 60 = .ok (.iload_n 2, 1) := dk28 (k := 8) bX12_firstSet_52 rfl
theorem dX12_firstSet_61 : decode cX12_firstSet 61 = .ok (.ireturn, 1) := dk172 (k := 9) bX12_firstSet_52 rfl
theorem bX12_first_0 : bL cX12_first 0 [42, 182, 0, 73, 154, 0, 6, 16, 254, 172, 42, 182, 1, 20, 60, 27, 2, 160, 0, 7, 2, 167, 0, 7] := bL_of (by decide +kernel)
theorem dX12_first_0 : decode cX12_first 0 = .ok (.aload_n 0, 1) := dk42 (k := 0) bX12_first_0 rfl
theorem dX12_first_1 : decode cX12_first 1 = .ok (.invokevirtual 73, 3) := dk182 (k := 1) bX12_first_0 rfl rfl
theorem dX12_first_4 : decode cX12_first 4 = .ok (.ifCond .ne 6, 3) := dk154 (k := 4) bX12_first_0 rfl (by decide)
theorem dX12_first_7 : decode cX12_first 7 = .ok (.bipush (-2), 2) := dk16 (k := 7) bX12_first_0 rfl (by decide)
theorem dX12_first_9 : decode cX12_first 9 = .ok (.ireturn, 1) := dk172 (k := 9) bX12_first_0 rfl
theorem dX12_first_10 : decode cX12_first 10 = .ok (.aload_n 0, 1) := dk42 (k := 10) bX12_first_0 rfl
theorem dX12_first_11 : decode cX12_first 11 = .ok (.invokevirtual 276, 3) := dk182 (k := 11) bX12_first_0 rfl rfl
theorem dX12_first_14 : decode cX12_first 14 = .ok (.istore_n 1, 1) := dk60 (k := 14) bX12_first_0 rfl
theorem dX12_first_15 : decode cX12_first 15 = .ok (.iload_n 1, 1) := dk27 (k := 15) bX12_first_0 rfl
theorem dX12_first_16 : decode cX12_first 16 = .ok (.iconst (-1), 1) := dk2 (k := 16) bX12_first_0 rfl
theorem dX12_first_17 : decode cX12_first 17 = .ok (.if_icmp .ne 7, 3) := dk160 (k := 17) bX12_first_0 rfl (by decide)
theorem dX12_first_20 : decode cX12_first 20 = .ok (.iconst (-1), 1) := dk2 (k := 20) bX12_first_0 rfl
theorem dX12_first_21 : decode cX12_first 21 = .ok (.goto 7, 3) := dk167 (k := 21) bX12_first_0 rfl (by decide)
theorem bX12_first_24 : bL cX12_first 24 [27, 184, 0, 229, 172] := bL_of (by decide +kernel)
theorem dX12_first_24 : decode cX12_first 24 = .ok (.iload_n 1, 1) := dk27 (k := 0) bX12_first_24 rfl
theorem dX12_first_25 : decode cX12_first 25 = .ok (.invokestatic 229, 3) := dk184 (k := 1) bX12_first_24 rfl rfl
theorem dX12_first_28 : decode cX12_first 28 = .ok (.ireturn, 1) := dk172 (k := 4) bX12_first_24 rfl
theorem bX12_firsts_0 : bL cX12_firsts 0 [42, 182, 0, 73, 153, 0, 10, 42, 182, 1, 20, 167, 0, 5, 16, 254, 172] := bL_of (by decide +kernel)
theorem dX12_firsts_0 : decode cX12_firsts 0 = .ok (.aload_n 0, 1) := dk42 (k := 0) bX12_firsts_0 rfl
theorem dX12_firsts_1 : decode cX12_firsts 1 = .ok (.invokevirtual 73, 3) := dk182 (k := 1) bX12_firsts_0 rfl rfl
theorem dX12_firsts_4 : decode cX12_firsts 4 = .ok (.ifCond .eq 10, 3) := dk153 (k := 4) bX12_firsts_0 rfl (by decide)
theorem dX12_firsts_7 : decode cX12_firsts 7 = .ok (.aload_n 0, 1) := dk42 (k := 7) bX12_firsts_0 rfl
theorem dX12_firsts_8 : decode cX12_firsts 8 = .ok (.invokevirtual 276, 3) := dk182 (k := 8) bX12_firsts_0 rfl rfl
theorem dX12_firsts_11 : decode cX12_firsts 11 = .ok (.goto 5, 3) := dk167 (k := 11) bX12_firsts_0 rfl (by decide)
theorem dX12_firsts_14 : decode cX12_firsts 14 = .ok (.bipush (-2), 2) := dk16 (k := 14) bX12_firsts_0 rfl (by decide)
theorem dX12_firsts_16 : decode cX12_firsts 16 = .ok (.ireturn, 1) := dk172 (k := 16) bX12_firsts_0 rfl
theorem bX12_next_0 : bL cX12_next 0 [42, 27, 182, 1, 10, 154, 0, 6, 16, 254, 172, 42, 182, 0, 240, 42, 182, 1, 7, 27, 128, 61, 42, 42] := bL_of (by decide +kernel)
theorem dX12_next_0 : decode cX12_next 0 = .ok (.aload_n 0, 1) := dk42 (k := 0) bX12_next_0 rfl
theorem dX12_next_1 : decode cX12_next 1 = .ok (.iload_n 1, 1) := dk27 (k := 1) bX12_next_0 rfl
theorem dX12_next_2 : decode cX12_next 2 = .ok (.invokevirtual 266, 3) := dk182 (k := 2) bX12_next_0 rfl rfl
theorem dX12_next_5 : decode cX12_next 5 = .ok (.ifCond .ne 6, 3) := dk154 (k := 5) bX12_next_0 rfl (by decide)
theorem dX12_next_8 : decode cX12_next 8 = .ok (.bipush (-2), 2) := dk16 (k := 8) bX12_next_0 rfl (by decide)
theorem dX12_next_10 : decode cX12_next 10 = .ok (.ireturn, 1) := dk172 (k := 10) bX12_next_0 rfl
theorem dX12_next_11 : decode cX12_next 11 = .ok (.aload_n 0, 1) := dk42 (k := 11) bX12_next_0 rfl
theorem dX12_next_12 : decode cX12_next 12 = .ok (.invokevirtual 240, 3) := dk182 (k := 12) bX12_next_0 rfl rfl
theorem dX12_next_15 : decode cX12_next 15 = .ok (.aload_n 0, 1) := dk42 (k := 15) bX12_next_0 rfl
theorem dX12_next_16 : decode cX12_next 16 = .ok (.invokevirtual 263, 3) := dk182 (k := 16) bX12_next_0 rfl rfl
theorem dX12_next_19 : decode cX12_next 19 = .ok (.iload_n 1, 1) := dk27 (k := 19) bX12_next_0 rfl
theorem dX12_next_20 : decode cX12_next 20 = .ok (.ior, 1) := dk128 (k := 20) bX12_next_0 rfl
theorem dX12_next_21 : decode cX12_next 21 = .ok (.istore_n 2, 1) := dk61 (k := 21) bX12_next_0 rfl
theorem dX12_next_22 : decode cX12_next 22 = .ok (.aload_n 0, 1) := dk42 (k := 22) bX12_next_0 rfl
theorem dX12_next_23 : decode cX12_next 23 = .ok (.aload_n 0, 1) := dk42 (k := 23) bX12_next_0 rfl
theorem bX12_next_24 : bL cX12_next 24 [28, 3, 182, 1, 14, 182, 1, 4, 62, 2, 54, 4, 3, 54, 5, 21, 5, 42, 180, 0, 9, 16, 6, 46] := bL_of (by decide +kernel)
theorem dX12_next_24 : decode cX12_next 24 = .ok (.iload_n 2, 1) := dk28 (k := 0) bX12_next_24 rfl
theorem dX12_next_25 : decode cX12_next 25 = .ok (.iconst 0, 1) := dk3 (k := 1) bX12_next_24 rfl
theorem dX12_next_26 : decode cX12_next 26 = .ok (.invokevirtual 270, 3) := dk182 (k := 2) bX12_next_24 rfl rfl
theorem dX12_next_29 : decode cX12_next 29 = .ok (.invokevirtual 260, 3) := dk182 (k := 5) bX12_next_24 rfl rfl
theorem dX12_next_32 : decode cX12_next 32 = .ok (.istore_n 3, 1) := dk62 (k := 8) bX12_next_24 rfl
theorem dX12_next_33 : decode cX12_next 33 = .ok (.iconst (-1), 1) := dk2 (k := 9) bX12_next_24 rfl
theorem dX12_next_34 : decode cX12_next 34 = .ok (.istore 4, 2) := dk54 (k := 10) bX12_next_24 rfl rfl
theorem dX12_next_36 : decode cX12_next 36 = .ok (.iconst 0, 1) := dk3 (k := 12) bX12_next_24 rfl
theorem dX12_next_37 : decode cX12_next 37 = .ok (.istore 5, 2) := dk54 (k := 13) bX12_next_24 rfl rfl
theorem dX12_next_39 : decode cX12_next 39 = .ok (.iload 5, 2) := dk21 (k := 15) bX12_next_24 rfl rfl
theorem dX12_next_41 : decode cX12_next 41 = .ok (.aload_n 0, 1) := dk42 (k := 17) bX12_next_24 rfl
theorem dX12_next_42 : decode cX12_next 42 = .ok (.getfield 9, 3) := dk180 (k := 18) bX12_next_24 rfl rfl
theorem dX12_next_45 : decode cX12_next 45 = .ok (.bipush 6, 2) := dk16 (k := 21) bX12_next_24 rfl (by decide)
theorem dX12_next_47 : decode cX12_next 47 = .ok (.iaload, 1) := dk46 (k := 23) bX12_next_24 rfl
theorem bX12_next_48 : bL cX12_next 48 [162, 0, 42, 42, 42, 28, 4, 21, 5, 120, 128, 3, 182, 1, 14, 182, 1, 4, 54, 6, 21, 6, 29, 163, 0, 6] := bL_of (by decide +kernel)
theorem dX12_next_48 : decode cX12_next 48 = .ok (.if_icmp .ge 42, 3) := dk162 (k := 0) bX12_next_48 rfl (by decide)
theorem dX12_next_51 : decode cX12_next 51 = .ok (.aload_n 0, 1) := dk42 (k := 3) bX12_next_48 rfl
theorem dX12_next_52 : decode cX12_next 52 = .ok (.aload_n 0, 1) := dk42 (k := 4) bX12_next_48 rfl
theorem dX12_next_53 : decode cX12_next 53 = .ok (.iload_n 2, 1) := dk28 (k := 5) bX12_next_48 rfl
theorem dX12_next_54 : decode cX12_next 54 = .ok (.iconst 1, 1) := dk4 (k := 6) bX12_next_48 rfl
theorem dX12_next_55 : decode cX12_next 55 = .ok (.iload 5, 2) := dk21 (k := 7) bX12_next_48 rfl rfl
theorem dX12_next_57 : decode cX12_next 57 = .ok (.ishl, 1) := dk120 (k := 9) bX12_next_48 rfl
theorem dX12_next_58 : decode cX12_next 58 = .ok (.ior, 1) := dk128 (k := 10) bX12_next_48 rfl
theorem dX12_next_59 : decode cX12_next 59 = .ok (.iconst 0, 1) := dk3 (k := 11) bX12_next_48 rfl
theorem dX12_next_60 : decode cX12_next 60 = .ok (.invokevirtual 270, 3) := dk182 (k := 12) bX12_next_48 rfl rfl
theorem dX12_next_63 : decode cX12_next 63 = .ok (.invokevirtual 260, 3) := dk182 (k := 15) bX12_next_48 rfl rfl
theorem dX12_next_66 : decode cX12_next 66 = .ok (.istore 6, 2) := dk54 (k := 18) bX12_next_48 rfl rfl
theorem dX12_next_68 : decode cX12_next 68 = .ok (.iload 6, 2) := dk21 (k := 20) bX12_next_48 rfl rfl
theorem dX12_next_70 : decode cX12_next 70 = .ok (.iload_n 3, 1) := dk29 (k := 22) bX12_next_48 rfl
theorem dX12_next_71 : decode cX12_next 71 = .ok (.if_icmp .gt 6, 3) := dk163 (k := 23) bX12_next_48 rfl (by decide)
theorem bX12_next_74 : bL cX12_next 74 [167, 0, 10, 21, 6, 62, 21, 5, 54, 4, 132, 5, 1, 167, 255, 208, 21, 4, 172] := bL_of (by decide +kernel)
theorem dX12_next_74 : decode cX12_next 74 = .ok (.goto 10, 3) := dk167 (k := 0) bX12_next_74 rfl (by decide)
theorem dX12_next_77 : decode cX12_next 77 = .ok (.iload 6, 2) := dk21 (k := 3) bX12_next_74 rfl rfl
theorem dX12_next_79 : decode cX12_next 79 = .ok (.istore_n 3, 1) := dk62 (k := 5) bX12_next_74 rfl
theorem dX12_next_80 : decode cX12_next 80 = .ok (.iload 5, 2) := dk21 (k := 6) bX12_next_74 rfl rfl
theorem dX12_next_82 : decode cX12_next 82 = .ok (.istore 4, 2) := dk54 (k := 8) bX12_next_74 rfl rfl
theorem dX12_next_84 : decode cX12_next 84 = .ok (.iinc 5 1, 3) := dk132 (k := 10) bX12_next_74 rfl rfl (by decide)
theorem dX12_next_87 : decode cX12_next 87 = .ok (.goto (-48), 3) := dk167 (k := 13) bX12_next_74 rfl (by decide)
theorem dX12_next_90 : decode cX12_next 90 = .ok (.iload 4, 2) := dk21 (k := 16) bX12_next_74 rfl rfl
theorem dX12_next_92 : decode cX12_next 92 = .ok (.ireturn, 1) := dk172 (k := 18) bX12_next_74 rfl
theorem bX12_needed_0 : bL cX12_needed 0 [42, 182, 0, 73, 154, 0, 6, 16, 254, 172, 42, 182, 0, 240, 42, 182, 1, 7, 60, 42, 42, 27, 3, 182, 1, 14] := bL_of (by decide +kernel)
theorem dX12_needed_0 : decode cX12_needed 0 = .ok (.aload_n 0, 1) := dk42 (k := 0) bX12_needed_0 rfl
theorem dX12_needed_1 : decode cX12_needed 1 = .ok (.invokevirtual 73, 3) := dk182 (k := 1) bX12_needed_0 rfl rfl
theorem dX12_needed_4 : decode cX12_needed 4 = .ok (.ifCond .ne 6, 3) := dk154 (k := 4) bX12_needed_0 rfl (by decide)
theorem dX12_needed_7 : decode cX12_needed 7 = .ok (.bipush (-2), 2) := dk16 (k := 7) bX12_needed_0 rfl (by decide)
theorem dX12_needed_9 : decode cX12_needed 9 = .ok (.ireturn, 1) := dk172 (k := 9) bX12_needed_0 rfl
theorem dX12_needed_10 : decode cX12_needed 10 = .ok (.aload_n 0, 1) := dk42 (k := 10) bX12_needed_0 rfl
theorem dX12_needed_11 : decode cX12_needed 11 = .ok (.invokevirtual 240, 3) := dk182 (k := 11) bX12_needed_0 rfl rfl
theorem dX12_needed_14 : decode cX12_needed 14 = .ok (.aload_n 0, 1) := dk42 (k := 14) bX12_needed_0 rfl
theorem dX12_needed_15 : decode cX12_needed 15 = .ok (.invokevirtual 263, 3) := dk182 (k := 15) bX12_needed_0 rfl rfl
theorem dX12_needed_18 : decode cX12_needed 18 = .ok (.istore_n 1, 1) := dk60 (k := 18) bX12_needed_0 rfl
theorem dX12_needed_19 : decode cX12_needed 19 = .ok (.aload_n 0, 1) := dk42 (k := 19) bX12_needed_0 rfl
theorem dX12_needed_20 : decode cX12_needed 20 = .ok (.aload_n 0, 1) := dk42 (k := 20) bX12_needed_0 rfl
theorem dX12_needed_21 : decode cX12_needed 21 = .ok (.iload_n 1, 1) := dk27 (k := 21) bX12_needed_0 rfl
theorem dX12_needed_22 : decode cX12_needed 22 = .ok (.iconst 0, 1) := dk3 (k := 22) bX12_needed_0 rfl
theorem dX12_needed_23 : decode cX12_needed 23 = .ok (.invokevirtual 270, 3) := dk182 (k := 23) bX12_needed_0 rfl rfl
theorem bX12_needed_26 : bL cX12_needed 26 [182, 1, 17, 154, 0, 5, 3, 172, 3, 61, 3, 62, 29, 42, 180, 0, 9, 16, 6, 46, 162, 0, 34, 28] := bL_of (by decide +kernel)
theorem dX12_needed_26 : decode cX12_needed 26 = .ok (.invokevirtual 273, 3) := dk182 (k := 0) bX12_needed_26 rfl rfl
theorem dX12_needed_29 : decode cX12_needed 29 = .ok (.ifCond .ne 5, 3) := dk154 (k := 3) bX12_needed_26 rfl (by decide)
theorem dX12_needed_32 : decode cX12_needed 32 = .ok (.iconst 0, 1) := dk3 (k := 6) bX12_needed_26 rfl
theorem dX12_needed_33 : decode cX12_needed 33 = .ok (.ireturn, 1) := dk172 (k := 7) bX12_needed_26 rfl
theorem dX12_needed_34 : decode cX12_needed 34 = .ok (.iconst 0, 1) := dk3 (k := 8) bX12_needed_26 rfl
theorem dX12_needed_35 : decode cX12_needed 35 = .ok (.istore_n 2, 1) := dk61 (k := 9) bX12_needed_26 rfl
theorem dX12_needed_36 : decode cX12_needed 36 = .ok (.iconst 0, 1) := dk3 (k := 10) bX12_needed_26 rfl
theorem dX12_needed_37 : decode cX12_needed 37 = .ok (.istore_n 3, 1) := dk62 (k := 11) bX12_needed_26 rfl
theorem dX12_needed_38 : decode cX12_needed 38 = .ok (.iload_n 3, 1) := dk29 (k := 12) bX12_needed_26 rfl
theorem dX12_needed_39 : decode cX12_needed 39 = .ok (.aload_n 0, 1) := dk42 (k := 13) bX12_needed_26 rfl
theorem dX12_needed_40 : decode cX12_needed 40 = .ok (.getfield 9, 3) := dk180 (k := 14) bX12_needed_26 rfl rfl
theorem dX12_needed_43 : decode cX12_needed 43 = .ok (.bipush 6, 2) := dk16 (k := 17) bX12_needed_26 rfl (by decide)
theorem dX12_needed_45 : decode cX12_needed 45 = .ok (.iaload, 1) := dk46 (k := 19) bX12_needed_26 rfl
theorem dX12_needed_46 : decode cX12_needed 46 = .ok (.if_icmp .ge 34, 3) := dk162 (k := 20) bX12_needed_26 rfl (by decide)
theorem dX12_needed_49 : decode cX12_needed 49 = .ok (.iload_n 2, 1) := dk28 (k := 23) bX12_needed_26 rfl
theorem bX12_needed_50 : bL cX12_needed 50 [42, 42, 27, 4, 29, 120, 182, 1, 14, 182, 1, 17, 153, 0, 7, 3, 167, 0, 6, 4, 29, 120, 128, 61] := bL_of (by decide +kernel)
theorem dX12_needed_50 : decode cX12_needed 50 = .ok (.aload_n 0, 1) := dk42 (k := 0) bX12_needed_50 rfl
theorem dX12_needed_51 : decode cX12_needed 51 = .ok (.aload_n 0, 1) := dk42 (k := 1) bX12_needed_50 rfl
theorem dX12_needed_52 : decode cX12_needed 52 = .ok (.iload_n 1, 1) := dk27 (k := 2) bX12_needed_50 rfl
theorem dX12_needed_53 : decode cX12_needed 53 = .ok (.iconst 1, 1) := dk4 (k := 3) bX12_needed_50 rfl
theorem dX12_needed_54 : decode cX12_needed 54 = .ok (.iload_n 3, 1) := dk29 (k := 4) bX12_needed_50 rfl
theorem dX12_needed_55 : decode cX12_needed 55 = .ok (.ishl, 1) := dk120 (k := 5) bX12_needed_50 rfl
theorem dX12_needed_56 : decode cX12_needed 56 = .ok (.invokevirtual 270, 3) := dk182 (k := 6) bX12_needed_50 rfl rfl
theorem dX12_needed_59 : decode cX12_needed 59 = .ok (.invokevirtual 273, 3) := dk182 (k := 9) bX12_needed_50 rfl rfl
theorem dX12_needed_62 : decode cX12_needed 62 = .ok (.ifCond .eq 7, 3) := dk153 (k := 12) bX12_needed_50 rfl (by decide)
theorem dX12_needed_65 : decode cX12_needed 65 = .ok (.iconst 0, 1) := dk3 (k := 15) bX12_needed_50 rfl
theorem dX12_needed_66 : decode cX12_needed 66 = .ok (.goto 6, 3) := dk167 (k := 16) bX12_needed_50 rfl (by decide)
theorem dX12_needed_69 : decode cX12_needed 69 = .ok (.iconst 1, 1) := dk4 (k := 19) bX12_needed_50 rfl
theorem dX12_needed_70 : decode cX12_needed 70 = .ok (.iload_n 3, 1) := dk29 (k := 20) bX12_needed_50 rfl
theorem dX12_needed_71 : decode cX12_needed 71 = .ok (.ishl, 1) := dk120 (k := 21) bX12_needed_50 rfl
theorem dX12_needed_72 : decode cX12_needed 72 = .ok (.ior, 1) := dk128 (k := 22) bX12_needed_50 rfl
theorem dX12_needed_73 : decode cX12_needed 73 = .ok (.istore_n 2, 1) := dk61 (k := 23) bX12_needed_50 rfl
theorem bX12_needed_74 : bL cX12_needed 74 [132, 3, 1, 167, 255, 217, 28, 172] := bL_of (by decide +kernel)
theorem dX12_needed_74 : decode cX12_needed 74 = .ok (.iinc 3 1, 3) := dk132 (k := 0) bX12_needed_74 rfl rfl (by decide)
theorem dX12_needed_77 : decode cX12_needed 77 = .ok (.goto (-39), 3) := dk167 (k := 3) bX12_needed_74 rfl (by decide)
theorem dX12_needed_80 : decode cX12_needed 80 = .ok (.iload_n 2, 1) := dk28 (k := 6) bX12_needed_74 rfl
theorem dX12_needed_81 : decode cX12_needed 81 = .ok (.ireturn, 1) := dk172 (k := 7) bX12_needed_74 rfl
theorem bX12_pair_0 : bL cX12_pair 0 [17, 1, 0, 26, 104, 27, 96, 172] := bL_of (by decide +kernel)
theorem dX12_pair_0 : decode cX12_pair 0 = .ok (.sipush 256, 3) := dk17 (k := 0) bX12_pair_0 rfl (by decide)
theorem dX12_pair_3 : decode cX12_pair 3 = .ok (.iload_n 0, 1) := dk26 (k := 3) bX12_pair_0 rfl
theorem dX12_pair_4 : decode cX12_pair 4 = .ok (.imul, 1) := dk104 (k := 4) bX12_pair_0 rfl
theorem dX12_pair_5 : decode cX12_pair 5 = .ok (.iload_n 1, 1) := dk27 (k := 5) bX12_pair_0 rfl
theorem dX12_pair_6 : decode cX12_pair 6 = .ok (.iadd, 1) := dk96 (k := 6) bX12_pair_0 rfl
theorem dX12_pair_7 : decode cX12_pair 7 = .ok (.ireturn, 1) := dk172 (k := 7) bX12_pair_0 rfl
theorem bX12_isWinners_0 : bL cX12_isWinners 0 [26, 5, 112, 27, 160, 0, 7, 4, 167, 0, 4, 3, 172] := bL_of (by decide +kernel)
theorem dX12_isWinners_0 : decode cX12_isWinners 0 = .ok (.iload_n 0, 1) := dk26 (k := 0) bX12_isWinners_0 rfl
theorem dX12_isWinners_1 : decode cX12_isWinners 1 = .ok (.iconst 2, 1) := dk5 (k := 1) bX12_isWinners_0 rfl
theorem dX12_isWinners_2 : decode cX12_isWinners 2 = .ok (.irem, 1) := dk112 (k := 2) bX12_isWinners_0 rfl
theorem dX12_isWinners_3 : decode cX12_isWinners 3 = .ok (.iload_n 1, 1) := dk27 (k := 3) bX12_isWinners_0 rfl
theorem dX12_isWinners_4 : decode cX12_isWinners 4 = .ok (.if_icmp .ne 7, 3) := dk160 (k := 4) bX12_isWinners_0 rfl (by decide)
theorem dX12_isWinners_7 : decode cX12_isWinners 7 = .ok (.iconst 1, 1) := dk4 (k := 7) bX12_isWinners_0 rfl
theorem dX12_isWinners_8 : decode cX12_isWinners 8 = .ok (.goto 4, 3) := dk167 (k := 8) bX12_isWinners_0 rfl (by decide)
theorem dX12_isWinners_11 : decode cX12_isWinners 11 = .ok (.iconst 0, 1) := dk3 (k := 11) bX12_isWinners_0 rfl
theorem dX12_isWinners_12 : decode cX12_isWinners 12 = .ok (.ireturn, 1) := dk172 (k := 12) bX12_isWinners_0 rfl
theorem bX12_endBy_0 : bL cX12_endBy 0 [27, 184, 0, 229, 28, 184, 0, 229, 96, 54, 6, 21, 6, 5, 29, 104, 42, 180, 0, 9, 16, 6, 46, 184, 0, 112] := bL_of (by decide +kernel)
theorem dX12_endBy_0 : decode cX12_endBy 0 = .ok (.iload_n 1, 1) := dk27 (k := 0) bX12_endBy_0 rfl
theorem dX12_endBy_1 : decode cX12_endBy 1 = .ok (.invokestatic 229, 3) := dk184 (k := 1) bX12_endBy_0 rfl rfl
theorem dX12_endBy_4 : decode cX12_endBy 4 = .ok (.iload_n 2, 1) := dk28 (k := 4) bX12_endBy_0 rfl
theorem dX12_endBy_5 : decode cX12_endBy 5 = .ok (.invokestatic 229, 3) := dk184 (k := 5) bX12_endBy_0 rfl rfl
theorem dX12_endBy_8 : decode cX12_endBy 8 = .ok (.iadd, 1) := dk96 (k := 8) bX12_endBy_0 rfl
theorem dX12_endBy_9 : decode cX12_endBy 9 = .ok (.istore 6, 2) := dk54 (k := 9) bX12_endBy_0 rfl rfl
theorem dX12_endBy_11 : decode cX12_endBy 11 = .ok (.iload 6, 2) := dk21 (k := 11) bX12_endBy_0 rfl rfl
theorem dX12_endBy_13 : decode cX12_endBy 13 = .ok (.iconst 2, 1) := dk5 (k := 13) bX12_endBy_0 rfl
theorem dX12_endBy_14 : decode cX12_endBy 14 = .ok (.iload_n 3, 1) := dk29 (k := 14) bX12_endBy_0 rfl
theorem dX12_endBy_15 : decode cX12_endBy 15 = .ok (.imul, 1) := dk104 (k := 15) bX12_endBy_0 rfl
theorem dX12_endBy_16 : decode cX12_endBy 16 = .ok (.aload_n 0, 1) := dk42 (k := 16) bX12_endBy_0 rfl
theorem dX12_endBy_17 : decode cX12_endBy 17 = .ok (.getfield 9, 3) := dk180 (k := 17) bX12_endBy_0 rfl rfl
theorem dX12_endBy_20 : decode cX12_endBy 20 = .ok (.bipush 6, 2) := dk16 (k := 20) bX12_endBy_0 rfl (by decide)
theorem dX12_endBy_22 : decode cX12_endBy 22 = .ok (.iaload, 1) := dk46 (k := 22) bX12_endBy_0 rfl
theorem dX12_endBy_23 : decode cX12_endBy 23 = .ok (.invokestatic 112, 3) := dk184 (k := 23) bX12_endBy_0 rfl rfl
theorem bX12_endBy_26 : bL cX12_endBy 26 [161, 0, 17, 42, 42, 21, 5, 27, 128, 28, 182, 1, 14, 182, 1, 17, 172, 21, 6, 21, 4, 184, 1, 23] := bL_of (by decide +kernel)
theorem dX12_endBy_26 : decode cX12_endBy 26 = .ok (.if_icmp .lt 17, 3) := dk161 (k := 0) bX12_endBy_26 rfl (by decide)
theorem dX12_endBy_29 : decode cX12_endBy 29 = .ok (.aload_n 0, 1) := dk42 (k := 3) bX12_endBy_26 rfl
theorem dX12_endBy_30 : decode cX12_endBy 30 = .ok (.aload_n 0, 1) := dk42 (k := 4) bX12_endBy_26 rfl
theorem dX12_endBy_31 : decode cX12_endBy 31 = .ok (.iload 5, 2) := dk21 (k := 5) bX12_endBy_26 rfl rfl
theorem dX12_endBy_33 : decode cX12_endBy 33 = .ok (.iload_n 1, 1) := dk27 (k := 7) bX12_endBy_26 rfl
theorem dX12_endBy_34 : decode cX12_endBy 34 = .ok (.ior, 1) := dk128 (k := 8) bX12_endBy_26 rfl
theorem dX12_endBy_35 : decode cX12_endBy 35 = .ok (.iload_n 2, 1) := dk28 (k := 9) bX12_endBy_26 rfl
theorem dX12_endBy_36 : decode cX12_endBy 36 = .ok (.invokevirtual 270, 3) := dk182 (k := 10) bX12_endBy_26 rfl rfl
theorem dX12_endBy_39 : decode cX12_endBy 39 = .ok (.invokevirtual 273, 3) := dk182 (k := 13) bX12_endBy_26 rfl rfl
theorem dX12_endBy_42 : decode cX12_endBy 42 = .ok (.ireturn, 1) := dk172 (k := 16) bX12_endBy_26 rfl
theorem dX12_endBy_43 : decode cX12_endBy 43 = .ok (.iload 6, 2) := dk21 (k := 17) bX12_endBy_26 rfl rfl
theorem dX12_endBy_45 : decode cX12_endBy 45 = .ok (.iload 4, 2) := dk21 (k := 19) bX12_endBy_26 rfl rfl
theorem dX12_endBy_47 : decode cX12_endBy 47 = .ok (.invokestatic 279, 3) := dk184 (k := 21) bX12_endBy_26 rfl rfl
theorem bX12_endBy_50 : bL cX12_endBy 50 [54, 7, 3, 54, 8, 21, 8, 42, 180, 0, 9, 16, 6, 46, 162, 0, 74, 27, 28, 128, 21, 8, 184, 1, 1] := bL_of (by decide +kernel)
theorem dX12_endBy_50 : decode cX12_endBy 50 = .ok (.istore 7, 2) := dk54 (k := 0) bX12_endBy_50 rfl rfl
theorem dX12_endBy_52 : decode cX12_endBy 52 = .ok (.iconst 0, 1) := dk3 (k := 2) bX12_endBy_50 rfl
theorem dX12_endBy_53 : decode cX12_endBy 53 = .ok (.istore 8, 2) := dk54 (k := 3) bX12_endBy_50 rfl rfl
theorem dX12_endBy_55 : decode cX12_endBy 55 = .ok (.iload 8, 2) := dk21 (k := 5) bX12_endBy_50 rfl rfl
theorem dX12_endBy_57 : decode cX12_endBy 57 = .ok (.aload_n 0, 1) := dk42 (k := 7) bX12_endBy_50 rfl
theorem dX12_endBy_58 : decode cX12_endBy 58 = .ok (.getfield 9, 3) := dk180 (k := 8) bX12_endBy_50 rfl rfl
theorem dX12_endBy_61 : decode cX12_endBy 61 = .ok (.bipush 6, 2) := dk16 (k := 11) bX12_endBy_50 rfl (by decide)
theorem dX12_endBy_63 : decode cX12_endBy 63 = .ok (.iaload, 1) := dk46 (k := 13) bX12_endBy_50 rfl
theorem dX12_endBy_64 : decode cX12_endBy 64 = .ok (.if_icmp .ge 74, 3) := dk162 (k := 14) bX12_endBy_50 rfl (by decide)
theorem dX12_endBy_67 : decode cX12_endBy 67 = .ok (.iload_n 1, 1) := dk27 (k := 17) bX12_endBy_50 rfl
theorem dX12_endBy_68 : decode cX12_endBy 68 = .ok (.iload_n 2, 1) := dk28 (k := 18) bX12_endBy_50 rfl
theorem dX12_endBy_69 : decode cX12_endBy 69 = .ok (.ior, 1) := dk128 (k := 19) bX12_endBy_50 rfl
theorem dX12_endBy_70 : decode cX12_endBy 70 = .ok (.iload 8, 2) := dk21 (k := 20) bX12_endBy_50 rfl rfl
theorem dX12_endBy_72 : decode cX12_endBy 72 = .ok (.invokestatic 257, 3) := dk184 (k := 22) bX12_endBy_50 rfl rfl
theorem bX12_endBy_75 : bL cX12_endBy 75 [4, 160, 0, 6, 167, 0, 53, 21, 7, 153, 0, 21, 42, 180, 0, 38, 27, 4, 21, 8, 120, 128, 28, 184, 1, 26] := bL_of (by decide +kernel)
theorem dX12_endBy_75 : decode cX12_endBy 75 = .ok (.iconst 1, 1) := dk4 (k := 0) bX12_endBy_75 rfl
theorem dX12_endBy_76 : decode cX12_endBy 76 = .ok (.if_icmp .ne 6, 3) := dk160 (k := 1) bX12_endBy_75 rfl (by decide)
theorem dX12_endBy_79 : decode cX12_endBy 79 = .ok (.goto 53, 3) := dk167 (k := 4) bX12_endBy_75 rfl (by decide)
theorem dX12_endBy_82 : decode cX12_endBy 82 = .ok (.iload 7, 2) := dk21 (k := 7) bX12_endBy_75 rfl rfl
theorem dX12_endBy_84 : decode cX12_endBy 84 = .ok (.ifCond .eq 21, 3) := dk153 (k := 9) bX12_endBy_75 rfl (by decide)
theorem dX12_endBy_87 : decode cX12_endBy 87 = .ok (.aload_n 0, 1) := dk42 (k := 12) bX12_endBy_75 rfl
theorem dX12_endBy_88 : decode cX12_endBy 88 = .ok (.getfield 38, 3) := dk180 (k := 13) bX12_endBy_75 rfl rfl
theorem dX12_endBy_91 : decode cX12_endBy 91 = .ok (.iload_n 1, 1) := dk27 (k := 16) bX12_endBy_75 rfl
theorem dX12_endBy_92 : decode cX12_endBy 92 = .ok (.iconst 1, 1) := dk4 (k := 17) bX12_endBy_75 rfl
theorem dX12_endBy_93 : decode cX12_endBy 93 = .ok (.iload 8, 2) := dk21 (k := 18) bX12_endBy_75 rfl rfl
theorem dX12_endBy_95 : decode cX12_endBy 95 = .ok (.ishl, 1) := dk120 (k := 20) bX12_endBy_75 rfl
theorem dX12_endBy_96 : decode cX12_endBy 96 = .ok (.ior, 1) := dk128 (k := 21) bX12_endBy_75 rfl
theorem dX12_endBy_97 : decode cX12_endBy 97 = .ok (.iload_n 2, 1) := dk28 (k := 22) bX12_endBy_75 rfl
theorem dX12_endBy_98 : decode cX12_endBy 98 = .ok (.invokestatic 282, 3) := dk184 (k := 23) bX12_endBy_75 rfl rfl
theorem bX12_endBy_101 : bL cX12_endBy 101 [51, 167, 0, 18, 42, 180, 0, 38, 27, 28, 4, 21, 8, 120, 128, 184, 1, 26, 51, 54, 9, 21, 9, 21, 7] := bL_of (by decide +kernel)
theorem dX12_endBy_101 : decode cX12_endBy 101 = .ok (.baload, 1) := dk51 (k := 0) bX12_endBy_101 rfl
theorem dX12_endBy_102 : decode cX12_endBy 102 = .ok (.goto 18, 3) := dk167 (k := 1) bX12_endBy_101 rfl (by decide)
theorem dX12_endBy_105 : decode cX12_endBy 105 = .ok (.aload_n 0, 1) := dk42 (k := 4) bX12_endBy_101 rfl
theorem dX12_endBy_106 : decode cX12_endBy 106 = .ok (.getfield 38, 3) := dk180 (k := 5) bX12_endBy_101 rfl rfl
theorem dX12_endBy_109 : decode cX12_endBy 109 = .ok (.iload_n 1, 1) := dk27 (k := 8) bX12_endBy_101 rfl
theorem dX12_endBy_110 : decode cX12_endBy 110 = .ok (.iload_n 2, 1) := dk28 (k := 9) bX12_endBy_101 rfl
theorem dX12_endBy_111 : decode cX12_endBy 111 = .ok (.iconst 1, 1) := dk4 (k := 10) bX12_endBy_101 rfl
theorem dX12_endBy_112 : decode cX12_endBy 112 = .ok (.iload 8, 2) := dk21 (k := 11) bX12_endBy_101 rfl rfl
theorem dX12_endBy_114 : decode cX12_endBy 114 = .ok (.ishl, 1) := dk120 (k := 13) bX12_endBy_101 rfl
theorem dX12_endBy_115 : decode cX12_endBy 115 = .ok (.ior, 1) := dk128 (k := 14) bX12_endBy_101 rfl
theorem dX12_endBy_116 : decode cX12_endBy 116 = .ok (.invokestatic 282, 3) := dk184 (k := 15) bX12_endBy_101 rfl rfl
theorem dX12_endBy_119 : decode cX12_endBy 119 = .ok (.baload, 1) := dk51 (k := 18) bX12_endBy_101 rfl
theorem dX12_endBy_120 : decode cX12_endBy 120 = .ok (.istore 9, 2) := dk54 (k := 19) bX12_endBy_101 rfl rfl
theorem dX12_endBy_122 : decode cX12_endBy 122 = .ok (.iload 9, 2) := dk21 (k := 21) bX12_endBy_101 rfl rfl
theorem dX12_endBy_124 : decode cX12_endBy 124 = .ok (.iload 7, 2) := dk21 (k := 23) bX12_endBy_101 rfl rfl
theorem bX12_endBy_126 : bL cX12_endBy 126 [160, 0, 6, 21, 7, 172, 132, 8, 1, 167, 255, 176, 21, 7, 154, 0, 7, 4, 167, 0, 4, 3, 172] := bL_of (by decide +kernel)
theorem dX12_endBy_126 : decode cX12_endBy 126 = .ok (.if_icmp .ne 6, 3) := dk160 (k := 0) bX12_endBy_126 rfl (by decide)
theorem dX12_endBy_129 : decode cX12_endBy 129 = .ok (.iload 7, 2) := dk21 (k := 3) bX12_endBy_126 rfl rfl
theorem dX12_endBy_131 : decode cX12_endBy 131 = .ok (.ireturn, 1) := dk172 (k := 5) bX12_endBy_126 rfl
theorem dX12_endBy_132 : decode cX12_endBy 132 = .ok (.iinc 8 1, 3) := dk132 (k := 6) bX12_endBy_126 rfl rfl (by decide)
theorem dX12_endBy_135 : decode cX12_endBy 135 = .ok (.goto (-80), 3) := dk167 (k := 9) bX12_endBy_126 rfl (by decide)
theorem dX12_endBy_138 : decode cX12_endBy 138 = .ok (.iload 7, 2) := dk21 (k := 12) bX12_endBy_126 rfl rfl
theorem dX12_endBy_140 : decode cX12_endBy 140 = .ok (.ifCond .ne 7, 3) := dk154 (k := 14) bX12_endBy_126 rfl (by decide)
theorem dX12_endBy_143 : decode cX12_endBy 143 = .ok (.iconst 1, 1) := dk4 (k := 17) bX12_endBy_126 rfl
theorem dX12_endBy_144 : decode cX12_endBy 144 = .ok (.goto 4, 3) := dk167 (k := 18) bX12_endBy_126 rfl (by decide)
theorem dX12_endBy_147 : decode cX12_endBy 147 = .ok (.iconst 0, 1) := dk3 (k := 21) bX12_endBy_126 rfl
theorem dX12_endBy_148 : decode cX12_endBy 148 = .ok (.ireturn, 1) := dk172 (k := 22) bX12_endBy_126 rfl
theorem bX12_playBy_0 : bL cX12_playBy 0 [42, 182, 0, 240, 42, 182, 1, 7, 62, 42, 182, 0, 77, 54, 4, 21, 4, 155, 0, 57, 42, 182, 0, 77] := bL_of (by decide +kernel)
theorem dX12_playBy_0 : decode cX12_playBy 0 = .ok (.aload_n 0, 1) := dk42 (k := 0) bX12_playBy_0 rfl
theorem dX12_playBy_1 : decode cX12_playBy 1 = .ok (.invokevirtual 240, 3) := dk182 (k := 1) bX12_playBy_0 rfl rfl
theorem dX12_playBy_4 : decode cX12_playBy 4 = .ok (.aload_n 0, 1) := dk42 (k := 4) bX12_playBy_0 rfl
theorem dX12_playBy_5 : decode cX12_playBy 5 = .ok (.invokevirtual 263, 3) := dk182 (k := 5) bX12_playBy_0 rfl rfl
theorem dX12_playBy_8 : decode cX12_playBy 8 = .ok (.istore_n 3, 1) := dk62 (k := 8) bX12_playBy_0 rfl
theorem dX12_playBy_9 : decode cX12_playBy 9 = .ok (.aload_n 0, 1) := dk42 (k := 9) bX12_playBy_0 rfl
theorem dX12_playBy_10 : decode cX12_playBy 10 = .ok (.invokevirtual 77, 3) := dk182 (k := 10) bX12_playBy_0 rfl rfl
theorem dX12_playBy_13 : decode cX12_playBy 13 = .ok (.istore 4, 2) := dk54 (k := 13) bX12_playBy_0 rfl rfl
theorem dX12_playBy_15 : decode cX12_playBy 15 = .ok (.iload 4, 2) := dk21 (k := 15) bX12_playBy_0 rfl rfl
theorem dX12_playBy_17 : decode cX12_playBy 17 = .ok (.ifCond .lt 57, 3) := dk155 (k := 17) bX12_playBy_0 rfl (by decide)
theorem dX12_playBy_20 : decode cX12_playBy 20 = .ok (.aload_n 0, 1) := dk42 (k := 20) bX12_playBy_0 rfl
theorem dX12_playBy_21 : decode cX12_playBy 21 = .ok (.invokevirtual 77, 3) := dk182 (k := 21) bX12_playBy_0 rfl rfl
theorem bX12_playBy_24 : bL cX12_playBy 24 [54, 5, 21, 5, 155, 0, 40, 21, 4, 21, 5, 126, 154, 0, 26, 42, 180, 0, 38, 21, 4, 21, 5, 184, 1, 26] := bL_of (by decide +kernel)
theorem dX12_playBy_24 : decode cX12_playBy 24 = .ok (.istore 5, 2) := dk54 (k := 0) bX12_playBy_24 rfl rfl
theorem dX12_playBy_26 : decode cX12_playBy 26 = .ok (.iload 5, 2) := dk21 (k := 2) bX12_playBy_24 rfl rfl
theorem dX12_playBy_28 : decode cX12_playBy 28 = .ok (.ifCond .lt 40, 3) := dk155 (k := 4) bX12_playBy_24 rfl (by decide)
theorem dX12_playBy_31 : decode cX12_playBy 31 = .ok (.iload 4, 2) := dk21 (k := 7) bX12_playBy_24 rfl rfl
theorem dX12_playBy_33 : decode cX12_playBy 33 = .ok (.iload 5, 2) := dk21 (k := 9) bX12_playBy_24 rfl rfl
theorem dX12_playBy_35 : decode cX12_playBy 35 = .ok (.iand, 1) := dk126 (k := 11) bX12_playBy_24 rfl
theorem dX12_playBy_36 : decode cX12_playBy 36 = .ok (.ifCond .ne 26, 3) := dk154 (k := 12) bX12_playBy_24 rfl (by decide)
theorem dX12_playBy_39 : decode cX12_playBy 39 = .ok (.aload_n 0, 1) := dk42 (k := 15) bX12_playBy_24 rfl
theorem dX12_playBy_40 : decode cX12_playBy 40 = .ok (.getfield 38, 3) := dk180 (k := 16) bX12_playBy_24 rfl rfl
theorem dX12_playBy_43 : decode cX12_playBy 43 = .ok (.iload 4, 2) := dk21 (k := 19) bX12_playBy_24 rfl rfl
theorem dX12_playBy_45 : decode cX12_playBy 45 = .ok (.iload 5, 2) := dk21 (k := 21) bX12_playBy_24 rfl rfl
theorem dX12_playBy_47 : decode cX12_playBy 47 = .ok (.invokestatic 282, 3) := dk184 (k := 23) bX12_playBy_24 rfl rfl
theorem bX12_playBy_50 : bL cX12_playBy 50 [42, 21, 4, 21, 5, 27, 28, 29, 182, 1, 29, 84, 132, 5, 255, 167, 255, 217, 132, 4, 255, 167, 255, 200] := bL_of (by decide +kernel)
theorem dX12_playBy_50 : decode cX12_playBy 50 = .ok (.aload_n 0, 1) := dk42 (k := 0) bX12_playBy_50 rfl
theorem dX12_playBy_51 : decode cX12_playBy 51 = .ok (.iload 4, 2) := dk21 (k := 1) bX12_playBy_50 rfl rfl
theorem dX12_playBy_53 : decode cX12_playBy 53 = .ok (.iload 5, 2) := dk21 (k := 3) bX12_playBy_50 rfl rfl
theorem dX12_playBy_55 : decode cX12_playBy 55 = .ok (.iload_n 1, 1) := dk27 (k := 5) bX12_playBy_50 rfl
theorem dX12_playBy_56 : decode cX12_playBy 56 = .ok (.iload_n 2, 1) := dk28 (k := 6) bX12_playBy_50 rfl
theorem dX12_playBy_57 : decode cX12_playBy 57 = .ok (.iload_n 3, 1) := dk29 (k := 7) bX12_playBy_50 rfl
theorem dX12_playBy_58 : decode cX12_playBy 58 = .ok (.invokevirtual 285, 3) := dk182 (k := 8) bX12_playBy_50 rfl rfl
theorem dX12_playBy_61 : decode cX12_playBy 61 = .ok (.bastore, 1) := dk84 (k := 11) bX12_playBy_50 rfl
theorem dX12_playBy_62 : decode cX12_playBy 62 = .ok (.iinc 5 (-1), 3) := dk132 (k := 12) bX12_playBy_50 rfl rfl (by decide)
theorem dX12_playBy_65 : decode cX12_playBy 65 = .ok (.goto (-39), 3) := dk167 (k := 15) bX12_playBy_50 rfl (by decide)
theorem dX12_playBy_68 : decode cX12_playBy 68 = .ok (.iinc 4 (-1), 3) := dk132 (k := 18) bX12_playBy_50 rfl rfl (by decide)
theorem dX12_playBy_71 : decode cX12_playBy 71 = .ok (.goto (-56), 3) := dk167 (k := 21) bX12_playBy_50 rfl (by decide)
theorem bX12_playBy_74 : bL cX12_playBy 74 [42, 180, 0, 38, 3, 51, 172] := bL_of (by decide +kernel)
theorem dX12_playBy_74 : decode cX12_playBy 74 = .ok (.aload_n 0, 1) := dk42 (k := 0) bX12_playBy_74 rfl
theorem dX12_playBy_75 : decode cX12_playBy 75 = .ok (.getfield 38, 3) := dk180 (k := 1) bX12_playBy_74 rfl rfl
theorem dX12_playBy_78 : decode cX12_playBy 78 = .ok (.iconst 0, 1) := dk3 (k := 4) bX12_playBy_74 rfl
theorem dX12_playBy_79 : decode cX12_playBy 79 = .ok (.baload, 1) := dk51 (k := 5) bX12_playBy_74 rfl
theorem dX12_playBy_80 : decode cX12_playBy 80 = .ok (.ireturn, 1) := dk172 (k := 6) bX12_playBy_74 rfl
theorem bX12_play_0 : bL cX12_play 0 [42, 182, 0, 73, 153, 0, 42, 27, 133, 9, 20, 1, 33, 184, 0, 65, 153, 0, 30, 28, 133, 9, 10, 184, 0, 65] := bL_of (by decide +kernel)
theorem dX12_play_0 : decode cX12_play 0 = .ok (.aload_n 0, 1) := dk42 (k := 0) bX12_play_0 rfl
theorem dX12_play_1 : decode cX12_play 1 = .ok (.invokevirtual 73, 3) := dk182 (k := 1) bX12_play_0 rfl rfl
theorem dX12_play_4 : decode cX12_play 4 = .ok (.ifCond .eq 42, 3) := dk153 (k := 4) bX12_play_0 rfl (by decide)
theorem dX12_play_7 : decode cX12_play 7 = .ok (.iload_n 1, 1) := dk27 (k := 7) bX12_play_0 rfl
theorem dX12_play_8 : decode cX12_play 8 = .ok (.i2l, 1) := dk133 (k := 8) bX12_play_0 rfl
theorem dX12_play_9 : decode cX12_play 9 = .ok (.lconst 0, 1) := dk9 (k := 9) bX12_play_0 rfl
theorem dX12_play_10 : decode cX12_play 10 = .ok (.ldc2_w 289, 3) := dk20 (k := 10) bX12_play_0 rfl rfl
theorem dX12_play_13 : decode cX12_play 13 = .ok (.invokestatic 65, 3) := dk184 (k := 13) bX12_play_0 rfl rfl
theorem dX12_play_16 : decode cX12_play 16 = .ok (.ifCond .eq 30, 3) := dk153 (k := 16) bX12_play_0 rfl (by decide)
theorem dX12_play_19 : decode cX12_play 19 = .ok (.iload_n 2, 1) := dk28 (k := 19) bX12_play_0 rfl
theorem dX12_play_20 : decode cX12_play 20 = .ok (.i2l, 1) := dk133 (k := 20) bX12_play_0 rfl
theorem dX12_play_21 : decode cX12_play 21 = .ok (.lconst 0, 1) := dk9 (k := 21) bX12_play_0 rfl
theorem dX12_play_22 : decode cX12_play 22 = .ok (.lconst 1, 1) := dk10 (k := 22) bX12_play_0 rfl
theorem dX12_play_23 : decode cX12_play 23 = .ok (.invokestatic 65, 3) := dk184 (k := 23) bX12_play_0 rfl rfl
theorem bX12_play_26 : bL cX12_play 26 [153, 0, 20, 42, 27, 28, 182, 1, 35, 153, 0, 7, 4, 167, 0, 9, 3, 167, 0, 5, 16, 254, 172] := bL_of (by decide +kernel)
theorem dX12_play_26 : decode cX12_play 26 = .ok (.ifCond .eq 20, 3) := dk153 (k := 0) bX12_play_26 rfl (by decide)
theorem dX12_play_29 : decode cX12_play 29 = .ok (.aload_n 0, 1) := dk42 (k := 3) bX12_play_26 rfl
theorem dX12_play_30 : decode cX12_play 30 = .ok (.iload_n 1, 1) := dk27 (k := 4) bX12_play_26 rfl
theorem dX12_play_31 : decode cX12_play 31 = .ok (.iload_n 2, 1) := dk28 (k := 5) bX12_play_26 rfl
theorem dX12_play_32 : decode cX12_play 32 = .ok (.invokevirtual 291, 3) := dk182 (k := 6) bX12_play_26 rfl rfl
theorem dX12_play_35 : decode cX12_play 35 = .ok (.ifCond .eq 7, 3) := dk153 (k := 9) bX12_play_26 rfl (by decide)
theorem dX12_play_38 : decode cX12_play 38 = .ok (.iconst 1, 1) := dk4 (k := 12) bX12_play_26 rfl
theorem dX12_play_39 : decode cX12_play 39 = .ok (.goto 9, 3) := dk167 (k := 13) bX12_play_26 rfl (by decide)
theorem dX12_play_42 : decode cX12_play 42 = .ok (.iconst 0, 1) := dk3 (k := 16) bX12_play_26 rfl
theorem dX12_play_43 : decode cX12_play 43 = .ok (.goto 5, 3) := dk167 (k := 17) bX12_play_26 rfl (by decide)
theorem dX12_play_46 : decode cX12_play 46 = .ok (.bipush (-2), 2) := dk16 (k := 20) bX12_play_26 rfl (by decide)
theorem dX12_play_48 : decode cX12_play 48 = .ok (.ireturn, 1) := dk172 (k := 22) bX12_play_26 rfl
theorem bX12_moves_0 : bL cX12_moves 0 [42, 182, 0, 73, 153, 0, 25, 27, 133, 9, 20, 1, 33, 184, 0, 65, 153, 0, 13, 28, 133, 9, 10, 184, 0, 65] := bL_of (by decide +kernel)
theorem dX12_moves_0 : decode cX12_moves 0 = .ok (.aload_n 0, 1) := dk42 (k := 0) bX12_moves_0 rfl
theorem dX12_moves_1 : decode cX12_moves 1 = .ok (.invokevirtual 73, 3) := dk182 (k := 1) bX12_moves_0 rfl rfl
theorem dX12_moves_4 : decode cX12_moves 4 = .ok (.ifCond .eq 25, 3) := dk153 (k := 4) bX12_moves_0 rfl (by decide)
theorem dX12_moves_7 : decode cX12_moves 7 = .ok (.iload_n 1, 1) := dk27 (k := 7) bX12_moves_0 rfl
theorem dX12_moves_8 : decode cX12_moves 8 = .ok (.i2l, 1) := dk133 (k := 8) bX12_moves_0 rfl
theorem dX12_moves_9 : decode cX12_moves 9 = .ok (.lconst 0, 1) := dk9 (k := 9) bX12_moves_0 rfl
theorem dX12_moves_10 : decode cX12_moves 10 = .ok (.ldc2_w 289, 3) := dk20 (k := 10) bX12_moves_0 rfl rfl
theorem dX12_moves_13 : decode cX12_moves 13 = .ok (.invokestatic 65, 3) := dk184 (k := 13) bX12_moves_0 rfl rfl
theorem dX12_moves_16 : decode cX12_moves 16 = .ok (.ifCond .eq 13, 3) := dk153 (k := 16) bX12_moves_0 rfl (by decide)
theorem dX12_moves_19 : decode cX12_moves 19 = .ok (.iload_n 2, 1) := dk28 (k := 19) bX12_moves_0 rfl
theorem dX12_moves_20 : decode cX12_moves 20 = .ok (.i2l, 1) := dk133 (k := 20) bX12_moves_0 rfl
theorem dX12_moves_21 : decode cX12_moves 21 = .ok (.lconst 0, 1) := dk9 (k := 21) bX12_moves_0 rfl
theorem dX12_moves_22 : decode cX12_moves 22 = .ok (.lconst 1, 1) := dk10 (k := 22) bX12_moves_0 rfl
theorem dX12_moves_23 : decode cX12_moves 23 = .ok (.invokestatic 65, 3) := dk184 (k := 23) bX12_moves_0 rfl rfl
theorem bX12_moves_26 : bL cX12_moves 26 [154, 0, 6, 16, 254, 172, 27, 153, 0, 13, 42, 180, 0, 9, 16, 6, 46, 154, 0, 5, 2, 172, 42, 27] := bL_of (by decide +kernel)
theorem dX12_moves_26 : decode cX12_moves 26 = .ok (.ifCond .ne 6, 3) := dk154 (k := 0) bX12_moves_26 rfl (by decide)
theorem dX12_moves_29 : decode cX12_moves 29 = .ok (.bipush (-2), 2) := dk16 (k := 3) bX12_moves_26 rfl (by decide)
theorem dX12_moves_31 : decode cX12_moves 31 = .ok (.ireturn, 1) := dk172 (k := 5) bX12_moves_26 rfl
theorem dX12_moves_32 : decode cX12_moves 32 = .ok (.iload_n 1, 1) := dk27 (k := 6) bX12_moves_26 rfl
theorem dX12_moves_33 : decode cX12_moves 33 = .ok (.ifCond .eq 13, 3) := dk153 (k := 7) bX12_moves_26 rfl (by decide)
theorem dX12_moves_36 : decode cX12_moves 36 = .ok (.aload_n 0, 1) := dk42 (k := 10) bX12_moves_26 rfl
theorem dX12_moves_37 : decode cX12_moves 37 = .ok (.getfield 9, 3) := dk180 (k := 11) bX12_moves_26 rfl rfl
theorem dX12_moves_40 : decode cX12_moves 40 = .ok (.bipush 6, 2) := dk16 (k := 14) bX12_moves_26 rfl (by decide)
theorem dX12_moves_42 : decode cX12_moves 42 = .ok (.iaload, 1) := dk46 (k := 16) bX12_moves_26 rfl
theorem dX12_moves_43 : decode cX12_moves 43 = .ok (.ifCond .ne 5, 3) := dk154 (k := 17) bX12_moves_26 rfl (by decide)
theorem dX12_moves_46 : decode cX12_moves 46 = .ok (.iconst (-1), 1) := dk2 (k := 20) bX12_moves_26 rfl
theorem dX12_moves_47 : decode cX12_moves 47 = .ok (.ireturn, 1) := dk172 (k := 21) bX12_moves_26 rfl
theorem dX12_moves_48 : decode cX12_moves 48 = .ok (.aload_n 0, 1) := dk42 (k := 22) bX12_moves_26 rfl
theorem dX12_moves_49 : decode cX12_moves 49 = .ok (.iload_n 1, 1) := dk27 (k := 23) bX12_moves_26 rfl
theorem bX12_moves_50 : bL cX12_moves 50 [28, 182, 1, 35, 87, 3, 28, 184, 1, 23, 62, 3, 54, 4, 21, 4, 42, 180, 0, 9, 16, 6, 46, 162, 0, 49] := bL_of (by decide +kernel)
theorem dX12_moves_50 : decode cX12_moves 50 = .ok (.iload_n 2, 1) := dk28 (k := 0) bX12_moves_50 rfl
theorem dX12_moves_51 : decode cX12_moves 51 = .ok (.invokevirtual 291, 3) := dk182 (k := 1) bX12_moves_50 rfl rfl
theorem dX12_moves_54 : decode cX12_moves 54 = .ok (.pop, 1) := dk87 (k := 4) bX12_moves_50 rfl
theorem dX12_moves_55 : decode cX12_moves 55 = .ok (.iconst 0, 1) := dk3 (k := 5) bX12_moves_50 rfl
theorem dX12_moves_56 : decode cX12_moves 56 = .ok (.iload_n 2, 1) := dk28 (k := 6) bX12_moves_50 rfl
theorem dX12_moves_57 : decode cX12_moves 57 = .ok (.invokestatic 279, 3) := dk184 (k := 7) bX12_moves_50 rfl rfl
theorem dX12_moves_60 : decode cX12_moves 60 = .ok (.istore_n 3, 1) := dk62 (k := 10) bX12_moves_50 rfl
theorem dX12_moves_61 : decode cX12_moves 61 = .ok (.iconst 0, 1) := dk3 (k := 11) bX12_moves_50 rfl
theorem dX12_moves_62 : decode cX12_moves 62 = .ok (.istore 4, 2) := dk54 (k := 12) bX12_moves_50 rfl rfl
theorem dX12_moves_64 : decode cX12_moves 64 = .ok (.iload 4, 2) := dk21 (k := 14) bX12_moves_50 rfl rfl
theorem dX12_moves_66 : decode cX12_moves 66 = .ok (.aload_n 0, 1) := dk42 (k := 16) bX12_moves_50 rfl
theorem dX12_moves_67 : decode cX12_moves 67 = .ok (.getfield 9, 3) := dk180 (k := 17) bX12_moves_50 rfl rfl
theorem dX12_moves_70 : decode cX12_moves 70 = .ok (.bipush 6, 2) := dk16 (k := 20) bX12_moves_50 rfl (by decide)
theorem dX12_moves_72 : decode cX12_moves 72 = .ok (.iaload, 1) := dk46 (k := 22) bX12_moves_50 rfl
theorem dX12_moves_73 : decode cX12_moves 73 = .ok (.if_icmp .ge 49, 3) := dk162 (k := 23) bX12_moves_50 rfl (by decide)
theorem bX12_moves_76 : bL cX12_moves 76 [29, 153, 0, 19, 42, 180, 0, 38, 4, 21, 4, 120, 3, 184, 1, 26, 51, 167, 0, 16, 42, 180, 0, 38] := bL_of (by decide +kernel)
theorem dX12_moves_76 : decode cX12_moves 76 = .ok (.iload_n 3, 1) := dk29 (k := 0) bX12_moves_76 rfl
theorem dX12_moves_77 : decode cX12_moves 77 = .ok (.ifCond .eq 19, 3) := dk153 (k := 1) bX12_moves_76 rfl (by decide)
theorem dX12_moves_80 : decode cX12_moves 80 = .ok (.aload_n 0, 1) := dk42 (k := 4) bX12_moves_76 rfl
theorem dX12_moves_81 : decode cX12_moves 81 = .ok (.getfield 38, 3) := dk180 (k := 5) bX12_moves_76 rfl rfl
theorem dX12_moves_84 : decode cX12_moves 84 = .ok (.iconst 1, 1) := dk4 (k := 8) bX12_moves_76 rfl
theorem dX12_moves_85 : decode cX12_moves 85 = .ok (.iload 4, 2) := dk21 (k := 9) bX12_moves_76 rfl rfl
theorem dX12_moves_87 : decode cX12_moves 87 = .ok (.ishl, 1) := dk120 (k := 11) bX12_moves_76 rfl
theorem dX12_moves_88 : decode cX12_moves 88 = .ok (.iconst 0, 1) := dk3 (k := 12) bX12_moves_76 rfl
theorem dX12_moves_89 : decode cX12_moves 89 = .ok (.invokestatic 282, 3) := dk184 (k := 13) bX12_moves_76 rfl rfl
theorem dX12_moves_92 : decode cX12_moves 92 = .ok (.baload, 1) := dk51 (k := 16) bX12_moves_76 rfl
theorem dX12_moves_93 : decode cX12_moves 93 = .ok (.goto 16, 3) := dk167 (k := 17) bX12_moves_76 rfl (by decide)
theorem dX12_moves_96 : decode cX12_moves 96 = .ok (.aload_n 0, 1) := dk42 (k := 20) bX12_moves_76 rfl
theorem dX12_moves_97 : decode cX12_moves 97 = .ok (.getfield 38, 3) := dk180 (k := 21) bX12_moves_76 rfl rfl
theorem bX12_moves_100 : bL cX12_moves 100 [3, 4, 21, 4, 120, 184, 1, 26, 51, 29, 160, 0, 6, 21, 4, 172, 132, 4, 1, 167, 255, 201, 3, 172] := bL_of (by decide +kernel)
theorem dX12_moves_100 : decode cX12_moves 100 = .ok (.iconst 0, 1) := dk3 (k := 0) bX12_moves_100 rfl
theorem dX12_moves_101 : decode cX12_moves 101 = .ok (.iconst 1, 1) := dk4 (k := 1) bX12_moves_100 rfl
theorem dX12_moves_102 : decode cX12_moves 102 = .ok (.iload 4, 2) := dk21 (k := 2) bX12_moves_100 rfl rfl
theorem dX12_moves_104 : decode cX12_moves 104 = .ok (.ishl, 1) := dk120 (k := 4) bX12_moves_100 rfl
theorem dX12_moves_105 : decode cX12_moves 105 = .ok (.invokestatic 282, 3) := dk184 (k := 5) bX12_moves_100 rfl rfl
theorem dX12_moves_108 : decode cX12_moves 108 = .ok (.baload, 1) := dk51 (k := 8) bX12_moves_100 rfl
theorem dX12_moves_109 : decode cX12_moves 109 = .ok (.iload_n 3, 1) := dk29 (k := 9) bX12_moves_100 rfl
theorem dX12_moves_110 : decode cX12_moves 110 = .ok (.if_icmp .ne 6, 3) := dk160 (k := 10) bX12_moves_100 rfl (by decide)
theorem dX12_moves_113 : decode cX12_moves 113 = .ok (.iload 4, 2) := dk21 (k := 13) bX12_moves_100 rfl rfl
theorem dX12_moves_115 : decode cX12_moves 115 = .ok (.ireturn, 1) := dk172 (k := 15) bX12_moves_100 rfl
theorem dX12_moves_116 : decode cX12_moves 116 = .ok (.iinc 4 1, 3) := dk132 (k := 16) bX12_moves_100 rfl rfl (by decide)
theorem dX12_moves_119 : decode cX12_moves 119 = .ok (.goto (-55), 3) := dk167 (k := 19) bX12_moves_100 rfl (by decide)
theorem dX12_moves_122 : decode cX12_moves 122 = .ok (.iconst 0, 1) := dk3 (k := 22) bX12_moves_100 rfl
theorem dX12_moves_123 : decode cX12_moves 123 = .ok (.ireturn, 1) := dk172 (k := 23) bX12_moves_100 rfl
theorem bX12_steps_0 : bL cX12_steps 0 [28, 27, 100, 26, 27, 100, 28, 26, 100, 184, 0, 112, 96, 172] := bL_of (by decide +kernel)
theorem dX12_steps_0 : decode cX12_steps 0 = .ok (.iload_n 2, 1) := dk28 (k := 0) bX12_steps_0 rfl
theorem dX12_steps_1 : decode cX12_steps 1 = .ok (.iload_n 1, 1) := dk27 (k := 1) bX12_steps_0 rfl
theorem dX12_steps_2 : decode cX12_steps 2 = .ok (.isub, 1) := dk100 (k := 2) bX12_steps_0 rfl
theorem dX12_steps_3 : decode cX12_steps 3 = .ok (.iload_n 0, 1) := dk26 (k := 3) bX12_steps_0 rfl
theorem dX12_steps_4 : decode cX12_steps 4 = .ok (.iload_n 1, 1) := dk27 (k := 4) bX12_steps_0 rfl
theorem dX12_steps_5 : decode cX12_steps 5 = .ok (.isub, 1) := dk100 (k := 5) bX12_steps_0 rfl
theorem dX12_steps_6 : decode cX12_steps 6 = .ok (.iload_n 2, 1) := dk28 (k := 6) bX12_steps_0 rfl
theorem dX12_steps_7 : decode cX12_steps 7 = .ok (.iload_n 0, 1) := dk26 (k := 7) bX12_steps_0 rfl
theorem dX12_steps_8 : decode cX12_steps 8 = .ok (.isub, 1) := dk100 (k := 8) bX12_steps_0 rfl
theorem dX12_steps_9 : decode cX12_steps 9 = .ok (.invokestatic 112, 3) := dk184 (k := 9) bX12_steps_0 rfl rfl
theorem dX12_steps_12 : decode cX12_steps 12 = .ok (.iadd, 1) := dk96 (k := 12) bX12_steps_0 rfl
theorem dX12_steps_13 : decode cX12_steps 13 = .ok (.ireturn, 1) := dk172 (k := 13) bX12_steps_0 rfl
theorem bX12_namesOn_0 : bL cX12_namesOn 0 [3, 54, 6, 3, 54, 7, 21, 7, 42, 180, 0, 9, 16, 6, 46, 162, 0, 73, 21, 6, 27, 21, 7, 184, 1, 1] := bL_of (by decide +kernel)
theorem dX12_namesOn_0 : decode cX12_namesOn 0 = .ok (.iconst 0, 1) := dk3 (k := 0) bX12_namesOn_0 rfl
theorem dX12_namesOn_1 : decode cX12_namesOn 1 = .ok (.istore 6, 2) := dk54 (k := 1) bX12_namesOn_0 rfl rfl
theorem dX12_namesOn_3 : decode cX12_namesOn 3 = .ok (.iconst 0, 1) := dk3 (k := 3) bX12_namesOn_0 rfl
theorem dX12_namesOn_4 : decode cX12_namesOn 4 = .ok (.istore 7, 2) := dk54 (k := 4) bX12_namesOn_0 rfl rfl
theorem dX12_namesOn_6 : decode cX12_namesOn 6 = .ok (.iload 7, 2) := dk21 (k := 6) bX12_namesOn_0 rfl rfl
theorem dX12_namesOn_8 : decode cX12_namesOn 8 = .ok (.aload_n 0, 1) := dk42 (k := 8) bX12_namesOn_0 rfl
theorem dX12_namesOn_9 : decode cX12_namesOn 9 = .ok (.getfield 9, 3) := dk180 (k := 9) bX12_namesOn_0 rfl rfl
theorem dX12_namesOn_12 : decode cX12_namesOn 12 = .ok (.bipush 6, 2) := dk16 (k := 12) bX12_namesOn_0 rfl (by decide)
theorem dX12_namesOn_14 : decode cX12_namesOn 14 = .ok (.iaload, 1) := dk46 (k := 14) bX12_namesOn_0 rfl
theorem dX12_namesOn_15 : decode cX12_namesOn 15 = .ok (.if_icmp .ge 73, 3) := dk162 (k := 15) bX12_namesOn_0 rfl (by decide)
theorem dX12_namesOn_18 : decode cX12_namesOn 18 = .ok (.iload 6, 2) := dk21 (k := 18) bX12_namesOn_0 rfl rfl
theorem dX12_namesOn_20 : decode cX12_namesOn 20 = .ok (.iload_n 1, 1) := dk27 (k := 20) bX12_namesOn_0 rfl
theorem dX12_namesOn_21 : decode cX12_namesOn 21 = .ok (.iload 7, 2) := dk21 (k := 21) bX12_namesOn_0 rfl rfl
theorem dX12_namesOn_23 : decode cX12_namesOn 23 = .ok (.invokestatic 257, 3) := dk184 (k := 23) bX12_namesOn_0 rfl rfl
theorem bX12_namesOn_26 : bL cX12_namesOn 26 [4, 160, 0, 51, 42, 21, 7, 3, 182, 0, 220, 133, 28, 133, 29, 133, 184, 0, 65, 154, 0, 23, 42, 21, 7] := bL_of (by decide +kernel)
theorem dX12_namesOn_26 : decode cX12_namesOn 26 = .ok (.iconst 1, 1) := dk4 (k := 0) bX12_namesOn_26 rfl
theorem dX12_namesOn_27 : decode cX12_namesOn 27 = .ok (.if_icmp .ne 51, 3) := dk160 (k := 1) bX12_namesOn_26 rfl (by decide)
theorem dX12_namesOn_30 : decode cX12_namesOn 30 = .ok (.aload_n 0, 1) := dk42 (k := 4) bX12_namesOn_26 rfl
theorem dX12_namesOn_31 : decode cX12_namesOn 31 = .ok (.iload 7, 2) := dk21 (k := 5) bX12_namesOn_26 rfl rfl
theorem dX12_namesOn_33 : decode cX12_namesOn 33 = .ok (.iconst 0, 1) := dk3 (k := 7) bX12_namesOn_26 rfl
theorem dX12_namesOn_34 : decode cX12_namesOn 34 = .ok (.invokevirtual 220, 3) := dk182 (k := 8) bX12_namesOn_26 rfl rfl
theorem dX12_namesOn_37 : decode cX12_namesOn 37 = .ok (.i2l, 1) := dk133 (k := 11) bX12_namesOn_26 rfl
theorem dX12_namesOn_38 : decode cX12_namesOn 38 = .ok (.iload_n 2, 1) := dk28 (k := 12) bX12_namesOn_26 rfl
theorem dX12_namesOn_39 : decode cX12_namesOn 39 = .ok (.i2l, 1) := dk133 (k := 13) bX12_namesOn_26 rfl
theorem dX12_namesOn_40 : decode cX12_namesOn 40 = .ok (.iload_n 3, 1) := dk29 (k := 14) bX12_namesOn_26 rfl
theorem dX12_namesOn_41 : decode cX12_namesOn 41 = .ok (.i2l, 1) := dk133 (k := 15) bX12_namesOn_26 rfl
theorem dX12_namesOn_42 : decode cX12_namesOn 42 = .ok (.invokestatic 65, 3) := dk184 (k := 16) bX12_namesOn_26 rfl rfl
theorem dX12_namesOn_45 : decode cX12_namesOn 45 = .ok (.ifCond .ne 23, 3) := dk154 (k := 19) bX12_namesOn_26 rfl (by decide)
theorem dX12_namesOn_48 : decode cX12_namesOn 48 = .ok (.aload_n 0, 1) := dk42 (k := 22) bX12_namesOn_26 rfl
theorem dX12_namesOn_49 : decode cX12_namesOn 49 = .ok (.iload 7, 2) := dk21 (k := 23) bX12_namesOn_26 rfl rfl
theorem bX12_namesOn_51 : bL cX12_namesOn 51 [3, 182, 0, 220, 133, 21, 4, 133, 21, 5, 133, 184, 0, 65, 153, 0, 13, 42, 21, 7, 4, 182, 0, 220] := bL_of (by decide +kernel)
theorem dX12_namesOn_51 : decode cX12_namesOn 51 = .ok (.iconst 0, 1) := dk3 (k := 0) bX12_namesOn_51 rfl
theorem dX12_namesOn_52 : decode cX12_namesOn 52 = .ok (.invokevirtual 220, 3) := dk182 (k := 1) bX12_namesOn_51 rfl rfl
theorem dX12_namesOn_55 : decode cX12_namesOn 55 = .ok (.i2l, 1) := dk133 (k := 4) bX12_namesOn_51 rfl
theorem dX12_namesOn_56 : decode cX12_namesOn 56 = .ok (.iload 4, 2) := dk21 (k := 5) bX12_namesOn_51 rfl rfl
theorem dX12_namesOn_58 : decode cX12_namesOn 58 = .ok (.i2l, 1) := dk133 (k := 7) bX12_namesOn_51 rfl
theorem dX12_namesOn_59 : decode cX12_namesOn 59 = .ok (.iload 5, 2) := dk21 (k := 8) bX12_namesOn_51 rfl rfl
theorem dX12_namesOn_61 : decode cX12_namesOn 61 = .ok (.i2l, 1) := dk133 (k := 10) bX12_namesOn_51 rfl
theorem dX12_namesOn_62 : decode cX12_namesOn 62 = .ok (.invokestatic 65, 3) := dk184 (k := 11) bX12_namesOn_51 rfl rfl
theorem dX12_namesOn_65 : decode cX12_namesOn 65 = .ok (.ifCond .eq 13, 3) := dk153 (k := 14) bX12_namesOn_51 rfl (by decide)
theorem dX12_namesOn_68 : decode cX12_namesOn 68 = .ok (.aload_n 0, 1) := dk42 (k := 17) bX12_namesOn_51 rfl
theorem dX12_namesOn_69 : decode cX12_namesOn 69 = .ok (.iload 7, 2) := dk21 (k := 18) bX12_namesOn_51 rfl rfl
theorem dX12_namesOn_71 : decode cX12_namesOn 71 = .ok (.iconst 1, 1) := dk4 (k := 20) bX12_namesOn_51 rfl
theorem dX12_namesOn_72 : decode cX12_namesOn 72 = .ok (.invokevirtual 220, 3) := dk182 (k := 21) bX12_namesOn_51 rfl rfl
theorem bX12_namesOn_75 : bL cX12_namesOn 75 [167, 0, 4, 3, 96, 54, 6, 132, 7, 1, 167, 255, 177, 21, 6, 172] := bL_of (by decide +kernel)
theorem dX12_namesOn_75 : decode cX12_namesOn 75 = .ok (.goto 4, 3) := dk167 (k := 0) bX12_namesOn_75 rfl (by decide)
theorem dX12_namesOn_78 : decode cX12_namesOn 78 = .ok (.iconst 0, 1) := dk3 (k := 3) bX12_namesOn_75 rfl
theorem dX12_namesOn_79 : decode cX12_namesOn 79 = .ok (.iadd, 1) := dk96 (k := 4) bX12_namesOn_75 rfl
theorem dX12_namesOn_80 : decode cX12_namesOn 80 = .ok (.istore 6, 2) := dk54 (k := 5) bX12_namesOn_75 rfl rfl
theorem dX12_namesOn_82 : decode cX12_namesOn 82 = .ok (.iinc 7 1, 3) := dk132 (k := 7) bX12_namesOn_75 rfl rfl (by decide)
theorem dX12_namesOn_85 : decode cX12_namesOn 85 = .ok (.goto (-79), 3) := dk167 (k := 10) bX12_namesOn_75 rfl (by decide)
theorem dX12_namesOn_88 : decode cX12_namesOn 88 = .ok (.iload 6, 2) := dk21 (k := 13) bX12_namesOn_75 rfl rfl
theorem dX12_namesOn_90 : decode cX12_namesOn 90 = .ok (.ireturn, 1) := dk172 (k := 15) bX12_namesOn_75 rfl
theorem bX12_roundOf_0 : bL cX12_roundOf 0 [42, 182, 0, 240, 42, 182, 1, 7, 62, 19, 1, 38, 54, 4, 3, 54, 5, 21, 5, 27, 163, 0, 84, 27] := bL_of (by decide +kernel)
theorem dX12_roundOf_0 : decode cX12_roundOf 0 = .ok (.aload_n 0, 1) := dk42 (k := 0) bX12_roundOf_0 rfl
theorem dX12_roundOf_1 : decode cX12_roundOf 1 = .ok (.invokevirtual 240, 3) := dk182 (k := 1) bX12_roundOf_0 rfl rfl
theorem dX12_roundOf_4 : decode cX12_roundOf 4 = .ok (.aload_n 0, 1) := dk42 (k := 4) bX12_roundOf_0 rfl
theorem dX12_roundOf_5 : decode cX12_roundOf 5 = .ok (.invokevirtual 263, 3) := dk182 (k := 5) bX12_roundOf_0 rfl rfl
theorem dX12_roundOf_8 : decode cX12_roundOf 8 = .ok (.istore_n 3, 1) := dk62 (k := 8) bX12_roundOf_0 rfl
theorem dX12_roundOf_9 : decode cX12_roundOf 9 = .ok (.ldc_w 294, 3) := dk19 (k := 9) bX12_roundOf_0 rfl rfl
theorem dX12_roundOf_12 : decode cX12_roundOf 12 = .ok (.istore 4, 2) := dk54 (k := 12) bX12_roundOf_0 rfl rfl
theorem dX12_roundOf_14 : decode cX12_roundOf 14 = .ok (.iconst 0, 1) := dk3 (k := 14) bX12_roundOf_0 rfl
theorem dX12_roundOf_15 : decode cX12_roundOf 15 = .ok (.istore 5, 2) := dk54 (k := 15) bX12_roundOf_0 rfl rfl
theorem dX12_roundOf_17 : decode cX12_roundOf 17 = .ok (.iload 5, 2) := dk21 (k := 17) bX12_roundOf_0 rfl rfl
theorem dX12_roundOf_19 : decode cX12_roundOf 19 = .ok (.iload_n 1, 1) := dk27 (k := 19) bX12_roundOf_0 rfl
theorem dX12_roundOf_20 : decode cX12_roundOf 20 = .ok (.if_icmp .gt 84, 3) := dk163 (k := 20) bX12_roundOf_0 rfl (by decide)
theorem dX12_roundOf_23 : decode cX12_roundOf 23 = .ok (.iload_n 1, 1) := dk27 (k := 23) bX12_roundOf_0 rfl
theorem bX12_roundOf_24 : bL cX12_roundOf 24 [54, 6, 21, 6, 42, 180, 0, 9, 3, 46, 162, 0, 64, 27, 21, 5, 21, 6, 184, 1, 39, 21, 4, 162, 0, 45] := bL_of (by decide +kernel)
theorem dX12_roundOf_24 : decode cX12_roundOf 24 = .ok (.istore 6, 2) := dk54 (k := 0) bX12_roundOf_24 rfl rfl
theorem dX12_roundOf_26 : decode cX12_roundOf 26 = .ok (.iload 6, 2) := dk21 (k := 2) bX12_roundOf_24 rfl rfl
theorem dX12_roundOf_28 : decode cX12_roundOf 28 = .ok (.aload_n 0, 1) := dk42 (k := 4) bX12_roundOf_24 rfl
theorem dX12_roundOf_29 : decode cX12_roundOf 29 = .ok (.getfield 9, 3) := dk180 (k := 5) bX12_roundOf_24 rfl rfl
theorem dX12_roundOf_32 : decode cX12_roundOf 32 = .ok (.iconst 0, 1) := dk3 (k := 8) bX12_roundOf_24 rfl
theorem dX12_roundOf_33 : decode cX12_roundOf 33 = .ok (.iaload, 1) := dk46 (k := 9) bX12_roundOf_24 rfl
theorem dX12_roundOf_34 : decode cX12_roundOf 34 = .ok (.if_icmp .ge 64, 3) := dk162 (k := 10) bX12_roundOf_24 rfl (by decide)
theorem dX12_roundOf_37 : decode cX12_roundOf 37 = .ok (.iload_n 1, 1) := dk27 (k := 13) bX12_roundOf_24 rfl
theorem dX12_roundOf_38 : decode cX12_roundOf 38 = .ok (.iload 5, 2) := dk21 (k := 14) bX12_roundOf_24 rfl rfl
theorem dX12_roundOf_40 : decode cX12_roundOf 40 = .ok (.iload 6, 2) := dk21 (k := 16) bX12_roundOf_24 rfl rfl
theorem dX12_roundOf_42 : decode cX12_roundOf 42 = .ok (.invokestatic 295, 3) := dk184 (k := 18) bX12_roundOf_24 rfl rfl
theorem dX12_roundOf_45 : decode cX12_roundOf 45 = .ok (.iload 4, 2) := dk21 (k := 21) bX12_roundOf_24 rfl rfl
theorem dX12_roundOf_47 : decode cX12_roundOf 47 = .ok (.if_icmp .ge 45, 3) := dk162 (k := 23) bX12_roundOf_24 rfl (by decide)
theorem bX12_roundOf_50 : bL cX12_roundOf 50 [42, 29, 21, 5, 21, 6, 21, 5, 21, 6, 182, 1, 43, 28, 162, 0, 6, 167, 0, 25, 27, 21, 5, 21, 6] := bL_of (by decide +kernel)
theorem dX12_roundOf_50 : decode cX12_roundOf 50 = .ok (.aload_n 0, 1) := dk42 (k := 0) bX12_roundOf_50 rfl
theorem dX12_roundOf_51 : decode cX12_roundOf 51 = .ok (.iload_n 3, 1) := dk29 (k := 1) bX12_roundOf_50 rfl
theorem dX12_roundOf_52 : decode cX12_roundOf 52 = .ok (.iload 5, 2) := dk21 (k := 2) bX12_roundOf_50 rfl rfl
theorem dX12_roundOf_54 : decode cX12_roundOf 54 = .ok (.iload 6, 2) := dk21 (k := 4) bX12_roundOf_50 rfl rfl
theorem dX12_roundOf_56 : decode cX12_roundOf 56 = .ok (.iload 5, 2) := dk21 (k := 6) bX12_roundOf_50 rfl rfl
theorem dX12_roundOf_58 : decode cX12_roundOf 58 = .ok (.iload 6, 2) := dk21 (k := 8) bX12_roundOf_50 rfl rfl
theorem dX12_roundOf_60 : decode cX12_roundOf 60 = .ok (.invokevirtual 299, 3) := dk182 (k := 10) bX12_roundOf_50 rfl rfl
theorem dX12_roundOf_63 : decode cX12_roundOf 63 = .ok (.iload_n 2, 1) := dk28 (k := 13) bX12_roundOf_50 rfl
theorem dX12_roundOf_64 : decode cX12_roundOf 64 = .ok (.if_icmp .ge 6, 3) := dk162 (k := 14) bX12_roundOf_50 rfl (by decide)
theorem dX12_roundOf_67 : decode cX12_roundOf 67 = .ok (.goto 25, 3) := dk167 (k := 17) bX12_roundOf_50 rfl (by decide)
theorem dX12_roundOf_70 : decode cX12_roundOf 70 = .ok (.iload_n 1, 1) := dk27 (k := 20) bX12_roundOf_50 rfl
theorem dX12_roundOf_71 : decode cX12_roundOf 71 = .ok (.iload 5, 2) := dk21 (k := 21) bX12_roundOf_50 rfl rfl
theorem dX12_roundOf_73 : decode cX12_roundOf 73 = .ok (.iload 6, 2) := dk21 (k := 23) bX12_roundOf_50 rfl rfl
theorem bX12_roundOf_75 : bL cX12_roundOf 75 [184, 1, 39, 54, 4, 42, 21, 5, 181, 1, 47, 42, 21, 6, 181, 1, 50, 132, 6, 1, 167, 255, 187, 132, 5, 1] := bL_of (by decide +kernel)
theorem dX12_roundOf_75 : decode cX12_roundOf 75 = .ok (.invokestatic 295, 3) := dk184 (k := 0) bX12_roundOf_75 rfl rfl
theorem dX12_roundOf_78 : decode cX12_roundOf 78 = .ok (.istore 4, 2) := dk54 (k := 3) bX12_roundOf_75 rfl rfl
theorem dX12_roundOf_80 : decode cX12_roundOf 80 = .ok (.aload_n 0, 1) := dk42 (k := 5) bX12_roundOf_75 rfl
theorem dX12_roundOf_81 : decode cX12_roundOf 81 = .ok (.iload 5, 2) := dk21 (k := 6) bX12_roundOf_75 rfl rfl
theorem dX12_roundOf_83 : decode cX12_roundOf 83 = .ok (.putfield 303, 3) := dk181 (k := 8) bX12_roundOf_75 rfl rfl
theorem dX12_roundOf_86 : decode cX12_roundOf 86 = .ok (.aload_n 0, 1) := dk42 (k := 11) bX12_roundOf_75 rfl
theorem dX12_roundOf_87 : decode cX12_roundOf 87 = .ok (.iload 6, 2) := dk21 (k := 12) bX12_roundOf_75 rfl rfl
theorem dX12_roundOf_89 : decode cX12_roundOf 89 = .ok (.putfield 306, 3) := dk181 (k := 14) bX12_roundOf_75 rfl rfl
theorem dX12_roundOf_92 : decode cX12_roundOf 92 = .ok (.iinc 6 1, 3) := dk132 (k := 17) bX12_roundOf_75 rfl rfl (by decide)
theorem dX12_roundOf_95 : decode cX12_roundOf 95 = .ok (.goto (-69), 3) := dk167 (k := 20) bX12_roundOf_75 rfl (by decide)
theorem dX12_roundOf_98 : decode cX12_roundOf 98 = .ok (.iinc 5 1, 3) := dk132 (k := 23) bX12_roundOf_75 rfl rfl (by decide)
theorem bX12_roundOf_101 : bL cX12_roundOf 101 [167, 255, 172, 21, 4, 172] := bL_of (by decide +kernel)
theorem dX12_roundOf_101 : decode cX12_roundOf 101 = .ok (.goto (-84), 3) := dk167 (k := 0) bX12_roundOf_101 rfl (by decide)
theorem dX12_roundOf_104 : decode cX12_roundOf 104 = .ok (.iload 4, 2) := dk21 (k := 3) bX12_roundOf_101 rfl rfl
theorem dX12_roundOf_106 : decode cX12_roundOf 106 = .ok (.ireturn, 1) := dk172 (k := 5) bX12_roundOf_101 rfl
theorem bX12_isRound_0 : bL cX12_isRound 0 [42, 27, 133, 182, 0, 203, 153, 0, 19, 28, 133, 10, 20, 1, 53, 184, 0, 65, 153, 0, 7, 4, 167, 0, 4] := bL_of (by decide +kernel)
theorem dX12_isRound_0 : decode cX12_isRound 0 = .ok (.aload_n 0, 1) := dk42 (k := 0) bX12_isRound_0 rfl
theorem dX12_isRound_1 : decode cX12_isRound 1 = .ok (.iload_n 1, 1) := dk27 (k := 1) bX12_isRound_0 rfl
theorem dX12_isRound_2 : decode cX12_isRound 2 = .ok (.i2l, 1) := dk133 (k := 2) bX12_isRound_0 rfl
theorem dX12_isRound_3 : decode cX12_isRound 3 = .ok (.invokevirtual 203, 3) := dk182 (k := 3) bX12_isRound_0 rfl rfl
theorem dX12_isRound_6 : decode cX12_isRound 6 = .ok (.ifCond .eq 19, 3) := dk153 (k := 6) bX12_isRound_0 rfl (by decide)
theorem dX12_isRound_9 : decode cX12_isRound 9 = .ok (.iload_n 2, 1) := dk28 (k := 9) bX12_isRound_0 rfl
theorem dX12_isRound_10 : decode cX12_isRound 10 = .ok (.i2l, 1) := dk133 (k := 10) bX12_isRound_0 rfl
theorem dX12_isRound_11 : decode cX12_isRound 11 = .ok (.lconst 1, 1) := dk10 (k := 11) bX12_isRound_0 rfl
theorem dX12_isRound_12 : decode cX12_isRound 12 = .ok (.ldc2_w 309, 3) := dk20 (k := 12) bX12_isRound_0 rfl rfl
theorem dX12_isRound_15 : decode cX12_isRound 15 = .ok (.invokestatic 65, 3) := dk184 (k := 15) bX12_isRound_0 rfl rfl
theorem dX12_isRound_18 : decode cX12_isRound 18 = .ok (.ifCond .eq 7, 3) := dk153 (k := 18) bX12_isRound_0 rfl (by decide)
theorem dX12_isRound_21 : decode cX12_isRound 21 = .ok (.iconst 1, 1) := dk4 (k := 21) bX12_isRound_0 rfl
theorem dX12_isRound_22 : decode cX12_isRound 22 = .ok (.goto 4, 3) := dk167 (k := 22) bX12_isRound_0 rfl (by decide)
theorem bX12_isRound_25 : bL cX12_isRound 25 [3, 172] := bL_of (by decide +kernel)
theorem dX12_isRound_25 : decode cX12_isRound 25 = .ok (.iconst 0, 1) := dk3 (k := 0) bX12_isRound_25 rfl
theorem dX12_isRound_26 : decode cX12_isRound 26 = .ok (.ireturn, 1) := dk172 (k := 1) bX12_isRound_25 rfl
theorem bX12_round_0 : bL cX12_round 0 [42, 27, 28, 182, 1, 55, 154, 0, 6, 16, 254, 172, 42, 27, 28, 182, 1, 58, 62, 29, 19, 1, 38, 160, 0, 7] := bL_of (by decide +kernel)
theorem dX12_round_0 : decode cX12_round 0 = .ok (.aload_n 0, 1) := dk42 (k := 0) bX12_round_0 rfl
theorem dX12_round_1 : decode cX12_round 1 = .ok (.iload_n 1, 1) := dk27 (k := 1) bX12_round_0 rfl
theorem dX12_round_2 : decode cX12_round 2 = .ok (.iload_n 2, 1) := dk28 (k := 2) bX12_round_0 rfl
theorem dX12_round_3 : decode cX12_round 3 = .ok (.invokevirtual 311, 3) := dk182 (k := 3) bX12_round_0 rfl rfl
theorem dX12_round_6 : decode cX12_round 6 = .ok (.ifCond .ne 6, 3) := dk154 (k := 6) bX12_round_0 rfl (by decide)
theorem dX12_round_9 : decode cX12_round 9 = .ok (.bipush (-2), 2) := dk16 (k := 9) bX12_round_0 rfl (by decide)
theorem dX12_round_11 : decode cX12_round 11 = .ok (.ireturn, 1) := dk172 (k := 11) bX12_round_0 rfl
theorem dX12_round_12 : decode cX12_round 12 = .ok (.aload_n 0, 1) := dk42 (k := 12) bX12_round_0 rfl
theorem dX12_round_13 : decode cX12_round 13 = .ok (.iload_n 1, 1) := dk27 (k := 13) bX12_round_0 rfl
theorem dX12_round_14 : decode cX12_round 14 = .ok (.iload_n 2, 1) := dk28 (k := 14) bX12_round_0 rfl
theorem dX12_round_15 : decode cX12_round 15 = .ok (.invokevirtual 314, 3) := dk182 (k := 15) bX12_round_0 rfl rfl
theorem dX12_round_18 : decode cX12_round 18 = .ok (.istore_n 3, 1) := dk62 (k := 18) bX12_round_0 rfl
theorem dX12_round_19 : decode cX12_round 19 = .ok (.iload_n 3, 1) := dk29 (k := 19) bX12_round_0 rfl
theorem dX12_round_20 : decode cX12_round 20 = .ok (.ldc_w 294, 3) := dk19 (k := 20) bX12_round_0 rfl rfl
theorem dX12_round_23 : decode cX12_round 23 = .ok (.if_icmp .ne 7, 3) := dk160 (k := 23) bX12_round_0 rfl (by decide)
theorem bX12_round_26 : bL cX12_round 26 [2, 167, 0, 4, 29, 172] := bL_of (by decide +kernel)
theorem dX12_round_26 : decode cX12_round 26 = .ok (.iconst (-1), 1) := dk2 (k := 0) bX12_round_26 rfl
theorem dX12_round_27 : decode cX12_round 27 = .ok (.goto 4, 3) := dk167 (k := 1) bX12_round_26 rfl (by decide)
theorem dX12_round_30 : decode cX12_round 30 = .ok (.iload_n 3, 1) := dk29 (k := 4) bX12_round_26 rfl
theorem dX12_round_31 : decode cX12_round 31 = .ok (.ireturn, 1) := dk172 (k := 5) bX12_round_26 rfl
theorem bX12_goes_0 : bL cX12_goes 0 [42, 27, 28, 182, 1, 55, 153, 0, 13, 29, 133, 9, 10, 184, 0, 65, 154, 0, 6, 16, 254, 172, 42, 27] := bL_of (by decide +kernel)
theorem dX12_goes_0 : decode cX12_goes 0 = .ok (.aload_n 0, 1) := dk42 (k := 0) bX12_goes_0 rfl
theorem dX12_goes_1 : decode cX12_goes 1 = .ok (.iload_n 1, 1) := dk27 (k := 1) bX12_goes_0 rfl
theorem dX12_goes_2 : decode cX12_goes 2 = .ok (.iload_n 2, 1) := dk28 (k := 2) bX12_goes_0 rfl
theorem dX12_goes_3 : decode cX12_goes 3 = .ok (.invokevirtual 311, 3) := dk182 (k := 3) bX12_goes_0 rfl rfl
theorem dX12_goes_6 : decode cX12_goes 6 = .ok (.ifCond .eq 13, 3) := dk153 (k := 6) bX12_goes_0 rfl (by decide)
theorem dX12_goes_9 : decode cX12_goes 9 = .ok (.iload_n 3, 1) := dk29 (k := 9) bX12_goes_0 rfl
theorem dX12_goes_10 : decode cX12_goes 10 = .ok (.i2l, 1) := dk133 (k := 10) bX12_goes_0 rfl
theorem dX12_goes_11 : decode cX12_goes 11 = .ok (.lconst 0, 1) := dk9 (k := 11) bX12_goes_0 rfl
theorem dX12_goes_12 : decode cX12_goes 12 = .ok (.lconst 1, 1) := dk10 (k := 12) bX12_goes_0 rfl
theorem dX12_goes_13 : decode cX12_goes 13 = .ok (.invokestatic 65, 3) := dk184 (k := 13) bX12_goes_0 rfl rfl
theorem dX12_goes_16 : decode cX12_goes 16 = .ok (.ifCond .ne 6, 3) := dk154 (k := 16) bX12_goes_0 rfl (by decide)
theorem dX12_goes_19 : decode cX12_goes 19 = .ok (.bipush (-2), 2) := dk16 (k := 19) bX12_goes_0 rfl (by decide)
theorem dX12_goes_21 : decode cX12_goes 21 = .ok (.ireturn, 1) := dk172 (k := 21) bX12_goes_0 rfl
theorem dX12_goes_22 : decode cX12_goes 22 = .ok (.aload_n 0, 1) := dk42 (k := 22) bX12_goes_0 rfl
theorem dX12_goes_23 : decode cX12_goes 23 = .ok (.iload_n 1, 1) := dk27 (k := 23) bX12_goes_0 rfl
theorem bX12_goes_24 : bL cX12_goes 24 [28, 182, 1, 58, 19, 1, 38, 160, 0, 5, 2, 172, 29, 154, 0, 10, 42, 180, 1, 47, 167, 0, 7, 42] := bL_of (by decide +kernel)
theorem dX12_goes_24 : decode cX12_goes 24 = .ok (.iload_n 2, 1) := dk28 (k := 0) bX12_goes_24 rfl
theorem dX12_goes_25 : decode cX12_goes 25 = .ok (.invokevirtual 314, 3) := dk182 (k := 1) bX12_goes_24 rfl rfl
theorem dX12_goes_28 : decode cX12_goes 28 = .ok (.ldc_w 294, 3) := dk19 (k := 4) bX12_goes_24 rfl rfl
theorem dX12_goes_31 : decode cX12_goes 31 = .ok (.if_icmp .ne 5, 3) := dk160 (k := 7) bX12_goes_24 rfl (by decide)
theorem dX12_goes_34 : decode cX12_goes 34 = .ok (.iconst (-1), 1) := dk2 (k := 10) bX12_goes_24 rfl
theorem dX12_goes_35 : decode cX12_goes 35 = .ok (.ireturn, 1) := dk172 (k := 11) bX12_goes_24 rfl
theorem dX12_goes_36 : decode cX12_goes 36 = .ok (.iload_n 3, 1) := dk29 (k := 12) bX12_goes_24 rfl
theorem dX12_goes_37 : decode cX12_goes 37 = .ok (.ifCond .ne 10, 3) := dk154 (k := 13) bX12_goes_24 rfl (by decide)
theorem dX12_goes_40 : decode cX12_goes 40 = .ok (.aload_n 0, 1) := dk42 (k := 16) bX12_goes_24 rfl
theorem dX12_goes_41 : decode cX12_goes 41 = .ok (.getfield 303, 3) := dk180 (k := 17) bX12_goes_24 rfl rfl
theorem dX12_goes_44 : decode cX12_goes 44 = .ok (.goto 7, 3) := dk167 (k := 20) bX12_goes_24 rfl (by decide)
theorem dX12_goes_47 : decode cX12_goes 47 = .ok (.aload_n 0, 1) := dk42 (k := 23) bX12_goes_24 rfl
theorem bX12_goes_48 : bL cX12_goes 48 [180, 1, 50, 172] := bL_of (by decide +kernel)
theorem dX12_goes_48 : decode cX12_goes 48 = .ok (.getfield 306, 3) := dk180 (k := 0) bX12_goes_48 rfl rfl
theorem dX12_goes_51 : decode cX12_goes 51 = .ok (.ireturn, 1) := dk172 (k := 3) bX12_goes_48 rfl
theorem bX12_two_0 : bL cX12_two 0 [42, 27, 29, 182, 1, 55, 153, 0, 12, 42, 28, 133, 182, 0, 203, 154, 0, 6, 16, 254, 172, 42, 182, 0, 240] := bL_of (by decide +kernel)
theorem dX12_two_0 : decode cX12_two 0 = .ok (.aload_n 0, 1) := dk42 (k := 0) bX12_two_0 rfl
theorem dX12_two_1 : decode cX12_two 1 = .ok (.iload_n 1, 1) := dk27 (k := 1) bX12_two_0 rfl
theorem dX12_two_2 : decode cX12_two 2 = .ok (.iload_n 3, 1) := dk29 (k := 2) bX12_two_0 rfl
theorem dX12_two_3 : decode cX12_two 3 = .ok (.invokevirtual 311, 3) := dk182 (k := 3) bX12_two_0 rfl rfl
theorem dX12_two_6 : decode cX12_two 6 = .ok (.ifCond .eq 12, 3) := dk153 (k := 6) bX12_two_0 rfl (by decide)
theorem dX12_two_9 : decode cX12_two 9 = .ok (.aload_n 0, 1) := dk42 (k := 9) bX12_two_0 rfl
theorem dX12_two_10 : decode cX12_two 10 = .ok (.iload_n 2, 1) := dk28 (k := 10) bX12_two_0 rfl
theorem dX12_two_11 : decode cX12_two 11 = .ok (.i2l, 1) := dk133 (k := 11) bX12_two_0 rfl
theorem dX12_two_12 : decode cX12_two 12 = .ok (.invokevirtual 203, 3) := dk182 (k := 12) bX12_two_0 rfl rfl
theorem dX12_two_15 : decode cX12_two 15 = .ok (.ifCond .ne 6, 3) := dk154 (k := 15) bX12_two_0 rfl (by decide)
theorem dX12_two_18 : decode cX12_two 18 = .ok (.bipush (-2), 2) := dk16 (k := 18) bX12_two_0 rfl (by decide)
theorem dX12_two_20 : decode cX12_two 20 = .ok (.ireturn, 1) := dk172 (k := 20) bX12_two_0 rfl
theorem dX12_two_21 : decode cX12_two 21 = .ok (.aload_n 0, 1) := dk42 (k := 21) bX12_two_0 rfl
theorem dX12_two_22 : decode cX12_two 22 = .ok (.invokevirtual 240, 3) := dk182 (k := 22) bX12_two_0 rfl rfl
theorem bX12_two_25 : bL cX12_two 25 [42, 182, 1, 7, 54, 4, 19, 1, 38, 54, 5, 3, 54, 6, 21, 6, 27, 163, 0, 124, 27, 54, 7, 21, 7] := bL_of (by decide +kernel)
theorem dX12_two_25 : decode cX12_two 25 = .ok (.aload_n 0, 1) := dk42 (k := 0) bX12_two_25 rfl
theorem dX12_two_26 : decode cX12_two 26 = .ok (.invokevirtual 263, 3) := dk182 (k := 1) bX12_two_25 rfl rfl
theorem dX12_two_29 : decode cX12_two 29 = .ok (.istore 4, 2) := dk54 (k := 4) bX12_two_25 rfl rfl
theorem dX12_two_31 : decode cX12_two 31 = .ok (.ldc_w 294, 3) := dk19 (k := 6) bX12_two_25 rfl rfl
theorem dX12_two_34 : decode cX12_two 34 = .ok (.istore 5, 2) := dk54 (k := 9) bX12_two_25 rfl rfl
theorem dX12_two_36 : decode cX12_two 36 = .ok (.iconst 0, 1) := dk3 (k := 11) bX12_two_25 rfl
theorem dX12_two_37 : decode cX12_two 37 = .ok (.istore 6, 2) := dk54 (k := 12) bX12_two_25 rfl rfl
theorem dX12_two_39 : decode cX12_two 39 = .ok (.iload 6, 2) := dk21 (k := 14) bX12_two_25 rfl rfl
theorem dX12_two_41 : decode cX12_two 41 = .ok (.iload_n 1, 1) := dk27 (k := 16) bX12_two_25 rfl
theorem dX12_two_42 : decode cX12_two 42 = .ok (.if_icmp .gt 124, 3) := dk163 (k := 17) bX12_two_25 rfl (by decide)
theorem dX12_two_45 : decode cX12_two 45 = .ok (.iload_n 1, 1) := dk27 (k := 20) bX12_two_25 rfl
theorem dX12_two_46 : decode cX12_two 46 = .ok (.istore 7, 2) := dk54 (k := 21) bX12_two_25 rfl rfl
theorem dX12_two_48 : decode cX12_two 48 = .ok (.iload 7, 2) := dk21 (k := 23) bX12_two_25 rfl rfl
theorem bX12_two_50 : bL cX12_two 50 [42, 180, 0, 9, 3, 46, 162, 0, 104, 27, 21, 6, 21, 7, 184, 1, 39, 21, 5, 161, 0, 6, 167, 0, 82] := bL_of (by decide +kernel)
theorem dX12_two_50 : decode cX12_two 50 = .ok (.aload_n 0, 1) := dk42 (k := 0) bX12_two_50 rfl
theorem dX12_two_51 : decode cX12_two 51 = .ok (.getfield 9, 3) := dk180 (k := 1) bX12_two_50 rfl rfl
theorem dX12_two_54 : decode cX12_two 54 = .ok (.iconst 0, 1) := dk3 (k := 4) bX12_two_50 rfl
theorem dX12_two_55 : decode cX12_two 55 = .ok (.iaload, 1) := dk46 (k := 5) bX12_two_50 rfl
theorem dX12_two_56 : decode cX12_two 56 = .ok (.if_icmp .ge 104, 3) := dk162 (k := 6) bX12_two_50 rfl (by decide)
theorem dX12_two_59 : decode cX12_two 59 = .ok (.iload_n 1, 1) := dk27 (k := 9) bX12_two_50 rfl
theorem dX12_two_60 : decode cX12_two 60 = .ok (.iload 6, 2) := dk21 (k := 10) bX12_two_50 rfl rfl
theorem dX12_two_62 : decode cX12_two 62 = .ok (.iload 7, 2) := dk21 (k := 12) bX12_two_50 rfl rfl
theorem dX12_two_64 : decode cX12_two 64 = .ok (.invokestatic 295, 3) := dk184 (k := 14) bX12_two_50 rfl rfl
theorem dX12_two_67 : decode cX12_two 67 = .ok (.iload 5, 2) := dk21 (k := 17) bX12_two_50 rfl rfl
theorem dX12_two_69 : decode cX12_two 69 = .ok (.if_icmp .lt 6, 3) := dk161 (k := 19) bX12_two_50 rfl (by decide)
theorem dX12_two_72 : decode cX12_two 72 = .ok (.goto 82, 3) := dk167 (k := 22) bX12_two_50 rfl (by decide)
theorem bX12_two_75 : bL cX12_two 75 [3, 54, 8, 21, 8, 28, 163, 0, 73, 28, 54, 9, 21, 9, 42, 180, 0, 9, 3, 46, 162, 0, 53, 42] := bL_of (by decide +kernel)
theorem dX12_two_75 : decode cX12_two 75 = .ok (.iconst 0, 1) := dk3 (k := 0) bX12_two_75 rfl
theorem dX12_two_76 : decode cX12_two 76 = .ok (.istore 8, 2) := dk54 (k := 1) bX12_two_75 rfl rfl
theorem dX12_two_78 : decode cX12_two 78 = .ok (.iload 8, 2) := dk21 (k := 3) bX12_two_75 rfl rfl
theorem dX12_two_80 : decode cX12_two 80 = .ok (.iload_n 2, 1) := dk28 (k := 5) bX12_two_75 rfl
theorem dX12_two_81 : decode cX12_two 81 = .ok (.if_icmp .gt 73, 3) := dk163 (k := 6) bX12_two_75 rfl (by decide)
theorem dX12_two_84 : decode cX12_two 84 = .ok (.iload_n 2, 1) := dk28 (k := 9) bX12_two_75 rfl
theorem dX12_two_85 : decode cX12_two 85 = .ok (.istore 9, 2) := dk54 (k := 10) bX12_two_75 rfl rfl
theorem dX12_two_87 : decode cX12_two 87 = .ok (.iload 9, 2) := dk21 (k := 12) bX12_two_75 rfl rfl
theorem dX12_two_89 : decode cX12_two 89 = .ok (.aload_n 0, 1) := dk42 (k := 14) bX12_two_75 rfl
theorem dX12_two_90 : decode cX12_two 90 = .ok (.getfield 9, 3) := dk180 (k := 15) bX12_two_75 rfl rfl
theorem dX12_two_93 : decode cX12_two 93 = .ok (.iconst 0, 1) := dk3 (k := 18) bX12_two_75 rfl
theorem dX12_two_94 : decode cX12_two 94 = .ok (.iaload, 1) := dk46 (k := 19) bX12_two_75 rfl
theorem dX12_two_95 : decode cX12_two 95 = .ok (.if_icmp .ge 53, 3) := dk162 (k := 20) bX12_two_75 rfl (by decide)
theorem dX12_two_98 : decode cX12_two 98 = .ok (.aload_n 0, 1) := dk42 (k := 23) bX12_two_75 rfl
theorem bX12_two_99 : bL cX12_two 99 [21, 4, 21, 6, 21, 7, 21, 8, 21, 9, 182, 1, 43, 29, 161, 0, 29, 21, 5, 27, 21, 6, 21, 7] := bL_of (by decide +kernel)
theorem dX12_two_99 : decode cX12_two 99 = .ok (.iload 4, 2) := dk21 (k := 0) bX12_two_99 rfl rfl
theorem dX12_two_101 : decode cX12_two 101 = .ok (.iload 6, 2) := dk21 (k := 2) bX12_two_99 rfl rfl
theorem dX12_two_103 : decode cX12_two 103 = .ok (.iload 7, 2) := dk21 (k := 4) bX12_two_99 rfl rfl
theorem dX12_two_105 : decode cX12_two 105 = .ok (.iload 8, 2) := dk21 (k := 6) bX12_two_99 rfl rfl
theorem dX12_two_107 : decode cX12_two 107 = .ok (.iload 9, 2) := dk21 (k := 8) bX12_two_99 rfl rfl
theorem dX12_two_109 : decode cX12_two 109 = .ok (.invokevirtual 299, 3) := dk182 (k := 10) bX12_two_99 rfl rfl
theorem dX12_two_112 : decode cX12_two 112 = .ok (.iload_n 3, 1) := dk29 (k := 13) bX12_two_99 rfl
theorem dX12_two_113 : decode cX12_two 113 = .ok (.if_icmp .lt 29, 3) := dk161 (k := 14) bX12_two_99 rfl (by decide)
theorem dX12_two_116 : decode cX12_two 116 = .ok (.iload 5, 2) := dk21 (k := 17) bX12_two_99 rfl rfl
theorem dX12_two_118 : decode cX12_two 118 = .ok (.iload_n 1, 1) := dk27 (k := 19) bX12_two_99 rfl
theorem dX12_two_119 : decode cX12_two 119 = .ok (.iload 6, 2) := dk21 (k := 20) bX12_two_99 rfl rfl
theorem dX12_two_121 : decode cX12_two 121 = .ok (.iload 7, 2) := dk21 (k := 22) bX12_two_99 rfl rfl
theorem bX12_two_123 : bL cX12_two 123 [184, 1, 39, 28, 21, 8, 21, 9, 184, 1, 39, 184, 1, 61, 184, 0, 112, 54, 5, 132, 9, 1, 167, 255, 198] := bL_of (by decide +kernel)
theorem dX12_two_123 : decode cX12_two 123 = .ok (.invokestatic 295, 3) := dk184 (k := 0) bX12_two_123 rfl rfl
theorem dX12_two_126 : decode cX12_two 126 = .ok (.iload_n 2, 1) := dk28 (k := 3) bX12_two_123 rfl
theorem dX12_two_127 : decode cX12_two 127 = .ok (.iload 8, 2) := dk21 (k := 4) bX12_two_123 rfl rfl
theorem dX12_two_129 : decode cX12_two 129 = .ok (.iload 9, 2) := dk21 (k := 6) bX12_two_123 rfl rfl
theorem dX12_two_131 : decode cX12_two 131 = .ok (.invokestatic 295, 3) := dk184 (k := 8) bX12_two_123 rfl rfl
theorem dX12_two_134 : decode cX12_two 134 = .ok (.invokestatic 317, 3) := dk184 (k := 11) bX12_two_123 rfl rfl
theorem dX12_two_137 : decode cX12_two 137 = .ok (.invokestatic 112, 3) := dk184 (k := 14) bX12_two_123 rfl rfl
theorem dX12_two_140 : decode cX12_two 140 = .ok (.istore 5, 2) := dk54 (k := 17) bX12_two_123 rfl rfl
theorem dX12_two_142 : decode cX12_two 142 = .ok (.iinc 9 1, 3) := dk132 (k := 19) bX12_two_123 rfl rfl (by decide)
theorem dX12_two_145 : decode cX12_two 145 = .ok (.goto (-58), 3) := dk167 (k := 22) bX12_two_123 rfl (by decide)
theorem bX12_two_148 : bL cX12_two 148 [132, 8, 1, 167, 255, 183, 132, 7, 1, 167, 255, 147, 132, 6, 1, 167, 255, 132, 21, 5, 19, 1, 38, 160, 0, 7] := bL_of (by decide +kernel)
theorem dX12_two_148 : decode cX12_two 148 = .ok (.iinc 8 1, 3) := dk132 (k := 0) bX12_two_148 rfl rfl (by decide)
theorem dX12_two_151 : decode cX12_two 151 = .ok (.goto (-73), 3) := dk167 (k := 3) bX12_two_148 rfl (by decide)
theorem dX12_two_154 : decode cX12_two 154 = .ok (.iinc 7 1, 3) := dk132 (k := 6) bX12_two_148 rfl rfl (by decide)
theorem dX12_two_157 : decode cX12_two 157 = .ok (.goto (-109), 3) := dk167 (k := 9) bX12_two_148 rfl (by decide)
theorem dX12_two_160 : decode cX12_two 160 = .ok (.iinc 6 1, 3) := dk132 (k := 12) bX12_two_148 rfl rfl (by decide)
theorem dX12_two_163 : decode cX12_two 163 = .ok (.goto (-124), 3) := dk167 (k := 15) bX12_two_148 rfl (by decide)
theorem dX12_two_166 : decode cX12_two 166 = .ok (.iload 5, 2) := dk21 (k := 18) bX12_two_148 rfl rfl
theorem dX12_two_168 : decode cX12_two 168 = .ok (.ldc_w 294, 3) := dk19 (k := 20) bX12_two_148 rfl rfl
theorem dX12_two_171 : decode cX12_two 171 = .ok (.if_icmp .ne 7, 3) := dk160 (k := 23) bX12_two_148 rfl (by decide)
theorem bX12_two_174 : bL cX12_two 174 [2, 167, 0, 5, 21, 5, 172] := bL_of (by decide +kernel)
theorem dX12_two_174 : decode cX12_two 174 = .ok (.iconst (-1), 1) := dk2 (k := 0) bX12_two_174 rfl
theorem dX12_two_175 : decode cX12_two 175 = .ok (.goto 5, 3) := dk167 (k := 1) bX12_two_174 rfl (by decide)
theorem dX12_two_178 : decode cX12_two 178 = .ok (.iload 5, 2) := dk21 (k := 4) bX12_two_174 rfl rfl
theorem dX12_two_180 : decode cX12_two 180 = .ok (.ireturn, 1) := dk172 (k := 6) bX12_two_174 rfl
theorem bX12_isLower_0 : bL cX12_isLower 0 [42, 27, 133, 182, 0, 203, 153, 0, 22, 42, 180, 0, 34, 27, 46, 42, 180, 0, 34, 28, 46, 162, 0, 7] := bL_of (by decide +kernel)
theorem dX12_isLower_0 : decode cX12_isLower 0 = .ok (.aload_n 0, 1) := dk42 (k := 0) bX12_isLower_0 rfl
theorem dX12_isLower_1 : decode cX12_isLower 1 = .ok (.iload_n 1, 1) := dk27 (k := 1) bX12_isLower_0 rfl
theorem dX12_isLower_2 : decode cX12_isLower 2 = .ok (.i2l, 1) := dk133 (k := 2) bX12_isLower_0 rfl
theorem dX12_isLower_3 : decode cX12_isLower 3 = .ok (.invokevirtual 203, 3) := dk182 (k := 3) bX12_isLower_0 rfl rfl
theorem dX12_isLower_6 : decode cX12_isLower 6 = .ok (.ifCond .eq 22, 3) := dk153 (k := 6) bX12_isLower_0 rfl (by decide)
theorem dX12_isLower_9 : decode cX12_isLower 9 = .ok (.aload_n 0, 1) := dk42 (k := 9) bX12_isLower_0 rfl
theorem dX12_isLower_10 : decode cX12_isLower 10 = .ok (.getfield 34, 3) := dk180 (k := 10) bX12_isLower_0 rfl rfl
theorem dX12_isLower_13 : decode cX12_isLower 13 = .ok (.iload_n 1, 1) := dk27 (k := 13) bX12_isLower_0 rfl
theorem dX12_isLower_14 : decode cX12_isLower 14 = .ok (.iaload, 1) := dk46 (k := 14) bX12_isLower_0 rfl
theorem dX12_isLower_15 : decode cX12_isLower 15 = .ok (.aload_n 0, 1) := dk42 (k := 15) bX12_isLower_0 rfl
theorem dX12_isLower_16 : decode cX12_isLower 16 = .ok (.getfield 34, 3) := dk180 (k := 16) bX12_isLower_0 rfl rfl
theorem dX12_isLower_19 : decode cX12_isLower 19 = .ok (.iload_n 2, 1) := dk28 (k := 19) bX12_isLower_0 rfl
theorem dX12_isLower_20 : decode cX12_isLower 20 = .ok (.iaload, 1) := dk46 (k := 20) bX12_isLower_0 rfl
theorem dX12_isLower_21 : decode cX12_isLower 21 = .ok (.if_icmp .ge 7, 3) := dk162 (k := 21) bX12_isLower_0 rfl (by decide)
theorem bX12_isLower_24 : bL cX12_isLower 24 [4, 167, 0, 4, 3, 172] := bL_of (by decide +kernel)
theorem dX12_isLower_24 : decode cX12_isLower 24 = .ok (.iconst 1, 1) := dk4 (k := 0) bX12_isLower_24 rfl
theorem dX12_isLower_25 : decode cX12_isLower 25 = .ok (.goto 4, 3) := dk167 (k := 1) bX12_isLower_24 rfl (by decide)
theorem dX12_isLower_28 : decode cX12_isLower 28 = .ok (.iconst 0, 1) := dk3 (k := 4) bX12_isLower_24 rfl
theorem dX12_isLower_29 : decode cX12_isLower 29 = .ok (.ireturn, 1) := dk172 (k := 5) bX12_isLower_24 rfl
theorem bX12_flowOf_0 : bL cX12_flowOf 0 [27, 61, 42, 28, 4, 100, 28, 182, 1, 64, 154, 0, 14, 42, 28, 4, 96, 28, 182, 1, 64, 153, 0, 67] := bL_of (by decide +kernel)
theorem dX12_flowOf_0 : decode cX12_flowOf 0 = .ok (.iload_n 1, 1) := dk27 (k := 0) bX12_flowOf_0 rfl
theorem dX12_flowOf_1 : decode cX12_flowOf 1 = .ok (.istore_n 2, 1) := dk61 (k := 1) bX12_flowOf_0 rfl
theorem dX12_flowOf_2 : decode cX12_flowOf 2 = .ok (.aload_n 0, 1) := dk42 (k := 2) bX12_flowOf_0 rfl
theorem dX12_flowOf_3 : decode cX12_flowOf 3 = .ok (.iload_n 2, 1) := dk28 (k := 3) bX12_flowOf_0 rfl
theorem dX12_flowOf_4 : decode cX12_flowOf 4 = .ok (.iconst 1, 1) := dk4 (k := 4) bX12_flowOf_0 rfl
theorem dX12_flowOf_5 : decode cX12_flowOf 5 = .ok (.isub, 1) := dk100 (k := 5) bX12_flowOf_0 rfl
theorem dX12_flowOf_6 : decode cX12_flowOf 6 = .ok (.iload_n 2, 1) := dk28 (k := 6) bX12_flowOf_0 rfl
theorem dX12_flowOf_7 : decode cX12_flowOf 7 = .ok (.invokevirtual 320, 3) := dk182 (k := 7) bX12_flowOf_0 rfl rfl
theorem dX12_flowOf_10 : decode cX12_flowOf 10 = .ok (.ifCond .ne 14, 3) := dk154 (k := 10) bX12_flowOf_0 rfl (by decide)
theorem dX12_flowOf_13 : decode cX12_flowOf 13 = .ok (.aload_n 0, 1) := dk42 (k := 13) bX12_flowOf_0 rfl
theorem dX12_flowOf_14 : decode cX12_flowOf 14 = .ok (.iload_n 2, 1) := dk28 (k := 14) bX12_flowOf_0 rfl
theorem dX12_flowOf_15 : decode cX12_flowOf 15 = .ok (.iconst 1, 1) := dk4 (k := 15) bX12_flowOf_0 rfl
theorem dX12_flowOf_16 : decode cX12_flowOf 16 = .ok (.iadd, 1) := dk96 (k := 16) bX12_flowOf_0 rfl
theorem dX12_flowOf_17 : decode cX12_flowOf 17 = .ok (.iload_n 2, 1) := dk28 (k := 17) bX12_flowOf_0 rfl
theorem dX12_flowOf_18 : decode cX12_flowOf 18 = .ok (.invokevirtual 320, 3) := dk182 (k := 18) bX12_flowOf_0 rfl rfl
theorem dX12_flowOf_21 : decode cX12_flowOf 21 = .ok (.ifCond .eq 67, 3) := dk153 (k := 21) bX12_flowOf_0 rfl (by decide)
theorem bX12_flowOf_24 : bL cX12_flowOf 24 [42, 28, 4, 100, 28, 182, 1, 64, 153, 0, 37, 42, 28, 4, 96, 28, 182, 1, 64, 153, 0, 22, 42, 180, 0, 34] := bL_of (by decide +kernel)
theorem dX12_flowOf_24 : decode cX12_flowOf 24 = .ok (.aload_n 0, 1) := dk42 (k := 0) bX12_flowOf_24 rfl
theorem dX12_flowOf_25 : decode cX12_flowOf 25 = .ok (.iload_n 2, 1) := dk28 (k := 1) bX12_flowOf_24 rfl
theorem dX12_flowOf_26 : decode cX12_flowOf 26 = .ok (.iconst 1, 1) := dk4 (k := 2) bX12_flowOf_24 rfl
theorem dX12_flowOf_27 : decode cX12_flowOf 27 = .ok (.isub, 1) := dk100 (k := 3) bX12_flowOf_24 rfl
theorem dX12_flowOf_28 : decode cX12_flowOf 28 = .ok (.iload_n 2, 1) := dk28 (k := 4) bX12_flowOf_24 rfl
theorem dX12_flowOf_29 : decode cX12_flowOf 29 = .ok (.invokevirtual 320, 3) := dk182 (k := 5) bX12_flowOf_24 rfl rfl
theorem dX12_flowOf_32 : decode cX12_flowOf 32 = .ok (.ifCond .eq 37, 3) := dk153 (k := 8) bX12_flowOf_24 rfl (by decide)
theorem dX12_flowOf_35 : decode cX12_flowOf 35 = .ok (.aload_n 0, 1) := dk42 (k := 11) bX12_flowOf_24 rfl
theorem dX12_flowOf_36 : decode cX12_flowOf 36 = .ok (.iload_n 2, 1) := dk28 (k := 12) bX12_flowOf_24 rfl
theorem dX12_flowOf_37 : decode cX12_flowOf 37 = .ok (.iconst 1, 1) := dk4 (k := 13) bX12_flowOf_24 rfl
theorem dX12_flowOf_38 : decode cX12_flowOf 38 = .ok (.iadd, 1) := dk96 (k := 14) bX12_flowOf_24 rfl
theorem dX12_flowOf_39 : decode cX12_flowOf 39 = .ok (.iload_n 2, 1) := dk28 (k := 15) bX12_flowOf_24 rfl
theorem dX12_flowOf_40 : decode cX12_flowOf 40 = .ok (.invokevirtual 320, 3) := dk182 (k := 16) bX12_flowOf_24 rfl rfl
theorem dX12_flowOf_43 : decode cX12_flowOf 43 = .ok (.ifCond .eq 22, 3) := dk153 (k := 19) bX12_flowOf_24 rfl (by decide)
theorem dX12_flowOf_46 : decode cX12_flowOf 46 = .ok (.aload_n 0, 1) := dk42 (k := 22) bX12_flowOf_24 rfl
theorem dX12_flowOf_47 : decode cX12_flowOf 47 = .ok (.getfield 34, 3) := dk180 (k := 23) bX12_flowOf_24 rfl rfl
theorem bX12_flowOf_50 : bL cX12_flowOf 50 [28, 4, 100, 46, 42, 180, 0, 34, 28, 4, 96, 46, 163, 0, 7, 4, 167, 0, 4, 3, 62, 29, 153, 0, 9] := bL_of (by decide +kernel)
theorem dX12_flowOf_50 : decode cX12_flowOf 50 = .ok (.iload_n 2, 1) := dk28 (k := 0) bX12_flowOf_50 rfl
theorem dX12_flowOf_51 : decode cX12_flowOf 51 = .ok (.iconst 1, 1) := dk4 (k := 1) bX12_flowOf_50 rfl
theorem dX12_flowOf_52 : decode cX12_flowOf 52 = .ok (.isub, 1) := dk100 (k := 2) bX12_flowOf_50 rfl
theorem dX12_flowOf_53 : decode cX12_flowOf 53 = .ok (.iaload, 1) := dk46 (k := 3) bX12_flowOf_50 rfl
theorem dX12_flowOf_54 : decode cX12_flowOf 54 = .ok (.aload_n 0, 1) := dk42 (k := 4) bX12_flowOf_50 rfl
theorem dX12_flowOf_55 : decode cX12_flowOf 55 = .ok (.getfield 34, 3) := dk180 (k := 5) bX12_flowOf_50 rfl rfl
theorem dX12_flowOf_58 : decode cX12_flowOf 58 = .ok (.iload_n 2, 1) := dk28 (k := 8) bX12_flowOf_50 rfl
theorem dX12_flowOf_59 : decode cX12_flowOf 59 = .ok (.iconst 1, 1) := dk4 (k := 9) bX12_flowOf_50 rfl
theorem dX12_flowOf_60 : decode cX12_flowOf 60 = .ok (.iadd, 1) := dk96 (k := 10) bX12_flowOf_50 rfl
theorem dX12_flowOf_61 : decode cX12_flowOf 61 = .ok (.iaload, 1) := dk46 (k := 11) bX12_flowOf_50 rfl
theorem dX12_flowOf_62 : decode cX12_flowOf 62 = .ok (.if_icmp .gt 7, 3) := dk163 (k := 12) bX12_flowOf_50 rfl (by decide)
theorem dX12_flowOf_65 : decode cX12_flowOf 65 = .ok (.iconst 1, 1) := dk4 (k := 15) bX12_flowOf_50 rfl
theorem dX12_flowOf_66 : decode cX12_flowOf 66 = .ok (.goto 4, 3) := dk167 (k := 16) bX12_flowOf_50 rfl (by decide)
theorem dX12_flowOf_69 : decode cX12_flowOf 69 = .ok (.iconst 0, 1) := dk3 (k := 19) bX12_flowOf_50 rfl
theorem dX12_flowOf_70 : decode cX12_flowOf 70 = .ok (.istore_n 3, 1) := dk62 (k := 20) bX12_flowOf_50 rfl
theorem dX12_flowOf_71 : decode cX12_flowOf 71 = .ok (.iload_n 3, 1) := dk29 (k := 21) bX12_flowOf_50 rfl
theorem dX12_flowOf_72 : decode cX12_flowOf 72 = .ok (.ifCond .eq 9, 3) := dk153 (k := 22) bX12_flowOf_50 rfl (by decide)
theorem bX12_flowOf_75 : bL cX12_flowOf 75 [28, 4, 100, 167, 0, 6, 28, 4, 96, 61, 167, 255, 173, 28, 172] := bL_of (by decide +kernel)
theorem dX12_flowOf_75 : decode cX12_flowOf 75 = .ok (.iload_n 2, 1) := dk28 (k := 0) bX12_flowOf_75 rfl
theorem dX12_flowOf_76 : decode cX12_flowOf 76 = .ok (.iconst 1, 1) := dk4 (k := 1) bX12_flowOf_75 rfl
theorem dX12_flowOf_77 : decode cX12_flowOf 77 = .ok (.isub, 1) := dk100 (k := 2) bX12_flowOf_75 rfl
theorem dX12_flowOf_78 : decode cX12_flowOf 78 = .ok (.goto 6, 3) := dk167 (k := 3) bX12_flowOf_75 rfl (by decide)
theorem dX12_flowOf_81 : decode cX12_flowOf 81 = .ok (.iload_n 2, 1) := dk28 (k := 6) bX12_flowOf_75 rfl
theorem dX12_flowOf_82 : decode cX12_flowOf 82 = .ok (.iconst 1, 1) := dk4 (k := 7) bX12_flowOf_75 rfl
theorem dX12_flowOf_83 : decode cX12_flowOf 83 = .ok (.iadd, 1) := dk96 (k := 8) bX12_flowOf_75 rfl
theorem dX12_flowOf_84 : decode cX12_flowOf 84 = .ok (.istore_n 2, 1) := dk61 (k := 9) bX12_flowOf_75 rfl
theorem dX12_flowOf_85 : decode cX12_flowOf 85 = .ok (.goto (-83), 3) := dk167 (k := 10) bX12_flowOf_75 rfl (by decide)
theorem dX12_flowOf_88 : decode cX12_flowOf 88 = .ok (.iload_n 2, 1) := dk28 (k := 13) bX12_flowOf_75 rfl
theorem dX12_flowOf_89 : decode cX12_flowOf 89 = .ok (.ireturn, 1) := dk172 (k := 14) bX12_flowOf_75 rfl
theorem bX12_flows_0 : bL cX12_flows 0 [42, 27, 133, 182, 0, 203, 154, 0, 6, 16, 254, 172, 42, 182, 0, 240, 42, 27, 182, 1, 67, 172] := bL_of (by decide +kernel)
theorem dX12_flows_0 : decode cX12_flows 0 = .ok (.aload_n 0, 1) := dk42 (k := 0) bX12_flows_0 rfl
theorem dX12_flows_1 : decode cX12_flows 1 = .ok (.iload_n 1, 1) := dk27 (k := 1) bX12_flows_0 rfl
theorem dX12_flows_2 : decode cX12_flows 2 = .ok (.i2l, 1) := dk133 (k := 2) bX12_flows_0 rfl
theorem dX12_flows_3 : decode cX12_flows 3 = .ok (.invokevirtual 203, 3) := dk182 (k := 3) bX12_flows_0 rfl rfl
theorem dX12_flows_6 : decode cX12_flows 6 = .ok (.ifCond .ne 6, 3) := dk154 (k := 6) bX12_flows_0 rfl (by decide)
theorem dX12_flows_9 : decode cX12_flows 9 = .ok (.bipush (-2), 2) := dk16 (k := 9) bX12_flows_0 rfl (by decide)
theorem dX12_flows_11 : decode cX12_flows 11 = .ok (.ireturn, 1) := dk172 (k := 11) bX12_flows_0 rfl
theorem dX12_flows_12 : decode cX12_flows 12 = .ok (.aload_n 0, 1) := dk42 (k := 12) bX12_flows_0 rfl
theorem dX12_flows_13 : decode cX12_flows 13 = .ok (.invokevirtual 240, 3) := dk182 (k := 13) bX12_flows_0 rfl rfl
theorem dX12_flows_16 : decode cX12_flows 16 = .ok (.aload_n 0, 1) := dk42 (k := 16) bX12_flows_0 rfl
theorem dX12_flows_17 : decode cX12_flows 17 = .ok (.iload_n 1, 1) := dk27 (k := 17) bX12_flows_0 rfl
theorem dX12_flows_18 : decode cX12_flows 18 = .ok (.invokevirtual 323, 3) := dk182 (k := 18) bX12_flows_0 rfl rfl
theorem dX12_flows_21 : decode cX12_flows 21 = .ok (.ireturn, 1) := dk172 (k := 21) bX12_flows_0 rfl
theorem bX12_basin_0 : bL cX12_basin 0 [42, 27, 133, 182, 0, 203, 154, 0, 6, 16, 254, 172, 42, 182, 0, 240, 3, 61, 3, 62, 29, 42, 180, 0, 9] := bL_of (by decide +kernel)
theorem dX12_basin_0 : decode cX12_basin 0 = .ok (.aload_n 0, 1) := dk42 (k := 0) bX12_basin_0 rfl
theorem dX12_basin_1 : decode cX12_basin 1 = .ok (.iload_n 1, 1) := dk27 (k := 1) bX12_basin_0 rfl
theorem dX12_basin_2 : decode cX12_basin 2 = .ok (.i2l, 1) := dk133 (k := 2) bX12_basin_0 rfl
theorem dX12_basin_3 : decode cX12_basin 3 = .ok (.invokevirtual 203, 3) := dk182 (k := 3) bX12_basin_0 rfl rfl
theorem dX12_basin_6 : decode cX12_basin 6 = .ok (.ifCond .ne 6, 3) := dk154 (k := 6) bX12_basin_0 rfl (by decide)
theorem dX12_basin_9 : decode cX12_basin 9 = .ok (.bipush (-2), 2) := dk16 (k := 9) bX12_basin_0 rfl (by decide)
theorem dX12_basin_11 : decode cX12_basin 11 = .ok (.ireturn, 1) := dk172 (k := 11) bX12_basin_0 rfl
theorem dX12_basin_12 : decode cX12_basin 12 = .ok (.aload_n 0, 1) := dk42 (k := 12) bX12_basin_0 rfl
theorem dX12_basin_13 : decode cX12_basin 13 = .ok (.invokevirtual 240, 3) := dk182 (k := 13) bX12_basin_0 rfl rfl
theorem dX12_basin_16 : decode cX12_basin 16 = .ok (.iconst 0, 1) := dk3 (k := 16) bX12_basin_0 rfl
theorem dX12_basin_17 : decode cX12_basin 17 = .ok (.istore_n 2, 1) := dk61 (k := 17) bX12_basin_0 rfl
theorem dX12_basin_18 : decode cX12_basin 18 = .ok (.iconst 0, 1) := dk3 (k := 18) bX12_basin_0 rfl
theorem dX12_basin_19 : decode cX12_basin 19 = .ok (.istore_n 3, 1) := dk62 (k := 19) bX12_basin_0 rfl
theorem dX12_basin_20 : decode cX12_basin 20 = .ok (.iload_n 3, 1) := dk29 (k := 20) bX12_basin_0 rfl
theorem dX12_basin_21 : decode cX12_basin 21 = .ok (.aload_n 0, 1) := dk42 (k := 21) bX12_basin_0 rfl
theorem dX12_basin_22 : decode cX12_basin 22 = .ok (.getfield 9, 3) := dk180 (k := 22) bX12_basin_0 rfl rfl
theorem bX12_basin_25 : bL cX12_basin 25 [3, 46, 162, 0, 28, 28, 42, 29, 182, 1, 67, 27, 160, 0, 9, 4, 29, 120, 167, 0, 4, 3, 128, 61] := bL_of (by decide +kernel)
theorem dX12_basin_25 : decode cX12_basin 25 = .ok (.iconst 0, 1) := dk3 (k := 0) bX12_basin_25 rfl
theorem dX12_basin_26 : decode cX12_basin 26 = .ok (.iaload, 1) := dk46 (k := 1) bX12_basin_25 rfl
theorem dX12_basin_27 : decode cX12_basin 27 = .ok (.if_icmp .ge 28, 3) := dk162 (k := 2) bX12_basin_25 rfl (by decide)
theorem dX12_basin_30 : decode cX12_basin 30 = .ok (.iload_n 2, 1) := dk28 (k := 5) bX12_basin_25 rfl
theorem dX12_basin_31 : decode cX12_basin 31 = .ok (.aload_n 0, 1) := dk42 (k := 6) bX12_basin_25 rfl
theorem dX12_basin_32 : decode cX12_basin 32 = .ok (.iload_n 3, 1) := dk29 (k := 7) bX12_basin_25 rfl
theorem dX12_basin_33 : decode cX12_basin 33 = .ok (.invokevirtual 323, 3) := dk182 (k := 8) bX12_basin_25 rfl rfl
theorem dX12_basin_36 : decode cX12_basin 36 = .ok (.iload_n 1, 1) := dk27 (k := 11) bX12_basin_25 rfl
theorem dX12_basin_37 : decode cX12_basin 37 = .ok (.if_icmp .ne 9, 3) := dk160 (k := 12) bX12_basin_25 rfl (by decide)
theorem dX12_basin_40 : decode cX12_basin 40 = .ok (.iconst 1, 1) := dk4 (k := 15) bX12_basin_25 rfl
theorem dX12_basin_41 : decode cX12_basin 41 = .ok (.iload_n 3, 1) := dk29 (k := 16) bX12_basin_25 rfl
theorem dX12_basin_42 : decode cX12_basin 42 = .ok (.ishl, 1) := dk120 (k := 17) bX12_basin_25 rfl
theorem dX12_basin_43 : decode cX12_basin 43 = .ok (.goto 4, 3) := dk167 (k := 18) bX12_basin_25 rfl (by decide)
theorem dX12_basin_46 : decode cX12_basin 46 = .ok (.iconst 0, 1) := dk3 (k := 21) bX12_basin_25 rfl
theorem dX12_basin_47 : decode cX12_basin 47 = .ok (.ior, 1) := dk128 (k := 22) bX12_basin_25 rfl
theorem dX12_basin_48 : decode cX12_basin 48 = .ok (.istore_n 2, 1) := dk61 (k := 23) bX12_basin_25 rfl
theorem bX12_basin_49 : bL cX12_basin 49 [132, 3, 1, 167, 255, 224, 28, 172] := bL_of (by decide +kernel)
theorem dX12_basin_49 : decode cX12_basin 49 = .ok (.iinc 3 1, 3) := dk132 (k := 0) bX12_basin_49 rfl rfl (by decide)
theorem dX12_basin_52 : decode cX12_basin 52 = .ok (.goto (-32), 3) := dk167 (k := 3) bX12_basin_49 rfl (by decide)
theorem dX12_basin_55 : decode cX12_basin 55 = .ok (.iload_n 2, 1) := dk28 (k := 6) bX12_basin_49 rfl
theorem dX12_basin_56 : decode cX12_basin 56 = .ok (.ireturn, 1) := dk172 (k := 7) bX12_basin_49 rfl
theorem bX12_cliffs_0 : bL cX12_cliffs 0 [42, 182, 0, 73, 154, 0, 6, 16, 254, 172, 42, 182, 0, 240, 3, 60, 4, 61, 28, 42, 180, 0, 9, 3] := bL_of (by decide +kernel)
theorem dX12_cliffs_0 : decode cX12_cliffs 0 = .ok (.aload_n 0, 1) := dk42 (k := 0) bX12_cliffs_0 rfl
theorem dX12_cliffs_1 : decode cX12_cliffs 1 = .ok (.invokevirtual 73, 3) := dk182 (k := 1) bX12_cliffs_0 rfl rfl
theorem dX12_cliffs_4 : decode cX12_cliffs 4 = .ok (.ifCond .ne 6, 3) := dk154 (k := 4) bX12_cliffs_0 rfl (by decide)
theorem dX12_cliffs_7 : decode cX12_cliffs 7 = .ok (.bipush (-2), 2) := dk16 (k := 7) bX12_cliffs_0 rfl (by decide)
theorem dX12_cliffs_9 : decode cX12_cliffs 9 = .ok (.ireturn, 1) := dk172 (k := 9) bX12_cliffs_0 rfl
theorem dX12_cliffs_10 : decode cX12_cliffs 10 = .ok (.aload_n 0, 1) := dk42 (k := 10) bX12_cliffs_0 rfl
theorem dX12_cliffs_11 : decode cX12_cliffs 11 = .ok (.invokevirtual 240, 3) := dk182 (k := 11) bX12_cliffs_0 rfl rfl
theorem dX12_cliffs_14 : decode cX12_cliffs 14 = .ok (.iconst 0, 1) := dk3 (k := 14) bX12_cliffs_0 rfl
theorem dX12_cliffs_15 : decode cX12_cliffs 15 = .ok (.istore_n 1, 1) := dk60 (k := 15) bX12_cliffs_0 rfl
theorem dX12_cliffs_16 : decode cX12_cliffs 16 = .ok (.iconst 1, 1) := dk4 (k := 16) bX12_cliffs_0 rfl
theorem dX12_cliffs_17 : decode cX12_cliffs 17 = .ok (.istore_n 2, 1) := dk61 (k := 17) bX12_cliffs_0 rfl
theorem dX12_cliffs_18 : decode cX12_cliffs 18 = .ok (.iload_n 2, 1) := dk28 (k := 18) bX12_cliffs_0 rfl
theorem dX12_cliffs_19 : decode cX12_cliffs 19 = .ok (.aload_n 0, 1) := dk42 (k := 19) bX12_cliffs_0 rfl
theorem dX12_cliffs_20 : decode cX12_cliffs 20 = .ok (.getfield 9, 3) := dk180 (k := 20) bX12_cliffs_0 rfl rfl
theorem dX12_cliffs_23 : decode cX12_cliffs 23 = .ok (.iconst 0, 1) := dk3 (k := 23) bX12_cliffs_0 rfl
theorem bX12_cliffs_24 : bL cX12_cliffs 24 [46, 162, 0, 44, 27, 42, 180, 0, 34, 28, 46, 42, 180, 0, 34, 28, 4, 100, 46, 100, 184, 0, 214, 42] := bL_of (by decide +kernel)
theorem dX12_cliffs_24 : decode cX12_cliffs 24 = .ok (.iaload, 1) := dk46 (k := 0) bX12_cliffs_24 rfl
theorem dX12_cliffs_25 : decode cX12_cliffs 25 = .ok (.if_icmp .ge 44, 3) := dk162 (k := 1) bX12_cliffs_24 rfl (by decide)
theorem dX12_cliffs_28 : decode cX12_cliffs 28 = .ok (.iload_n 1, 1) := dk27 (k := 4) bX12_cliffs_24 rfl
theorem dX12_cliffs_29 : decode cX12_cliffs 29 = .ok (.aload_n 0, 1) := dk42 (k := 5) bX12_cliffs_24 rfl
theorem dX12_cliffs_30 : decode cX12_cliffs 30 = .ok (.getfield 34, 3) := dk180 (k := 6) bX12_cliffs_24 rfl rfl
theorem dX12_cliffs_33 : decode cX12_cliffs 33 = .ok (.iload_n 2, 1) := dk28 (k := 9) bX12_cliffs_24 rfl
theorem dX12_cliffs_34 : decode cX12_cliffs 34 = .ok (.iaload, 1) := dk46 (k := 10) bX12_cliffs_24 rfl
theorem dX12_cliffs_35 : decode cX12_cliffs 35 = .ok (.aload_n 0, 1) := dk42 (k := 11) bX12_cliffs_24 rfl
theorem dX12_cliffs_36 : decode cX12_cliffs 36 = .ok (.getfield 34, 3) := dk180 (k := 12) bX12_cliffs_24 rfl rfl
theorem dX12_cliffs_39 : decode cX12_cliffs 39 = .ok (.iload_n 2, 1) := dk28 (k := 15) bX12_cliffs_24 rfl
theorem dX12_cliffs_40 : decode cX12_cliffs 40 = .ok (.iconst 1, 1) := dk4 (k := 16) bX12_cliffs_24 rfl
theorem dX12_cliffs_41 : decode cX12_cliffs 41 = .ok (.isub, 1) := dk100 (k := 17) bX12_cliffs_24 rfl
theorem dX12_cliffs_42 : decode cX12_cliffs 42 = .ok (.iaload, 1) := dk46 (k := 18) bX12_cliffs_24 rfl
theorem dX12_cliffs_43 : decode cX12_cliffs 43 = .ok (.isub, 1) := dk100 (k := 19) bX12_cliffs_24 rfl
theorem dX12_cliffs_44 : decode cX12_cliffs 44 = .ok (.invokestatic 214, 3) := dk184 (k := 20) bX12_cliffs_24 rfl rfl
theorem dX12_cliffs_47 : decode cX12_cliffs 47 = .ok (.aload_n 0, 1) := dk42 (k := 23) bX12_cliffs_24 rfl
theorem bX12_cliffs_48 : bL cX12_cliffs 48 [180, 0, 9, 5, 46, 164, 0, 7, 4, 167, 0, 4, 3, 96, 60, 132, 2, 1, 167, 255, 208, 27, 172] := bL_of (by decide +kernel)
theorem dX12_cliffs_48 : decode cX12_cliffs 48 = .ok (.getfield 9, 3) := dk180 (k := 0) bX12_cliffs_48 rfl rfl
theorem dX12_cliffs_51 : decode cX12_cliffs 51 = .ok (.iconst 2, 1) := dk5 (k := 3) bX12_cliffs_48 rfl
theorem dX12_cliffs_52 : decode cX12_cliffs 52 = .ok (.iaload, 1) := dk46 (k := 4) bX12_cliffs_48 rfl
theorem dX12_cliffs_53 : decode cX12_cliffs 53 = .ok (.if_icmp .le 7, 3) := dk164 (k := 5) bX12_cliffs_48 rfl (by decide)
theorem dX12_cliffs_56 : decode cX12_cliffs 56 = .ok (.iconst 1, 1) := dk4 (k := 8) bX12_cliffs_48 rfl
theorem dX12_cliffs_57 : decode cX12_cliffs 57 = .ok (.goto 4, 3) := dk167 (k := 9) bX12_cliffs_48 rfl (by decide)
theorem dX12_cliffs_60 : decode cX12_cliffs 60 = .ok (.iconst 0, 1) := dk3 (k := 12) bX12_cliffs_48 rfl
theorem dX12_cliffs_61 : decode cX12_cliffs 61 = .ok (.iadd, 1) := dk96 (k := 13) bX12_cliffs_48 rfl
theorem dX12_cliffs_62 : decode cX12_cliffs 62 = .ok (.istore_n 1, 1) := dk60 (k := 14) bX12_cliffs_48 rfl
theorem dX12_cliffs_63 : decode cX12_cliffs 63 = .ok (.iinc 2 1, 3) := dk132 (k := 15) bX12_cliffs_48 rfl rfl (by decide)
theorem dX12_cliffs_66 : decode cX12_cliffs 66 = .ok (.goto (-48), 3) := dk167 (k := 18) bX12_cliffs_48 rfl (by decide)
theorem dX12_cliffs_69 : decode cX12_cliffs 69 = .ok (.iload_n 1, 1) := dk27 (k := 21) bX12_cliffs_48 rfl
theorem dX12_cliffs_70 : decode cX12_cliffs 70 = .ok (.ireturn, 1) := dk172 (k := 22) bX12_cliffs_48 rfl
theorem bX12_springs_0 : bL cX12_springs 0 [42, 182, 0, 73, 154, 0, 6, 16, 254, 172, 42, 182, 0, 240, 3, 60, 3, 61, 28, 42, 180, 0, 9, 3] := bL_of (by decide +kernel)
theorem dX12_springs_0 : decode cX12_springs 0 = .ok (.aload_n 0, 1) := dk42 (k := 0) bX12_springs_0 rfl
theorem dX12_springs_1 : decode cX12_springs 1 = .ok (.invokevirtual 73, 3) := dk182 (k := 1) bX12_springs_0 rfl rfl
theorem dX12_springs_4 : decode cX12_springs 4 = .ok (.ifCond .ne 6, 3) := dk154 (k := 4) bX12_springs_0 rfl (by decide)
theorem dX12_springs_7 : decode cX12_springs 7 = .ok (.bipush (-2), 2) := dk16 (k := 7) bX12_springs_0 rfl (by decide)
theorem dX12_springs_9 : decode cX12_springs 9 = .ok (.ireturn, 1) := dk172 (k := 9) bX12_springs_0 rfl
theorem dX12_springs_10 : decode cX12_springs 10 = .ok (.aload_n 0, 1) := dk42 (k := 10) bX12_springs_0 rfl
theorem dX12_springs_11 : decode cX12_springs 11 = .ok (.invokevirtual 240, 3) := dk182 (k := 11) bX12_springs_0 rfl rfl
theorem dX12_springs_14 : decode cX12_springs 14 = .ok (.iconst 0, 1) := dk3 (k := 14) bX12_springs_0 rfl
theorem dX12_springs_15 : decode cX12_springs 15 = .ok (.istore_n 1, 1) := dk60 (k := 15) bX12_springs_0 rfl
theorem dX12_springs_16 : decode cX12_springs 16 = .ok (.iconst 0, 1) := dk3 (k := 16) bX12_springs_0 rfl
theorem dX12_springs_17 : decode cX12_springs 17 = .ok (.istore_n 2, 1) := dk61 (k := 17) bX12_springs_0 rfl
theorem dX12_springs_18 : decode cX12_springs 18 = .ok (.iload_n 2, 1) := dk28 (k := 18) bX12_springs_0 rfl
theorem dX12_springs_19 : decode cX12_springs 19 = .ok (.aload_n 0, 1) := dk42 (k := 19) bX12_springs_0 rfl
theorem dX12_springs_20 : decode cX12_springs 20 = .ok (.getfield 9, 3) := dk180 (k := 20) bX12_springs_0 rfl rfl
theorem dX12_springs_23 : decode cX12_springs 23 = .ok (.iconst 0, 1) := dk3 (k := 23) bX12_springs_0 rfl
theorem bX12_springs_24 : bL cX12_springs 24 [46, 162, 0, 19, 27, 4, 42, 28, 182, 1, 67, 120, 128, 60, 132, 2, 1, 167, 255, 233, 27, 172] := bL_of (by decide +kernel)
theorem dX12_springs_24 : decode cX12_springs 24 = .ok (.iaload, 1) := dk46 (k := 0) bX12_springs_24 rfl
theorem dX12_springs_25 : decode cX12_springs 25 = .ok (.if_icmp .ge 19, 3) := dk162 (k := 1) bX12_springs_24 rfl (by decide)
theorem dX12_springs_28 : decode cX12_springs 28 = .ok (.iload_n 1, 1) := dk27 (k := 4) bX12_springs_24 rfl
theorem dX12_springs_29 : decode cX12_springs 29 = .ok (.iconst 1, 1) := dk4 (k := 5) bX12_springs_24 rfl
theorem dX12_springs_30 : decode cX12_springs 30 = .ok (.aload_n 0, 1) := dk42 (k := 6) bX12_springs_24 rfl
theorem dX12_springs_31 : decode cX12_springs 31 = .ok (.iload_n 2, 1) := dk28 (k := 7) bX12_springs_24 rfl
theorem dX12_springs_32 : decode cX12_springs 32 = .ok (.invokevirtual 323, 3) := dk182 (k := 8) bX12_springs_24 rfl rfl
theorem dX12_springs_35 : decode cX12_springs 35 = .ok (.ishl, 1) := dk120 (k := 11) bX12_springs_24 rfl
theorem dX12_springs_36 : decode cX12_springs 36 = .ok (.ior, 1) := dk128 (k := 12) bX12_springs_24 rfl
theorem dX12_springs_37 : decode cX12_springs 37 = .ok (.istore_n 1, 1) := dk60 (k := 13) bX12_springs_24 rfl
theorem dX12_springs_38 : decode cX12_springs 38 = .ok (.iinc 2 1, 3) := dk132 (k := 14) bX12_springs_24 rfl rfl (by decide)
theorem dX12_springs_41 : decode cX12_springs 41 = .ok (.goto (-23), 3) := dk167 (k := 17) bX12_springs_24 rfl (by decide)
theorem dX12_springs_44 : decode cX12_springs 44 = .ok (.iload_n 1, 1) := dk27 (k := 20) bX12_springs_24 rfl
theorem dX12_springs_45 : decode cX12_springs 45 = .ok (.ireturn, 1) := dk172 (k := 21) bX12_springs_24 rfl
theorem bX12_isSeen_0 : bL cX12_isSeen 0 [28, 27, 100, 184, 0, 214, 62, 4, 54, 4, 21, 4, 29, 162, 0, 60, 42, 180, 0, 34, 28, 27, 164, 0, 10] := bL_of (by decide +kernel)
theorem dX12_isSeen_0 : decode cX12_isSeen 0 = .ok (.iload_n 2, 1) := dk28 (k := 0) bX12_isSeen_0 rfl
theorem dX12_isSeen_1 : decode cX12_isSeen 1 = .ok (.iload_n 1, 1) := dk27 (k := 1) bX12_isSeen_0 rfl
theorem dX12_isSeen_2 : decode cX12_isSeen 2 = .ok (.isub, 1) := dk100 (k := 2) bX12_isSeen_0 rfl
theorem dX12_isSeen_3 : decode cX12_isSeen 3 = .ok (.invokestatic 214, 3) := dk184 (k := 3) bX12_isSeen_0 rfl rfl
theorem dX12_isSeen_6 : decode cX12_isSeen 6 = .ok (.istore_n 3, 1) := dk62 (k := 6) bX12_isSeen_0 rfl
theorem dX12_isSeen_7 : decode cX12_isSeen 7 = .ok (.iconst 1, 1) := dk4 (k := 7) bX12_isSeen_0 rfl
theorem dX12_isSeen_8 : decode cX12_isSeen 8 = .ok (.istore 4, 2) := dk54 (k := 8) bX12_isSeen_0 rfl rfl
theorem dX12_isSeen_10 : decode cX12_isSeen 10 = .ok (.iload 4, 2) := dk21 (k := 10) bX12_isSeen_0 rfl rfl
theorem dX12_isSeen_12 : decode cX12_isSeen 12 = .ok (.iload_n 3, 1) := dk29 (k := 12) bX12_isSeen_0 rfl
theorem dX12_isSeen_13 : decode cX12_isSeen 13 = .ok (.if_icmp .ge 60, 3) := dk162 (k := 13) bX12_isSeen_0 rfl (by decide)
theorem dX12_isSeen_16 : decode cX12_isSeen 16 = .ok (.aload_n 0, 1) := dk42 (k := 16) bX12_isSeen_0 rfl
theorem dX12_isSeen_17 : decode cX12_isSeen 17 = .ok (.getfield 34, 3) := dk180 (k := 17) bX12_isSeen_0 rfl rfl
theorem dX12_isSeen_20 : decode cX12_isSeen 20 = .ok (.iload_n 2, 1) := dk28 (k := 20) bX12_isSeen_0 rfl
theorem dX12_isSeen_21 : decode cX12_isSeen 21 = .ok (.iload_n 1, 1) := dk27 (k := 21) bX12_isSeen_0 rfl
theorem dX12_isSeen_22 : decode cX12_isSeen 22 = .ok (.if_icmp .le 10, 3) := dk164 (k := 22) bX12_isSeen_0 rfl (by decide)
theorem bX12_isSeen_25 : bL cX12_isSeen 25 [27, 21, 4, 96, 167, 0, 7, 27, 21, 4, 100, 46, 42, 180, 0, 34, 27, 46, 100, 29, 104, 42, 180, 0, 34] := bL_of (by decide +kernel)
theorem dX12_isSeen_25 : decode cX12_isSeen 25 = .ok (.iload_n 1, 1) := dk27 (k := 0) bX12_isSeen_25 rfl
theorem dX12_isSeen_26 : decode cX12_isSeen 26 = .ok (.iload 4, 2) := dk21 (k := 1) bX12_isSeen_25 rfl rfl
theorem dX12_isSeen_28 : decode cX12_isSeen 28 = .ok (.iadd, 1) := dk96 (k := 3) bX12_isSeen_25 rfl
theorem dX12_isSeen_29 : decode cX12_isSeen 29 = .ok (.goto 7, 3) := dk167 (k := 4) bX12_isSeen_25 rfl (by decide)
theorem dX12_isSeen_32 : decode cX12_isSeen 32 = .ok (.iload_n 1, 1) := dk27 (k := 7) bX12_isSeen_25 rfl
theorem dX12_isSeen_33 : decode cX12_isSeen 33 = .ok (.iload 4, 2) := dk21 (k := 8) bX12_isSeen_25 rfl rfl
theorem dX12_isSeen_35 : decode cX12_isSeen 35 = .ok (.isub, 1) := dk100 (k := 10) bX12_isSeen_25 rfl
theorem dX12_isSeen_36 : decode cX12_isSeen 36 = .ok (.iaload, 1) := dk46 (k := 11) bX12_isSeen_25 rfl
theorem dX12_isSeen_37 : decode cX12_isSeen 37 = .ok (.aload_n 0, 1) := dk42 (k := 12) bX12_isSeen_25 rfl
theorem dX12_isSeen_38 : decode cX12_isSeen 38 = .ok (.getfield 34, 3) := dk180 (k := 13) bX12_isSeen_25 rfl rfl
theorem dX12_isSeen_41 : decode cX12_isSeen 41 = .ok (.iload_n 1, 1) := dk27 (k := 16) bX12_isSeen_25 rfl
theorem dX12_isSeen_42 : decode cX12_isSeen 42 = .ok (.iaload, 1) := dk46 (k := 17) bX12_isSeen_25 rfl
theorem dX12_isSeen_43 : decode cX12_isSeen 43 = .ok (.isub, 1) := dk100 (k := 18) bX12_isSeen_25 rfl
theorem dX12_isSeen_44 : decode cX12_isSeen 44 = .ok (.iload_n 3, 1) := dk29 (k := 19) bX12_isSeen_25 rfl
theorem dX12_isSeen_45 : decode cX12_isSeen 45 = .ok (.imul, 1) := dk104 (k := 20) bX12_isSeen_25 rfl
theorem dX12_isSeen_46 : decode cX12_isSeen 46 = .ok (.aload_n 0, 1) := dk42 (k := 21) bX12_isSeen_25 rfl
theorem dX12_isSeen_47 : decode cX12_isSeen 47 = .ok (.getfield 34, 3) := dk180 (k := 22) bX12_isSeen_25 rfl rfl
theorem bX12_isSeen_50 : bL cX12_isSeen 50 [28, 46, 42, 180, 0, 34, 27, 46, 100, 21, 4, 104, 164, 0, 5, 3, 172, 132, 4, 1, 167, 255, 196, 4] := bL_of (by decide +kernel)
theorem dX12_isSeen_50 : decode cX12_isSeen 50 = .ok (.iload_n 2, 1) := dk28 (k := 0) bX12_isSeen_50 rfl
theorem dX12_isSeen_51 : decode cX12_isSeen 51 = .ok (.iaload, 1) := dk46 (k := 1) bX12_isSeen_50 rfl
theorem dX12_isSeen_52 : decode cX12_isSeen 52 = .ok (.aload_n 0, 1) := dk42 (k := 2) bX12_isSeen_50 rfl
theorem dX12_isSeen_53 : decode cX12_isSeen 53 = .ok (.getfield 34, 3) := dk180 (k := 3) bX12_isSeen_50 rfl rfl
theorem dX12_isSeen_56 : decode cX12_isSeen 56 = .ok (.iload_n 1, 1) := dk27 (k := 6) bX12_isSeen_50 rfl
theorem dX12_isSeen_57 : decode cX12_isSeen 57 = .ok (.iaload, 1) := dk46 (k := 7) bX12_isSeen_50 rfl
theorem dX12_isSeen_58 : decode cX12_isSeen 58 = .ok (.isub, 1) := dk100 (k := 8) bX12_isSeen_50 rfl
theorem dX12_isSeen_59 : decode cX12_isSeen 59 = .ok (.iload 4, 2) := dk21 (k := 9) bX12_isSeen_50 rfl rfl
theorem dX12_isSeen_61 : decode cX12_isSeen 61 = .ok (.imul, 1) := dk104 (k := 11) bX12_isSeen_50 rfl
theorem dX12_isSeen_62 : decode cX12_isSeen 62 = .ok (.if_icmp .le 5, 3) := dk164 (k := 12) bX12_isSeen_50 rfl (by decide)
theorem dX12_isSeen_65 : decode cX12_isSeen 65 = .ok (.iconst 0, 1) := dk3 (k := 15) bX12_isSeen_50 rfl
theorem dX12_isSeen_66 : decode cX12_isSeen 66 = .ok (.ireturn, 1) := dk172 (k := 16) bX12_isSeen_50 rfl
theorem dX12_isSeen_67 : decode cX12_isSeen 67 = .ok (.iinc 4 1, 3) := dk132 (k := 17) bX12_isSeen_50 rfl rfl (by decide)
theorem dX12_isSeen_70 : decode cX12_isSeen 70 = .ok (.goto (-60), 3) := dk167 (k := 20) bX12_isSeen_50 rfl (by decide)
theorem dX12_isSeen_73 : decode cX12_isSeen 73 = .ok (.iconst 1, 1) := dk4 (k := 23) bX12_isSeen_50 rfl
theorem bX12_isSeen_74 : bL cX12_isSeen 74 [172] := bL_of (by decide +kernel)
theorem dX12_isSeen_74 : decode cX12_isSeen 74 = .ok (.ireturn, 1) := dk172 (k := 0) bX12_isSeen_74 rfl
theorem bX12_seenFrom_0 : bL cX12_seenFrom 0 [3, 61, 3, 62, 29, 42, 180, 0, 9, 3, 46, 162, 0, 28, 28, 42, 27, 29, 182, 1, 70, 153, 0, 9] := bL_of (by decide +kernel)
theorem dX12_seenFrom_0 : decode cX12_seenFrom 0 = .ok (.iconst 0, 1) := dk3 (k := 0) bX12_seenFrom_0 rfl
theorem dX12_seenFrom_1 : decode cX12_seenFrom 1 = .ok (.istore_n 2, 1) := dk61 (k := 1) bX12_seenFrom_0 rfl
theorem dX12_seenFrom_2 : decode cX12_seenFrom 2 = .ok (.iconst 0, 1) := dk3 (k := 2) bX12_seenFrom_0 rfl
theorem dX12_seenFrom_3 : decode cX12_seenFrom 3 = .ok (.istore_n 3, 1) := dk62 (k := 3) bX12_seenFrom_0 rfl
theorem dX12_seenFrom_4 : decode cX12_seenFrom 4 = .ok (.iload_n 3, 1) := dk29 (k := 4) bX12_seenFrom_0 rfl
theorem dX12_seenFrom_5 : decode cX12_seenFrom 5 = .ok (.aload_n 0, 1) := dk42 (k := 5) bX12_seenFrom_0 rfl
theorem dX12_seenFrom_6 : decode cX12_seenFrom 6 = .ok (.getfield 9, 3) := dk180 (k := 6) bX12_seenFrom_0 rfl rfl
theorem dX12_seenFrom_9 : decode cX12_seenFrom 9 = .ok (.iconst 0, 1) := dk3 (k := 9) bX12_seenFrom_0 rfl
theorem dX12_seenFrom_10 : decode cX12_seenFrom 10 = .ok (.iaload, 1) := dk46 (k := 10) bX12_seenFrom_0 rfl
theorem dX12_seenFrom_11 : decode cX12_seenFrom 11 = .ok (.if_icmp .ge 28, 3) := dk162 (k := 11) bX12_seenFrom_0 rfl (by decide)
theorem dX12_seenFrom_14 : decode cX12_seenFrom 14 = .ok (.iload_n 2, 1) := dk28 (k := 14) bX12_seenFrom_0 rfl
theorem dX12_seenFrom_15 : decode cX12_seenFrom 15 = .ok (.aload_n 0, 1) := dk42 (k := 15) bX12_seenFrom_0 rfl
theorem dX12_seenFrom_16 : decode cX12_seenFrom 16 = .ok (.iload_n 1, 1) := dk27 (k := 16) bX12_seenFrom_0 rfl
theorem dX12_seenFrom_17 : decode cX12_seenFrom 17 = .ok (.iload_n 3, 1) := dk29 (k := 17) bX12_seenFrom_0 rfl
theorem dX12_seenFrom_18 : decode cX12_seenFrom 18 = .ok (.invokevirtual 326, 3) := dk182 (k := 18) bX12_seenFrom_0 rfl rfl
theorem dX12_seenFrom_21 : decode cX12_seenFrom 21 = .ok (.ifCond .eq 9, 3) := dk153 (k := 21) bX12_seenFrom_0 rfl (by decide)
theorem bX12_seenFrom_24 : bL cX12_seenFrom 24 [4, 29, 120, 167, 0, 4, 3, 128, 61, 132, 3, 1, 167, 255, 224, 28, 172] := bL_of (by decide +kernel)
theorem dX12_seenFrom_24 : decode cX12_seenFrom 24 = .ok (.iconst 1, 1) := dk4 (k := 0) bX12_seenFrom_24 rfl
theorem dX12_seenFrom_25 : decode cX12_seenFrom 25 = .ok (.iload_n 3, 1) := dk29 (k := 1) bX12_seenFrom_24 rfl
theorem dX12_seenFrom_26 : decode cX12_seenFrom 26 = .ok (.ishl, 1) := dk120 (k := 2) bX12_seenFrom_24 rfl
theorem dX12_seenFrom_27 : decode cX12_seenFrom 27 = .ok (.goto 4, 3) := dk167 (k := 3) bX12_seenFrom_24 rfl (by decide)
theorem dX12_seenFrom_30 : decode cX12_seenFrom 30 = .ok (.iconst 0, 1) := dk3 (k := 6) bX12_seenFrom_24 rfl
theorem dX12_seenFrom_31 : decode cX12_seenFrom 31 = .ok (.ior, 1) := dk128 (k := 7) bX12_seenFrom_24 rfl
theorem dX12_seenFrom_32 : decode cX12_seenFrom 32 = .ok (.istore_n 2, 1) := dk61 (k := 8) bX12_seenFrom_24 rfl
theorem dX12_seenFrom_33 : decode cX12_seenFrom 33 = .ok (.iinc 3 1, 3) := dk132 (k := 9) bX12_seenFrom_24 rfl rfl (by decide)
theorem dX12_seenFrom_36 : decode cX12_seenFrom 36 = .ok (.goto (-32), 3) := dk167 (k := 12) bX12_seenFrom_24 rfl (by decide)
theorem dX12_seenFrom_39 : decode cX12_seenFrom 39 = .ok (.iload_n 2, 1) := dk28 (k := 15) bX12_seenFrom_24 rfl
theorem dX12_seenFrom_40 : decode cX12_seenFrom 40 = .ok (.ireturn, 1) := dk172 (k := 16) bX12_seenFrom_24 rfl
theorem bX12_sees_0 : bL cX12_sees 0 [42, 27, 133, 182, 0, 203, 154, 0, 6, 16, 254, 172, 42, 182, 0, 240, 42, 27, 182, 1, 73, 172] := bL_of (by decide +kernel)
theorem dX12_sees_0 : decode cX12_sees 0 = .ok (.aload_n 0, 1) := dk42 (k := 0) bX12_sees_0 rfl
theorem dX12_sees_1 : decode cX12_sees 1 = .ok (.iload_n 1, 1) := dk27 (k := 1) bX12_sees_0 rfl
theorem dX12_sees_2 : decode cX12_sees 2 = .ok (.i2l, 1) := dk133 (k := 2) bX12_sees_0 rfl
theorem dX12_sees_3 : decode cX12_sees 3 = .ok (.invokevirtual 203, 3) := dk182 (k := 3) bX12_sees_0 rfl rfl
theorem dX12_sees_6 : decode cX12_sees 6 = .ok (.ifCond .ne 6, 3) := dk154 (k := 6) bX12_sees_0 rfl (by decide)
theorem dX12_sees_9 : decode cX12_sees 9 = .ok (.bipush (-2), 2) := dk16 (k := 9) bX12_sees_0 rfl (by decide)
theorem dX12_sees_11 : decode cX12_sees 11 = .ok (.ireturn, 1) := dk172 (k := 11) bX12_sees_0 rfl
theorem dX12_sees_12 : decode cX12_sees 12 = .ok (.aload_n 0, 1) := dk42 (k := 12) bX12_sees_0 rfl
theorem dX12_sees_13 : decode cX12_sees 13 = .ok (.invokevirtual 240, 3) := dk182 (k := 13) bX12_sees_0 rfl rfl
theorem dX12_sees_16 : decode cX12_sees 16 = .ok (.aload_n 0, 1) := dk42 (k := 16) bX12_sees_0 rfl
theorem dX12_sees_17 : decode cX12_sees 17 = .ok (.iload_n 1, 1) := dk27 (k := 17) bX12_sees_0 rfl
theorem dX12_sees_18 : decode cX12_sees 18 = .ok (.invokevirtual 329, 3) := dk182 (k := 18) bX12_sees_0 rfl rfl
theorem dX12_sees_21 : decode cX12_sees 21 = .ok (.ireturn, 1) := dk172 (k := 21) bX12_sees_0 rfl
theorem bX12_lookout_0 : bL cX12_lookout 0 [42, 182, 0, 73, 154, 0, 6, 16, 254, 172, 42, 182, 0, 240, 3, 60, 4, 61, 28, 42, 180, 0, 9, 3] := bL_of (by decide +kernel)
theorem dX12_lookout_0 : decode cX12_lookout 0 = .ok (.aload_n 0, 1) := dk42 (k := 0) bX12_lookout_0 rfl
theorem dX12_lookout_1 : decode cX12_lookout 1 = .ok (.invokevirtual 73, 3) := dk182 (k := 1) bX12_lookout_0 rfl rfl
theorem dX12_lookout_4 : decode cX12_lookout 4 = .ok (.ifCond .ne 6, 3) := dk154 (k := 4) bX12_lookout_0 rfl (by decide)
theorem dX12_lookout_7 : decode cX12_lookout 7 = .ok (.bipush (-2), 2) := dk16 (k := 7) bX12_lookout_0 rfl (by decide)
theorem dX12_lookout_9 : decode cX12_lookout 9 = .ok (.ireturn, 1) := dk172 (k := 9) bX12_lookout_0 rfl
theorem dX12_lookout_10 : decode cX12_lookout 10 = .ok (.aload_n 0, 1) := dk42 (k := 10) bX12_lookout_0 rfl
theorem dX12_lookout_11 : decode cX12_lookout 11 = .ok (.invokevirtual 240, 3) := dk182 (k := 11) bX12_lookout_0 rfl rfl
theorem dX12_lookout_14 : decode cX12_lookout 14 = .ok (.iconst 0, 1) := dk3 (k := 14) bX12_lookout_0 rfl
theorem dX12_lookout_15 : decode cX12_lookout 15 = .ok (.istore_n 1, 1) := dk60 (k := 15) bX12_lookout_0 rfl
theorem dX12_lookout_16 : decode cX12_lookout 16 = .ok (.iconst 1, 1) := dk4 (k := 16) bX12_lookout_0 rfl
theorem dX12_lookout_17 : decode cX12_lookout 17 = .ok (.istore_n 2, 1) := dk61 (k := 17) bX12_lookout_0 rfl
theorem dX12_lookout_18 : decode cX12_lookout 18 = .ok (.iload_n 2, 1) := dk28 (k := 18) bX12_lookout_0 rfl
theorem dX12_lookout_19 : decode cX12_lookout 19 = .ok (.aload_n 0, 1) := dk42 (k := 19) bX12_lookout_0 rfl
theorem dX12_lookout_20 : decode cX12_lookout 20 = .ok (.getfield 9, 3) := dk180 (k := 20) bX12_lookout_0 rfl rfl
theorem dX12_lookout_23 : decode cX12_lookout 23 = .ok (.iconst 0, 1) := dk3 (k := 23) bX12_lookout_0 rfl
theorem bX12_lookout_24 : bL cX12_lookout 24 [46, 162, 0, 34, 42, 28, 182, 1, 73, 184, 0, 229, 42, 27, 182, 1, 73, 184, 0, 229, 164, 0, 7, 28] := bL_of (by decide +kernel)
theorem dX12_lookout_24 : decode cX12_lookout 24 = .ok (.iaload, 1) := dk46 (k := 0) bX12_lookout_24 rfl
theorem dX12_lookout_25 : decode cX12_lookout 25 = .ok (.if_icmp .ge 34, 3) := dk162 (k := 1) bX12_lookout_24 rfl (by decide)
theorem dX12_lookout_28 : decode cX12_lookout 28 = .ok (.aload_n 0, 1) := dk42 (k := 4) bX12_lookout_24 rfl
theorem dX12_lookout_29 : decode cX12_lookout 29 = .ok (.iload_n 2, 1) := dk28 (k := 5) bX12_lookout_24 rfl
theorem dX12_lookout_30 : decode cX12_lookout 30 = .ok (.invokevirtual 329, 3) := dk182 (k := 6) bX12_lookout_24 rfl rfl
theorem dX12_lookout_33 : decode cX12_lookout 33 = .ok (.invokestatic 229, 3) := dk184 (k := 9) bX12_lookout_24 rfl rfl
theorem dX12_lookout_36 : decode cX12_lookout 36 = .ok (.aload_n 0, 1) := dk42 (k := 12) bX12_lookout_24 rfl
theorem dX12_lookout_37 : decode cX12_lookout 37 = .ok (.iload_n 1, 1) := dk27 (k := 13) bX12_lookout_24 rfl
theorem dX12_lookout_38 : decode cX12_lookout 38 = .ok (.invokevirtual 329, 3) := dk182 (k := 14) bX12_lookout_24 rfl rfl
theorem dX12_lookout_41 : decode cX12_lookout 41 = .ok (.invokestatic 229, 3) := dk184 (k := 17) bX12_lookout_24 rfl rfl
theorem dX12_lookout_44 : decode cX12_lookout 44 = .ok (.if_icmp .le 7, 3) := dk164 (k := 20) bX12_lookout_24 rfl (by decide)
theorem dX12_lookout_47 : decode cX12_lookout 47 = .ok (.iload_n 2, 1) := dk28 (k := 23) bX12_lookout_24 rfl
theorem bX12_lookout_48 : bL cX12_lookout 48 [167, 0, 4, 27, 60, 132, 2, 1, 167, 255, 218, 27, 172] := bL_of (by decide +kernel)
theorem dX12_lookout_48 : decode cX12_lookout 48 = .ok (.goto 4, 3) := dk167 (k := 0) bX12_lookout_48 rfl (by decide)
theorem dX12_lookout_51 : decode cX12_lookout 51 = .ok (.iload_n 1, 1) := dk27 (k := 3) bX12_lookout_48 rfl
theorem dX12_lookout_52 : decode cX12_lookout 52 = .ok (.istore_n 1, 1) := dk60 (k := 4) bX12_lookout_48 rfl
theorem dX12_lookout_53 : decode cX12_lookout 53 = .ok (.iinc 2 1, 3) := dk132 (k := 5) bX12_lookout_48 rfl rfl (by decide)
theorem dX12_lookout_56 : decode cX12_lookout 56 = .ok (.goto (-38), 3) := dk167 (k := 8) bX12_lookout_48 rfl (by decide)
theorem dX12_lookout_59 : decode cX12_lookout 59 = .ok (.iload_n 1, 1) := dk27 (k := 11) bX12_lookout_48 rfl
theorem dX12_lookout_60 : decode cX12_lookout 60 = .ok (.ireturn, 1) := dk172 (k := 12) bX12_lookout_48 rfl
theorem bX12_votesFor_0 : bL cX12_votesFor 0 [3, 62, 3, 54, 4, 21, 4, 42, 180, 0, 9, 16, 6, 46, 162, 0, 79, 42, 180, 0, 34, 27, 92, 46] := bL_of (by decide +kernel)
theorem dX12_votesFor_0 : decode cX12_votesFor 0 = .ok (.iconst 0, 1) := dk3 (k := 0) bX12_votesFor_0 rfl
theorem dX12_votesFor_1 : decode cX12_votesFor 1 = .ok (.istore_n 3, 1) := dk62 (k := 1) bX12_votesFor_0 rfl
theorem dX12_votesFor_2 : decode cX12_votesFor 2 = .ok (.iconst 0, 1) := dk3 (k := 2) bX12_votesFor_0 rfl
theorem dX12_votesFor_3 : decode cX12_votesFor 3 = .ok (.istore 4, 2) := dk54 (k := 3) bX12_votesFor_0 rfl rfl
theorem dX12_votesFor_5 : decode cX12_votesFor 5 = .ok (.iload 4, 2) := dk21 (k := 5) bX12_votesFor_0 rfl rfl
theorem dX12_votesFor_7 : decode cX12_votesFor 7 = .ok (.aload_n 0, 1) := dk42 (k := 7) bX12_votesFor_0 rfl
theorem dX12_votesFor_8 : decode cX12_votesFor 8 = .ok (.getfield 9, 3) := dk180 (k := 8) bX12_votesFor_0 rfl rfl
theorem dX12_votesFor_11 : decode cX12_votesFor 11 = .ok (.bipush 6, 2) := dk16 (k := 11) bX12_votesFor_0 rfl (by decide)
theorem dX12_votesFor_13 : decode cX12_votesFor 13 = .ok (.iaload, 1) := dk46 (k := 13) bX12_votesFor_0 rfl
theorem dX12_votesFor_14 : decode cX12_votesFor 14 = .ok (.if_icmp .ge 79, 3) := dk162 (k := 14) bX12_votesFor_0 rfl (by decide)
theorem dX12_votesFor_17 : decode cX12_votesFor 17 = .ok (.aload_n 0, 1) := dk42 (k := 17) bX12_votesFor_0 rfl
theorem dX12_votesFor_18 : decode cX12_votesFor 18 = .ok (.getfield 34, 3) := dk180 (k := 18) bX12_votesFor_0 rfl rfl
theorem dX12_votesFor_21 : decode cX12_votesFor 21 = .ok (.iload_n 1, 1) := dk27 (k := 21) bX12_votesFor_0 rfl
theorem dX12_votesFor_22 : decode cX12_votesFor 22 = .ok (.dup2, 1) := dk92 (k := 22) bX12_votesFor_0 rfl
theorem dX12_votesFor_23 : decode cX12_votesFor 23 = .ok (.iaload, 1) := dk46 (k := 23) bX12_votesFor_0 rfl
theorem bX12_votesFor_24 : bL cX12_votesFor 24 [4, 100, 79, 42, 21, 4, 182, 0, 232, 54, 5, 42, 180, 0, 34, 27, 92, 46, 4, 96, 79, 42, 180, 0, 34] := bL_of (by decide +kernel)
theorem dX12_votesFor_24 : decode cX12_votesFor 24 = .ok (.iconst 1, 1) := dk4 (k := 0) bX12_votesFor_24 rfl
theorem dX12_votesFor_25 : decode cX12_votesFor 25 = .ok (.isub, 1) := dk100 (k := 1) bX12_votesFor_24 rfl
theorem dX12_votesFor_26 : decode cX12_votesFor 26 = .ok (.iastore, 1) := dk79 (k := 2) bX12_votesFor_24 rfl
theorem dX12_votesFor_27 : decode cX12_votesFor 27 = .ok (.aload_n 0, 1) := dk42 (k := 3) bX12_votesFor_24 rfl
theorem dX12_votesFor_28 : decode cX12_votesFor 28 = .ok (.iload 4, 2) := dk21 (k := 4) bX12_votesFor_24 rfl rfl
theorem dX12_votesFor_30 : decode cX12_votesFor 30 = .ok (.invokevirtual 232, 3) := dk182 (k := 6) bX12_votesFor_24 rfl rfl
theorem dX12_votesFor_33 : decode cX12_votesFor 33 = .ok (.istore 5, 2) := dk54 (k := 9) bX12_votesFor_24 rfl rfl
theorem dX12_votesFor_35 : decode cX12_votesFor 35 = .ok (.aload_n 0, 1) := dk42 (k := 11) bX12_votesFor_24 rfl
theorem dX12_votesFor_36 : decode cX12_votesFor 36 = .ok (.getfield 34, 3) := dk180 (k := 12) bX12_votesFor_24 rfl rfl
theorem dX12_votesFor_39 : decode cX12_votesFor 39 = .ok (.iload_n 1, 1) := dk27 (k := 15) bX12_votesFor_24 rfl
theorem dX12_votesFor_40 : decode cX12_votesFor 40 = .ok (.dup2, 1) := dk92 (k := 16) bX12_votesFor_24 rfl
theorem dX12_votesFor_41 : decode cX12_votesFor 41 = .ok (.iaload, 1) := dk46 (k := 17) bX12_votesFor_24 rfl
theorem dX12_votesFor_42 : decode cX12_votesFor 42 = .ok (.iconst 1, 1) := dk4 (k := 18) bX12_votesFor_24 rfl
theorem dX12_votesFor_43 : decode cX12_votesFor 43 = .ok (.iadd, 1) := dk96 (k := 19) bX12_votesFor_24 rfl
theorem dX12_votesFor_44 : decode cX12_votesFor 44 = .ok (.iastore, 1) := dk79 (k := 20) bX12_votesFor_24 rfl
theorem dX12_votesFor_45 : decode cX12_votesFor 45 = .ok (.aload_n 0, 1) := dk42 (k := 21) bX12_votesFor_24 rfl
theorem dX12_votesFor_46 : decode cX12_votesFor 46 = .ok (.getfield 34, 3) := dk180 (k := 22) bX12_votesFor_24 rfl rfl
theorem bX12_votesFor_49 : bL cX12_votesFor 49 [28, 92, 46, 4, 100, 79, 29, 21, 5, 42, 21, 4, 182, 0, 232, 164, 0, 10, 4, 21, 4, 120, 167, 0, 4] := bL_of (by decide +kernel)
theorem dX12_votesFor_49 : decode cX12_votesFor 49 = .ok (.iload_n 2, 1) := dk28 (k := 0) bX12_votesFor_49 rfl
theorem dX12_votesFor_50 : decode cX12_votesFor 50 = .ok (.dup2, 1) := dk92 (k := 1) bX12_votesFor_49 rfl
theorem dX12_votesFor_51 : decode cX12_votesFor 51 = .ok (.iaload, 1) := dk46 (k := 2) bX12_votesFor_49 rfl
theorem dX12_votesFor_52 : decode cX12_votesFor 52 = .ok (.iconst 1, 1) := dk4 (k := 3) bX12_votesFor_49 rfl
theorem dX12_votesFor_53 : decode cX12_votesFor 53 = .ok (.isub, 1) := dk100 (k := 4) bX12_votesFor_49 rfl
theorem dX12_votesFor_54 : decode cX12_votesFor 54 = .ok (.iastore, 1) := dk79 (k := 5) bX12_votesFor_49 rfl
theorem dX12_votesFor_55 : decode cX12_votesFor 55 = .ok (.iload_n 3, 1) := dk29 (k := 6) bX12_votesFor_49 rfl
theorem dX12_votesFor_56 : decode cX12_votesFor 56 = .ok (.iload 5, 2) := dk21 (k := 7) bX12_votesFor_49 rfl rfl
theorem dX12_votesFor_58 : decode cX12_votesFor 58 = .ok (.aload_n 0, 1) := dk42 (k := 9) bX12_votesFor_49 rfl
theorem dX12_votesFor_59 : decode cX12_votesFor 59 = .ok (.iload 4, 2) := dk21 (k := 10) bX12_votesFor_49 rfl rfl
theorem dX12_votesFor_61 : decode cX12_votesFor 61 = .ok (.invokevirtual 232, 3) := dk182 (k := 12) bX12_votesFor_49 rfl rfl
theorem dX12_votesFor_64 : decode cX12_votesFor 64 = .ok (.if_icmp .le 10, 3) := dk164 (k := 15) bX12_votesFor_49 rfl (by decide)
theorem dX12_votesFor_67 : decode cX12_votesFor 67 = .ok (.iconst 1, 1) := dk4 (k := 18) bX12_votesFor_49 rfl
theorem dX12_votesFor_68 : decode cX12_votesFor 68 = .ok (.iload 4, 2) := dk21 (k := 19) bX12_votesFor_49 rfl rfl
theorem dX12_votesFor_70 : decode cX12_votesFor 70 = .ok (.ishl, 1) := dk120 (k := 21) bX12_votesFor_49 rfl
theorem dX12_votesFor_71 : decode cX12_votesFor 71 = .ok (.goto 4, 3) := dk167 (k := 22) bX12_votesFor_49 rfl (by decide)
theorem bX12_votesFor_74 : bL cX12_votesFor 74 [3, 128, 62, 42, 180, 0, 34, 28, 92, 46, 4, 96, 79, 132, 4, 1, 167, 255, 171, 29, 172] := bL_of (by decide +kernel)
theorem dX12_votesFor_74 : decode cX12_votesFor 74 = .ok (.iconst 0, 1) := dk3 (k := 0) bX12_votesFor_74 rfl
theorem dX12_votesFor_75 : decode cX12_votesFor 75 = .ok (.ior, 1) := dk128 (k := 1) bX12_votesFor_74 rfl
theorem dX12_votesFor_76 : decode cX12_votesFor 76 = .ok (.istore_n 3, 1) := dk62 (k := 2) bX12_votesFor_74 rfl
theorem dX12_votesFor_77 : decode cX12_votesFor 77 = .ok (.aload_n 0, 1) := dk42 (k := 3) bX12_votesFor_74 rfl
theorem dX12_votesFor_78 : decode cX12_votesFor 78 = .ok (.getfield 34, 3) := dk180 (k := 4) bX12_votesFor_74 rfl rfl
theorem dX12_votesFor_81 : decode cX12_votesFor 81 = .ok (.iload_n 2, 1) := dk28 (k := 7) bX12_votesFor_74 rfl
theorem dX12_votesFor_82 : decode cX12_votesFor 82 = .ok (.dup2, 1) := dk92 (k := 8) bX12_votesFor_74 rfl
theorem dX12_votesFor_83 : decode cX12_votesFor 83 = .ok (.iaload, 1) := dk46 (k := 9) bX12_votesFor_74 rfl
theorem dX12_votesFor_84 : decode cX12_votesFor 84 = .ok (.iconst 1, 1) := dk4 (k := 10) bX12_votesFor_74 rfl
theorem dX12_votesFor_85 : decode cX12_votesFor 85 = .ok (.iadd, 1) := dk96 (k := 11) bX12_votesFor_74 rfl
theorem dX12_votesFor_86 : decode cX12_votesFor 86 = .ok (.iastore, 1) := dk79 (k := 12) bX12_votesFor_74 rfl
theorem dX12_votesFor_87 : decode cX12_votesFor 87 = .ok (.iinc 4 1, 3) := dk132 (k := 13) bX12_votesFor_74 rfl rfl (by decide)
theorem dX12_votesFor_90 : decode cX12_votesFor 90 = .ok (.goto (-85), 3) := dk167 (k := 16) bX12_votesFor_74 rfl (by decide)
theorem dX12_votesFor_93 : decode cX12_votesFor 93 = .ok (.iload_n 3, 1) := dk29 (k := 19) bX12_votesFor_74 rfl
theorem dX12_votesFor_94 : decode cX12_votesFor 94 = .ok (.ireturn, 1) := dk172 (k := 20) bX12_votesFor_74 rfl
theorem bX12_votes_0 : bL cX12_votes 0 [42, 27, 133, 182, 0, 203, 153, 0, 12, 42, 28, 133, 182, 0, 203, 154, 0, 6, 16, 254, 172, 42, 182, 0, 240] := bL_of (by decide +kernel)
theorem dX12_votes_0 : decode cX12_votes 0 = .ok (.aload_n 0, 1) := dk42 (k := 0) bX12_votes_0 rfl
theorem dX12_votes_1 : decode cX12_votes 1 = .ok (.iload_n 1, 1) := dk27 (k := 1) bX12_votes_0 rfl
theorem dX12_votes_2 : decode cX12_votes 2 = .ok (.i2l, 1) := dk133 (k := 2) bX12_votes_0 rfl
theorem dX12_votes_3 : decode cX12_votes 3 = .ok (.invokevirtual 203, 3) := dk182 (k := 3) bX12_votes_0 rfl rfl
theorem dX12_votes_6 : decode cX12_votes 6 = .ok (.ifCond .eq 12, 3) := dk153 (k := 6) bX12_votes_0 rfl (by decide)
theorem dX12_votes_9 : decode cX12_votes 9 = .ok (.aload_n 0, 1) := dk42 (k := 9) bX12_votes_0 rfl
theorem dX12_votes_10 : decode cX12_votes 10 = .ok (.iload_n 2, 1) := dk28 (k := 10) bX12_votes_0 rfl
theorem dX12_votes_11 : decode cX12_votes 11 = .ok (.i2l, 1) := dk133 (k := 11) bX12_votes_0 rfl
theorem dX12_votes_12 : decode cX12_votes 12 = .ok (.invokevirtual 203, 3) := dk182 (k := 12) bX12_votes_0 rfl rfl
theorem dX12_votes_15 : decode cX12_votes 15 = .ok (.ifCond .ne 6, 3) := dk154 (k := 15) bX12_votes_0 rfl (by decide)
theorem dX12_votes_18 : decode cX12_votes 18 = .ok (.bipush (-2), 2) := dk16 (k := 18) bX12_votes_0 rfl (by decide)
theorem dX12_votes_20 : decode cX12_votes 20 = .ok (.ireturn, 1) := dk172 (k := 20) bX12_votes_0 rfl
theorem dX12_votes_21 : decode cX12_votes 21 = .ok (.aload_n 0, 1) := dk42 (k := 21) bX12_votes_0 rfl
theorem dX12_votes_22 : decode cX12_votes 22 = .ok (.invokevirtual 240, 3) := dk182 (k := 22) bX12_votes_0 rfl rfl
theorem bX12_votes_25 : bL cX12_votes 25 [42, 180, 0, 34, 27, 46, 153, 0, 12, 42, 180, 0, 34, 28, 46, 154, 0, 8, 16, 254, 167, 0, 9, 42] := bL_of (by decide +kernel)
theorem dX12_votes_25 : decode cX12_votes 25 = .ok (.aload_n 0, 1) := dk42 (k := 0) bX12_votes_25 rfl
theorem dX12_votes_26 : decode cX12_votes 26 = .ok (.getfield 34, 3) := dk180 (k := 1) bX12_votes_25 rfl rfl
theorem dX12_votes_29 : decode cX12_votes 29 = .ok (.iload_n 1, 1) := dk27 (k := 4) bX12_votes_25 rfl
theorem dX12_votes_30 : decode cX12_votes 30 = .ok (.iaload, 1) := dk46 (k := 5) bX12_votes_25 rfl
theorem dX12_votes_31 : decode cX12_votes 31 = .ok (.ifCond .eq 12, 3) := dk153 (k := 6) bX12_votes_25 rfl (by decide)
theorem dX12_votes_34 : decode cX12_votes 34 = .ok (.aload_n 0, 1) := dk42 (k := 9) bX12_votes_25 rfl
theorem dX12_votes_35 : decode cX12_votes 35 = .ok (.getfield 34, 3) := dk180 (k := 10) bX12_votes_25 rfl rfl
theorem dX12_votes_38 : decode cX12_votes 38 = .ok (.iload_n 2, 1) := dk28 (k := 13) bX12_votes_25 rfl
theorem dX12_votes_39 : decode cX12_votes 39 = .ok (.iaload, 1) := dk46 (k := 14) bX12_votes_25 rfl
theorem dX12_votes_40 : decode cX12_votes 40 = .ok (.ifCond .ne 8, 3) := dk154 (k := 15) bX12_votes_25 rfl (by decide)
theorem dX12_votes_43 : decode cX12_votes 43 = .ok (.bipush (-2), 2) := dk16 (k := 18) bX12_votes_25 rfl (by decide)
theorem dX12_votes_45 : decode cX12_votes 45 = .ok (.goto 9, 3) := dk167 (k := 20) bX12_votes_25 rfl (by decide)
theorem dX12_votes_48 : decode cX12_votes 48 = .ok (.aload_n 0, 1) := dk42 (k := 23) bX12_votes_25 rfl
theorem bX12_votes_49 : bL cX12_votes 49 [27, 28, 182, 1, 76, 172] := bL_of (by decide +kernel)
theorem dX12_votes_49 : decode cX12_votes 49 = .ok (.iload_n 1, 1) := dk27 (k := 0) bX12_votes_49 rfl
theorem dX12_votes_50 : decode cX12_votes 50 = .ok (.iload_n 2, 1) := dk28 (k := 1) bX12_votes_49 rfl
theorem dX12_votes_51 : decode cX12_votes 51 = .ok (.invokevirtual 332, 3) := dk182 (k := 2) bX12_votes_49 rfl rfl
theorem dX12_votes_54 : decode cX12_votes 54 = .ok (.ireturn, 1) := dk172 (k := 5) bX12_votes_49 rfl
theorem bX12_elected_0 : bL cX12_elected 0 [42, 182, 0, 73, 154, 0, 6, 16, 254, 172, 42, 182, 0, 240, 3, 60, 27, 42, 180, 0, 9, 3, 46, 162, 0, 90] := bL_of (by decide +kernel)
theorem dX12_elected_0 : decode cX12_elected 0 = .ok (.aload_n 0, 1) := dk42 (k := 0) bX12_elected_0 rfl
theorem dX12_elected_1 : decode cX12_elected 1 = .ok (.invokevirtual 73, 3) := dk182 (k := 1) bX12_elected_0 rfl rfl
theorem dX12_elected_4 : decode cX12_elected 4 = .ok (.ifCond .ne 6, 3) := dk154 (k := 4) bX12_elected_0 rfl (by decide)
theorem dX12_elected_7 : decode cX12_elected 7 = .ok (.bipush (-2), 2) := dk16 (k := 7) bX12_elected_0 rfl (by decide)
theorem dX12_elected_9 : decode cX12_elected 9 = .ok (.ireturn, 1) := dk172 (k := 9) bX12_elected_0 rfl
theorem dX12_elected_10 : decode cX12_elected 10 = .ok (.aload_n 0, 1) := dk42 (k := 10) bX12_elected_0 rfl
theorem dX12_elected_11 : decode cX12_elected 11 = .ok (.invokevirtual 240, 3) := dk182 (k := 11) bX12_elected_0 rfl rfl
theorem dX12_elected_14 : decode cX12_elected 14 = .ok (.iconst 0, 1) := dk3 (k := 14) bX12_elected_0 rfl
theorem dX12_elected_15 : decode cX12_elected 15 = .ok (.istore_n 1, 1) := dk60 (k := 15) bX12_elected_0 rfl
theorem dX12_elected_16 : decode cX12_elected 16 = .ok (.iload_n 1, 1) := dk27 (k := 16) bX12_elected_0 rfl
theorem dX12_elected_17 : decode cX12_elected 17 = .ok (.aload_n 0, 1) := dk42 (k := 17) bX12_elected_0 rfl
theorem dX12_elected_18 : decode cX12_elected 18 = .ok (.getfield 9, 3) := dk180 (k := 18) bX12_elected_0 rfl rfl
theorem dX12_elected_21 : decode cX12_elected 21 = .ok (.iconst 0, 1) := dk3 (k := 21) bX12_elected_0 rfl
theorem dX12_elected_22 : decode cX12_elected 22 = .ok (.iaload, 1) := dk46 (k := 22) bX12_elected_0 rfl
theorem dX12_elected_23 : decode cX12_elected 23 = .ok (.if_icmp .ge 90, 3) := dk162 (k := 23) bX12_elected_0 rfl (by decide)
theorem bX12_elected_26 : bL cX12_elected 26 [42, 180, 0, 34, 27, 46, 158, 0, 7, 4, 167, 0, 4, 3, 61, 3, 62, 29, 42, 180, 0, 9, 3, 46] := bL_of (by decide +kernel)
theorem dX12_elected_26 : decode cX12_elected 26 = .ok (.aload_n 0, 1) := dk42 (k := 0) bX12_elected_26 rfl
theorem dX12_elected_27 : decode cX12_elected 27 = .ok (.getfield 34, 3) := dk180 (k := 1) bX12_elected_26 rfl rfl
theorem dX12_elected_30 : decode cX12_elected 30 = .ok (.iload_n 1, 1) := dk27 (k := 4) bX12_elected_26 rfl
theorem dX12_elected_31 : decode cX12_elected 31 = .ok (.iaload, 1) := dk46 (k := 5) bX12_elected_26 rfl
theorem dX12_elected_32 : decode cX12_elected 32 = .ok (.ifCond .le 7, 3) := dk158 (k := 6) bX12_elected_26 rfl (by decide)
theorem dX12_elected_35 : decode cX12_elected 35 = .ok (.iconst 1, 1) := dk4 (k := 9) bX12_elected_26 rfl
theorem dX12_elected_36 : decode cX12_elected 36 = .ok (.goto 4, 3) := dk167 (k := 10) bX12_elected_26 rfl (by decide)
theorem dX12_elected_39 : decode cX12_elected 39 = .ok (.iconst 0, 1) := dk3 (k := 13) bX12_elected_26 rfl
theorem dX12_elected_40 : decode cX12_elected 40 = .ok (.istore_n 2, 1) := dk61 (k := 14) bX12_elected_26 rfl
theorem dX12_elected_41 : decode cX12_elected 41 = .ok (.iconst 0, 1) := dk3 (k := 15) bX12_elected_26 rfl
theorem dX12_elected_42 : decode cX12_elected 42 = .ok (.istore_n 3, 1) := dk62 (k := 16) bX12_elected_26 rfl
theorem dX12_elected_43 : decode cX12_elected 43 = .ok (.iload_n 3, 1) := dk29 (k := 17) bX12_elected_26 rfl
theorem dX12_elected_44 : decode cX12_elected 44 = .ok (.aload_n 0, 1) := dk42 (k := 18) bX12_elected_26 rfl
theorem dX12_elected_45 : decode cX12_elected 45 = .ok (.getfield 9, 3) := dk180 (k := 19) bX12_elected_26 rfl rfl
theorem dX12_elected_48 : decode cX12_elected 48 = .ok (.iconst 0, 1) := dk3 (k := 22) bX12_elected_26 rfl
theorem dX12_elected_49 : decode cX12_elected 49 = .ok (.iaload, 1) := dk46 (k := 23) bX12_elected_26 rfl
theorem bX12_elected_50 : bL cX12_elected 50 [162, 0, 51, 28, 153, 0, 47, 42, 180, 0, 34, 29, 46, 153, 0, 26, 42, 42, 27, 29, 182, 1, 76, 182, 1, 4] := bL_of (by decide +kernel)
theorem dX12_elected_50 : decode cX12_elected 50 = .ok (.if_icmp .ge 51, 3) := dk162 (k := 0) bX12_elected_50 rfl (by decide)
theorem dX12_elected_53 : decode cX12_elected 53 = .ok (.iload_n 2, 1) := dk28 (k := 3) bX12_elected_50 rfl
theorem dX12_elected_54 : decode cX12_elected 54 = .ok (.ifCond .eq 47, 3) := dk153 (k := 4) bX12_elected_50 rfl (by decide)
theorem dX12_elected_57 : decode cX12_elected 57 = .ok (.aload_n 0, 1) := dk42 (k := 7) bX12_elected_50 rfl
theorem dX12_elected_58 : decode cX12_elected 58 = .ok (.getfield 34, 3) := dk180 (k := 8) bX12_elected_50 rfl rfl
theorem dX12_elected_61 : decode cX12_elected 61 = .ok (.iload_n 3, 1) := dk29 (k := 11) bX12_elected_50 rfl
theorem dX12_elected_62 : decode cX12_elected 62 = .ok (.iaload, 1) := dk46 (k := 12) bX12_elected_50 rfl
theorem dX12_elected_63 : decode cX12_elected 63 = .ok (.ifCond .eq 26, 3) := dk153 (k := 13) bX12_elected_50 rfl (by decide)
theorem dX12_elected_66 : decode cX12_elected 66 = .ok (.aload_n 0, 1) := dk42 (k := 16) bX12_elected_50 rfl
theorem dX12_elected_67 : decode cX12_elected 67 = .ok (.aload_n 0, 1) := dk42 (k := 17) bX12_elected_50 rfl
theorem dX12_elected_68 : decode cX12_elected 68 = .ok (.iload_n 1, 1) := dk27 (k := 18) bX12_elected_50 rfl
theorem dX12_elected_69 : decode cX12_elected 69 = .ok (.iload_n 3, 1) := dk29 (k := 19) bX12_elected_50 rfl
theorem dX12_elected_70 : decode cX12_elected 70 = .ok (.invokevirtual 332, 3) := dk182 (k := 20) bX12_elected_50 rfl rfl
theorem dX12_elected_73 : decode cX12_elected 73 = .ok (.invokevirtual 260, 3) := dk182 (k := 23) bX12_elected_50 rfl rfl
theorem bX12_elected_76 : bL cX12_elected 76 [42, 42, 29, 27, 182, 1, 76, 182, 1, 4, 161, 0, 7, 4, 167, 0, 4, 3, 61, 132, 3, 1, 167, 255, 201] := bL_of (by decide +kernel)
theorem dX12_elected_76 : decode cX12_elected 76 = .ok (.aload_n 0, 1) := dk42 (k := 0) bX12_elected_76 rfl
theorem dX12_elected_77 : decode cX12_elected 77 = .ok (.aload_n 0, 1) := dk42 (k := 1) bX12_elected_76 rfl
theorem dX12_elected_78 : decode cX12_elected 78 = .ok (.iload_n 3, 1) := dk29 (k := 2) bX12_elected_76 rfl
theorem dX12_elected_79 : decode cX12_elected 79 = .ok (.iload_n 1, 1) := dk27 (k := 3) bX12_elected_76 rfl
theorem dX12_elected_80 : decode cX12_elected 80 = .ok (.invokevirtual 332, 3) := dk182 (k := 4) bX12_elected_76 rfl rfl
theorem dX12_elected_83 : decode cX12_elected 83 = .ok (.invokevirtual 260, 3) := dk182 (k := 7) bX12_elected_76 rfl rfl
theorem dX12_elected_86 : decode cX12_elected 86 = .ok (.if_icmp .lt 7, 3) := dk161 (k := 10) bX12_elected_76 rfl (by decide)
theorem dX12_elected_89 : decode cX12_elected 89 = .ok (.iconst 1, 1) := dk4 (k := 13) bX12_elected_76 rfl
theorem dX12_elected_90 : decode cX12_elected 90 = .ok (.goto 4, 3) := dk167 (k := 14) bX12_elected_76 rfl (by decide)
theorem dX12_elected_93 : decode cX12_elected 93 = .ok (.iconst 0, 1) := dk3 (k := 17) bX12_elected_76 rfl
theorem dX12_elected_94 : decode cX12_elected 94 = .ok (.istore_n 2, 1) := dk61 (k := 18) bX12_elected_76 rfl
theorem dX12_elected_95 : decode cX12_elected 95 = .ok (.iinc 3 1, 3) := dk132 (k := 19) bX12_elected_76 rfl rfl (by decide)
theorem dX12_elected_98 : decode cX12_elected 98 = .ok (.goto (-55), 3) := dk167 (k := 22) bX12_elected_76 rfl (by decide)
theorem bX12_elected_101 : bL cX12_elected 101 [28, 153, 0, 5, 27, 172, 132, 1, 1, 167, 255, 162, 2, 172] := bL_of (by decide +kernel)
theorem dX12_elected_101 : decode cX12_elected 101 = .ok (.iload_n 2, 1) := dk28 (k := 0) bX12_elected_101 rfl
theorem dX12_elected_102 : decode cX12_elected 102 = .ok (.ifCond .eq 5, 3) := dk153 (k := 1) bX12_elected_101 rfl (by decide)
theorem dX12_elected_105 : decode cX12_elected 105 = .ok (.iload_n 1, 1) := dk27 (k := 4) bX12_elected_101 rfl
theorem dX12_elected_106 : decode cX12_elected 106 = .ok (.ireturn, 1) := dk172 (k := 5) bX12_elected_101 rfl
theorem dX12_elected_107 : decode cX12_elected 107 = .ok (.iinc 1 1, 3) := dk132 (k := 6) bX12_elected_101 rfl rfl (by decide)
theorem dX12_elected_110 : decode cX12_elected 110 = .ok (.goto (-94), 3) := dk167 (k := 9) bX12_elected_101 rfl (by decide)
theorem dX12_elected_113 : decode cX12_elected 113 = .ok (.iconst (-1), 1) := dk2 (k := 12) bX12_elected_101 rfl
theorem dX12_elected_114 : decode cX12_elected 114 = .ok (.ireturn, 1) := dk172 (k := 13) bX12_elected_101 rfl
theorem bX12_best_0 : bL cX12_best 0 [42, 182, 0, 73, 154, 0, 6, 16, 254, 172, 42, 182, 0, 240, 2, 60, 19, 1, 79, 61, 3, 62, 29, 42] := bL_of (by decide +kernel)
theorem dX12_best_0 : decode cX12_best 0 = .ok (.aload_n 0, 1) := dk42 (k := 0) bX12_best_0 rfl
theorem dX12_best_1 : decode cX12_best 1 = .ok (.invokevirtual 73, 3) := dk182 (k := 1) bX12_best_0 rfl rfl
theorem dX12_best_4 : decode cX12_best 4 = .ok (.ifCond .ne 6, 3) := dk154 (k := 4) bX12_best_0 rfl (by decide)
theorem dX12_best_7 : decode cX12_best 7 = .ok (.bipush (-2), 2) := dk16 (k := 7) bX12_best_0 rfl (by decide)
theorem dX12_best_9 : decode cX12_best 9 = .ok (.ireturn, 1) := dk172 (k := 9) bX12_best_0 rfl
theorem dX12_best_10 : decode cX12_best 10 = .ok (.aload_n 0, 1) := dk42 (k := 10) bX12_best_0 rfl
theorem dX12_best_11 : decode cX12_best 11 = .ok (.invokevirtual 240, 3) := dk182 (k := 11) bX12_best_0 rfl rfl
theorem dX12_best_14 : decode cX12_best 14 = .ok (.iconst (-1), 1) := dk2 (k := 14) bX12_best_0 rfl
theorem dX12_best_15 : decode cX12_best 15 = .ok (.istore_n 1, 1) := dk60 (k := 15) bX12_best_0 rfl
theorem dX12_best_16 : decode cX12_best 16 = .ok (.ldc_w 335, 3) := dk19 (k := 16) bX12_best_0 rfl rfl
theorem dX12_best_19 : decode cX12_best 19 = .ok (.istore_n 2, 1) := dk61 (k := 19) bX12_best_0 rfl
theorem dX12_best_20 : decode cX12_best 20 = .ok (.iconst 0, 1) := dk3 (k := 20) bX12_best_0 rfl
theorem dX12_best_21 : decode cX12_best 21 = .ok (.istore_n 3, 1) := dk62 (k := 21) bX12_best_0 rfl
theorem dX12_best_22 : decode cX12_best 22 = .ok (.iload_n 3, 1) := dk29 (k := 22) bX12_best_0 rfl
theorem dX12_best_23 : decode cX12_best 23 = .ok (.aload_n 0, 1) := dk42 (k := 23) bX12_best_0 rfl
theorem bX12_best_24 : bL cX12_best 24 [180, 0, 9, 3, 46, 162, 0, 61, 42, 180, 0, 34, 29, 46, 154, 0, 6, 167, 0, 43, 42, 180, 0, 34] := bL_of (by decide +kernel)
theorem dX12_best_24 : decode cX12_best 24 = .ok (.getfield 9, 3) := dk180 (k := 0) bX12_best_24 rfl rfl
theorem dX12_best_27 : decode cX12_best 27 = .ok (.iconst 0, 1) := dk3 (k := 3) bX12_best_24 rfl
theorem dX12_best_28 : decode cX12_best 28 = .ok (.iaload, 1) := dk46 (k := 4) bX12_best_24 rfl
theorem dX12_best_29 : decode cX12_best 29 = .ok (.if_icmp .ge 61, 3) := dk162 (k := 5) bX12_best_24 rfl (by decide)
theorem dX12_best_32 : decode cX12_best 32 = .ok (.aload_n 0, 1) := dk42 (k := 8) bX12_best_24 rfl
theorem dX12_best_33 : decode cX12_best 33 = .ok (.getfield 34, 3) := dk180 (k := 9) bX12_best_24 rfl rfl
theorem dX12_best_36 : decode cX12_best 36 = .ok (.iload_n 3, 1) := dk29 (k := 12) bX12_best_24 rfl
theorem dX12_best_37 : decode cX12_best 37 = .ok (.iaload, 1) := dk46 (k := 13) bX12_best_24 rfl
theorem dX12_best_38 : decode cX12_best 38 = .ok (.ifCond .ne 6, 3) := dk154 (k := 14) bX12_best_24 rfl (by decide)
theorem dX12_best_41 : decode cX12_best 41 = .ok (.goto 43, 3) := dk167 (k := 17) bX12_best_24 rfl (by decide)
theorem dX12_best_44 : decode cX12_best 44 = .ok (.aload_n 0, 1) := dk42 (k := 20) bX12_best_24 rfl
theorem dX12_best_45 : decode cX12_best 45 = .ok (.getfield 34, 3) := dk180 (k := 21) bX12_best_24 rfl rfl
theorem bX12_best_48 : bL cX12_best 48 [29, 92, 46, 4, 100, 79, 42, 182, 0, 251, 54, 4, 42, 180, 0, 34, 29, 92, 46, 4, 96, 79, 21, 4] := bL_of (by decide +kernel)
theorem dX12_best_48 : decode cX12_best 48 = .ok (.iload_n 3, 1) := dk29 (k := 0) bX12_best_48 rfl
theorem dX12_best_49 : decode cX12_best 49 = .ok (.dup2, 1) := dk92 (k := 1) bX12_best_48 rfl
theorem dX12_best_50 : decode cX12_best 50 = .ok (.iaload, 1) := dk46 (k := 2) bX12_best_48 rfl
theorem dX12_best_51 : decode cX12_best 51 = .ok (.iconst 1, 1) := dk4 (k := 3) bX12_best_48 rfl
theorem dX12_best_52 : decode cX12_best 52 = .ok (.isub, 1) := dk100 (k := 4) bX12_best_48 rfl
theorem dX12_best_53 : decode cX12_best 53 = .ok (.iastore, 1) := dk79 (k := 5) bX12_best_48 rfl
theorem dX12_best_54 : decode cX12_best 54 = .ok (.aload_n 0, 1) := dk42 (k := 6) bX12_best_48 rfl
theorem dX12_best_55 : decode cX12_best 55 = .ok (.invokevirtual 251, 3) := dk182 (k := 7) bX12_best_48 rfl rfl
theorem dX12_best_58 : decode cX12_best 58 = .ok (.istore 4, 2) := dk54 (k := 10) bX12_best_48 rfl rfl
theorem dX12_best_60 : decode cX12_best 60 = .ok (.aload_n 0, 1) := dk42 (k := 12) bX12_best_48 rfl
theorem dX12_best_61 : decode cX12_best 61 = .ok (.getfield 34, 3) := dk180 (k := 13) bX12_best_48 rfl rfl
theorem dX12_best_64 : decode cX12_best 64 = .ok (.iload_n 3, 1) := dk29 (k := 16) bX12_best_48 rfl
theorem dX12_best_65 : decode cX12_best 65 = .ok (.dup2, 1) := dk92 (k := 17) bX12_best_48 rfl
theorem dX12_best_66 : decode cX12_best 66 = .ok (.iaload, 1) := dk46 (k := 18) bX12_best_48 rfl
theorem dX12_best_67 : decode cX12_best 67 = .ok (.iconst 1, 1) := dk4 (k := 19) bX12_best_48 rfl
theorem dX12_best_68 : decode cX12_best 68 = .ok (.iadd, 1) := dk96 (k := 20) bX12_best_48 rfl
theorem dX12_best_69 : decode cX12_best 69 = .ok (.iastore, 1) := dk79 (k := 21) bX12_best_48 rfl
theorem dX12_best_70 : decode cX12_best 70 = .ok (.iload 4, 2) := dk21 (k := 22) bX12_best_48 rfl rfl
theorem bX12_best_72 : bL cX12_best 72 [28, 163, 0, 6, 167, 0, 8, 21, 4, 61, 29, 60, 132, 3, 1, 167, 255, 191, 27, 172] := bL_of (by decide +kernel)
theorem dX12_best_72 : decode cX12_best 72 = .ok (.iload_n 2, 1) := dk28 (k := 0) bX12_best_72 rfl
theorem dX12_best_73 : decode cX12_best 73 = .ok (.if_icmp .gt 6, 3) := dk163 (k := 1) bX12_best_72 rfl (by decide)
theorem dX12_best_76 : decode cX12_best 76 = .ok (.goto 8, 3) := dk167 (k := 4) bX12_best_72 rfl (by decide)
theorem dX12_best_79 : decode cX12_best 79 = .ok (.iload 4, 2) := dk21 (k := 7) bX12_best_72 rfl rfl
theorem dX12_best_81 : decode cX12_best 81 = .ok (.istore_n 2, 1) := dk61 (k := 9) bX12_best_72 rfl
theorem dX12_best_82 : decode cX12_best 82 = .ok (.iload_n 3, 1) := dk29 (k := 10) bX12_best_72 rfl
theorem dX12_best_83 : decode cX12_best 83 = .ok (.istore_n 1, 1) := dk60 (k := 11) bX12_best_72 rfl
theorem dX12_best_84 : decode cX12_best 84 = .ok (.iinc 3 1, 3) := dk132 (k := 12) bX12_best_72 rfl rfl (by decide)
theorem dX12_best_87 : decode cX12_best 87 = .ok (.goto (-65), 3) := dk167 (k := 15) bX12_best_72 rfl (by decide)
theorem dX12_best_90 : decode cX12_best 90 = .ok (.iload_n 1, 1) := dk27 (k := 18) bX12_best_72 rfl
theorem dX12_best_91 : decode cX12_best 91 = .ok (.ireturn, 1) := dk172 (k := 19) bX12_best_72 rfl
theorem bX12_takeRow_0 : bL cX12_takeRow 0 [3, 61, 28, 27, 162, 0, 40, 42, 180, 0, 34, 42, 180, 0, 41, 28, 46, 46, 154, 0, 5, 28, 172, 42] := bL_of (by decide +kernel)
theorem dX12_takeRow_0 : decode cX12_takeRow 0 = .ok (.iconst 0, 1) := dk3 (k := 0) bX12_takeRow_0 rfl
theorem dX12_takeRow_1 : decode cX12_takeRow 1 = .ok (.istore_n 2, 1) := dk61 (k := 1) bX12_takeRow_0 rfl
theorem dX12_takeRow_2 : decode cX12_takeRow 2 = .ok (.iload_n 2, 1) := dk28 (k := 2) bX12_takeRow_0 rfl
theorem dX12_takeRow_3 : decode cX12_takeRow 3 = .ok (.iload_n 1, 1) := dk27 (k := 3) bX12_takeRow_0 rfl
theorem dX12_takeRow_4 : decode cX12_takeRow 4 = .ok (.if_icmp .ge 40, 3) := dk162 (k := 4) bX12_takeRow_0 rfl (by decide)
theorem dX12_takeRow_7 : decode cX12_takeRow 7 = .ok (.aload_n 0, 1) := dk42 (k := 7) bX12_takeRow_0 rfl
theorem dX12_takeRow_8 : decode cX12_takeRow 8 = .ok (.getfield 34, 3) := dk180 (k := 8) bX12_takeRow_0 rfl rfl
theorem dX12_takeRow_11 : decode cX12_takeRow 11 = .ok (.aload_n 0, 1) := dk42 (k := 11) bX12_takeRow_0 rfl
theorem dX12_takeRow_12 : decode cX12_takeRow 12 = .ok (.getfield 41, 3) := dk180 (k := 12) bX12_takeRow_0 rfl rfl
theorem dX12_takeRow_15 : decode cX12_takeRow 15 = .ok (.iload_n 2, 1) := dk28 (k := 15) bX12_takeRow_0 rfl
theorem dX12_takeRow_16 : decode cX12_takeRow 16 = .ok (.iaload, 1) := dk46 (k := 16) bX12_takeRow_0 rfl
theorem dX12_takeRow_17 : decode cX12_takeRow 17 = .ok (.iaload, 1) := dk46 (k := 17) bX12_takeRow_0 rfl
theorem dX12_takeRow_18 : decode cX12_takeRow 18 = .ok (.ifCond .ne 5, 3) := dk154 (k := 18) bX12_takeRow_0 rfl (by decide)
theorem dX12_takeRow_21 : decode cX12_takeRow 21 = .ok (.iload_n 2, 1) := dk28 (k := 21) bX12_takeRow_0 rfl
theorem dX12_takeRow_22 : decode cX12_takeRow 22 = .ok (.ireturn, 1) := dk172 (k := 22) bX12_takeRow_0 rfl
theorem dX12_takeRow_23 : decode cX12_takeRow 23 = .ok (.aload_n 0, 1) := dk42 (k := 23) bX12_takeRow_0 rfl
theorem bX12_takeRow_24 : bL cX12_takeRow 24 [180, 0, 34, 42, 180, 0, 41, 28, 46, 92, 46, 4, 100, 79, 132, 2, 1, 167, 255, 217, 27, 172] := bL_of (by decide +kernel)
theorem dX12_takeRow_24 : decode cX12_takeRow 24 = .ok (.getfield 34, 3) := dk180 (k := 0) bX12_takeRow_24 rfl rfl
theorem dX12_takeRow_27 : decode cX12_takeRow 27 = .ok (.aload_n 0, 1) := dk42 (k := 3) bX12_takeRow_24 rfl
theorem dX12_takeRow_28 : decode cX12_takeRow 28 = .ok (.getfield 41, 3) := dk180 (k := 4) bX12_takeRow_24 rfl rfl
theorem dX12_takeRow_31 : decode cX12_takeRow 31 = .ok (.iload_n 2, 1) := dk28 (k := 7) bX12_takeRow_24 rfl
theorem dX12_takeRow_32 : decode cX12_takeRow 32 = .ok (.iaload, 1) := dk46 (k := 8) bX12_takeRow_24 rfl
theorem dX12_takeRow_33 : decode cX12_takeRow 33 = .ok (.dup2, 1) := dk92 (k := 9) bX12_takeRow_24 rfl
theorem dX12_takeRow_34 : decode cX12_takeRow 34 = .ok (.iaload, 1) := dk46 (k := 10) bX12_takeRow_24 rfl
theorem dX12_takeRow_35 : decode cX12_takeRow 35 = .ok (.iconst 1, 1) := dk4 (k := 11) bX12_takeRow_24 rfl
theorem dX12_takeRow_36 : decode cX12_takeRow 36 = .ok (.isub, 1) := dk100 (k := 12) bX12_takeRow_24 rfl
theorem dX12_takeRow_37 : decode cX12_takeRow 37 = .ok (.iastore, 1) := dk79 (k := 13) bX12_takeRow_24 rfl
theorem dX12_takeRow_38 : decode cX12_takeRow 38 = .ok (.iinc 2 1, 3) := dk132 (k := 14) bX12_takeRow_24 rfl rfl (by decide)
theorem dX12_takeRow_41 : decode cX12_takeRow 41 = .ok (.goto (-39), 3) := dk167 (k := 17) bX12_takeRow_24 rfl (by decide)
theorem dX12_takeRow_44 : decode cX12_takeRow 44 = .ok (.iload_n 1, 1) := dk27 (k := 20) bX12_takeRow_24 rfl
theorem dX12_takeRow_45 : decode cX12_takeRow 45 = .ok (.ireturn, 1) := dk172 (k := 21) bX12_takeRow_24 rfl
theorem bX12_nextRow_0 : bL cX12_nextRow 0 [27, 4, 100, 61, 28, 155, 0, 68, 42, 180, 0, 41, 28, 46, 42, 180, 0, 9, 3, 46, 4, 100, 160, 0, 6] := bL_of (by decide +kernel)
theorem dX12_nextRow_0 : decode cX12_nextRow 0 = .ok (.iload_n 1, 1) := dk27 (k := 0) bX12_nextRow_0 rfl
theorem dX12_nextRow_1 : decode cX12_nextRow 1 = .ok (.iconst 1, 1) := dk4 (k := 1) bX12_nextRow_0 rfl
theorem dX12_nextRow_2 : decode cX12_nextRow 2 = .ok (.isub, 1) := dk100 (k := 2) bX12_nextRow_0 rfl
theorem dX12_nextRow_3 : decode cX12_nextRow 3 = .ok (.istore_n 2, 1) := dk61 (k := 3) bX12_nextRow_0 rfl
theorem dX12_nextRow_4 : decode cX12_nextRow 4 = .ok (.iload_n 2, 1) := dk28 (k := 4) bX12_nextRow_0 rfl
theorem dX12_nextRow_5 : decode cX12_nextRow 5 = .ok (.ifCond .lt 68, 3) := dk155 (k := 5) bX12_nextRow_0 rfl (by decide)
theorem dX12_nextRow_8 : decode cX12_nextRow 8 = .ok (.aload_n 0, 1) := dk42 (k := 8) bX12_nextRow_0 rfl
theorem dX12_nextRow_9 : decode cX12_nextRow 9 = .ok (.getfield 41, 3) := dk180 (k := 9) bX12_nextRow_0 rfl rfl
theorem dX12_nextRow_12 : decode cX12_nextRow 12 = .ok (.iload_n 2, 1) := dk28 (k := 12) bX12_nextRow_0 rfl
theorem dX12_nextRow_13 : decode cX12_nextRow 13 = .ok (.iaload, 1) := dk46 (k := 13) bX12_nextRow_0 rfl
theorem dX12_nextRow_14 : decode cX12_nextRow 14 = .ok (.aload_n 0, 1) := dk42 (k := 14) bX12_nextRow_0 rfl
theorem dX12_nextRow_15 : decode cX12_nextRow 15 = .ok (.getfield 9, 3) := dk180 (k := 15) bX12_nextRow_0 rfl rfl
theorem dX12_nextRow_18 : decode cX12_nextRow 18 = .ok (.iconst 0, 1) := dk3 (k := 18) bX12_nextRow_0 rfl
theorem dX12_nextRow_19 : decode cX12_nextRow 19 = .ok (.iaload, 1) := dk46 (k := 19) bX12_nextRow_0 rfl
theorem dX12_nextRow_20 : decode cX12_nextRow 20 = .ok (.iconst 1, 1) := dk4 (k := 20) bX12_nextRow_0 rfl
theorem dX12_nextRow_21 : decode cX12_nextRow 21 = .ok (.isub, 1) := dk100 (k := 21) bX12_nextRow_0 rfl
theorem dX12_nextRow_22 : decode cX12_nextRow 22 = .ok (.if_icmp .ne 6, 3) := dk160 (k := 22) bX12_nextRow_0 rfl (by decide)
theorem bX12_nextRow_25 : bL cX12_nextRow 25 [167, 0, 42, 42, 180, 0, 41, 28, 92, 46, 4, 96, 79, 28, 4, 96, 62, 29, 27, 162, 0, 21, 42, 180, 0, 41] := bL_of (by decide +kernel)
theorem dX12_nextRow_25 : decode cX12_nextRow 25 = .ok (.goto 42, 3) := dk167 (k := 0) bX12_nextRow_25 rfl (by decide)
theorem dX12_nextRow_28 : decode cX12_nextRow 28 = .ok (.aload_n 0, 1) := dk42 (k := 3) bX12_nextRow_25 rfl
theorem dX12_nextRow_29 : decode cX12_nextRow 29 = .ok (.getfield 41, 3) := dk180 (k := 4) bX12_nextRow_25 rfl rfl
theorem dX12_nextRow_32 : decode cX12_nextRow 32 = .ok (.iload_n 2, 1) := dk28 (k := 7) bX12_nextRow_25 rfl
theorem dX12_nextRow_33 : decode cX12_nextRow 33 = .ok (.dup2, 1) := dk92 (k := 8) bX12_nextRow_25 rfl
theorem dX12_nextRow_34 : decode cX12_nextRow 34 = .ok (.iaload, 1) := dk46 (k := 9) bX12_nextRow_25 rfl
theorem dX12_nextRow_35 : decode cX12_nextRow 35 = .ok (.iconst 1, 1) := dk4 (k := 10) bX12_nextRow_25 rfl
theorem dX12_nextRow_36 : decode cX12_nextRow 36 = .ok (.iadd, 1) := dk96 (k := 11) bX12_nextRow_25 rfl
theorem dX12_nextRow_37 : decode cX12_nextRow 37 = .ok (.iastore, 1) := dk79 (k := 12) bX12_nextRow_25 rfl
theorem dX12_nextRow_38 : decode cX12_nextRow 38 = .ok (.iload_n 2, 1) := dk28 (k := 13) bX12_nextRow_25 rfl
theorem dX12_nextRow_39 : decode cX12_nextRow 39 = .ok (.iconst 1, 1) := dk4 (k := 14) bX12_nextRow_25 rfl
theorem dX12_nextRow_40 : decode cX12_nextRow 40 = .ok (.iadd, 1) := dk96 (k := 15) bX12_nextRow_25 rfl
theorem dX12_nextRow_41 : decode cX12_nextRow 41 = .ok (.istore_n 3, 1) := dk62 (k := 16) bX12_nextRow_25 rfl
theorem dX12_nextRow_42 : decode cX12_nextRow 42 = .ok (.iload_n 3, 1) := dk29 (k := 17) bX12_nextRow_25 rfl
theorem dX12_nextRow_43 : decode cX12_nextRow 43 = .ok (.iload_n 1, 1) := dk27 (k := 18) bX12_nextRow_25 rfl
theorem dX12_nextRow_44 : decode cX12_nextRow 44 = .ok (.if_icmp .ge 21, 3) := dk162 (k := 19) bX12_nextRow_25 rfl (by decide)
theorem dX12_nextRow_47 : decode cX12_nextRow 47 = .ok (.aload_n 0, 1) := dk42 (k := 22) bX12_nextRow_25 rfl
theorem dX12_nextRow_48 : decode cX12_nextRow 48 = .ok (.getfield 41, 3) := dk180 (k := 23) bX12_nextRow_25 rfl rfl
theorem bX12_nextRow_51 : bL cX12_nextRow 51 [29, 42, 180, 0, 41, 28, 46, 79, 132, 3, 1, 167, 255, 236, 4, 172, 132, 2, 255, 167, 255, 190, 3, 172] := bL_of (by decide +kernel)
theorem dX12_nextRow_51 : decode cX12_nextRow 51 = .ok (.iload_n 3, 1) := dk29 (k := 0) bX12_nextRow_51 rfl
theorem dX12_nextRow_52 : decode cX12_nextRow 52 = .ok (.aload_n 0, 1) := dk42 (k := 1) bX12_nextRow_51 rfl
theorem dX12_nextRow_53 : decode cX12_nextRow 53 = .ok (.getfield 41, 3) := dk180 (k := 2) bX12_nextRow_51 rfl rfl
theorem dX12_nextRow_56 : decode cX12_nextRow 56 = .ok (.iload_n 2, 1) := dk28 (k := 5) bX12_nextRow_51 rfl
theorem dX12_nextRow_57 : decode cX12_nextRow 57 = .ok (.iaload, 1) := dk46 (k := 6) bX12_nextRow_51 rfl
theorem dX12_nextRow_58 : decode cX12_nextRow 58 = .ok (.iastore, 1) := dk79 (k := 7) bX12_nextRow_51 rfl
theorem dX12_nextRow_59 : decode cX12_nextRow 59 = .ok (.iinc 3 1, 3) := dk132 (k := 8) bX12_nextRow_51 rfl rfl (by decide)
theorem dX12_nextRow_62 : decode cX12_nextRow 62 = .ok (.goto (-20), 3) := dk167 (k := 11) bX12_nextRow_51 rfl (by decide)
theorem dX12_nextRow_65 : decode cX12_nextRow 65 = .ok (.iconst 1, 1) := dk4 (k := 14) bX12_nextRow_51 rfl
theorem dX12_nextRow_66 : decode cX12_nextRow 66 = .ok (.ireturn, 1) := dk172 (k := 15) bX12_nextRow_51 rfl
theorem dX12_nextRow_67 : decode cX12_nextRow 67 = .ok (.iinc 2 (-1), 3) := dk132 (k := 16) bX12_nextRow_51 rfl rfl (by decide)
theorem dX12_nextRow_70 : decode cX12_nextRow 70 = .ok (.goto (-66), 3) := dk167 (k := 19) bX12_nextRow_51 rfl (by decide)
theorem dX12_nextRow_73 : decode cX12_nextRow 73 = .ok (.iconst 0, 1) := dk3 (k := 22) bX12_nextRow_51 rfl
theorem dX12_nextRow_74 : decode cX12_nextRow 74 = .ok (.ireturn, 1) := dk172 (k := 23) bX12_nextRow_51 rfl
theorem bX12_shapeOf_0 : bL cX12_shapeOf 0 [42, 182, 0, 240, 3, 61, 28, 6, 162, 0, 16, 42, 180, 0, 41, 28, 3, 79, 132, 2, 1, 167, 255, 241] := bL_of (by decide +kernel)
theorem dX12_shapeOf_0 : decode cX12_shapeOf 0 = .ok (.aload_n 0, 1) := dk42 (k := 0) bX12_shapeOf_0 rfl
theorem dX12_shapeOf_1 : decode cX12_shapeOf 1 = .ok (.invokevirtual 240, 3) := dk182 (k := 1) bX12_shapeOf_0 rfl rfl
theorem dX12_shapeOf_4 : decode cX12_shapeOf 4 = .ok (.iconst 0, 1) := dk3 (k := 4) bX12_shapeOf_0 rfl
theorem dX12_shapeOf_5 : decode cX12_shapeOf 5 = .ok (.istore_n 2, 1) := dk61 (k := 5) bX12_shapeOf_0 rfl
theorem dX12_shapeOf_6 : decode cX12_shapeOf 6 = .ok (.iload_n 2, 1) := dk28 (k := 6) bX12_shapeOf_0 rfl
theorem dX12_shapeOf_7 : decode cX12_shapeOf 7 = .ok (.iconst 3, 1) := dk6 (k := 7) bX12_shapeOf_0 rfl
theorem dX12_shapeOf_8 : decode cX12_shapeOf 8 = .ok (.if_icmp .ge 16, 3) := dk162 (k := 8) bX12_shapeOf_0 rfl (by decide)
theorem dX12_shapeOf_11 : decode cX12_shapeOf 11 = .ok (.aload_n 0, 1) := dk42 (k := 11) bX12_shapeOf_0 rfl
theorem dX12_shapeOf_12 : decode cX12_shapeOf 12 = .ok (.getfield 41, 3) := dk180 (k := 12) bX12_shapeOf_0 rfl rfl
theorem dX12_shapeOf_15 : decode cX12_shapeOf 15 = .ok (.iload_n 2, 1) := dk28 (k := 15) bX12_shapeOf_0 rfl
theorem dX12_shapeOf_16 : decode cX12_shapeOf 16 = .ok (.iconst 0, 1) := dk3 (k := 16) bX12_shapeOf_0 rfl
theorem dX12_shapeOf_17 : decode cX12_shapeOf 17 = .ok (.iastore, 1) := dk79 (k := 17) bX12_shapeOf_0 rfl
theorem dX12_shapeOf_18 : decode cX12_shapeOf 18 = .ok (.iinc 2 1, 3) := dk132 (k := 18) bX12_shapeOf_0 rfl rfl (by decide)
theorem dX12_shapeOf_21 : decode cX12_shapeOf 21 = .ok (.goto (-15), 3) := dk167 (k := 21) bX12_shapeOf_0 rfl (by decide)
theorem bX12_shapeOf_24 : bL cX12_shapeOf 24 [19, 1, 79, 61, 42, 27, 182, 1, 80, 62, 29, 27, 160, 0, 10, 42, 182, 0, 251, 167, 0, 6, 19, 1, 79] := bL_of (by decide +kernel)
theorem dX12_shapeOf_24 : decode cX12_shapeOf 24 = .ok (.ldc_w 335, 3) := dk19 (k := 0) bX12_shapeOf_24 rfl rfl
theorem dX12_shapeOf_27 : decode cX12_shapeOf 27 = .ok (.istore_n 2, 1) := dk61 (k := 3) bX12_shapeOf_24 rfl
theorem dX12_shapeOf_28 : decode cX12_shapeOf 28 = .ok (.aload_n 0, 1) := dk42 (k := 4) bX12_shapeOf_24 rfl
theorem dX12_shapeOf_29 : decode cX12_shapeOf 29 = .ok (.iload_n 1, 1) := dk27 (k := 5) bX12_shapeOf_24 rfl
theorem dX12_shapeOf_30 : decode cX12_shapeOf 30 = .ok (.invokevirtual 336, 3) := dk182 (k := 6) bX12_shapeOf_24 rfl rfl
theorem dX12_shapeOf_33 : decode cX12_shapeOf 33 = .ok (.istore_n 3, 1) := dk62 (k := 9) bX12_shapeOf_24 rfl
theorem dX12_shapeOf_34 : decode cX12_shapeOf 34 = .ok (.iload_n 3, 1) := dk29 (k := 10) bX12_shapeOf_24 rfl
theorem dX12_shapeOf_35 : decode cX12_shapeOf 35 = .ok (.iload_n 1, 1) := dk27 (k := 11) bX12_shapeOf_24 rfl
theorem dX12_shapeOf_36 : decode cX12_shapeOf 36 = .ok (.if_icmp .ne 10, 3) := dk160 (k := 12) bX12_shapeOf_24 rfl (by decide)
theorem dX12_shapeOf_39 : decode cX12_shapeOf 39 = .ok (.aload_n 0, 1) := dk42 (k := 15) bX12_shapeOf_24 rfl
theorem dX12_shapeOf_40 : decode cX12_shapeOf 40 = .ok (.invokevirtual 251, 3) := dk182 (k := 16) bX12_shapeOf_24 rfl rfl
theorem dX12_shapeOf_43 : decode cX12_shapeOf 43 = .ok (.goto 6, 3) := dk167 (k := 19) bX12_shapeOf_24 rfl (by decide)
theorem dX12_shapeOf_46 : decode cX12_shapeOf 46 = .ok (.ldc_w 335, 3) := dk19 (k := 22) bX12_shapeOf_24 rfl rfl
theorem bX12_shapeOf_49 : bL cX12_shapeOf 49 [54, 4, 3, 54, 5, 21, 5, 29, 162, 0, 25, 42, 180, 0, 34, 42, 180, 0, 41, 21, 5, 46, 92, 46] := bL_of (by decide +kernel)
theorem dX12_shapeOf_49 : decode cX12_shapeOf 49 = .ok (.istore 4, 2) := dk54 (k := 0) bX12_shapeOf_49 rfl rfl
theorem dX12_shapeOf_51 : decode cX12_shapeOf 51 = .ok (.iconst 0, 1) := dk3 (k := 2) bX12_shapeOf_49 rfl
theorem dX12_shapeOf_52 : decode cX12_shapeOf 52 = .ok (.istore 5, 2) := dk54 (k := 3) bX12_shapeOf_49 rfl rfl
theorem dX12_shapeOf_54 : decode cX12_shapeOf 54 = .ok (.iload 5, 2) := dk21 (k := 5) bX12_shapeOf_49 rfl rfl
theorem dX12_shapeOf_56 : decode cX12_shapeOf 56 = .ok (.iload_n 3, 1) := dk29 (k := 7) bX12_shapeOf_49 rfl
theorem dX12_shapeOf_57 : decode cX12_shapeOf 57 = .ok (.if_icmp .ge 25, 3) := dk162 (k := 8) bX12_shapeOf_49 rfl (by decide)
theorem dX12_shapeOf_60 : decode cX12_shapeOf 60 = .ok (.aload_n 0, 1) := dk42 (k := 11) bX12_shapeOf_49 rfl
theorem dX12_shapeOf_61 : decode cX12_shapeOf 61 = .ok (.getfield 34, 3) := dk180 (k := 12) bX12_shapeOf_49 rfl rfl
theorem dX12_shapeOf_64 : decode cX12_shapeOf 64 = .ok (.aload_n 0, 1) := dk42 (k := 15) bX12_shapeOf_49 rfl
theorem dX12_shapeOf_65 : decode cX12_shapeOf 65 = .ok (.getfield 41, 3) := dk180 (k := 16) bX12_shapeOf_49 rfl rfl
theorem dX12_shapeOf_68 : decode cX12_shapeOf 68 = .ok (.iload 5, 2) := dk21 (k := 19) bX12_shapeOf_49 rfl rfl
theorem dX12_shapeOf_70 : decode cX12_shapeOf 70 = .ok (.iaload, 1) := dk46 (k := 21) bX12_shapeOf_49 rfl
theorem dX12_shapeOf_71 : decode cX12_shapeOf 71 = .ok (.dup2, 1) := dk92 (k := 22) bX12_shapeOf_49 rfl
theorem dX12_shapeOf_72 : decode cX12_shapeOf 72 = .ok (.iaload, 1) := dk46 (k := 23) bX12_shapeOf_49 rfl
theorem bX12_shapeOf_73 : bL cX12_shapeOf 73 [4, 96, 79, 132, 5, 1, 167, 255, 231, 21, 4, 28, 163, 0, 6, 167, 0, 35, 21, 4, 61, 3, 54, 5] := bL_of (by decide +kernel)
theorem dX12_shapeOf_73 : decode cX12_shapeOf 73 = .ok (.iconst 1, 1) := dk4 (k := 0) bX12_shapeOf_73 rfl
theorem dX12_shapeOf_74 : decode cX12_shapeOf 74 = .ok (.iadd, 1) := dk96 (k := 1) bX12_shapeOf_73 rfl
theorem dX12_shapeOf_75 : decode cX12_shapeOf 75 = .ok (.iastore, 1) := dk79 (k := 2) bX12_shapeOf_73 rfl
theorem dX12_shapeOf_76 : decode cX12_shapeOf 76 = .ok (.iinc 5 1, 3) := dk132 (k := 3) bX12_shapeOf_73 rfl rfl (by decide)
theorem dX12_shapeOf_79 : decode cX12_shapeOf 79 = .ok (.goto (-25), 3) := dk167 (k := 6) bX12_shapeOf_73 rfl (by decide)
theorem dX12_shapeOf_82 : decode cX12_shapeOf 82 = .ok (.iload 4, 2) := dk21 (k := 9) bX12_shapeOf_73 rfl rfl
theorem dX12_shapeOf_84 : decode cX12_shapeOf 84 = .ok (.iload_n 2, 1) := dk28 (k := 11) bX12_shapeOf_73 rfl
theorem dX12_shapeOf_85 : decode cX12_shapeOf 85 = .ok (.if_icmp .gt 6, 3) := dk163 (k := 12) bX12_shapeOf_73 rfl (by decide)
theorem dX12_shapeOf_88 : decode cX12_shapeOf 88 = .ok (.goto 35, 3) := dk167 (k := 15) bX12_shapeOf_73 rfl (by decide)
theorem dX12_shapeOf_91 : decode cX12_shapeOf 91 = .ok (.iload 4, 2) := dk21 (k := 18) bX12_shapeOf_73 rfl rfl
theorem dX12_shapeOf_93 : decode cX12_shapeOf 93 = .ok (.istore_n 2, 1) := dk61 (k := 20) bX12_shapeOf_73 rfl
theorem dX12_shapeOf_94 : decode cX12_shapeOf 94 = .ok (.iconst 0, 1) := dk3 (k := 21) bX12_shapeOf_73 rfl
theorem dX12_shapeOf_95 : decode cX12_shapeOf 95 = .ok (.istore 5, 2) := dk54 (k := 22) bX12_shapeOf_73 rfl rfl
theorem bX12_shapeOf_97 : bL cX12_shapeOf 97 [21, 5, 27, 162, 0, 23, 42, 180, 0, 44, 21, 5, 42, 180, 0, 41, 21, 5, 46, 79, 132, 5, 1, 167, 255, 233] := bL_of (by decide +kernel)
theorem dX12_shapeOf_97 : decode cX12_shapeOf 97 = .ok (.iload 5, 2) := dk21 (k := 0) bX12_shapeOf_97 rfl rfl
theorem dX12_shapeOf_99 : decode cX12_shapeOf 99 = .ok (.iload_n 1, 1) := dk27 (k := 2) bX12_shapeOf_97 rfl
theorem dX12_shapeOf_100 : decode cX12_shapeOf 100 = .ok (.if_icmp .ge 23, 3) := dk162 (k := 3) bX12_shapeOf_97 rfl (by decide)
theorem dX12_shapeOf_103 : decode cX12_shapeOf 103 = .ok (.aload_n 0, 1) := dk42 (k := 6) bX12_shapeOf_97 rfl
theorem dX12_shapeOf_104 : decode cX12_shapeOf 104 = .ok (.getfield 44, 3) := dk180 (k := 7) bX12_shapeOf_97 rfl rfl
theorem dX12_shapeOf_107 : decode cX12_shapeOf 107 = .ok (.iload 5, 2) := dk21 (k := 10) bX12_shapeOf_97 rfl rfl
theorem dX12_shapeOf_109 : decode cX12_shapeOf 109 = .ok (.aload_n 0, 1) := dk42 (k := 12) bX12_shapeOf_97 rfl
theorem dX12_shapeOf_110 : decode cX12_shapeOf 110 = .ok (.getfield 41, 3) := dk180 (k := 13) bX12_shapeOf_97 rfl rfl
theorem dX12_shapeOf_113 : decode cX12_shapeOf 113 = .ok (.iload 5, 2) := dk21 (k := 16) bX12_shapeOf_97 rfl rfl
theorem dX12_shapeOf_115 : decode cX12_shapeOf 115 = .ok (.iaload, 1) := dk46 (k := 18) bX12_shapeOf_97 rfl
theorem dX12_shapeOf_116 : decode cX12_shapeOf 116 = .ok (.iastore, 1) := dk79 (k := 19) bX12_shapeOf_97 rfl
theorem dX12_shapeOf_117 : decode cX12_shapeOf 117 = .ok (.iinc 5 1, 3) := dk132 (k := 20) bX12_shapeOf_97 rfl rfl (by decide)
theorem dX12_shapeOf_120 : decode cX12_shapeOf 120 = .ok (.goto (-23), 3) := dk167 (k := 23) bX12_shapeOf_97 rfl (by decide)
theorem bX12_shapeOf_123 : bL cX12_shapeOf 123 [42, 27, 182, 1, 83, 154, 255, 156, 28, 172] := bL_of (by decide +kernel)
theorem dX12_shapeOf_123 : decode cX12_shapeOf 123 = .ok (.aload_n 0, 1) := dk42 (k := 0) bX12_shapeOf_123 rfl
theorem dX12_shapeOf_124 : decode cX12_shapeOf 124 = .ok (.iload_n 1, 1) := dk27 (k := 1) bX12_shapeOf_123 rfl
theorem dX12_shapeOf_125 : decode cX12_shapeOf 125 = .ok (.invokevirtual 339, 3) := dk182 (k := 2) bX12_shapeOf_123 rfl rfl
theorem dX12_shapeOf_128 : decode cX12_shapeOf 128 = .ok (.ifCond .ne (-100), 3) := dk154 (k := 5) bX12_shapeOf_123 rfl (by decide)
theorem dX12_shapeOf_131 : decode cX12_shapeOf 131 = .ok (.iload_n 2, 1) := dk28 (k := 8) bX12_shapeOf_123 rfl
theorem dX12_shapeOf_132 : decode cX12_shapeOf 132 = .ok (.ireturn, 1) := dk172 (k := 9) bX12_shapeOf_123 rfl
theorem bX12_shape_0 : bL cX12_shape 0 [42, 182, 0, 73, 153, 0, 15, 27, 133, 9, 20, 1, 86] := bL_of (by decide +kernel)
theorem dX12_shape_0 : decode cX12_shape 0 = .ok (.aload_n 0, 1) := dk42 (k := 0) bX12_shape_0 rfl
theorem dX12_shape_1 : decode cX12_shape 1 = .ok (.invokevirtual 73, 3) := dk182 (k := 1) bX12_shape_0 rfl rfl
theorem dX12_shape_4 : decode cX12_shape 4 = .ok (.ifCond .eq 15, 3) := dk153 (k := 4) bX12_shape_0 rfl (by decide)
theorem dX12_shape_7 : decode cX12_shape 7 = .ok (.iload_n 1, 1) := dk27 (k := 7) bX12_shape_0 rfl
theorem dX12_shape_8 : decode cX12_shape 8 = .ok (.i2l, 1) := dk133 (k := 8) bX12_shape_0 rfl
theorem dX12_shape_9 : decode cX12_shape 9 = .ok (.lconst 0, 1) := dk9 (k := 9) bX12_shape_0 rfl
theorem dX12_shape_10 : decode cX12_shape 10 = .ok (.ldc2_w 342, 3) := dk20 (k := 10) bX12_shape_0 rfl rfl
end
section
theorem bX12_shape_13 : bL cX12_shape 13 [184, 0, 65, 154, 0, 6, 16, 254, 172, 42, 27, 182, 1, 88, 61, 28, 19, 1, 79, 160, 0, 8, 16, 254] := bL_of (by decide +kernel)
theorem dX12_shape_13 : decode cX12_shape 13 = .ok (.invokestatic 65, 3) := dk184 (k := 0) bX12_shape_13 rfl rfl
theorem dX12_shape_16 : decode cX12_shape 16 = .ok (.ifCond .ne 6, 3) := dk154 (k := 3) bX12_shape_13 rfl (by decide)
theorem dX12_shape_19 : decode cX12_shape 19 = .ok (.bipush (-2), 2) := dk16 (k := 6) bX12_shape_13 rfl (by decide)
theorem dX12_shape_21 : decode cX12_shape 21 = .ok (.ireturn, 1) := dk172 (k := 8) bX12_shape_13 rfl
theorem dX12_shape_22 : decode cX12_shape 22 = .ok (.aload_n 0, 1) := dk42 (k := 9) bX12_shape_13 rfl
theorem dX12_shape_23 : decode cX12_shape 23 = .ok (.iload_n 1, 1) := dk27 (k := 10) bX12_shape_13 rfl
theorem dX12_shape_24 : decode cX12_shape 24 = .ok (.invokevirtual 344, 3) := dk182 (k := 11) bX12_shape_13 rfl rfl
theorem dX12_shape_27 : decode cX12_shape 27 = .ok (.istore_n 2, 1) := dk61 (k := 14) bX12_shape_13 rfl
theorem dX12_shape_28 : decode cX12_shape 28 = .ok (.iload_n 2, 1) := dk28 (k := 15) bX12_shape_13 rfl
theorem dX12_shape_29 : decode cX12_shape 29 = .ok (.ldc_w 335, 3) := dk19 (k := 16) bX12_shape_13 rfl rfl
theorem dX12_shape_32 : decode cX12_shape 32 = .ok (.if_icmp .ne 8, 3) := dk160 (k := 19) bX12_shape_13 rfl (by decide)
theorem dX12_shape_35 : decode cX12_shape 35 = .ok (.bipush (-2), 2) := dk16 (k := 22) bX12_shape_13 rfl (by decide)
theorem bX12_shape_37 : bL cX12_shape 37 [167, 0, 4, 28, 172] := bL_of (by decide +kernel)
theorem dX12_shape_37 : decode cX12_shape 37 = .ok (.goto 4, 3) := dk167 (k := 0) bX12_shape_37 rfl (by decide)
theorem dX12_shape_40 : decode cX12_shape 40 = .ok (.iload_n 2, 1) := dk28 (k := 3) bX12_shape_37 rfl
theorem dX12_shape_41 : decode cX12_shape 41 = .ok (.ireturn, 1) := dk172 (k := 4) bX12_shape_37 rfl
theorem bX12_shaped_0 : bL cX12_shaped 0 [42, 182, 0, 73, 153, 0, 26, 27, 133, 9, 20, 1, 86, 184, 0, 65, 153, 0, 14, 42, 27, 182, 1, 88] := bL_of (by decide +kernel)
theorem dX12_shaped_0 : decode cX12_shaped 0 = .ok (.aload_n 0, 1) := dk42 (k := 0) bX12_shaped_0 rfl
theorem dX12_shaped_1 : decode cX12_shaped 1 = .ok (.invokevirtual 73, 3) := dk182 (k := 1) bX12_shaped_0 rfl rfl
theorem dX12_shaped_4 : decode cX12_shaped 4 = .ok (.ifCond .eq 26, 3) := dk153 (k := 4) bX12_shaped_0 rfl (by decide)
theorem dX12_shaped_7 : decode cX12_shaped 7 = .ok (.iload_n 1, 1) := dk27 (k := 7) bX12_shaped_0 rfl
theorem dX12_shaped_8 : decode cX12_shaped 8 = .ok (.i2l, 1) := dk133 (k := 8) bX12_shaped_0 rfl
theorem dX12_shaped_9 : decode cX12_shaped 9 = .ok (.lconst 0, 1) := dk9 (k := 9) bX12_shaped_0 rfl
theorem dX12_shaped_10 : decode cX12_shaped 10 = .ok (.ldc2_w 342, 3) := dk20 (k := 10) bX12_shaped_0 rfl rfl
theorem dX12_shaped_13 : decode cX12_shaped 13 = .ok (.invokestatic 65, 3) := dk184 (k := 13) bX12_shaped_0 rfl rfl
theorem dX12_shaped_16 : decode cX12_shaped 16 = .ok (.ifCond .eq 14, 3) := dk153 (k := 16) bX12_shaped_0 rfl (by decide)
theorem dX12_shaped_19 : decode cX12_shaped 19 = .ok (.aload_n 0, 1) := dk42 (k := 19) bX12_shaped_0 rfl
theorem dX12_shaped_20 : decode cX12_shaped 20 = .ok (.iload_n 1, 1) := dk27 (k := 20) bX12_shaped_0 rfl
theorem dX12_shaped_21 : decode cX12_shaped 21 = .ok (.invokevirtual 344, 3) := dk182 (k := 21) bX12_shaped_0 rfl rfl
theorem bX12_shaped_24 : bL cX12_shaped 24 [19, 1, 79, 160, 0, 6, 16, 254, 172, 28, 133, 9, 27, 4, 100, 133, 184, 0, 65, 153, 0, 12, 42, 180, 0, 44] := bL_of (by decide +kernel)
theorem dX12_shaped_24 : decode cX12_shaped 24 = .ok (.ldc_w 335, 3) := dk19 (k := 0) bX12_shaped_24 rfl rfl
theorem dX12_shaped_27 : decode cX12_shaped 27 = .ok (.if_icmp .ne 6, 3) := dk160 (k := 3) bX12_shaped_24 rfl (by decide)
theorem dX12_shaped_30 : decode cX12_shaped 30 = .ok (.bipush (-2), 2) := dk16 (k := 6) bX12_shaped_24 rfl (by decide)
theorem dX12_shaped_32 : decode cX12_shaped 32 = .ok (.ireturn, 1) := dk172 (k := 8) bX12_shaped_24 rfl
theorem dX12_shaped_33 : decode cX12_shaped 33 = .ok (.iload_n 2, 1) := dk28 (k := 9) bX12_shaped_24 rfl
theorem dX12_shaped_34 : decode cX12_shaped 34 = .ok (.i2l, 1) := dk133 (k := 10) bX12_shaped_24 rfl
theorem dX12_shaped_35 : decode cX12_shaped 35 = .ok (.lconst 0, 1) := dk9 (k := 11) bX12_shaped_24 rfl
theorem dX12_shaped_36 : decode cX12_shaped 36 = .ok (.iload_n 1, 1) := dk27 (k := 12) bX12_shaped_24 rfl
theorem dX12_shaped_37 : decode cX12_shaped 37 = .ok (.iconst 1, 1) := dk4 (k := 13) bX12_shaped_24 rfl
theorem dX12_shaped_38 : decode cX12_shaped 38 = .ok (.isub, 1) := dk100 (k := 14) bX12_shaped_24 rfl
theorem dX12_shaped_39 : decode cX12_shaped 39 = .ok (.i2l, 1) := dk133 (k := 15) bX12_shaped_24 rfl
theorem dX12_shaped_40 : decode cX12_shaped 40 = .ok (.invokestatic 65, 3) := dk184 (k := 16) bX12_shaped_24 rfl rfl
theorem dX12_shaped_43 : decode cX12_shaped 43 = .ok (.ifCond .eq 12, 3) := dk153 (k := 19) bX12_shaped_24 rfl (by decide)
theorem dX12_shaped_46 : decode cX12_shaped 46 = .ok (.aload_n 0, 1) := dk42 (k := 22) bX12_shaped_24 rfl
theorem dX12_shaped_47 : decode cX12_shaped 47 = .ok (.getfield 44, 3) := dk180 (k := 23) bX12_shaped_24 rfl rfl
theorem bX12_shaped_50 : bL cX12_shaped 50 [28, 46, 167, 0, 4, 2, 172] := bL_of (by decide +kernel)
theorem dX12_shaped_50 : decode cX12_shaped 50 = .ok (.iload_n 2, 1) := dk28 (k := 0) bX12_shaped_50 rfl
theorem dX12_shaped_51 : decode cX12_shaped 51 = .ok (.iaload, 1) := dk46 (k := 1) bX12_shaped_50 rfl
theorem dX12_shaped_52 : decode cX12_shaped 52 = .ok (.goto 4, 3) := dk167 (k := 2) bX12_shaped_50 rfl (by decide)
theorem dX12_shaped_55 : decode cX12_shaped 55 = .ok (.iconst (-1), 1) := dk2 (k := 5) bX12_shaped_50 rfl
theorem dX12_shaped_56 : decode cX12_shaped 56 = .ok (.ireturn, 1) := dk172 (k := 6) bX12_shaped_50 rfl
theorem bX12_spoil_0 : bL cX12_spoil 0 [42, 182, 0, 73, 154, 0, 6, 16, 254, 172, 2, 60, 19, 1, 79, 61, 3, 62, 29, 42, 180, 0, 9, 3] := bL_of (by decide +kernel)
theorem dX12_spoil_0 : decode cX12_spoil 0 = .ok (.aload_n 0, 1) := dk42 (k := 0) bX12_spoil_0 rfl
theorem dX12_spoil_1 : decode cX12_spoil 1 = .ok (.invokevirtual 73, 3) := dk182 (k := 1) bX12_spoil_0 rfl rfl
theorem dX12_spoil_4 : decode cX12_spoil 4 = .ok (.ifCond .ne 6, 3) := dk154 (k := 4) bX12_spoil_0 rfl (by decide)
theorem dX12_spoil_7 : decode cX12_spoil 7 = .ok (.bipush (-2), 2) := dk16 (k := 7) bX12_spoil_0 rfl (by decide)
theorem dX12_spoil_9 : decode cX12_spoil 9 = .ok (.ireturn, 1) := dk172 (k := 9) bX12_spoil_0 rfl
theorem dX12_spoil_10 : decode cX12_spoil 10 = .ok (.iconst (-1), 1) := dk2 (k := 10) bX12_spoil_0 rfl
theorem dX12_spoil_11 : decode cX12_spoil 11 = .ok (.istore_n 1, 1) := dk60 (k := 11) bX12_spoil_0 rfl
theorem dX12_spoil_12 : decode cX12_spoil 12 = .ok (.ldc_w 335, 3) := dk19 (k := 12) bX12_spoil_0 rfl rfl
theorem dX12_spoil_15 : decode cX12_spoil 15 = .ok (.istore_n 2, 1) := dk61 (k := 15) bX12_spoil_0 rfl
theorem dX12_spoil_16 : decode cX12_spoil 16 = .ok (.iconst 0, 1) := dk3 (k := 16) bX12_spoil_0 rfl
theorem dX12_spoil_17 : decode cX12_spoil 17 = .ok (.istore_n 3, 1) := dk62 (k := 17) bX12_spoil_0 rfl
theorem dX12_spoil_18 : decode cX12_spoil 18 = .ok (.iload_n 3, 1) := dk29 (k := 18) bX12_spoil_0 rfl
theorem dX12_spoil_19 : decode cX12_spoil 19 = .ok (.aload_n 0, 1) := dk42 (k := 19) bX12_spoil_0 rfl
theorem dX12_spoil_20 : decode cX12_spoil 20 = .ok (.getfield 9, 3) := dk180 (k := 20) bX12_spoil_0 rfl rfl
theorem dX12_spoil_23 : decode cX12_spoil 23 = .ok (.iconst 0, 1) := dk3 (k := 23) bX12_spoil_0 rfl
theorem bX12_spoil_24 : bL cX12_spoil 24 [46, 162, 0, 40, 42, 182, 0, 240, 42, 29, 182, 0, 197, 2, 159, 0, 21, 42, 182, 0, 251, 28, 163, 0, 6] := bL_of (by decide +kernel)
theorem dX12_spoil_24 : decode cX12_spoil 24 = .ok (.iaload, 1) := dk46 (k := 0) bX12_spoil_24 rfl
theorem dX12_spoil_25 : decode cX12_spoil 25 = .ok (.if_icmp .ge 40, 3) := dk162 (k := 1) bX12_spoil_24 rfl (by decide)
theorem dX12_spoil_28 : decode cX12_spoil 28 = .ok (.aload_n 0, 1) := dk42 (k := 4) bX12_spoil_24 rfl
theorem dX12_spoil_29 : decode cX12_spoil 29 = .ok (.invokevirtual 240, 3) := dk182 (k := 5) bX12_spoil_24 rfl rfl
theorem dX12_spoil_32 : decode cX12_spoil 32 = .ok (.aload_n 0, 1) := dk42 (k := 8) bX12_spoil_24 rfl
theorem dX12_spoil_33 : decode cX12_spoil 33 = .ok (.iload_n 3, 1) := dk29 (k := 9) bX12_spoil_24 rfl
theorem dX12_spoil_34 : decode cX12_spoil 34 = .ok (.invokevirtual 197, 3) := dk182 (k := 10) bX12_spoil_24 rfl rfl
theorem dX12_spoil_37 : decode cX12_spoil 37 = .ok (.iconst (-1), 1) := dk2 (k := 13) bX12_spoil_24 rfl
theorem dX12_spoil_38 : decode cX12_spoil 38 = .ok (.if_icmp .eq 21, 3) := dk159 (k := 14) bX12_spoil_24 rfl (by decide)
theorem dX12_spoil_41 : decode cX12_spoil 41 = .ok (.aload_n 0, 1) := dk42 (k := 17) bX12_spoil_24 rfl
theorem dX12_spoil_42 : decode cX12_spoil 42 = .ok (.invokevirtual 251, 3) := dk182 (k := 18) bX12_spoil_24 rfl rfl
theorem dX12_spoil_45 : decode cX12_spoil 45 = .ok (.iload_n 2, 1) := dk28 (k := 21) bX12_spoil_24 rfl
theorem dX12_spoil_46 : decode cX12_spoil 46 = .ok (.if_icmp .gt 6, 3) := dk163 (k := 22) bX12_spoil_24 rfl (by decide)
theorem bX12_spoil_49 : bL cX12_spoil 49 [167, 0, 10, 42, 182, 0, 251, 61, 29, 60, 132, 3, 1, 167, 255, 212, 27, 172] := bL_of (by decide +kernel)
theorem dX12_spoil_49 : decode cX12_spoil 49 = .ok (.goto 10, 3) := dk167 (k := 0) bX12_spoil_49 rfl (by decide)
theorem dX12_spoil_52 : decode cX12_spoil 52 = .ok (.aload_n 0, 1) := dk42 (k := 3) bX12_spoil_49 rfl
theorem dX12_spoil_53 : decode cX12_spoil 53 = .ok (.invokevirtual 251, 3) := dk182 (k := 4) bX12_spoil_49 rfl rfl
theorem dX12_spoil_56 : decode cX12_spoil 56 = .ok (.istore_n 2, 1) := dk61 (k := 7) bX12_spoil_49 rfl
theorem dX12_spoil_57 : decode cX12_spoil 57 = .ok (.iload_n 3, 1) := dk29 (k := 8) bX12_spoil_49 rfl
theorem dX12_spoil_58 : decode cX12_spoil 58 = .ok (.istore_n 1, 1) := dk60 (k := 9) bX12_spoil_49 rfl
theorem dX12_spoil_59 : decode cX12_spoil 59 = .ok (.iinc 3 1, 3) := dk132 (k := 10) bX12_spoil_49 rfl rfl (by decide)
theorem dX12_spoil_62 : decode cX12_spoil 62 = .ok (.goto (-44), 3) := dk167 (k := 13) bX12_spoil_49 rfl (by decide)
theorem dX12_spoil_65 : decode cX12_spoil 65 = .ok (.iload_n 1, 1) := dk27 (k := 16) bX12_spoil_49 rfl
theorem dX12_spoil_66 : decode cX12_spoil 66 = .ok (.ireturn, 1) := dk172 (k := 17) bX12_spoil_49 rfl
theorem bX12_raisers_0 : bL cX12_raisers 0 [42, 182, 0, 73, 154, 0, 6, 16, 254, 172, 42, 182, 0, 240, 42, 182, 0, 200, 60, 3, 61, 3, 62, 29] := bL_of (by decide +kernel)
theorem dX12_raisers_0 : decode cX12_raisers 0 = .ok (.aload_n 0, 1) := dk42 (k := 0) bX12_raisers_0 rfl
theorem dX12_raisers_1 : decode cX12_raisers 1 = .ok (.invokevirtual 73, 3) := dk182 (k := 1) bX12_raisers_0 rfl rfl
theorem dX12_raisers_4 : decode cX12_raisers 4 = .ok (.ifCond .ne 6, 3) := dk154 (k := 4) bX12_raisers_0 rfl (by decide)
theorem dX12_raisers_7 : decode cX12_raisers 7 = .ok (.bipush (-2), 2) := dk16 (k := 7) bX12_raisers_0 rfl (by decide)
theorem dX12_raisers_9 : decode cX12_raisers 9 = .ok (.ireturn, 1) := dk172 (k := 9) bX12_raisers_0 rfl
theorem dX12_raisers_10 : decode cX12_raisers 10 = .ok (.aload_n 0, 1) := dk42 (k := 10) bX12_raisers_0 rfl
theorem dX12_raisers_11 : decode cX12_raisers 11 = .ok (.invokevirtual 240, 3) := dk182 (k := 11) bX12_raisers_0 rfl rfl
theorem dX12_raisers_14 : decode cX12_raisers 14 = .ok (.aload_n 0, 1) := dk42 (k := 14) bX12_raisers_0 rfl
theorem dX12_raisers_15 : decode cX12_raisers 15 = .ok (.invokevirtual 200, 3) := dk182 (k := 15) bX12_raisers_0 rfl rfl
theorem dX12_raisers_18 : decode cX12_raisers 18 = .ok (.istore_n 1, 1) := dk60 (k := 18) bX12_raisers_0 rfl
theorem dX12_raisers_19 : decode cX12_raisers 19 = .ok (.iconst 0, 1) := dk3 (k := 19) bX12_raisers_0 rfl
theorem dX12_raisers_20 : decode cX12_raisers 20 = .ok (.istore_n 2, 1) := dk61 (k := 20) bX12_raisers_0 rfl
theorem dX12_raisers_21 : decode cX12_raisers 21 = .ok (.iconst 0, 1) := dk3 (k := 21) bX12_raisers_0 rfl
theorem dX12_raisers_22 : decode cX12_raisers 22 = .ok (.istore_n 3, 1) := dk62 (k := 22) bX12_raisers_0 rfl
theorem dX12_raisers_23 : decode cX12_raisers 23 = .ok (.iload_n 3, 1) := dk29 (k := 23) bX12_raisers_0 rfl
theorem bX12_raisers_24 : bL cX12_raisers 24 [42, 180, 0, 9, 16, 6, 46, 162, 0, 56, 42, 29, 182, 0, 232, 54, 4, 42, 180, 0, 34, 27, 92, 46] := bL_of (by decide +kernel)
theorem dX12_raisers_24 : decode cX12_raisers 24 = .ok (.aload_n 0, 1) := dk42 (k := 0) bX12_raisers_24 rfl
theorem dX12_raisers_25 : decode cX12_raisers 25 = .ok (.getfield 9, 3) := dk180 (k := 1) bX12_raisers_24 rfl rfl
theorem dX12_raisers_28 : decode cX12_raisers 28 = .ok (.bipush 6, 2) := dk16 (k := 4) bX12_raisers_24 rfl (by decide)
theorem dX12_raisers_30 : decode cX12_raisers 30 = .ok (.iaload, 1) := dk46 (k := 6) bX12_raisers_24 rfl
theorem dX12_raisers_31 : decode cX12_raisers 31 = .ok (.if_icmp .ge 56, 3) := dk162 (k := 7) bX12_raisers_24 rfl (by decide)
theorem dX12_raisers_34 : decode cX12_raisers 34 = .ok (.aload_n 0, 1) := dk42 (k := 10) bX12_raisers_24 rfl
theorem dX12_raisers_35 : decode cX12_raisers 35 = .ok (.iload_n 3, 1) := dk29 (k := 11) bX12_raisers_24 rfl
theorem dX12_raisers_36 : decode cX12_raisers 36 = .ok (.invokevirtual 232, 3) := dk182 (k := 12) bX12_raisers_24 rfl rfl
theorem dX12_raisers_39 : decode cX12_raisers 39 = .ok (.istore 4, 2) := dk54 (k := 15) bX12_raisers_24 rfl rfl
theorem dX12_raisers_41 : decode cX12_raisers 41 = .ok (.aload_n 0, 1) := dk42 (k := 17) bX12_raisers_24 rfl
theorem dX12_raisers_42 : decode cX12_raisers 42 = .ok (.getfield 34, 3) := dk180 (k := 18) bX12_raisers_24 rfl rfl
theorem dX12_raisers_45 : decode cX12_raisers 45 = .ok (.iload_n 1, 1) := dk27 (k := 21) bX12_raisers_24 rfl
theorem dX12_raisers_46 : decode cX12_raisers 46 = .ok (.dup2, 1) := dk92 (k := 22) bX12_raisers_24 rfl
theorem dX12_raisers_47 : decode cX12_raisers 47 = .ok (.iaload, 1) := dk46 (k := 23) bX12_raisers_24 rfl
theorem bX12_raisers_48 : bL cX12_raisers 48 [4, 96, 79, 28, 42, 29, 182, 0, 232, 21, 4, 164, 0, 9, 4, 29, 120, 167, 0, 4, 3, 128, 61, 42] := bL_of (by decide +kernel)
theorem dX12_raisers_48 : decode cX12_raisers 48 = .ok (.iconst 1, 1) := dk4 (k := 0) bX12_raisers_48 rfl
theorem dX12_raisers_49 : decode cX12_raisers 49 = .ok (.iadd, 1) := dk96 (k := 1) bX12_raisers_48 rfl
theorem dX12_raisers_50 : decode cX12_raisers 50 = .ok (.iastore, 1) := dk79 (k := 2) bX12_raisers_48 rfl
theorem dX12_raisers_51 : decode cX12_raisers 51 = .ok (.iload_n 2, 1) := dk28 (k := 3) bX12_raisers_48 rfl
theorem dX12_raisers_52 : decode cX12_raisers 52 = .ok (.aload_n 0, 1) := dk42 (k := 4) bX12_raisers_48 rfl
theorem dX12_raisers_53 : decode cX12_raisers 53 = .ok (.iload_n 3, 1) := dk29 (k := 5) bX12_raisers_48 rfl
theorem dX12_raisers_54 : decode cX12_raisers 54 = .ok (.invokevirtual 232, 3) := dk182 (k := 6) bX12_raisers_48 rfl rfl
theorem dX12_raisers_57 : decode cX12_raisers 57 = .ok (.iload 4, 2) := dk21 (k := 9) bX12_raisers_48 rfl rfl
theorem dX12_raisers_59 : decode cX12_raisers 59 = .ok (.if_icmp .le 9, 3) := dk164 (k := 11) bX12_raisers_48 rfl (by decide)
theorem dX12_raisers_62 : decode cX12_raisers 62 = .ok (.iconst 1, 1) := dk4 (k := 14) bX12_raisers_48 rfl
theorem dX12_raisers_63 : decode cX12_raisers 63 = .ok (.iload_n 3, 1) := dk29 (k := 15) bX12_raisers_48 rfl
theorem dX12_raisers_64 : decode cX12_raisers 64 = .ok (.ishl, 1) := dk120 (k := 16) bX12_raisers_48 rfl
theorem dX12_raisers_65 : decode cX12_raisers 65 = .ok (.goto 4, 3) := dk167 (k := 17) bX12_raisers_48 rfl (by decide)
theorem dX12_raisers_68 : decode cX12_raisers 68 = .ok (.iconst 0, 1) := dk3 (k := 20) bX12_raisers_48 rfl
theorem dX12_raisers_69 : decode cX12_raisers 69 = .ok (.ior, 1) := dk128 (k := 21) bX12_raisers_48 rfl
theorem dX12_raisers_70 : decode cX12_raisers 70 = .ok (.istore_n 2, 1) := dk61 (k := 22) bX12_raisers_48 rfl
theorem dX12_raisers_71 : decode cX12_raisers 71 = .ok (.aload_n 0, 1) := dk42 (k := 23) bX12_raisers_48 rfl
theorem bX12_raisers_72 : bL cX12_raisers 72 [180, 0, 34, 27, 92, 46, 4, 100, 79, 132, 3, 1, 167, 255, 195, 28, 172] := bL_of (by decide +kernel)
theorem dX12_raisers_72 : decode cX12_raisers 72 = .ok (.getfield 34, 3) := dk180 (k := 0) bX12_raisers_72 rfl rfl
theorem dX12_raisers_75 : decode cX12_raisers 75 = .ok (.iload_n 1, 1) := dk27 (k := 3) bX12_raisers_72 rfl
theorem dX12_raisers_76 : decode cX12_raisers 76 = .ok (.dup2, 1) := dk92 (k := 4) bX12_raisers_72 rfl
theorem dX12_raisers_77 : decode cX12_raisers 77 = .ok (.iaload, 1) := dk46 (k := 5) bX12_raisers_72 rfl
theorem dX12_raisers_78 : decode cX12_raisers 78 = .ok (.iconst 1, 1) := dk4 (k := 6) bX12_raisers_72 rfl
theorem dX12_raisers_79 : decode cX12_raisers 79 = .ok (.isub, 1) := dk100 (k := 7) bX12_raisers_72 rfl
theorem dX12_raisers_80 : decode cX12_raisers 80 = .ok (.iastore, 1) := dk79 (k := 8) bX12_raisers_72 rfl
theorem dX12_raisers_81 : decode cX12_raisers 81 = .ok (.iinc 3 1, 3) := dk132 (k := 9) bX12_raisers_72 rfl rfl (by decide)
theorem dX12_raisers_84 : decode cX12_raisers 84 = .ok (.goto (-61), 3) := dk167 (k := 12) bX12_raisers_72 rfl (by decide)
theorem dX12_raisers_87 : decode cX12_raisers 87 = .ok (.iload_n 2, 1) := dk28 (k := 15) bX12_raisers_72 rfl
theorem dX12_raisers_88 : decode cX12_raisers 88 = .ok (.ireturn, 1) := dk172 (k := 16) bX12_raisers_72 rfl
theorem bX12_goCourse_0 : bL cX12_goCourse 0 [42, 182, 0, 240, 3, 61, 28, 16, 60, 162, 0, 33, 42, 42, 42, 182, 1, 7, 3, 182, 1, 14, 182, 1, 4] := bL_of (by decide +kernel)
theorem dX12_goCourse_0 : decode cX12_goCourse 0 = .ok (.aload_n 0, 1) := dk42 (k := 0) bX12_goCourse_0 rfl
theorem dX12_goCourse_1 : decode cX12_goCourse 1 = .ok (.invokevirtual 240, 3) := dk182 (k := 1) bX12_goCourse_0 rfl rfl
theorem dX12_goCourse_4 : decode cX12_goCourse 4 = .ok (.iconst 0, 1) := dk3 (k := 4) bX12_goCourse_0 rfl
theorem dX12_goCourse_5 : decode cX12_goCourse 5 = .ok (.istore_n 2, 1) := dk61 (k := 5) bX12_goCourse_0 rfl
theorem dX12_goCourse_6 : decode cX12_goCourse 6 = .ok (.iload_n 2, 1) := dk28 (k := 6) bX12_goCourse_0 rfl
theorem dX12_goCourse_7 : decode cX12_goCourse 7 = .ok (.bipush 60, 2) := dk16 (k := 7) bX12_goCourse_0 rfl (by decide)
theorem dX12_goCourse_9 : decode cX12_goCourse 9 = .ok (.if_icmp .ge 33, 3) := dk162 (k := 9) bX12_goCourse_0 rfl (by decide)
theorem dX12_goCourse_12 : decode cX12_goCourse 12 = .ok (.aload_n 0, 1) := dk42 (k := 12) bX12_goCourse_0 rfl
theorem dX12_goCourse_13 : decode cX12_goCourse 13 = .ok (.aload_n 0, 1) := dk42 (k := 13) bX12_goCourse_0 rfl
theorem dX12_goCourse_14 : decode cX12_goCourse 14 = .ok (.aload_n 0, 1) := dk42 (k := 14) bX12_goCourse_0 rfl
theorem dX12_goCourse_15 : decode cX12_goCourse 15 = .ok (.invokevirtual 263, 3) := dk182 (k := 15) bX12_goCourse_0 rfl rfl
theorem dX12_goCourse_18 : decode cX12_goCourse 18 = .ok (.iconst 0, 1) := dk3 (k := 18) bX12_goCourse_0 rfl
theorem dX12_goCourse_19 : decode cX12_goCourse 19 = .ok (.invokevirtual 270, 3) := dk182 (k := 19) bX12_goCourse_0 rfl rfl
theorem dX12_goCourse_22 : decode cX12_goCourse 22 = .ok (.invokevirtual 260, 3) := dk182 (k := 22) bX12_goCourse_0 rfl rfl
theorem bX12_goCourse_25 : bL cX12_goCourse 25 [27, 161, 0, 16, 42, 182, 0, 194, 153, 0, 9, 132, 2, 1, 167, 255, 223, 28, 172] := bL_of (by decide +kernel)
theorem dX12_goCourse_25 : decode cX12_goCourse 25 = .ok (.iload_n 1, 1) := dk27 (k := 0) bX12_goCourse_25 rfl
theorem dX12_goCourse_26 : decode cX12_goCourse 26 = .ok (.if_icmp .lt 16, 3) := dk161 (k := 1) bX12_goCourse_25 rfl (by decide)
theorem dX12_goCourse_29 : decode cX12_goCourse 29 = .ok (.aload_n 0, 1) := dk42 (k := 4) bX12_goCourse_25 rfl
theorem dX12_goCourse_30 : decode cX12_goCourse 30 = .ok (.invokevirtual 194, 3) := dk182 (k := 5) bX12_goCourse_25 rfl rfl
theorem dX12_goCourse_33 : decode cX12_goCourse 33 = .ok (.ifCond .eq 9, 3) := dk153 (k := 8) bX12_goCourse_25 rfl (by decide)
theorem dX12_goCourse_36 : decode cX12_goCourse 36 = .ok (.iinc 2 1, 3) := dk132 (k := 11) bX12_goCourse_25 rfl rfl (by decide)
theorem dX12_goCourse_39 : decode cX12_goCourse 39 = .ok (.goto (-33), 3) := dk167 (k := 14) bX12_goCourse_25 rfl (by decide)
theorem dX12_goCourse_42 : decode cX12_goCourse 42 = .ok (.iload_n 2, 1) := dk28 (k := 17) bX12_goCourse_25 rfl
theorem dX12_goCourse_43 : decode cX12_goCourse 43 = .ok (.ireturn, 1) := dk172 (k := 18) bX12_goCourse_25 rfl
theorem bX12_isLaw_0 : bL cX12_isLaw 0 [42, 182, 0, 73, 153, 0, 19, 27, 133, 10, 20, 1, 91, 184, 0, 65, 153, 0, 7, 4, 167, 0, 4, 3] := bL_of (by decide +kernel)
theorem dX12_isLaw_0 : decode cX12_isLaw 0 = .ok (.aload_n 0, 1) := dk42 (k := 0) bX12_isLaw_0 rfl
theorem dX12_isLaw_1 : decode cX12_isLaw 1 = .ok (.invokevirtual 73, 3) := dk182 (k := 1) bX12_isLaw_0 rfl rfl
theorem dX12_isLaw_4 : decode cX12_isLaw 4 = .ok (.ifCond .eq 19, 3) := dk153 (k := 4) bX12_isLaw_0 rfl (by decide)
theorem dX12_isLaw_7 : decode cX12_isLaw 7 = .ok (.iload_n 1, 1) := dk27 (k := 7) bX12_isLaw_0 rfl
theorem dX12_isLaw_8 : decode cX12_isLaw 8 = .ok (.i2l, 1) := dk133 (k := 8) bX12_isLaw_0 rfl
theorem dX12_isLaw_9 : decode cX12_isLaw 9 = .ok (.lconst 1, 1) := dk10 (k := 9) bX12_isLaw_0 rfl
theorem dX12_isLaw_10 : decode cX12_isLaw 10 = .ok (.ldc2_w 347, 3) := dk20 (k := 10) bX12_isLaw_0 rfl rfl
theorem dX12_isLaw_13 : decode cX12_isLaw 13 = .ok (.invokestatic 65, 3) := dk184 (k := 13) bX12_isLaw_0 rfl rfl
theorem dX12_isLaw_16 : decode cX12_isLaw 16 = .ok (.ifCond .eq 7, 3) := dk153 (k := 16) bX12_isLaw_0 rfl (by decide)
theorem dX12_isLaw_19 : decode cX12_isLaw 19 = .ok (.iconst 1, 1) := dk4 (k := 19) bX12_isLaw_0 rfl
theorem dX12_isLaw_20 : decode cX12_isLaw 20 = .ok (.goto 4, 3) := dk167 (k := 20) bX12_isLaw_0 rfl (by decide)
theorem dX12_isLaw_23 : decode cX12_isLaw 23 = .ok (.iconst 0, 1) := dk3 (k := 23) bX12_isLaw_0 rfl
theorem bX12_isLaw_24 : bL cX12_isLaw 24 [172] := bL_of (by decide +kernel)
theorem dX12_isLaw_24 : decode cX12_isLaw 24 = .ok (.ireturn, 1) := dk172 (k := 0) bX12_isLaw_24 rfl
theorem bX12_course_0 : bL cX12_course 0 [42, 27, 182, 1, 93, 153, 0, 11, 42, 27, 182, 1, 96, 167, 0, 5, 16, 254, 172] := bL_of (by decide +kernel)
theorem dX12_course_0 : decode cX12_course 0 = .ok (.aload_n 0, 1) := dk42 (k := 0) bX12_course_0 rfl
theorem dX12_course_1 : decode cX12_course 1 = .ok (.iload_n 1, 1) := dk27 (k := 1) bX12_course_0 rfl
theorem dX12_course_2 : decode cX12_course 2 = .ok (.invokevirtual 349, 3) := dk182 (k := 2) bX12_course_0 rfl rfl
theorem dX12_course_5 : decode cX12_course 5 = .ok (.ifCond .eq 11, 3) := dk153 (k := 5) bX12_course_0 rfl (by decide)
theorem dX12_course_8 : decode cX12_course 8 = .ok (.aload_n 0, 1) := dk42 (k := 8) bX12_course_0 rfl
theorem dX12_course_9 : decode cX12_course 9 = .ok (.iload_n 1, 1) := dk27 (k := 9) bX12_course_0 rfl
theorem dX12_course_10 : decode cX12_course 10 = .ok (.invokevirtual 352, 3) := dk182 (k := 10) bX12_course_0 rfl rfl
theorem dX12_course_13 : decode cX12_course 13 = .ok (.goto 5, 3) := dk167 (k := 13) bX12_course_0 rfl (by decide)
theorem dX12_course_16 : decode cX12_course 16 = .ok (.bipush (-2), 2) := dk16 (k := 16) bX12_course_0 rfl (by decide)
theorem dX12_course_18 : decode cX12_course 18 = .ok (.ireturn, 1) := dk172 (k := 18) bX12_course_0 rfl
theorem bX12_ends_0 : bL cX12_ends 0 [42, 27, 182, 1, 93, 154, 0, 6, 16, 254, 172, 42, 27, 182, 1, 96, 87, 42, 180, 0, 34, 42, 182, 0, 200] := bL_of (by decide +kernel)
theorem dX12_ends_0 : decode cX12_ends 0 = .ok (.aload_n 0, 1) := dk42 (k := 0) bX12_ends_0 rfl
theorem dX12_ends_1 : decode cX12_ends 1 = .ok (.iload_n 1, 1) := dk27 (k := 1) bX12_ends_0 rfl
theorem dX12_ends_2 : decode cX12_ends 2 = .ok (.invokevirtual 349, 3) := dk182 (k := 2) bX12_ends_0 rfl rfl
theorem dX12_ends_5 : decode cX12_ends 5 = .ok (.ifCond .ne 6, 3) := dk154 (k := 5) bX12_ends_0 rfl (by decide)
theorem dX12_ends_8 : decode cX12_ends 8 = .ok (.bipush (-2), 2) := dk16 (k := 8) bX12_ends_0 rfl (by decide)
theorem dX12_ends_10 : decode cX12_ends 10 = .ok (.ireturn, 1) := dk172 (k := 10) bX12_ends_0 rfl
theorem dX12_ends_11 : decode cX12_ends 11 = .ok (.aload_n 0, 1) := dk42 (k := 11) bX12_ends_0 rfl
theorem dX12_ends_12 : decode cX12_ends 12 = .ok (.iload_n 1, 1) := dk27 (k := 12) bX12_ends_0 rfl
theorem dX12_ends_13 : decode cX12_ends 13 = .ok (.invokevirtual 352, 3) := dk182 (k := 13) bX12_ends_0 rfl rfl
theorem dX12_ends_16 : decode cX12_ends 16 = .ok (.pop, 1) := dk87 (k := 16) bX12_ends_0 rfl
theorem dX12_ends_17 : decode cX12_ends 17 = .ok (.aload_n 0, 1) := dk42 (k := 17) bX12_ends_0 rfl
theorem dX12_ends_18 : decode cX12_ends 18 = .ok (.getfield 34, 3) := dk180 (k := 18) bX12_ends_0 rfl rfl
theorem dX12_ends_21 : decode cX12_ends 21 = .ok (.aload_n 0, 1) := dk42 (k := 21) bX12_ends_0 rfl
theorem dX12_ends_22 : decode cX12_ends 22 = .ok (.invokevirtual 200, 3) := dk182 (k := 22) bX12_ends_0 rfl rfl
theorem bX12_ends_25 : bL cX12_ends 25 [46, 172] := bL_of (by decide +kernel)
theorem dX12_ends_25 : decode cX12_ends 25 = .ok (.iaload, 1) := dk46 (k := 0) bX12_ends_25 rfl
theorem dX12_ends_26 : decode cX12_ends 26 = .ok (.ireturn, 1) := dk172 (k := 1) bX12_ends_25 rfl
theorem bX12_left_0 : bL cX12_left 0 [42, 27, 182, 1, 93, 153, 0, 12, 42, 28, 133, 182, 0, 235, 154, 0, 7, 17, 252, 24, 172, 42, 27, 182, 1, 96] := bL_of (by decide +kernel)
theorem dX12_left_0 : decode cX12_left 0 = .ok (.aload_n 0, 1) := dk42 (k := 0) bX12_left_0 rfl
theorem dX12_left_1 : decode cX12_left 1 = .ok (.iload_n 1, 1) := dk27 (k := 1) bX12_left_0 rfl
theorem dX12_left_2 : decode cX12_left 2 = .ok (.invokevirtual 349, 3) := dk182 (k := 2) bX12_left_0 rfl rfl
theorem dX12_left_5 : decode cX12_left 5 = .ok (.ifCond .eq 12, 3) := dk153 (k := 5) bX12_left_0 rfl (by decide)
theorem dX12_left_8 : decode cX12_left 8 = .ok (.aload_n 0, 1) := dk42 (k := 8) bX12_left_0 rfl
theorem dX12_left_9 : decode cX12_left 9 = .ok (.iload_n 2, 1) := dk28 (k := 9) bX12_left_0 rfl
theorem dX12_left_10 : decode cX12_left 10 = .ok (.i2l, 1) := dk133 (k := 10) bX12_left_0 rfl
theorem dX12_left_11 : decode cX12_left 11 = .ok (.invokevirtual 235, 3) := dk182 (k := 11) bX12_left_0 rfl rfl
theorem dX12_left_14 : decode cX12_left 14 = .ok (.ifCond .ne 7, 3) := dk154 (k := 14) bX12_left_0 rfl (by decide)
theorem dX12_left_17 : decode cX12_left 17 = .ok (.sipush (-1000), 3) := dk17 (k := 17) bX12_left_0 rfl (by decide)
theorem dX12_left_20 : decode cX12_left 20 = .ok (.ireturn, 1) := dk172 (k := 20) bX12_left_0 rfl
theorem dX12_left_21 : decode cX12_left 21 = .ok (.aload_n 0, 1) := dk42 (k := 21) bX12_left_0 rfl
theorem dX12_left_22 : decode cX12_left 22 = .ok (.iload_n 1, 1) := dk27 (k := 22) bX12_left_0 rfl
theorem dX12_left_23 : decode cX12_left 23 = .ok (.invokevirtual 352, 3) := dk182 (k := 23) bX12_left_0 rfl rfl
theorem bX12_left_26 : bL cX12_left 26 [87, 42, 28, 182, 0, 232, 172] := bL_of (by decide +kernel)
theorem dX12_left_26 : decode cX12_left 26 = .ok (.pop, 1) := dk87 (k := 0) bX12_left_26 rfl
theorem dX12_left_27 : decode cX12_left 27 = .ok (.aload_n 0, 1) := dk42 (k := 1) bX12_left_26 rfl
theorem dX12_left_28 : decode cX12_left 28 = .ok (.iload_n 2, 1) := dk28 (k := 2) bX12_left_26 rfl
theorem dX12_left_29 : decode cX12_left 29 = .ok (.invokevirtual 232, 3) := dk182 (k := 3) bX12_left_26 rfl rfl
theorem dX12_left_32 : decode cX12_left 32 = .ok (.ireturn, 1) := dk172 (k := 6) bX12_left_26 rfl
theorem bX12_law_0 : bL cX12_law 0 [42, 182, 0, 73, 153, 0, 15, 27, 133, 10, 20, 1, 99, 184, 0, 65, 154, 0, 6, 16, 254, 172, 42, 182, 0, 240] := bL_of (by decide +kernel)
theorem dX12_law_0 : decode cX12_law 0 = .ok (.aload_n 0, 1) := dk42 (k := 0) bX12_law_0 rfl
theorem dX12_law_1 : decode cX12_law 1 = .ok (.invokevirtual 73, 3) := dk182 (k := 1) bX12_law_0 rfl rfl
theorem dX12_law_4 : decode cX12_law 4 = .ok (.ifCond .eq 15, 3) := dk153 (k := 4) bX12_law_0 rfl (by decide)
theorem dX12_law_7 : decode cX12_law 7 = .ok (.iload_n 1, 1) := dk27 (k := 7) bX12_law_0 rfl
theorem dX12_law_8 : decode cX12_law 8 = .ok (.i2l, 1) := dk133 (k := 8) bX12_law_0 rfl
theorem dX12_law_9 : decode cX12_law 9 = .ok (.lconst 1, 1) := dk10 (k := 9) bX12_law_0 rfl
theorem dX12_law_10 : decode cX12_law 10 = .ok (.ldc2_w 355, 3) := dk20 (k := 10) bX12_law_0 rfl rfl
theorem dX12_law_13 : decode cX12_law 13 = .ok (.invokestatic 65, 3) := dk184 (k := 13) bX12_law_0 rfl rfl
theorem dX12_law_16 : decode cX12_law 16 = .ok (.ifCond .ne 6, 3) := dk154 (k := 16) bX12_law_0 rfl (by decide)
theorem dX12_law_19 : decode cX12_law 19 = .ok (.bipush (-2), 2) := dk16 (k := 19) bX12_law_0 rfl (by decide)
theorem dX12_law_21 : decode cX12_law 21 = .ok (.ireturn, 1) := dk172 (k := 21) bX12_law_0 rfl
theorem dX12_law_22 : decode cX12_law 22 = .ok (.aload_n 0, 1) := dk42 (k := 22) bX12_law_0 rfl
theorem dX12_law_23 : decode cX12_law 23 = .ok (.invokevirtual 240, 3) := dk182 (k := 23) bX12_law_0 rfl rfl
theorem bX12_law_26 : bL cX12_law 26 [17, 3, 231, 61, 3, 62, 29, 27, 162, 0, 36, 28, 42, 42, 42, 182, 1, 7, 3, 182, 1, 14, 182, 1, 4] := bL_of (by decide +kernel)
theorem dX12_law_26 : decode cX12_law 26 = .ok (.sipush 999, 3) := dk17 (k := 0) bX12_law_26 rfl (by decide)
theorem dX12_law_29 : decode cX12_law 29 = .ok (.istore_n 2, 1) := dk61 (k := 3) bX12_law_26 rfl
theorem dX12_law_30 : decode cX12_law 30 = .ok (.iconst 0, 1) := dk3 (k := 4) bX12_law_26 rfl
theorem dX12_law_31 : decode cX12_law 31 = .ok (.istore_n 3, 1) := dk62 (k := 5) bX12_law_26 rfl
theorem dX12_law_32 : decode cX12_law 32 = .ok (.iload_n 3, 1) := dk29 (k := 6) bX12_law_26 rfl
theorem dX12_law_33 : decode cX12_law 33 = .ok (.iload_n 1, 1) := dk27 (k := 7) bX12_law_26 rfl
theorem dX12_law_34 : decode cX12_law 34 = .ok (.if_icmp .ge 36, 3) := dk162 (k := 8) bX12_law_26 rfl (by decide)
theorem dX12_law_37 : decode cX12_law 37 = .ok (.iload_n 2, 1) := dk28 (k := 11) bX12_law_26 rfl
theorem dX12_law_38 : decode cX12_law 38 = .ok (.aload_n 0, 1) := dk42 (k := 12) bX12_law_26 rfl
theorem dX12_law_39 : decode cX12_law 39 = .ok (.aload_n 0, 1) := dk42 (k := 13) bX12_law_26 rfl
theorem dX12_law_40 : decode cX12_law 40 = .ok (.aload_n 0, 1) := dk42 (k := 14) bX12_law_26 rfl
theorem dX12_law_41 : decode cX12_law 41 = .ok (.invokevirtual 263, 3) := dk182 (k := 15) bX12_law_26 rfl rfl
theorem dX12_law_44 : decode cX12_law 44 = .ok (.iconst 0, 1) := dk3 (k := 18) bX12_law_26 rfl
theorem dX12_law_45 : decode cX12_law 45 = .ok (.invokevirtual 270, 3) := dk182 (k := 19) bX12_law_26 rfl rfl
theorem dX12_law_48 : decode cX12_law 48 = .ok (.invokevirtual 260, 3) := dk182 (k := 22) bX12_law_26 rfl rfl
theorem bX12_law_51 : bL cX12_law 51 [184, 0, 112, 61, 42, 182, 0, 194, 154, 0, 5, 2, 172, 132, 3, 1, 167, 255, 221, 28, 154, 0, 7, 2] := bL_of (by decide +kernel)
theorem dX12_law_51 : decode cX12_law 51 = .ok (.invokestatic 112, 3) := dk184 (k := 0) bX12_law_51 rfl rfl
theorem dX12_law_54 : decode cX12_law 54 = .ok (.istore_n 2, 1) := dk61 (k := 3) bX12_law_51 rfl
theorem dX12_law_55 : decode cX12_law 55 = .ok (.aload_n 0, 1) := dk42 (k := 4) bX12_law_51 rfl
theorem dX12_law_56 : decode cX12_law 56 = .ok (.invokevirtual 194, 3) := dk182 (k := 5) bX12_law_51 rfl rfl
theorem dX12_law_59 : decode cX12_law 59 = .ok (.ifCond .ne 5, 3) := dk154 (k := 8) bX12_law_51 rfl (by decide)
theorem dX12_law_62 : decode cX12_law 62 = .ok (.iconst (-1), 1) := dk2 (k := 11) bX12_law_51 rfl
theorem dX12_law_63 : decode cX12_law 63 = .ok (.ireturn, 1) := dk172 (k := 12) bX12_law_51 rfl
theorem dX12_law_64 : decode cX12_law 64 = .ok (.iinc 3 1, 3) := dk132 (k := 13) bX12_law_51 rfl rfl (by decide)
theorem dX12_law_67 : decode cX12_law 67 = .ok (.goto (-35), 3) := dk167 (k := 16) bX12_law_51 rfl (by decide)
theorem dX12_law_70 : decode cX12_law 70 = .ok (.iload_n 2, 1) := dk28 (k := 19) bX12_law_51 rfl
theorem dX12_law_71 : decode cX12_law 71 = .ok (.ifCond .ne 7, 3) := dk154 (k := 20) bX12_law_51 rfl (by decide)
theorem dX12_law_74 : decode cX12_law 74 = .ok (.iconst (-1), 1) := dk2 (k := 23) bX12_law_51 rfl
theorem bX12_law_75 : bL cX12_law 75 [167, 0, 4, 28, 172] := bL_of (by decide +kernel)
theorem dX12_law_75 : decode cX12_law 75 = .ok (.goto 4, 3) := dk167 (k := 0) bX12_law_75 rfl (by decide)
theorem dX12_law_78 : decode cX12_law 78 = .ok (.iload_n 2, 1) := dk28 (k := 3) bX12_law_75 rfl
theorem dX12_law_79 : decode cX12_law 79 = .ok (.ireturn, 1) := dk172 (k := 4) bX12_law_75 rfl
theorem bX12_numberAt_0 : bL cX12_numberAt 0 [42, 180, 0, 53, 16, 60, 27, 104, 28, 96, 47, 173] := bL_of (by decide +kernel)
theorem dX12_numberAt_0 : decode cX12_numberAt 0 = .ok (.aload_n 0, 1) := dk42 (k := 0) bX12_numberAt_0 rfl
theorem dX12_numberAt_1 : decode cX12_numberAt 1 = .ok (.getfield 53, 3) := dk180 (k := 1) bX12_numberAt_0 rfl rfl
theorem dX12_numberAt_4 : decode cX12_numberAt 4 = .ok (.bipush 60, 2) := dk16 (k := 4) bX12_numberAt_0 rfl (by decide)
theorem dX12_numberAt_6 : decode cX12_numberAt 6 = .ok (.iload_n 1, 1) := dk27 (k := 6) bX12_numberAt_0 rfl
theorem dX12_numberAt_7 : decode cX12_numberAt 7 = .ok (.imul, 1) := dk104 (k := 7) bX12_numberAt_0 rfl
theorem dX12_numberAt_8 : decode cX12_numberAt 8 = .ok (.iload_n 2, 1) := dk28 (k := 8) bX12_numberAt_0 rfl
theorem dX12_numberAt_9 : decode cX12_numberAt 9 = .ok (.iadd, 1) := dk96 (k := 9) bX12_numberAt_0 rfl
theorem dX12_numberAt_10 : decode cX12_numberAt 10 = .ok (.laload, 1) := dk47 (k := 10) bX12_numberAt_0 rfl
theorem dX12_numberAt_11 : decode cX12_numberAt 11 = .ok (.lreturn, 1) := dk173 (k := 11) bX12_numberAt_0 rfl
theorem bX12_asksOld_0 : bL cX12_asksOld 0 [27, 184, 1, 101, 153, 0, 10, 42, 182, 0, 73, 154, 0, 6, 16, 254, 172, 42, 180, 0, 47, 27, 46, 2] := bL_of (by decide +kernel)
theorem dX12_asksOld_0 : decode cX12_asksOld 0 = .ok (.iload_n 1, 1) := dk27 (k := 0) bX12_asksOld_0 rfl
theorem dX12_asksOld_1 : decode cX12_asksOld 1 = .ok (.invokestatic 357, 3) := dk184 (k := 1) bX12_asksOld_0 rfl rfl
theorem dX12_asksOld_4 : decode cX12_asksOld 4 = .ok (.ifCond .eq 10, 3) := dk153 (k := 4) bX12_asksOld_0 rfl (by decide)
theorem dX12_asksOld_7 : decode cX12_asksOld 7 = .ok (.aload_n 0, 1) := dk42 (k := 7) bX12_asksOld_0 rfl
theorem dX12_asksOld_8 : decode cX12_asksOld 8 = .ok (.invokevirtual 73, 3) := dk182 (k := 8) bX12_asksOld_0 rfl rfl
theorem dX12_asksOld_11 : decode cX12_asksOld 11 = .ok (.ifCond .ne 6, 3) := dk154 (k := 11) bX12_asksOld_0 rfl (by decide)
theorem dX12_asksOld_14 : decode cX12_asksOld 14 = .ok (.bipush (-2), 2) := dk16 (k := 14) bX12_asksOld_0 rfl (by decide)
theorem dX12_asksOld_16 : decode cX12_asksOld 16 = .ok (.ireturn, 1) := dk172 (k := 16) bX12_asksOld_0 rfl
theorem dX12_asksOld_17 : decode cX12_asksOld 17 = .ok (.aload_n 0, 1) := dk42 (k := 17) bX12_asksOld_0 rfl
theorem dX12_asksOld_18 : decode cX12_asksOld 18 = .ok (.getfield 47, 3) := dk180 (k := 18) bX12_asksOld_0 rfl rfl
theorem dX12_asksOld_21 : decode cX12_asksOld 21 = .ok (.iload_n 1, 1) := dk27 (k := 21) bX12_asksOld_0 rfl
theorem dX12_asksOld_22 : decode cX12_asksOld 22 = .ok (.iaload, 1) := dk46 (k := 22) bX12_asksOld_0 rfl
theorem dX12_asksOld_23 : decode cX12_asksOld 23 = .ok (.iconst (-1), 1) := dk2 (k := 23) bX12_asksOld_0 rfl
theorem bX12_asksOld_24 : bL cX12_asksOld 24 [160, 0, 6, 16, 250, 172, 42, 180, 0, 47, 27, 46, 6, 112, 153, 0, 6, 16, 254, 172, 3, 61, 28, 42] := bL_of (by decide +kernel)
theorem dX12_asksOld_24 : decode cX12_asksOld 24 = .ok (.if_icmp .ne 6, 3) := dk160 (k := 0) bX12_asksOld_24 rfl (by decide)
theorem dX12_asksOld_27 : decode cX12_asksOld 27 = .ok (.bipush (-6), 2) := dk16 (k := 3) bX12_asksOld_24 rfl (by decide)
theorem dX12_asksOld_29 : decode cX12_asksOld 29 = .ok (.ireturn, 1) := dk172 (k := 5) bX12_asksOld_24 rfl
theorem dX12_asksOld_30 : decode cX12_asksOld 30 = .ok (.aload_n 0, 1) := dk42 (k := 6) bX12_asksOld_24 rfl
theorem dX12_asksOld_31 : decode cX12_asksOld 31 = .ok (.getfield 47, 3) := dk180 (k := 7) bX12_asksOld_24 rfl rfl
theorem dX12_asksOld_34 : decode cX12_asksOld 34 = .ok (.iload_n 1, 1) := dk27 (k := 10) bX12_asksOld_24 rfl
theorem dX12_asksOld_35 : decode cX12_asksOld 35 = .ok (.iaload, 1) := dk46 (k := 11) bX12_asksOld_24 rfl
theorem dX12_asksOld_36 : decode cX12_asksOld 36 = .ok (.iconst 3, 1) := dk6 (k := 12) bX12_asksOld_24 rfl
theorem dX12_asksOld_37 : decode cX12_asksOld 37 = .ok (.irem, 1) := dk112 (k := 13) bX12_asksOld_24 rfl
theorem dX12_asksOld_38 : decode cX12_asksOld 38 = .ok (.ifCond .eq 6, 3) := dk153 (k := 14) bX12_asksOld_24 rfl (by decide)
theorem dX12_asksOld_41 : decode cX12_asksOld 41 = .ok (.bipush (-2), 2) := dk16 (k := 17) bX12_asksOld_24 rfl (by decide)
theorem dX12_asksOld_43 : decode cX12_asksOld 43 = .ok (.ireturn, 1) := dk172 (k := 19) bX12_asksOld_24 rfl
theorem dX12_asksOld_44 : decode cX12_asksOld 44 = .ok (.iconst 0, 1) := dk3 (k := 20) bX12_asksOld_24 rfl
theorem dX12_asksOld_45 : decode cX12_asksOld 45 = .ok (.istore_n 2, 1) := dk61 (k := 21) bX12_asksOld_24 rfl
theorem dX12_asksOld_46 : decode cX12_asksOld 46 = .ok (.iload_n 2, 1) := dk28 (k := 22) bX12_asksOld_24 rfl
theorem dX12_asksOld_47 : decode cX12_asksOld 47 = .ok (.aload_n 0, 1) := dk42 (k := 23) bX12_asksOld_24 rfl
theorem bX12_asksOld_48 : bL cX12_asksOld 48 [180, 0, 47, 27, 46, 162, 0, 55, 42, 42, 27, 28, 182, 1, 104, 182, 0, 203, 153, 0, 33, 42, 27, 28] := bL_of (by decide +kernel)
theorem dX12_asksOld_48 : decode cX12_asksOld 48 = .ok (.getfield 47, 3) := dk180 (k := 0) bX12_asksOld_48 rfl rfl
theorem dX12_asksOld_51 : decode cX12_asksOld 51 = .ok (.iload_n 1, 1) := dk27 (k := 3) bX12_asksOld_48 rfl
theorem dX12_asksOld_52 : decode cX12_asksOld 52 = .ok (.iaload, 1) := dk46 (k := 4) bX12_asksOld_48 rfl
theorem dX12_asksOld_53 : decode cX12_asksOld 53 = .ok (.if_icmp .ge 55, 3) := dk162 (k := 5) bX12_asksOld_48 rfl (by decide)
theorem dX12_asksOld_56 : decode cX12_asksOld 56 = .ok (.aload_n 0, 1) := dk42 (k := 8) bX12_asksOld_48 rfl
theorem dX12_asksOld_57 : decode cX12_asksOld 57 = .ok (.aload_n 0, 1) := dk42 (k := 9) bX12_asksOld_48 rfl
theorem dX12_asksOld_58 : decode cX12_asksOld 58 = .ok (.iload_n 1, 1) := dk27 (k := 10) bX12_asksOld_48 rfl
theorem dX12_asksOld_59 : decode cX12_asksOld 59 = .ok (.iload_n 2, 1) := dk28 (k := 11) bX12_asksOld_48 rfl
theorem dX12_asksOld_60 : decode cX12_asksOld 60 = .ok (.invokevirtual 360, 3) := dk182 (k := 12) bX12_asksOld_48 rfl rfl
theorem dX12_asksOld_63 : decode cX12_asksOld 63 = .ok (.invokevirtual 203, 3) := dk182 (k := 15) bX12_asksOld_48 rfl rfl
theorem dX12_asksOld_66 : decode cX12_asksOld 66 = .ok (.ifCond .eq 33, 3) := dk153 (k := 18) bX12_asksOld_48 rfl (by decide)
theorem dX12_asksOld_69 : decode cX12_asksOld 69 = .ok (.aload_n 0, 1) := dk42 (k := 21) bX12_asksOld_48 rfl
theorem dX12_asksOld_70 : decode cX12_asksOld 70 = .ok (.iload_n 1, 1) := dk27 (k := 22) bX12_asksOld_48 rfl
theorem dX12_asksOld_71 : decode cX12_asksOld 71 = .ok (.iload_n 2, 1) := dk28 (k := 23) bX12_asksOld_48 rfl
theorem bX12_asksOld_72 : bL cX12_asksOld 72 [4, 96, 182, 1, 104, 184, 0, 243, 153, 0, 19, 42, 27, 28, 5, 96, 182, 1, 104, 9, 10, 184, 0, 65] := bL_of (by decide +kernel)
theorem dX12_asksOld_72 : decode cX12_asksOld 72 = .ok (.iconst 1, 1) := dk4 (k := 0) bX12_asksOld_72 rfl
theorem dX12_asksOld_73 : decode cX12_asksOld 73 = .ok (.iadd, 1) := dk96 (k := 1) bX12_asksOld_72 rfl
theorem dX12_asksOld_74 : decode cX12_asksOld 74 = .ok (.invokevirtual 360, 3) := dk182 (k := 2) bX12_asksOld_72 rfl rfl
theorem dX12_asksOld_77 : decode cX12_asksOld 77 = .ok (.invokestatic 243, 3) := dk184 (k := 5) bX12_asksOld_72 rfl rfl
theorem dX12_asksOld_80 : decode cX12_asksOld 80 = .ok (.ifCond .eq 19, 3) := dk153 (k := 8) bX12_asksOld_72 rfl (by decide)
theorem dX12_asksOld_83 : decode cX12_asksOld 83 = .ok (.aload_n 0, 1) := dk42 (k := 11) bX12_asksOld_72 rfl
theorem dX12_asksOld_84 : decode cX12_asksOld 84 = .ok (.iload_n 1, 1) := dk27 (k := 12) bX12_asksOld_72 rfl
theorem dX12_asksOld_85 : decode cX12_asksOld 85 = .ok (.iload_n 2, 1) := dk28 (k := 13) bX12_asksOld_72 rfl
theorem dX12_asksOld_86 : decode cX12_asksOld 86 = .ok (.iconst 2, 1) := dk5 (k := 14) bX12_asksOld_72 rfl
theorem dX12_asksOld_87 : decode cX12_asksOld 87 = .ok (.iadd, 1) := dk96 (k := 15) bX12_asksOld_72 rfl
theorem dX12_asksOld_88 : decode cX12_asksOld 88 = .ok (.invokevirtual 360, 3) := dk182 (k := 16) bX12_asksOld_72 rfl rfl
theorem dX12_asksOld_91 : decode cX12_asksOld 91 = .ok (.lconst 0, 1) := dk9 (k := 19) bX12_asksOld_72 rfl
theorem dX12_asksOld_92 : decode cX12_asksOld 92 = .ok (.lconst 1, 1) := dk10 (k := 20) bX12_asksOld_72 rfl
theorem dX12_asksOld_93 : decode cX12_asksOld 93 = .ok (.invokestatic 65, 3) := dk184 (k := 21) bX12_asksOld_72 rfl rfl
theorem bX12_asksOld_96 : bL cX12_asksOld 96 [154, 0, 6, 16, 254, 172, 132, 2, 3, 167, 255, 197, 42, 182, 0, 240, 3, 172] := bL_of (by decide +kernel)
theorem dX12_asksOld_96 : decode cX12_asksOld 96 = .ok (.ifCond .ne 6, 3) := dk154 (k := 0) bX12_asksOld_96 rfl (by decide)
theorem dX12_asksOld_99 : decode cX12_asksOld 99 = .ok (.bipush (-2), 2) := dk16 (k := 3) bX12_asksOld_96 rfl (by decide)
theorem dX12_asksOld_101 : decode cX12_asksOld 101 = .ok (.ireturn, 1) := dk172 (k := 5) bX12_asksOld_96 rfl
theorem dX12_asksOld_102 : decode cX12_asksOld 102 = .ok (.iinc 2 3, 3) := dk132 (k := 6) bX12_asksOld_96 rfl rfl (by decide)
theorem dX12_asksOld_105 : decode cX12_asksOld 105 = .ok (.goto (-59), 3) := dk167 (k := 9) bX12_asksOld_96 rfl (by decide)
theorem dX12_asksOld_108 : decode cX12_asksOld 108 = .ok (.aload_n 0, 1) := dk42 (k := 12) bX12_asksOld_96 rfl
theorem dX12_asksOld_109 : decode cX12_asksOld 109 = .ok (.invokevirtual 240, 3) := dk182 (k := 13) bX12_asksOld_96 rfl rfl
theorem dX12_asksOld_112 : decode cX12_asksOld 112 = .ok (.iconst 0, 1) := dk3 (k := 16) bX12_asksOld_96 rfl
theorem dX12_asksOld_113 : decode cX12_asksOld 113 = .ok (.ireturn, 1) := dk172 (k := 17) bX12_asksOld_96 rfl
theorem bX12_wasDark_0 : bL cX12_wasDark 0 [42, 182, 0, 200, 54, 4, 42, 180, 0, 34, 21, 4, 92, 46, 27, 96, 79, 42, 28, 29, 182, 0, 217, 54, 5] := bL_of (by decide +kernel)
theorem dX12_wasDark_0 : decode cX12_wasDark 0 = .ok (.aload_n 0, 1) := dk42 (k := 0) bX12_wasDark_0 rfl
theorem dX12_wasDark_1 : decode cX12_wasDark 1 = .ok (.invokevirtual 200, 3) := dk182 (k := 1) bX12_wasDark_0 rfl rfl
theorem dX12_wasDark_4 : decode cX12_wasDark 4 = .ok (.istore 4, 2) := dk54 (k := 4) bX12_wasDark_0 rfl rfl
theorem dX12_wasDark_6 : decode cX12_wasDark 6 = .ok (.aload_n 0, 1) := dk42 (k := 6) bX12_wasDark_0 rfl
theorem dX12_wasDark_7 : decode cX12_wasDark 7 = .ok (.getfield 34, 3) := dk180 (k := 7) bX12_wasDark_0 rfl rfl
theorem dX12_wasDark_10 : decode cX12_wasDark 10 = .ok (.iload 4, 2) := dk21 (k := 10) bX12_wasDark_0 rfl rfl
theorem dX12_wasDark_12 : decode cX12_wasDark 12 = .ok (.dup2, 1) := dk92 (k := 12) bX12_wasDark_0 rfl
theorem dX12_wasDark_13 : decode cX12_wasDark 13 = .ok (.iaload, 1) := dk46 (k := 13) bX12_wasDark_0 rfl
theorem dX12_wasDark_14 : decode cX12_wasDark 14 = .ok (.iload_n 1, 1) := dk27 (k := 14) bX12_wasDark_0 rfl
theorem dX12_wasDark_15 : decode cX12_wasDark 15 = .ok (.iadd, 1) := dk96 (k := 15) bX12_wasDark_0 rfl
theorem dX12_wasDark_16 : decode cX12_wasDark 16 = .ok (.iastore, 1) := dk79 (k := 16) bX12_wasDark_0 rfl
theorem dX12_wasDark_17 : decode cX12_wasDark 17 = .ok (.aload_n 0, 1) := dk42 (k := 17) bX12_wasDark_0 rfl
theorem dX12_wasDark_18 : decode cX12_wasDark 18 = .ok (.iload_n 2, 1) := dk28 (k := 18) bX12_wasDark_0 rfl
theorem dX12_wasDark_19 : decode cX12_wasDark 19 = .ok (.iload_n 3, 1) := dk29 (k := 19) bX12_wasDark_0 rfl
theorem dX12_wasDark_20 : decode cX12_wasDark 20 = .ok (.invokevirtual 217, 3) := dk182 (k := 20) bX12_wasDark_0 rfl rfl
theorem dX12_wasDark_23 : decode cX12_wasDark 23 = .ok (.istore 5, 2) := dk54 (k := 23) bX12_wasDark_0 rfl rfl
theorem bX12_wasDark_25 : bL cX12_wasDark 25 [42, 180, 0, 34, 21, 4, 92, 46, 27, 100, 79, 21, 5, 172] := bL_of (by decide +kernel)
theorem dX12_wasDark_25 : decode cX12_wasDark 25 = .ok (.aload_n 0, 1) := dk42 (k := 0) bX12_wasDark_25 rfl
theorem dX12_wasDark_26 : decode cX12_wasDark 26 = .ok (.getfield 34, 3) := dk180 (k := 1) bX12_wasDark_25 rfl rfl
theorem dX12_wasDark_29 : decode cX12_wasDark 29 = .ok (.iload 4, 2) := dk21 (k := 4) bX12_wasDark_25 rfl rfl
theorem dX12_wasDark_31 : decode cX12_wasDark 31 = .ok (.dup2, 1) := dk92 (k := 6) bX12_wasDark_25 rfl
theorem dX12_wasDark_32 : decode cX12_wasDark 32 = .ok (.iaload, 1) := dk46 (k := 7) bX12_wasDark_25 rfl
theorem dX12_wasDark_33 : decode cX12_wasDark 33 = .ok (.iload_n 1, 1) := dk27 (k := 8) bX12_wasDark_25 rfl
theorem dX12_wasDark_34 : decode cX12_wasDark 34 = .ok (.isub, 1) := dk100 (k := 9) bX12_wasDark_25 rfl
theorem dX12_wasDark_35 : decode cX12_wasDark 35 = .ok (.iastore, 1) := dk79 (k := 10) bX12_wasDark_25 rfl
theorem dX12_wasDark_36 : decode cX12_wasDark 36 = .ok (.iload 5, 2) := dk21 (k := 11) bX12_wasDark_25 rfl rfl
theorem dX12_wasDark_38 : decode cX12_wasDark 38 = .ok (.ireturn, 1) := dk172 (k := 13) bX12_wasDark_25 rfl
theorem bX12_oldBy_0 : bL cX12_oldBy 0 [3, 62, 3, 54, 4, 21, 4, 16, 20, 163, 0, 112, 4, 54, 5, 3, 54, 6, 21, 6, 42, 180, 0, 47] := bL_of (by decide +kernel)
theorem dX12_oldBy_0 : decode cX12_oldBy 0 = .ok (.iconst 0, 1) := dk3 (k := 0) bX12_oldBy_0 rfl
theorem dX12_oldBy_1 : decode cX12_oldBy 1 = .ok (.istore_n 3, 1) := dk62 (k := 1) bX12_oldBy_0 rfl
theorem dX12_oldBy_2 : decode cX12_oldBy 2 = .ok (.iconst 0, 1) := dk3 (k := 2) bX12_oldBy_0 rfl
theorem dX12_oldBy_3 : decode cX12_oldBy 3 = .ok (.istore 4, 2) := dk54 (k := 3) bX12_oldBy_0 rfl rfl
theorem dX12_oldBy_5 : decode cX12_oldBy 5 = .ok (.iload 4, 2) := dk21 (k := 5) bX12_oldBy_0 rfl rfl
theorem dX12_oldBy_7 : decode cX12_oldBy 7 = .ok (.bipush 20, 2) := dk16 (k := 7) bX12_oldBy_0 rfl (by decide)
theorem dX12_oldBy_9 : decode cX12_oldBy 9 = .ok (.if_icmp .gt 112, 3) := dk163 (k := 9) bX12_oldBy_0 rfl (by decide)
theorem dX12_oldBy_12 : decode cX12_oldBy 12 = .ok (.iconst 1, 1) := dk4 (k := 12) bX12_oldBy_0 rfl
theorem dX12_oldBy_13 : decode cX12_oldBy 13 = .ok (.istore 5, 2) := dk54 (k := 13) bX12_oldBy_0 rfl rfl
theorem dX12_oldBy_15 : decode cX12_oldBy 15 = .ok (.iconst 0, 1) := dk3 (k := 15) bX12_oldBy_0 rfl
theorem dX12_oldBy_16 : decode cX12_oldBy 16 = .ok (.istore 6, 2) := dk54 (k := 16) bX12_oldBy_0 rfl rfl
theorem dX12_oldBy_18 : decode cX12_oldBy 18 = .ok (.iload 6, 2) := dk21 (k := 18) bX12_oldBy_0 rfl rfl
theorem dX12_oldBy_20 : decode cX12_oldBy 20 = .ok (.aload_n 0, 1) := dk42 (k := 20) bX12_oldBy_0 rfl
theorem dX12_oldBy_21 : decode cX12_oldBy 21 = .ok (.getfield 47, 3) := dk180 (k := 21) bX12_oldBy_0 rfl rfl
theorem bX12_oldBy_24 : bL cX12_oldBy 24 [27, 46, 162, 0, 73, 21, 5, 153, 0, 68, 21, 6, 28, 159, 0, 49, 42, 21, 4, 42, 27, 21, 6, 182, 1, 104] := bL_of (by decide +kernel)
theorem dX12_oldBy_24 : decode cX12_oldBy 24 = .ok (.iload_n 1, 1) := dk27 (k := 0) bX12_oldBy_24 rfl
theorem dX12_oldBy_25 : decode cX12_oldBy 25 = .ok (.iaload, 1) := dk46 (k := 1) bX12_oldBy_24 rfl
theorem dX12_oldBy_26 : decode cX12_oldBy 26 = .ok (.if_icmp .ge 73, 3) := dk162 (k := 2) bX12_oldBy_24 rfl (by decide)
theorem dX12_oldBy_29 : decode cX12_oldBy 29 = .ok (.iload 5, 2) := dk21 (k := 5) bX12_oldBy_24 rfl rfl
theorem dX12_oldBy_31 : decode cX12_oldBy 31 = .ok (.ifCond .eq 68, 3) := dk153 (k := 7) bX12_oldBy_24 rfl (by decide)
theorem dX12_oldBy_34 : decode cX12_oldBy 34 = .ok (.iload 6, 2) := dk21 (k := 10) bX12_oldBy_24 rfl rfl
theorem dX12_oldBy_36 : decode cX12_oldBy 36 = .ok (.iload_n 2, 1) := dk28 (k := 12) bX12_oldBy_24 rfl
theorem dX12_oldBy_37 : decode cX12_oldBy 37 = .ok (.if_icmp .eq 49, 3) := dk159 (k := 13) bX12_oldBy_24 rfl (by decide)
theorem dX12_oldBy_40 : decode cX12_oldBy 40 = .ok (.aload_n 0, 1) := dk42 (k := 16) bX12_oldBy_24 rfl
theorem dX12_oldBy_41 : decode cX12_oldBy 41 = .ok (.iload 4, 2) := dk21 (k := 17) bX12_oldBy_24 rfl rfl
theorem dX12_oldBy_43 : decode cX12_oldBy 43 = .ok (.aload_n 0, 1) := dk42 (k := 19) bX12_oldBy_24 rfl
theorem dX12_oldBy_44 : decode cX12_oldBy 44 = .ok (.iload_n 1, 1) := dk27 (k := 20) bX12_oldBy_24 rfl
theorem dX12_oldBy_45 : decode cX12_oldBy 45 = .ok (.iload 6, 2) := dk21 (k := 21) bX12_oldBy_24 rfl rfl
theorem dX12_oldBy_47 : decode cX12_oldBy 47 = .ok (.invokevirtual 360, 3) := dk182 (k := 23) bX12_oldBy_24 rfl rfl
theorem bX12_oldBy_50 : bL cX12_oldBy 50 [136, 42, 27, 21, 6, 4, 96, 182, 1, 104, 136, 182, 1, 108, 42, 27, 21, 6, 5, 96, 182, 1, 104, 10] := bL_of (by decide +kernel)
theorem dX12_oldBy_50 : decode cX12_oldBy 50 = .ok (.l2i, 1) := dk136 (k := 0) bX12_oldBy_50 rfl
theorem dX12_oldBy_51 : decode cX12_oldBy 51 = .ok (.aload_n 0, 1) := dk42 (k := 1) bX12_oldBy_50 rfl
theorem dX12_oldBy_52 : decode cX12_oldBy 52 = .ok (.iload_n 1, 1) := dk27 (k := 2) bX12_oldBy_50 rfl
theorem dX12_oldBy_53 : decode cX12_oldBy 53 = .ok (.iload 6, 2) := dk21 (k := 3) bX12_oldBy_50 rfl rfl
theorem dX12_oldBy_55 : decode cX12_oldBy 55 = .ok (.iconst 1, 1) := dk4 (k := 5) bX12_oldBy_50 rfl
theorem dX12_oldBy_56 : decode cX12_oldBy 56 = .ok (.iadd, 1) := dk96 (k := 6) bX12_oldBy_50 rfl
theorem dX12_oldBy_57 : decode cX12_oldBy 57 = .ok (.invokevirtual 360, 3) := dk182 (k := 7) bX12_oldBy_50 rfl rfl
theorem dX12_oldBy_60 : decode cX12_oldBy 60 = .ok (.l2i, 1) := dk136 (k := 10) bX12_oldBy_50 rfl
theorem dX12_oldBy_61 : decode cX12_oldBy 61 = .ok (.invokevirtual 364, 3) := dk182 (k := 11) bX12_oldBy_50 rfl rfl
theorem dX12_oldBy_64 : decode cX12_oldBy 64 = .ok (.aload_n 0, 1) := dk42 (k := 14) bX12_oldBy_50 rfl
theorem dX12_oldBy_65 : decode cX12_oldBy 65 = .ok (.iload_n 1, 1) := dk27 (k := 15) bX12_oldBy_50 rfl
theorem dX12_oldBy_66 : decode cX12_oldBy 66 = .ok (.iload 6, 2) := dk21 (k := 16) bX12_oldBy_50 rfl rfl
theorem dX12_oldBy_68 : decode cX12_oldBy 68 = .ok (.iconst 2, 1) := dk5 (k := 18) bX12_oldBy_50 rfl
theorem dX12_oldBy_69 : decode cX12_oldBy 69 = .ok (.iadd, 1) := dk96 (k := 19) bX12_oldBy_50 rfl
theorem dX12_oldBy_70 : decode cX12_oldBy 70 = .ok (.invokevirtual 360, 3) := dk182 (k := 20) bX12_oldBy_50 rfl rfl
theorem dX12_oldBy_73 : decode cX12_oldBy 73 = .ok (.lconst 1, 1) := dk10 (k := 23) bX12_oldBy_50 rfl
theorem bX12_oldBy_74 : bL cX12_oldBy 74 [148, 154, 0, 7, 4, 167, 0, 4, 3, 160, 0, 7, 4, 167, 0, 4, 3, 54, 5, 132, 6, 3, 167, 255, 178] := bL_of (by decide +kernel)
theorem dX12_oldBy_74 : decode cX12_oldBy 74 = .ok (.lcmp, 1) := dk148 (k := 0) bX12_oldBy_74 rfl
theorem dX12_oldBy_75 : decode cX12_oldBy 75 = .ok (.ifCond .ne 7, 3) := dk154 (k := 1) bX12_oldBy_74 rfl (by decide)
theorem dX12_oldBy_78 : decode cX12_oldBy 78 = .ok (.iconst 1, 1) := dk4 (k := 4) bX12_oldBy_74 rfl
theorem dX12_oldBy_79 : decode cX12_oldBy 79 = .ok (.goto 4, 3) := dk167 (k := 5) bX12_oldBy_74 rfl (by decide)
theorem dX12_oldBy_82 : decode cX12_oldBy 82 = .ok (.iconst 0, 1) := dk3 (k := 8) bX12_oldBy_74 rfl
theorem dX12_oldBy_83 : decode cX12_oldBy 83 = .ok (.if_icmp .ne 7, 3) := dk160 (k := 9) bX12_oldBy_74 rfl (by decide)
theorem dX12_oldBy_86 : decode cX12_oldBy 86 = .ok (.iconst 1, 1) := dk4 (k := 12) bX12_oldBy_74 rfl
theorem dX12_oldBy_87 : decode cX12_oldBy 87 = .ok (.goto 4, 3) := dk167 (k := 13) bX12_oldBy_74 rfl (by decide)
theorem dX12_oldBy_90 : decode cX12_oldBy 90 = .ok (.iconst 0, 1) := dk3 (k := 16) bX12_oldBy_74 rfl
theorem dX12_oldBy_91 : decode cX12_oldBy 91 = .ok (.istore 5, 2) := dk54 (k := 17) bX12_oldBy_74 rfl rfl
theorem dX12_oldBy_93 : decode cX12_oldBy 93 = .ok (.iinc 6 3, 3) := dk132 (k := 19) bX12_oldBy_74 rfl rfl (by decide)
theorem dX12_oldBy_96 : decode cX12_oldBy 96 = .ok (.goto (-78), 3) := dk167 (k := 22) bX12_oldBy_74 rfl (by decide)
theorem bX12_oldBy_99 : bL cX12_oldBy 99 [29, 21, 5, 153, 0, 10, 4, 21, 4, 120, 167, 0, 4, 3, 128, 62, 132, 4, 1, 167, 255, 143, 29, 172] := bL_of (by decide +kernel)
theorem dX12_oldBy_99 : decode cX12_oldBy 99 = .ok (.iload_n 3, 1) := dk29 (k := 0) bX12_oldBy_99 rfl
theorem dX12_oldBy_100 : decode cX12_oldBy 100 = .ok (.iload 5, 2) := dk21 (k := 1) bX12_oldBy_99 rfl rfl
theorem dX12_oldBy_102 : decode cX12_oldBy 102 = .ok (.ifCond .eq 10, 3) := dk153 (k := 3) bX12_oldBy_99 rfl (by decide)
theorem dX12_oldBy_105 : decode cX12_oldBy 105 = .ok (.iconst 1, 1) := dk4 (k := 6) bX12_oldBy_99 rfl
theorem dX12_oldBy_106 : decode cX12_oldBy 106 = .ok (.iload 4, 2) := dk21 (k := 7) bX12_oldBy_99 rfl rfl
theorem dX12_oldBy_108 : decode cX12_oldBy 108 = .ok (.ishl, 1) := dk120 (k := 9) bX12_oldBy_99 rfl
theorem dX12_oldBy_109 : decode cX12_oldBy 109 = .ok (.goto 4, 3) := dk167 (k := 10) bX12_oldBy_99 rfl (by decide)
theorem dX12_oldBy_112 : decode cX12_oldBy 112 = .ok (.iconst 0, 1) := dk3 (k := 13) bX12_oldBy_99 rfl
theorem dX12_oldBy_113 : decode cX12_oldBy 113 = .ok (.ior, 1) := dk128 (k := 14) bX12_oldBy_99 rfl
theorem dX12_oldBy_114 : decode cX12_oldBy 114 = .ok (.istore_n 3, 1) := dk62 (k := 15) bX12_oldBy_99 rfl
theorem dX12_oldBy_115 : decode cX12_oldBy 115 = .ok (.iinc 4 1, 3) := dk132 (k := 16) bX12_oldBy_99 rfl rfl (by decide)
theorem dX12_oldBy_118 : decode cX12_oldBy 118 = .ok (.goto (-113), 3) := dk167 (k := 19) bX12_oldBy_99 rfl (by decide)
theorem dX12_oldBy_121 : decode cX12_oldBy 121 = .ok (.iload_n 3, 1) := dk29 (k := 22) bX12_oldBy_99 rfl
theorem dX12_oldBy_122 : decode cX12_oldBy 122 = .ok (.ireturn, 1) := dk172 (k := 23) bX12_oldBy_99 rfl
theorem bX12_old_0 : bL cX12_old 0 [42, 27, 182, 1, 112, 61, 28, 156, 0, 7, 28, 167, 0, 9, 42, 27, 2, 182, 1, 115, 172] := bL_of (by decide +kernel)
theorem dX12_old_0 : decode cX12_old 0 = .ok (.aload_n 0, 1) := dk42 (k := 0) bX12_old_0 rfl
theorem dX12_old_1 : decode cX12_old 1 = .ok (.iload_n 1, 1) := dk27 (k := 1) bX12_old_0 rfl
theorem dX12_old_2 : decode cX12_old 2 = .ok (.invokevirtual 368, 3) := dk182 (k := 2) bX12_old_0 rfl rfl
theorem dX12_old_5 : decode cX12_old 5 = .ok (.istore_n 2, 1) := dk61 (k := 5) bX12_old_0 rfl
theorem dX12_old_6 : decode cX12_old 6 = .ok (.iload_n 2, 1) := dk28 (k := 6) bX12_old_0 rfl
theorem dX12_old_7 : decode cX12_old 7 = .ok (.ifCond .ge 7, 3) := dk156 (k := 7) bX12_old_0 rfl (by decide)
theorem dX12_old_10 : decode cX12_old 10 = .ok (.iload_n 2, 1) := dk28 (k := 10) bX12_old_0 rfl
theorem dX12_old_11 : decode cX12_old 11 = .ok (.goto 9, 3) := dk167 (k := 11) bX12_old_0 rfl (by decide)
theorem dX12_old_14 : decode cX12_old 14 = .ok (.aload_n 0, 1) := dk42 (k := 14) bX12_old_0 rfl
theorem dX12_old_15 : decode cX12_old 15 = .ok (.iload_n 1, 1) := dk27 (k := 15) bX12_old_0 rfl
theorem dX12_old_16 : decode cX12_old 16 = .ok (.iconst (-1), 1) := dk2 (k := 16) bX12_old_0 rfl
theorem dX12_old_17 : decode cX12_old 17 = .ok (.invokevirtual 371, 3) := dk182 (k := 17) bX12_old_0 rfl rfl
theorem dX12_old_20 : decode cX12_old 20 = .ok (.ireturn, 1) := dk172 (k := 20) bX12_old_0 rfl
theorem bX12_askOf_0 : bL cX12_askOf 0 [42, 27, 2, 182, 1, 115, 62, 42, 29, 184, 0, 229, 181, 1, 118, 3, 54, 4, 4, 54, 5, 21, 5, 16, 18] := bL_of (by decide +kernel)
theorem dX12_askOf_0 : decode cX12_askOf 0 = .ok (.aload_n 0, 1) := dk42 (k := 0) bX12_askOf_0 rfl
theorem dX12_askOf_1 : decode cX12_askOf 1 = .ok (.iload_n 1, 1) := dk27 (k := 1) bX12_askOf_0 rfl
theorem dX12_askOf_2 : decode cX12_askOf 2 = .ok (.iconst (-1), 1) := dk2 (k := 2) bX12_askOf_0 rfl
theorem dX12_askOf_3 : decode cX12_askOf 3 = .ok (.invokevirtual 371, 3) := dk182 (k := 3) bX12_askOf_0 rfl rfl
theorem dX12_askOf_6 : decode cX12_askOf 6 = .ok (.istore_n 3, 1) := dk62 (k := 6) bX12_askOf_0 rfl
theorem dX12_askOf_7 : decode cX12_askOf 7 = .ok (.aload_n 0, 1) := dk42 (k := 7) bX12_askOf_0 rfl
theorem dX12_askOf_8 : decode cX12_askOf 8 = .ok (.iload_n 3, 1) := dk29 (k := 8) bX12_askOf_0 rfl
theorem dX12_askOf_9 : decode cX12_askOf 9 = .ok (.invokestatic 229, 3) := dk184 (k := 9) bX12_askOf_0 rfl rfl
theorem dX12_askOf_12 : decode cX12_askOf 12 = .ok (.putfield 374, 3) := dk181 (k := 12) bX12_askOf_0 rfl rfl
theorem dX12_askOf_15 : decode cX12_askOf 15 = .ok (.iconst 0, 1) := dk3 (k := 15) bX12_askOf_0 rfl
theorem dX12_askOf_16 : decode cX12_askOf 16 = .ok (.istore 4, 2) := dk54 (k := 16) bX12_askOf_0 rfl rfl
theorem dX12_askOf_18 : decode cX12_askOf 18 = .ok (.iconst 1, 1) := dk4 (k := 18) bX12_askOf_0 rfl
theorem dX12_askOf_19 : decode cX12_askOf 19 = .ok (.istore 5, 2) := dk54 (k := 19) bX12_askOf_0 rfl rfl
theorem dX12_askOf_21 : decode cX12_askOf 21 = .ok (.iload 5, 2) := dk21 (k := 21) bX12_askOf_0 rfl rfl
theorem dX12_askOf_23 : decode cX12_askOf 23 = .ok (.bipush 18, 2) := dk16 (k := 23) bX12_askOf_0 rfl (by decide)
theorem bX12_askOf_25 : bL cX12_askOf 25 [163, 0, 111, 3, 54, 6, 3, 54, 7, 21, 7, 16, 20, 163, 0, 56, 21, 6, 29, 21, 7, 184, 1, 1] := bL_of (by decide +kernel)
theorem dX12_askOf_25 : decode cX12_askOf 25 = .ok (.if_icmp .gt 111, 3) := dk163 (k := 0) bX12_askOf_25 rfl (by decide)
theorem dX12_askOf_28 : decode cX12_askOf 28 = .ok (.iconst 0, 1) := dk3 (k := 3) bX12_askOf_25 rfl
theorem dX12_askOf_29 : decode cX12_askOf 29 = .ok (.istore 6, 2) := dk54 (k := 4) bX12_askOf_25 rfl rfl
theorem dX12_askOf_31 : decode cX12_askOf 31 = .ok (.iconst 0, 1) := dk3 (k := 6) bX12_askOf_25 rfl
theorem dX12_askOf_32 : decode cX12_askOf 32 = .ok (.istore 7, 2) := dk54 (k := 7) bX12_askOf_25 rfl rfl
theorem dX12_askOf_34 : decode cX12_askOf 34 = .ok (.iload 7, 2) := dk21 (k := 9) bX12_askOf_25 rfl rfl
theorem dX12_askOf_36 : decode cX12_askOf 36 = .ok (.bipush 20, 2) := dk16 (k := 11) bX12_askOf_25 rfl (by decide)
theorem dX12_askOf_38 : decode cX12_askOf 38 = .ok (.if_icmp .gt 56, 3) := dk163 (k := 13) bX12_askOf_25 rfl (by decide)
theorem dX12_askOf_41 : decode cX12_askOf 41 = .ok (.iload 6, 2) := dk21 (k := 16) bX12_askOf_25 rfl rfl
theorem dX12_askOf_43 : decode cX12_askOf 43 = .ok (.iload_n 3, 1) := dk29 (k := 18) bX12_askOf_25 rfl
theorem dX12_askOf_44 : decode cX12_askOf 44 = .ok (.iload 7, 2) := dk21 (k := 19) bX12_askOf_25 rfl rfl
theorem dX12_askOf_46 : decode cX12_askOf 46 = .ok (.invokestatic 257, 3) := dk184 (k := 21) bX12_askOf_25 rfl rfl
theorem bX12_askOf_49 : bL cX12_askOf 49 [4, 160, 0, 34, 42, 21, 7, 28, 21, 5, 16, 9, 163, 0, 8, 21, 5, 167, 0, 8, 16, 9, 21, 5] := bL_of (by decide +kernel)
theorem dX12_askOf_49 : decode cX12_askOf 49 = .ok (.iconst 1, 1) := dk4 (k := 0) bX12_askOf_49 rfl
theorem dX12_askOf_50 : decode cX12_askOf 50 = .ok (.if_icmp .ne 34, 3) := dk160 (k := 1) bX12_askOf_49 rfl (by decide)
theorem dX12_askOf_53 : decode cX12_askOf 53 = .ok (.aload_n 0, 1) := dk42 (k := 4) bX12_askOf_49 rfl
theorem dX12_askOf_54 : decode cX12_askOf 54 = .ok (.iload 7, 2) := dk21 (k := 5) bX12_askOf_49 rfl rfl
theorem dX12_askOf_56 : decode cX12_askOf 56 = .ok (.iload_n 2, 1) := dk28 (k := 7) bX12_askOf_49 rfl
theorem dX12_askOf_57 : decode cX12_askOf 57 = .ok (.iload 5, 2) := dk21 (k := 8) bX12_askOf_49 rfl rfl
theorem dX12_askOf_59 : decode cX12_askOf 59 = .ok (.bipush 9, 2) := dk16 (k := 10) bX12_askOf_49 rfl (by decide)
theorem dX12_askOf_61 : decode cX12_askOf 61 = .ok (.if_icmp .gt 8, 3) := dk163 (k := 12) bX12_askOf_49 rfl (by decide)
theorem dX12_askOf_64 : decode cX12_askOf 64 = .ok (.iload 5, 2) := dk21 (k := 15) bX12_askOf_49 rfl rfl
theorem dX12_askOf_66 : decode cX12_askOf 66 = .ok (.goto 8, 3) := dk167 (k := 17) bX12_askOf_49 rfl (by decide)
theorem dX12_askOf_69 : decode cX12_askOf 69 = .ok (.bipush 9, 2) := dk16 (k := 20) bX12_askOf_49 rfl (by decide)
theorem dX12_askOf_71 : decode cX12_askOf 71 = .ok (.iload 5, 2) := dk21 (k := 22) bX12_askOf_49 rfl rfl
theorem bX12_askOf_73 : bL cX12_askOf 73 [100, 182, 1, 108, 153, 0, 7, 4, 167, 0, 4, 3, 96, 54, 6, 132, 7, 1, 167, 255, 199, 21, 6, 29] := bL_of (by decide +kernel)
theorem dX12_askOf_73 : decode cX12_askOf 73 = .ok (.isub, 1) := dk100 (k := 0) bX12_askOf_73 rfl
theorem dX12_askOf_74 : decode cX12_askOf 74 = .ok (.invokevirtual 364, 3) := dk182 (k := 1) bX12_askOf_73 rfl rfl
theorem dX12_askOf_77 : decode cX12_askOf 77 = .ok (.ifCond .eq 7, 3) := dk153 (k := 4) bX12_askOf_73 rfl (by decide)
theorem dX12_askOf_80 : decode cX12_askOf 80 = .ok (.iconst 1, 1) := dk4 (k := 7) bX12_askOf_73 rfl
theorem dX12_askOf_81 : decode cX12_askOf 81 = .ok (.goto 4, 3) := dk167 (k := 8) bX12_askOf_73 rfl (by decide)
theorem dX12_askOf_84 : decode cX12_askOf 84 = .ok (.iconst 0, 1) := dk3 (k := 11) bX12_askOf_73 rfl
theorem dX12_askOf_85 : decode cX12_askOf 85 = .ok (.iadd, 1) := dk96 (k := 12) bX12_askOf_73 rfl
theorem dX12_askOf_86 : decode cX12_askOf 86 = .ok (.istore 6, 2) := dk54 (k := 13) bX12_askOf_73 rfl rfl
theorem dX12_askOf_88 : decode cX12_askOf 88 = .ok (.iinc 7 1, 3) := dk132 (k := 15) bX12_askOf_73 rfl rfl (by decide)
theorem dX12_askOf_91 : decode cX12_askOf 91 = .ok (.goto (-57), 3) := dk167 (k := 18) bX12_askOf_73 rfl (by decide)
theorem dX12_askOf_94 : decode cX12_askOf 94 = .ok (.iload 6, 2) := dk21 (k := 21) bX12_askOf_73 rfl rfl
theorem dX12_askOf_96 : decode cX12_askOf 96 = .ok (.iload_n 3, 1) := dk29 (k := 23) bX12_askOf_73 rfl
theorem bX12_askOf_97 : bL cX12_askOf 97 [184, 0, 229, 21, 6, 100, 184, 1, 61, 54, 7, 21, 7, 42, 180, 1, 118, 161, 0, 6, 167, 0, 13, 42] := bL_of (by decide +kernel)
theorem dX12_askOf_97 : decode cX12_askOf 97 = .ok (.invokestatic 229, 3) := dk184 (k := 0) bX12_askOf_97 rfl rfl
theorem dX12_askOf_100 : decode cX12_askOf 100 = .ok (.iload 6, 2) := dk21 (k := 3) bX12_askOf_97 rfl rfl
theorem dX12_askOf_102 : decode cX12_askOf 102 = .ok (.isub, 1) := dk100 (k := 5) bX12_askOf_97 rfl
theorem dX12_askOf_103 : decode cX12_askOf 103 = .ok (.invokestatic 317, 3) := dk184 (k := 6) bX12_askOf_97 rfl rfl
theorem dX12_askOf_106 : decode cX12_askOf 106 = .ok (.istore 7, 2) := dk54 (k := 9) bX12_askOf_97 rfl rfl
theorem dX12_askOf_108 : decode cX12_askOf 108 = .ok (.iload 7, 2) := dk21 (k := 11) bX12_askOf_97 rfl rfl
theorem dX12_askOf_110 : decode cX12_askOf 110 = .ok (.aload_n 0, 1) := dk42 (k := 13) bX12_askOf_97 rfl
theorem dX12_askOf_111 : decode cX12_askOf 111 = .ok (.getfield 374, 3) := dk180 (k := 14) bX12_askOf_97 rfl rfl
theorem dX12_askOf_114 : decode cX12_askOf 114 = .ok (.if_icmp .lt 6, 3) := dk161 (k := 17) bX12_askOf_97 rfl (by decide)
theorem dX12_askOf_117 : decode cX12_askOf 117 = .ok (.goto 13, 3) := dk167 (k := 20) bX12_askOf_97 rfl (by decide)
theorem dX12_askOf_120 : decode cX12_askOf 120 = .ok (.aload_n 0, 1) := dk42 (k := 23) bX12_askOf_97 rfl
theorem bX12_askOf_121 : bL cX12_askOf 121 [21, 7, 181, 1, 118, 21, 5, 54, 4, 132, 5, 1, 167, 255, 144, 21, 4, 172] := bL_of (by decide +kernel)
theorem dX12_askOf_121 : decode cX12_askOf 121 = .ok (.iload 7, 2) := dk21 (k := 0) bX12_askOf_121 rfl rfl
theorem dX12_askOf_123 : decode cX12_askOf 123 = .ok (.putfield 374, 3) := dk181 (k := 2) bX12_askOf_121 rfl rfl
theorem dX12_askOf_126 : decode cX12_askOf 126 = .ok (.iload 5, 2) := dk21 (k := 5) bX12_askOf_121 rfl rfl
theorem dX12_askOf_128 : decode cX12_askOf 128 = .ok (.istore 4, 2) := dk54 (k := 7) bX12_askOf_121 rfl rfl
theorem dX12_askOf_130 : decode cX12_askOf 130 = .ok (.iinc 5 1, 3) := dk132 (k := 9) bX12_askOf_121 rfl rfl (by decide)
theorem dX12_askOf_133 : decode cX12_askOf 133 = .ok (.goto (-112), 3) := dk167 (k := 12) bX12_askOf_121 rfl (by decide)
theorem dX12_askOf_136 : decode cX12_askOf 136 = .ok (.iload 4, 2) := dk21 (k := 15) bX12_askOf_121 rfl rfl
theorem dX12_askOf_138 : decode cX12_askOf 138 = .ok (.ireturn, 1) := dk172 (k := 17) bX12_askOf_121 rfl
theorem bX12_ask_0 : bL cX12_ask 0 [42, 27, 182, 1, 112, 62, 29, 16, 250, 160, 0, 17, 42, 28, 133, 182, 0, 203, 154, 0, 8, 16, 254, 167, 0, 31] := bL_of (by decide +kernel)
theorem dX12_ask_0 : decode cX12_ask 0 = .ok (.aload_n 0, 1) := dk42 (k := 0) bX12_ask_0 rfl
theorem dX12_ask_1 : decode cX12_ask 1 = .ok (.iload_n 1, 1) := dk27 (k := 1) bX12_ask_0 rfl
theorem dX12_ask_2 : decode cX12_ask 2 = .ok (.invokevirtual 368, 3) := dk182 (k := 2) bX12_ask_0 rfl rfl
theorem dX12_ask_5 : decode cX12_ask 5 = .ok (.istore_n 3, 1) := dk62 (k := 5) bX12_ask_0 rfl
theorem dX12_ask_6 : decode cX12_ask 6 = .ok (.iload_n 3, 1) := dk29 (k := 6) bX12_ask_0 rfl
theorem dX12_ask_7 : decode cX12_ask 7 = .ok (.bipush (-6), 2) := dk16 (k := 7) bX12_ask_0 rfl (by decide)
theorem dX12_ask_9 : decode cX12_ask 9 = .ok (.if_icmp .ne 17, 3) := dk160 (k := 9) bX12_ask_0 rfl (by decide)
theorem dX12_ask_12 : decode cX12_ask 12 = .ok (.aload_n 0, 1) := dk42 (k := 12) bX12_ask_0 rfl
theorem dX12_ask_13 : decode cX12_ask 13 = .ok (.iload_n 2, 1) := dk28 (k := 13) bX12_ask_0 rfl
theorem dX12_ask_14 : decode cX12_ask 14 = .ok (.i2l, 1) := dk133 (k := 14) bX12_ask_0 rfl
theorem dX12_ask_15 : decode cX12_ask 15 = .ok (.invokevirtual 203, 3) := dk182 (k := 15) bX12_ask_0 rfl rfl
theorem dX12_ask_18 : decode cX12_ask 18 = .ok (.ifCond .ne 8, 3) := dk154 (k := 18) bX12_ask_0 rfl (by decide)
theorem dX12_ask_21 : decode cX12_ask 21 = .ok (.bipush (-2), 2) := dk16 (k := 21) bX12_ask_0 rfl (by decide)
theorem dX12_ask_23 : decode cX12_ask 23 = .ok (.goto 31, 3) := dk167 (k := 23) bX12_ask_0 rfl (by decide)
theorem bX12_ask_26 : bL cX12_ask 26 [29, 156, 0, 7, 29, 167, 0, 23, 42, 28, 133, 182, 0, 203, 153, 0, 12, 42, 27, 28, 182, 1, 121, 167, 0, 5] := bL_of (by decide +kernel)
theorem dX12_ask_26 : decode cX12_ask 26 = .ok (.iload_n 3, 1) := dk29 (k := 0) bX12_ask_26 rfl
theorem dX12_ask_27 : decode cX12_ask 27 = .ok (.ifCond .ge 7, 3) := dk156 (k := 1) bX12_ask_26 rfl (by decide)
theorem dX12_ask_30 : decode cX12_ask 30 = .ok (.iload_n 3, 1) := dk29 (k := 4) bX12_ask_26 rfl
theorem dX12_ask_31 : decode cX12_ask 31 = .ok (.goto 23, 3) := dk167 (k := 5) bX12_ask_26 rfl (by decide)
theorem dX12_ask_34 : decode cX12_ask 34 = .ok (.aload_n 0, 1) := dk42 (k := 8) bX12_ask_26 rfl
theorem dX12_ask_35 : decode cX12_ask 35 = .ok (.iload_n 2, 1) := dk28 (k := 9) bX12_ask_26 rfl
theorem dX12_ask_36 : decode cX12_ask 36 = .ok (.i2l, 1) := dk133 (k := 10) bX12_ask_26 rfl
theorem dX12_ask_37 : decode cX12_ask 37 = .ok (.invokevirtual 203, 3) := dk182 (k := 11) bX12_ask_26 rfl rfl
theorem dX12_ask_40 : decode cX12_ask 40 = .ok (.ifCond .eq 12, 3) := dk153 (k := 14) bX12_ask_26 rfl (by decide)
theorem dX12_ask_43 : decode cX12_ask 43 = .ok (.aload_n 0, 1) := dk42 (k := 17) bX12_ask_26 rfl
theorem dX12_ask_44 : decode cX12_ask 44 = .ok (.iload_n 1, 1) := dk27 (k := 18) bX12_ask_26 rfl
theorem dX12_ask_45 : decode cX12_ask 45 = .ok (.iload_n 2, 1) := dk28 (k := 19) bX12_ask_26 rfl
theorem dX12_ask_46 : decode cX12_ask 46 = .ok (.invokevirtual 377, 3) := dk182 (k := 20) bX12_ask_26 rfl rfl
theorem dX12_ask_49 : decode cX12_ask 49 = .ok (.goto 5, 3) := dk167 (k := 23) bX12_ask_26 rfl (by decide)
theorem bX12_ask_52 : bL cX12_ask 52 [16, 254, 172] := bL_of (by decide +kernel)
theorem dX12_ask_52 : decode cX12_ask 52 = .ok (.bipush (-2), 2) := dk16 (k := 0) bX12_ask_52 rfl (by decide)
theorem dX12_ask_54 : decode cX12_ask 54 = .ok (.ireturn, 1) := dk172 (k := 2) bX12_ask_52 rfl
theorem bX12_leaves_0 : bL cX12_leaves 0 [42, 27, 182, 1, 112, 62, 29, 155, 0, 12, 42, 28, 133, 182, 0, 203, 154, 0, 26, 29, 16, 250, 160, 0, 17] := bL_of (by decide +kernel)
theorem dX12_leaves_0 : decode cX12_leaves 0 = .ok (.aload_n 0, 1) := dk42 (k := 0) bX12_leaves_0 rfl
theorem dX12_leaves_1 : decode cX12_leaves 1 = .ok (.iload_n 1, 1) := dk27 (k := 1) bX12_leaves_0 rfl
theorem dX12_leaves_2 : decode cX12_leaves 2 = .ok (.invokevirtual 368, 3) := dk182 (k := 2) bX12_leaves_0 rfl rfl
theorem dX12_leaves_5 : decode cX12_leaves 5 = .ok (.istore_n 3, 1) := dk62 (k := 5) bX12_leaves_0 rfl
theorem dX12_leaves_6 : decode cX12_leaves 6 = .ok (.iload_n 3, 1) := dk29 (k := 6) bX12_leaves_0 rfl
theorem dX12_leaves_7 : decode cX12_leaves 7 = .ok (.ifCond .lt 12, 3) := dk155 (k := 7) bX12_leaves_0 rfl (by decide)
theorem dX12_leaves_10 : decode cX12_leaves 10 = .ok (.aload_n 0, 1) := dk42 (k := 10) bX12_leaves_0 rfl
theorem dX12_leaves_11 : decode cX12_leaves 11 = .ok (.iload_n 2, 1) := dk28 (k := 11) bX12_leaves_0 rfl
theorem dX12_leaves_12 : decode cX12_leaves 12 = .ok (.i2l, 1) := dk133 (k := 12) bX12_leaves_0 rfl
theorem dX12_leaves_13 : decode cX12_leaves 13 = .ok (.invokevirtual 203, 3) := dk182 (k := 13) bX12_leaves_0 rfl rfl
theorem dX12_leaves_16 : decode cX12_leaves 16 = .ok (.ifCond .ne 26, 3) := dk154 (k := 16) bX12_leaves_0 rfl (by decide)
theorem dX12_leaves_19 : decode cX12_leaves 19 = .ok (.iload_n 3, 1) := dk29 (k := 19) bX12_leaves_0 rfl
theorem dX12_leaves_20 : decode cX12_leaves 20 = .ok (.bipush (-6), 2) := dk16 (k := 20) bX12_leaves_0 rfl (by decide)
theorem dX12_leaves_22 : decode cX12_leaves 22 = .ok (.if_icmp .ne 17, 3) := dk160 (k := 22) bX12_leaves_0 rfl (by decide)
theorem bX12_leaves_25 : bL cX12_leaves 25 [42, 28, 133, 182, 0, 203, 153, 0, 8, 16, 250, 167, 0, 5, 16, 254, 172, 42, 27, 28, 182, 1, 121, 87] := bL_of (by decide +kernel)
theorem dX12_leaves_25 : decode cX12_leaves 25 = .ok (.aload_n 0, 1) := dk42 (k := 0) bX12_leaves_25 rfl
theorem dX12_leaves_26 : decode cX12_leaves 26 = .ok (.iload_n 2, 1) := dk28 (k := 1) bX12_leaves_25 rfl
theorem dX12_leaves_27 : decode cX12_leaves 27 = .ok (.i2l, 1) := dk133 (k := 2) bX12_leaves_25 rfl
theorem dX12_leaves_28 : decode cX12_leaves 28 = .ok (.invokevirtual 203, 3) := dk182 (k := 3) bX12_leaves_25 rfl rfl
theorem dX12_leaves_31 : decode cX12_leaves 31 = .ok (.ifCond .eq 8, 3) := dk153 (k := 6) bX12_leaves_25 rfl (by decide)
theorem dX12_leaves_34 : decode cX12_leaves 34 = .ok (.bipush (-6), 2) := dk16 (k := 9) bX12_leaves_25 rfl (by decide)
theorem dX12_leaves_36 : decode cX12_leaves 36 = .ok (.goto 5, 3) := dk167 (k := 11) bX12_leaves_25 rfl (by decide)
theorem dX12_leaves_39 : decode cX12_leaves 39 = .ok (.bipush (-2), 2) := dk16 (k := 14) bX12_leaves_25 rfl (by decide)
theorem dX12_leaves_41 : decode cX12_leaves 41 = .ok (.ireturn, 1) := dk172 (k := 16) bX12_leaves_25 rfl
theorem dX12_leaves_42 : decode cX12_leaves 42 = .ok (.aload_n 0, 1) := dk42 (k := 17) bX12_leaves_25 rfl
theorem dX12_leaves_43 : decode cX12_leaves 43 = .ok (.iload_n 1, 1) := dk27 (k := 18) bX12_leaves_25 rfl
theorem dX12_leaves_44 : decode cX12_leaves 44 = .ok (.iload_n 2, 1) := dk28 (k := 19) bX12_leaves_25 rfl
theorem dX12_leaves_45 : decode cX12_leaves 45 = .ok (.invokevirtual 377, 3) := dk182 (k := 20) bX12_leaves_25 rfl rfl
theorem dX12_leaves_48 : decode cX12_leaves 48 = .ok (.pop, 1) := dk87 (k := 23) bX12_leaves_25 rfl
theorem bX12_leaves_49 : bL cX12_leaves 49 [42, 180, 1, 118, 172] := bL_of (by decide +kernel)
theorem dX12_leaves_49 : decode cX12_leaves 49 = .ok (.aload_n 0, 1) := dk42 (k := 0) bX12_leaves_49 rfl
theorem dX12_leaves_50 : decode cX12_leaves 50 = .ok (.getfield 374, 3) := dk180 (k := 1) bX12_leaves_49 rfl rfl
theorem dX12_leaves_53 : decode cX12_leaves 53 = .ok (.ireturn, 1) := dk172 (k := 4) bX12_leaves_49 rfl
theorem bX12_doubts_0 : bL cX12_doubts 0 [42, 27, 182, 1, 112, 61, 28, 156, 0, 5, 28, 172, 3, 62, 3, 54, 4, 21, 4, 42, 180, 0, 47, 27] := bL_of (by decide +kernel)
theorem dX12_doubts_0 : decode cX12_doubts 0 = .ok (.aload_n 0, 1) := dk42 (k := 0) bX12_doubts_0 rfl
theorem dX12_doubts_1 : decode cX12_doubts 1 = .ok (.iload_n 1, 1) := dk27 (k := 1) bX12_doubts_0 rfl
theorem dX12_doubts_2 : decode cX12_doubts 2 = .ok (.invokevirtual 368, 3) := dk182 (k := 2) bX12_doubts_0 rfl rfl
theorem dX12_doubts_5 : decode cX12_doubts 5 = .ok (.istore_n 2, 1) := dk61 (k := 5) bX12_doubts_0 rfl
theorem dX12_doubts_6 : decode cX12_doubts 6 = .ok (.iload_n 2, 1) := dk28 (k := 6) bX12_doubts_0 rfl
theorem dX12_doubts_7 : decode cX12_doubts 7 = .ok (.ifCond .ge 5, 3) := dk156 (k := 7) bX12_doubts_0 rfl (by decide)
theorem dX12_doubts_10 : decode cX12_doubts 10 = .ok (.iload_n 2, 1) := dk28 (k := 10) bX12_doubts_0 rfl
theorem dX12_doubts_11 : decode cX12_doubts 11 = .ok (.ireturn, 1) := dk172 (k := 11) bX12_doubts_0 rfl
theorem dX12_doubts_12 : decode cX12_doubts 12 = .ok (.iconst 0, 1) := dk3 (k := 12) bX12_doubts_0 rfl
theorem dX12_doubts_13 : decode cX12_doubts 13 = .ok (.istore_n 3, 1) := dk62 (k := 13) bX12_doubts_0 rfl
theorem dX12_doubts_14 : decode cX12_doubts 14 = .ok (.iconst 0, 1) := dk3 (k := 14) bX12_doubts_0 rfl
theorem dX12_doubts_15 : decode cX12_doubts 15 = .ok (.istore 4, 2) := dk54 (k := 15) bX12_doubts_0 rfl rfl
theorem dX12_doubts_17 : decode cX12_doubts 17 = .ok (.iload 4, 2) := dk21 (k := 17) bX12_doubts_0 rfl rfl
theorem dX12_doubts_19 : decode cX12_doubts 19 = .ok (.aload_n 0, 1) := dk42 (k := 19) bX12_doubts_0 rfl
theorem dX12_doubts_20 : decode cX12_doubts 20 = .ok (.getfield 47, 3) := dk180 (k := 20) bX12_doubts_0 rfl rfl
theorem dX12_doubts_23 : decode cX12_doubts 23 = .ok (.iload_n 1, 1) := dk27 (k := 23) bX12_doubts_0 rfl
theorem bX12_doubts_24 : bL cX12_doubts 24 [46, 162, 0, 27, 29, 42, 27, 21, 4, 182, 1, 115, 153, 0, 7, 4, 167, 0, 4, 3, 96, 62, 132, 4, 3] := bL_of (by decide +kernel)
theorem dX12_doubts_24 : decode cX12_doubts 24 = .ok (.iaload, 1) := dk46 (k := 0) bX12_doubts_24 rfl
theorem dX12_doubts_25 : decode cX12_doubts 25 = .ok (.if_icmp .ge 27, 3) := dk162 (k := 1) bX12_doubts_24 rfl (by decide)
theorem dX12_doubts_28 : decode cX12_doubts 28 = .ok (.iload_n 3, 1) := dk29 (k := 4) bX12_doubts_24 rfl
theorem dX12_doubts_29 : decode cX12_doubts 29 = .ok (.aload_n 0, 1) := dk42 (k := 5) bX12_doubts_24 rfl
theorem dX12_doubts_30 : decode cX12_doubts 30 = .ok (.iload_n 1, 1) := dk27 (k := 6) bX12_doubts_24 rfl
theorem dX12_doubts_31 : decode cX12_doubts 31 = .ok (.iload 4, 2) := dk21 (k := 7) bX12_doubts_24 rfl rfl
theorem dX12_doubts_33 : decode cX12_doubts 33 = .ok (.invokevirtual 371, 3) := dk182 (k := 9) bX12_doubts_24 rfl rfl
theorem dX12_doubts_36 : decode cX12_doubts 36 = .ok (.ifCond .eq 7, 3) := dk153 (k := 12) bX12_doubts_24 rfl (by decide)
theorem dX12_doubts_39 : decode cX12_doubts 39 = .ok (.iconst 1, 1) := dk4 (k := 15) bX12_doubts_24 rfl
theorem dX12_doubts_40 : decode cX12_doubts 40 = .ok (.goto 4, 3) := dk167 (k := 16) bX12_doubts_24 rfl (by decide)
theorem dX12_doubts_43 : decode cX12_doubts 43 = .ok (.iconst 0, 1) := dk3 (k := 19) bX12_doubts_24 rfl
theorem dX12_doubts_44 : decode cX12_doubts 44 = .ok (.iadd, 1) := dk96 (k := 20) bX12_doubts_24 rfl
theorem dX12_doubts_45 : decode cX12_doubts 45 = .ok (.istore_n 3, 1) := dk62 (k := 21) bX12_doubts_24 rfl
theorem dX12_doubts_46 : decode cX12_doubts 46 = .ok (.iinc 4 3, 3) := dk132 (k := 22) bX12_doubts_24 rfl rfl (by decide)
theorem bX12_doubts_49 : bL cX12_doubts 49 [167, 255, 224, 29, 172] := bL_of (by decide +kernel)
theorem dX12_doubts_49 : decode cX12_doubts 49 = .ok (.goto (-32), 3) := dk167 (k := 0) bX12_doubts_49 rfl (by decide)
theorem dX12_doubts_52 : decode cX12_doubts 52 = .ok (.iload_n 3, 1) := dk29 (k := 3) bX12_doubts_49 rfl
theorem dX12_doubts_53 : decode cX12_doubts 53 = .ok (.ireturn, 1) := dk172 (k := 4) bX12_doubts_49 rfl
theorem bX12_asksNames_0 : bL cX12_asksNames 0 [27, 184, 1, 101, 153, 0, 14, 42, 182, 0, 73, 153, 0, 7, 28, 154, 0, 6, 16, 254, 172, 42, 180, 0, 47] := bL_of (by decide +kernel)
theorem dX12_asksNames_0 : decode cX12_asksNames 0 = .ok (.iload_n 1, 1) := dk27 (k := 0) bX12_asksNames_0 rfl
theorem dX12_asksNames_1 : decode cX12_asksNames 1 = .ok (.invokestatic 357, 3) := dk184 (k := 1) bX12_asksNames_0 rfl rfl
theorem dX12_asksNames_4 : decode cX12_asksNames 4 = .ok (.ifCond .eq 14, 3) := dk153 (k := 4) bX12_asksNames_0 rfl (by decide)
theorem dX12_asksNames_7 : decode cX12_asksNames 7 = .ok (.aload_n 0, 1) := dk42 (k := 7) bX12_asksNames_0 rfl
theorem dX12_asksNames_8 : decode cX12_asksNames 8 = .ok (.invokevirtual 73, 3) := dk182 (k := 8) bX12_asksNames_0 rfl rfl
theorem dX12_asksNames_11 : decode cX12_asksNames 11 = .ok (.ifCond .eq 7, 3) := dk153 (k := 11) bX12_asksNames_0 rfl (by decide)
theorem dX12_asksNames_14 : decode cX12_asksNames 14 = .ok (.iload_n 2, 1) := dk28 (k := 14) bX12_asksNames_0 rfl
theorem dX12_asksNames_15 : decode cX12_asksNames 15 = .ok (.ifCond .ne 6, 3) := dk154 (k := 15) bX12_asksNames_0 rfl (by decide)
theorem dX12_asksNames_18 : decode cX12_asksNames 18 = .ok (.bipush (-2), 2) := dk16 (k := 18) bX12_asksNames_0 rfl (by decide)
theorem dX12_asksNames_20 : decode cX12_asksNames 20 = .ok (.ireturn, 1) := dk172 (k := 20) bX12_asksNames_0 rfl
theorem dX12_asksNames_21 : decode cX12_asksNames 21 = .ok (.aload_n 0, 1) := dk42 (k := 21) bX12_asksNames_0 rfl
theorem dX12_asksNames_22 : decode cX12_asksNames 22 = .ok (.getfield 47, 3) := dk180 (k := 22) bX12_asksNames_0 rfl rfl
theorem bX12_asksNames_25 : bL cX12_asksNames 25 [27, 46, 2, 160, 0, 6, 16, 250, 172, 42, 180, 0, 47, 27, 46, 5, 112, 153, 0, 6, 16, 254, 172, 3] := bL_of (by decide +kernel)
theorem dX12_asksNames_25 : decode cX12_asksNames 25 = .ok (.iload_n 1, 1) := dk27 (k := 0) bX12_asksNames_25 rfl
theorem dX12_asksNames_26 : decode cX12_asksNames 26 = .ok (.iaload, 1) := dk46 (k := 1) bX12_asksNames_25 rfl
theorem dX12_asksNames_27 : decode cX12_asksNames 27 = .ok (.iconst (-1), 1) := dk2 (k := 2) bX12_asksNames_25 rfl
theorem dX12_asksNames_28 : decode cX12_asksNames 28 = .ok (.if_icmp .ne 6, 3) := dk160 (k := 3) bX12_asksNames_25 rfl (by decide)
theorem dX12_asksNames_31 : decode cX12_asksNames 31 = .ok (.bipush (-6), 2) := dk16 (k := 6) bX12_asksNames_25 rfl (by decide)
theorem dX12_asksNames_33 : decode cX12_asksNames 33 = .ok (.ireturn, 1) := dk172 (k := 8) bX12_asksNames_25 rfl
theorem dX12_asksNames_34 : decode cX12_asksNames 34 = .ok (.aload_n 0, 1) := dk42 (k := 9) bX12_asksNames_25 rfl
theorem dX12_asksNames_35 : decode cX12_asksNames 35 = .ok (.getfield 47, 3) := dk180 (k := 10) bX12_asksNames_25 rfl rfl
theorem dX12_asksNames_38 : decode cX12_asksNames 38 = .ok (.iload_n 1, 1) := dk27 (k := 13) bX12_asksNames_25 rfl
theorem dX12_asksNames_39 : decode cX12_asksNames 39 = .ok (.iaload, 1) := dk46 (k := 14) bX12_asksNames_25 rfl
theorem dX12_asksNames_40 : decode cX12_asksNames 40 = .ok (.iconst 2, 1) := dk5 (k := 15) bX12_asksNames_25 rfl
theorem dX12_asksNames_41 : decode cX12_asksNames 41 = .ok (.irem, 1) := dk112 (k := 16) bX12_asksNames_25 rfl
theorem dX12_asksNames_42 : decode cX12_asksNames 42 = .ok (.ifCond .eq 6, 3) := dk153 (k := 17) bX12_asksNames_25 rfl (by decide)
theorem dX12_asksNames_45 : decode cX12_asksNames 45 = .ok (.bipush (-2), 2) := dk16 (k := 20) bX12_asksNames_25 rfl (by decide)
theorem dX12_asksNames_47 : decode cX12_asksNames 47 = .ok (.ireturn, 1) := dk172 (k := 22) bX12_asksNames_25 rfl
theorem dX12_asksNames_48 : decode cX12_asksNames 48 = .ok (.iconst 0, 1) := dk3 (k := 23) bX12_asksNames_25 rfl
theorem bX12_asksNames_49 : bL cX12_asksNames 49 [62, 29, 42, 180, 0, 47, 27, 46, 162, 0, 43, 42, 42, 27, 29, 182, 1, 104, 182, 0, 235, 153, 0, 21] := bL_of (by decide +kernel)
theorem dX12_asksNames_49 : decode cX12_asksNames 49 = .ok (.istore_n 3, 1) := dk62 (k := 0) bX12_asksNames_49 rfl
theorem dX12_asksNames_50 : decode cX12_asksNames 50 = .ok (.iload_n 3, 1) := dk29 (k := 1) bX12_asksNames_49 rfl
theorem dX12_asksNames_51 : decode cX12_asksNames 51 = .ok (.aload_n 0, 1) := dk42 (k := 2) bX12_asksNames_49 rfl
theorem dX12_asksNames_52 : decode cX12_asksNames 52 = .ok (.getfield 47, 3) := dk180 (k := 3) bX12_asksNames_49 rfl rfl
theorem dX12_asksNames_55 : decode cX12_asksNames 55 = .ok (.iload_n 1, 1) := dk27 (k := 6) bX12_asksNames_49 rfl
theorem dX12_asksNames_56 : decode cX12_asksNames 56 = .ok (.iaload, 1) := dk46 (k := 7) bX12_asksNames_49 rfl
theorem dX12_asksNames_57 : decode cX12_asksNames 57 = .ok (.if_icmp .ge 43, 3) := dk162 (k := 8) bX12_asksNames_49 rfl (by decide)
theorem dX12_asksNames_60 : decode cX12_asksNames 60 = .ok (.aload_n 0, 1) := dk42 (k := 11) bX12_asksNames_49 rfl
theorem dX12_asksNames_61 : decode cX12_asksNames 61 = .ok (.aload_n 0, 1) := dk42 (k := 12) bX12_asksNames_49 rfl
theorem dX12_asksNames_62 : decode cX12_asksNames 62 = .ok (.iload_n 1, 1) := dk27 (k := 13) bX12_asksNames_49 rfl
theorem dX12_asksNames_63 : decode cX12_asksNames 63 = .ok (.iload_n 3, 1) := dk29 (k := 14) bX12_asksNames_49 rfl
theorem dX12_asksNames_64 : decode cX12_asksNames 64 = .ok (.invokevirtual 360, 3) := dk182 (k := 15) bX12_asksNames_49 rfl rfl
theorem dX12_asksNames_67 : decode cX12_asksNames 67 = .ok (.invokevirtual 235, 3) := dk182 (k := 18) bX12_asksNames_49 rfl rfl
theorem dX12_asksNames_70 : decode cX12_asksNames 70 = .ok (.ifCond .eq 21, 3) := dk153 (k := 21) bX12_asksNames_49 rfl (by decide)
theorem bX12_asksNames_73 : bL cX12_asksNames 73 [42, 27, 29, 4, 96, 182, 1, 104, 9, 20, 1, 91, 184, 0, 65, 154, 0, 6, 16, 254, 172, 132, 3, 2] := bL_of (by decide +kernel)
theorem dX12_asksNames_73 : decode cX12_asksNames 73 = .ok (.aload_n 0, 1) := dk42 (k := 0) bX12_asksNames_73 rfl
theorem dX12_asksNames_74 : decode cX12_asksNames 74 = .ok (.iload_n 1, 1) := dk27 (k := 1) bX12_asksNames_73 rfl
theorem dX12_asksNames_75 : decode cX12_asksNames 75 = .ok (.iload_n 3, 1) := dk29 (k := 2) bX12_asksNames_73 rfl
theorem dX12_asksNames_76 : decode cX12_asksNames 76 = .ok (.iconst 1, 1) := dk4 (k := 3) bX12_asksNames_73 rfl
theorem dX12_asksNames_77 : decode cX12_asksNames 77 = .ok (.iadd, 1) := dk96 (k := 4) bX12_asksNames_73 rfl
theorem dX12_asksNames_78 : decode cX12_asksNames 78 = .ok (.invokevirtual 360, 3) := dk182 (k := 5) bX12_asksNames_73 rfl rfl
theorem dX12_asksNames_81 : decode cX12_asksNames 81 = .ok (.lconst 0, 1) := dk9 (k := 8) bX12_asksNames_73 rfl
theorem dX12_asksNames_82 : decode cX12_asksNames 82 = .ok (.ldc2_w 347, 3) := dk20 (k := 9) bX12_asksNames_73 rfl rfl
theorem dX12_asksNames_85 : decode cX12_asksNames 85 = .ok (.invokestatic 65, 3) := dk184 (k := 12) bX12_asksNames_73 rfl rfl
theorem dX12_asksNames_88 : decode cX12_asksNames 88 = .ok (.ifCond .ne 6, 3) := dk154 (k := 15) bX12_asksNames_73 rfl (by decide)
theorem dX12_asksNames_91 : decode cX12_asksNames 91 = .ok (.bipush (-2), 2) := dk16 (k := 18) bX12_asksNames_73 rfl (by decide)
theorem dX12_asksNames_93 : decode cX12_asksNames 93 = .ok (.ireturn, 1) := dk172 (k := 20) bX12_asksNames_73 rfl
theorem dX12_asksNames_94 : decode cX12_asksNames 94 = .ok (.iinc 3 2, 3) := dk132 (k := 21) bX12_asksNames_73 rfl rfl (by decide)
theorem bX12_asksNames_97 : bL cX12_asksNames 97 [167, 255, 209, 3, 172] := bL_of (by decide +kernel)
theorem dX12_asksNames_97 : decode cX12_asksNames 97 = .ok (.goto (-47), 3) := dk167 (k := 0) bX12_asksNames_97 rfl (by decide)
theorem dX12_asksNames_100 : decode cX12_asksNames 100 = .ok (.iconst 0, 1) := dk3 (k := 3) bX12_asksNames_97 rfl
theorem dX12_asksNames_101 : decode cX12_asksNames 101 = .ok (.ireturn, 1) := dk172 (k := 4) bX12_asksNames_97 rfl
theorem bX12_hasName_0 : bL cX12_hasName 0 [42, 27, 28, 4, 96, 182, 1, 104, 42, 42, 27, 28, 182, 1, 104, 136, 4, 182, 0, 220, 133, 148, 156, 0, 7] := bL_of (by decide +kernel)
theorem dX12_hasName_0 : decode cX12_hasName 0 = .ok (.aload_n 0, 1) := dk42 (k := 0) bX12_hasName_0 rfl
theorem dX12_hasName_1 : decode cX12_hasName 1 = .ok (.iload_n 1, 1) := dk27 (k := 1) bX12_hasName_0 rfl
theorem dX12_hasName_2 : decode cX12_hasName 2 = .ok (.iload_n 2, 1) := dk28 (k := 2) bX12_hasName_0 rfl
theorem dX12_hasName_3 : decode cX12_hasName 3 = .ok (.iconst 1, 1) := dk4 (k := 3) bX12_hasName_0 rfl
theorem dX12_hasName_4 : decode cX12_hasName 4 = .ok (.iadd, 1) := dk96 (k := 4) bX12_hasName_0 rfl
theorem dX12_hasName_5 : decode cX12_hasName 5 = .ok (.invokevirtual 360, 3) := dk182 (k := 5) bX12_hasName_0 rfl rfl
theorem dX12_hasName_8 : decode cX12_hasName 8 = .ok (.aload_n 0, 1) := dk42 (k := 8) bX12_hasName_0 rfl
theorem dX12_hasName_9 : decode cX12_hasName 9 = .ok (.aload_n 0, 1) := dk42 (k := 9) bX12_hasName_0 rfl
theorem dX12_hasName_10 : decode cX12_hasName 10 = .ok (.iload_n 1, 1) := dk27 (k := 10) bX12_hasName_0 rfl
theorem dX12_hasName_11 : decode cX12_hasName 11 = .ok (.iload_n 2, 1) := dk28 (k := 11) bX12_hasName_0 rfl
theorem dX12_hasName_12 : decode cX12_hasName 12 = .ok (.invokevirtual 360, 3) := dk182 (k := 12) bX12_hasName_0 rfl rfl
theorem dX12_hasName_15 : decode cX12_hasName 15 = .ok (.l2i, 1) := dk136 (k := 15) bX12_hasName_0 rfl
theorem dX12_hasName_16 : decode cX12_hasName 16 = .ok (.iconst 1, 1) := dk4 (k := 16) bX12_hasName_0 rfl
theorem dX12_hasName_17 : decode cX12_hasName 17 = .ok (.invokevirtual 220, 3) := dk182 (k := 17) bX12_hasName_0 rfl rfl
theorem dX12_hasName_20 : decode cX12_hasName 20 = .ok (.i2l, 1) := dk133 (k := 20) bX12_hasName_0 rfl
theorem dX12_hasName_21 : decode cX12_hasName 21 = .ok (.lcmp, 1) := dk148 (k := 21) bX12_hasName_0 rfl
theorem dX12_hasName_22 : decode cX12_hasName 22 = .ok (.ifCond .ge 7, 3) := dk156 (k := 22) bX12_hasName_0 rfl (by decide)
theorem bX12_hasName_25 : bL cX12_hasName 25 [4, 167, 0, 4, 3, 172] := bL_of (by decide +kernel)
theorem dX12_hasName_25 : decode cX12_hasName 25 = .ok (.iconst 1, 1) := dk4 (k := 0) bX12_hasName_25 rfl
theorem dX12_hasName_26 : decode cX12_hasName 26 = .ok (.goto 4, 3) := dk167 (k := 1) bX12_hasName_25 rfl (by decide)
theorem dX12_hasName_29 : decode cX12_hasName 29 = .ok (.iconst 0, 1) := dk3 (k := 4) bX12_hasName_25 rfl
theorem dX12_hasName_30 : decode cX12_hasName 30 = .ok (.ireturn, 1) := dk172 (k := 5) bX12_hasName_25 rfl
theorem bX12_isThere_0 : bL cX12_isThere 0 [3, 62, 29, 28, 162, 0, 47, 42, 27, 29, 182, 1, 104, 42, 27, 28, 182, 1, 104, 148, 154, 0, 25, 42] := bL_of (by decide +kernel)
theorem dX12_isThere_0 : decode cX12_isThere 0 = .ok (.iconst 0, 1) := dk3 (k := 0) bX12_isThere_0 rfl
theorem dX12_isThere_1 : decode cX12_isThere 1 = .ok (.istore_n 3, 1) := dk62 (k := 1) bX12_isThere_0 rfl
theorem dX12_isThere_2 : decode cX12_isThere 2 = .ok (.iload_n 3, 1) := dk29 (k := 2) bX12_isThere_0 rfl
theorem dX12_isThere_3 : decode cX12_isThere 3 = .ok (.iload_n 2, 1) := dk28 (k := 3) bX12_isThere_0 rfl
theorem dX12_isThere_4 : decode cX12_isThere 4 = .ok (.if_icmp .ge 47, 3) := dk162 (k := 4) bX12_isThere_0 rfl (by decide)
theorem dX12_isThere_7 : decode cX12_isThere 7 = .ok (.aload_n 0, 1) := dk42 (k := 7) bX12_isThere_0 rfl
theorem dX12_isThere_8 : decode cX12_isThere 8 = .ok (.iload_n 1, 1) := dk27 (k := 8) bX12_isThere_0 rfl
theorem dX12_isThere_9 : decode cX12_isThere 9 = .ok (.iload_n 3, 1) := dk29 (k := 9) bX12_isThere_0 rfl
theorem dX12_isThere_10 : decode cX12_isThere 10 = .ok (.invokevirtual 360, 3) := dk182 (k := 10) bX12_isThere_0 rfl rfl
theorem dX12_isThere_13 : decode cX12_isThere 13 = .ok (.aload_n 0, 1) := dk42 (k := 13) bX12_isThere_0 rfl
theorem dX12_isThere_14 : decode cX12_isThere 14 = .ok (.iload_n 1, 1) := dk27 (k := 14) bX12_isThere_0 rfl
theorem dX12_isThere_15 : decode cX12_isThere 15 = .ok (.iload_n 2, 1) := dk28 (k := 15) bX12_isThere_0 rfl
theorem dX12_isThere_16 : decode cX12_isThere 16 = .ok (.invokevirtual 360, 3) := dk182 (k := 16) bX12_isThere_0 rfl rfl
theorem dX12_isThere_19 : decode cX12_isThere 19 = .ok (.lcmp, 1) := dk148 (k := 19) bX12_isThere_0 rfl
theorem dX12_isThere_20 : decode cX12_isThere 20 = .ok (.ifCond .ne 25, 3) := dk154 (k := 20) bX12_isThere_0 rfl (by decide)
theorem dX12_isThere_23 : decode cX12_isThere 23 = .ok (.aload_n 0, 1) := dk42 (k := 23) bX12_isThere_0 rfl
theorem bX12_isThere_24 : bL cX12_isThere 24 [27, 29, 4, 96, 182, 1, 104, 42, 27, 28, 4, 96, 182, 1, 104, 148, 154, 0, 5, 4, 172, 132, 3, 2] := bL_of (by decide +kernel)
theorem dX12_isThere_24 : decode cX12_isThere 24 = .ok (.iload_n 1, 1) := dk27 (k := 0) bX12_isThere_24 rfl
theorem dX12_isThere_25 : decode cX12_isThere 25 = .ok (.iload_n 3, 1) := dk29 (k := 1) bX12_isThere_24 rfl
theorem dX12_isThere_26 : decode cX12_isThere 26 = .ok (.iconst 1, 1) := dk4 (k := 2) bX12_isThere_24 rfl
theorem dX12_isThere_27 : decode cX12_isThere 27 = .ok (.iadd, 1) := dk96 (k := 3) bX12_isThere_24 rfl
theorem dX12_isThere_28 : decode cX12_isThere 28 = .ok (.invokevirtual 360, 3) := dk182 (k := 4) bX12_isThere_24 rfl rfl
theorem dX12_isThere_31 : decode cX12_isThere 31 = .ok (.aload_n 0, 1) := dk42 (k := 7) bX12_isThere_24 rfl
theorem dX12_isThere_32 : decode cX12_isThere 32 = .ok (.iload_n 1, 1) := dk27 (k := 8) bX12_isThere_24 rfl
theorem dX12_isThere_33 : decode cX12_isThere 33 = .ok (.iload_n 2, 1) := dk28 (k := 9) bX12_isThere_24 rfl
theorem dX12_isThere_34 : decode cX12_isThere 34 = .ok (.iconst 1, 1) := dk4 (k := 10) bX12_isThere_24 rfl
theorem dX12_isThere_35 : decode cX12_isThere 35 = .ok (.iadd, 1) := dk96 (k := 11) bX12_isThere_24 rfl
theorem dX12_isThere_36 : decode cX12_isThere 36 = .ok (.invokevirtual 360, 3) := dk182 (k := 12) bX12_isThere_24 rfl rfl
theorem dX12_isThere_39 : decode cX12_isThere 39 = .ok (.lcmp, 1) := dk148 (k := 15) bX12_isThere_24 rfl
theorem dX12_isThere_40 : decode cX12_isThere 40 = .ok (.ifCond .ne 5, 3) := dk154 (k := 16) bX12_isThere_24 rfl (by decide)
theorem dX12_isThere_43 : decode cX12_isThere 43 = .ok (.iconst 1, 1) := dk4 (k := 19) bX12_isThere_24 rfl
theorem dX12_isThere_44 : decode cX12_isThere 44 = .ok (.ireturn, 1) := dk172 (k := 20) bX12_isThere_24 rfl
theorem dX12_isThere_45 : decode cX12_isThere 45 = .ok (.iinc 3 2, 3) := dk132 (k := 21) bX12_isThere_24 rfl rfl (by decide)
theorem bX12_isThere_48 : bL cX12_isThere 48 [167, 255, 210, 3, 172] := bL_of (by decide +kernel)
theorem dX12_isThere_48 : decode cX12_isThere 48 = .ok (.goto (-46), 3) := dk167 (k := 0) bX12_isThere_48 rfl (by decide)
theorem dX12_isThere_51 : decode cX12_isThere 51 = .ok (.iconst 0, 1) := dk3 (k := 3) bX12_isThere_48 rfl
theorem dX12_isThere_52 : decode cX12_isThere 52 = .ok (.ireturn, 1) := dk172 (k := 4) bX12_isThere_48 rfl
theorem bX12_stands_0 : bL cX12_stands 0 [42, 27, 4, 182, 1, 124, 61, 28, 156, 0, 5, 28, 172, 3, 62, 3, 54, 4, 21, 4, 42, 180, 0, 47] := bL_of (by decide +kernel)
theorem dX12_stands_0 : decode cX12_stands 0 = .ok (.aload_n 0, 1) := dk42 (k := 0) bX12_stands_0 rfl
theorem dX12_stands_1 : decode cX12_stands 1 = .ok (.iload_n 1, 1) := dk27 (k := 1) bX12_stands_0 rfl
theorem dX12_stands_2 : decode cX12_stands 2 = .ok (.iconst 1, 1) := dk4 (k := 2) bX12_stands_0 rfl
theorem dX12_stands_3 : decode cX12_stands 3 = .ok (.invokevirtual 380, 3) := dk182 (k := 3) bX12_stands_0 rfl rfl
theorem dX12_stands_6 : decode cX12_stands 6 = .ok (.istore_n 2, 1) := dk61 (k := 6) bX12_stands_0 rfl
theorem dX12_stands_7 : decode cX12_stands 7 = .ok (.iload_n 2, 1) := dk28 (k := 7) bX12_stands_0 rfl
theorem dX12_stands_8 : decode cX12_stands 8 = .ok (.ifCond .ge 5, 3) := dk156 (k := 8) bX12_stands_0 rfl (by decide)
theorem dX12_stands_11 : decode cX12_stands 11 = .ok (.iload_n 2, 1) := dk28 (k := 11) bX12_stands_0 rfl
theorem dX12_stands_12 : decode cX12_stands 12 = .ok (.ireturn, 1) := dk172 (k := 12) bX12_stands_0 rfl
theorem dX12_stands_13 : decode cX12_stands 13 = .ok (.iconst 0, 1) := dk3 (k := 13) bX12_stands_0 rfl
theorem dX12_stands_14 : decode cX12_stands 14 = .ok (.istore_n 3, 1) := dk62 (k := 14) bX12_stands_0 rfl
theorem dX12_stands_15 : decode cX12_stands 15 = .ok (.iconst 0, 1) := dk3 (k := 15) bX12_stands_0 rfl
theorem dX12_stands_16 : decode cX12_stands 16 = .ok (.istore 4, 2) := dk54 (k := 16) bX12_stands_0 rfl rfl
theorem dX12_stands_18 : decode cX12_stands 18 = .ok (.iload 4, 2) := dk21 (k := 18) bX12_stands_0 rfl rfl
theorem dX12_stands_20 : decode cX12_stands 20 = .ok (.aload_n 0, 1) := dk42 (k := 20) bX12_stands_0 rfl
theorem dX12_stands_21 : decode cX12_stands 21 = .ok (.getfield 47, 3) := dk180 (k := 21) bX12_stands_0 rfl rfl
theorem bX12_stands_24 : bL cX12_stands 24 [27, 46, 162, 0, 37, 29, 42, 27, 21, 4, 182, 1, 128, 153, 0, 17, 42, 27, 21, 4, 182, 1, 131, 154, 0, 7] := bL_of (by decide +kernel)
theorem dX12_stands_24 : decode cX12_stands 24 = .ok (.iload_n 1, 1) := dk27 (k := 0) bX12_stands_24 rfl
theorem dX12_stands_25 : decode cX12_stands 25 = .ok (.iaload, 1) := dk46 (k := 1) bX12_stands_24 rfl
theorem dX12_stands_26 : decode cX12_stands 26 = .ok (.if_icmp .ge 37, 3) := dk162 (k := 2) bX12_stands_24 rfl (by decide)
theorem dX12_stands_29 : decode cX12_stands 29 = .ok (.iload_n 3, 1) := dk29 (k := 5) bX12_stands_24 rfl
theorem dX12_stands_30 : decode cX12_stands 30 = .ok (.aload_n 0, 1) := dk42 (k := 6) bX12_stands_24 rfl
theorem dX12_stands_31 : decode cX12_stands 31 = .ok (.iload_n 1, 1) := dk27 (k := 7) bX12_stands_24 rfl
theorem dX12_stands_32 : decode cX12_stands 32 = .ok (.iload 4, 2) := dk21 (k := 8) bX12_stands_24 rfl rfl
theorem dX12_stands_34 : decode cX12_stands 34 = .ok (.invokevirtual 384, 3) := dk182 (k := 10) bX12_stands_24 rfl rfl
theorem dX12_stands_37 : decode cX12_stands 37 = .ok (.ifCond .eq 17, 3) := dk153 (k := 13) bX12_stands_24 rfl (by decide)
theorem dX12_stands_40 : decode cX12_stands 40 = .ok (.aload_n 0, 1) := dk42 (k := 16) bX12_stands_24 rfl
theorem dX12_stands_41 : decode cX12_stands 41 = .ok (.iload_n 1, 1) := dk27 (k := 17) bX12_stands_24 rfl
theorem dX12_stands_42 : decode cX12_stands 42 = .ok (.iload 4, 2) := dk21 (k := 18) bX12_stands_24 rfl rfl
theorem dX12_stands_44 : decode cX12_stands 44 = .ok (.invokevirtual 387, 3) := dk182 (k := 20) bX12_stands_24 rfl rfl
theorem dX12_stands_47 : decode cX12_stands 47 = .ok (.ifCond .ne 7, 3) := dk154 (k := 23) bX12_stands_24 rfl (by decide)
theorem bX12_stands_50 : bL cX12_stands 50 [4, 167, 0, 4, 3, 96, 62, 132, 4, 2, 167, 255, 214, 29, 172] := bL_of (by decide +kernel)
theorem dX12_stands_50 : decode cX12_stands 50 = .ok (.iconst 1, 1) := dk4 (k := 0) bX12_stands_50 rfl
theorem dX12_stands_51 : decode cX12_stands 51 = .ok (.goto 4, 3) := dk167 (k := 1) bX12_stands_50 rfl (by decide)
theorem dX12_stands_54 : decode cX12_stands 54 = .ok (.iconst 0, 1) := dk3 (k := 4) bX12_stands_50 rfl
theorem dX12_stands_55 : decode cX12_stands 55 = .ok (.iadd, 1) := dk96 (k := 5) bX12_stands_50 rfl
theorem dX12_stands_56 : decode cX12_stands 56 = .ok (.istore_n 3, 1) := dk62 (k := 6) bX12_stands_50 rfl
theorem dX12_stands_57 : decode cX12_stands 57 = .ok (.iinc 4 2, 3) := dk132 (k := 7) bX12_stands_50 rfl rfl (by decide)
theorem dX12_stands_60 : decode cX12_stands 60 = .ok (.goto (-42), 3) := dk167 (k := 10) bX12_stands_50 rfl (by decide)
theorem dX12_stands_63 : decode cX12_stands 63 = .ok (.iload_n 3, 1) := dk29 (k := 13) bX12_stands_50 rfl
theorem dX12_stands_64 : decode cX12_stands 64 = .ok (.ireturn, 1) := dk172 (k := 14) bX12_stands_50 rfl
theorem bX12_struck_0 : bL cX12_struck 0 [42, 27, 28, 133, 9, 10, 184, 0, 65, 182, 1, 124, 62, 29, 156, 0, 5, 29, 172, 3, 54, 4, 3, 54, 5] := bL_of (by decide +kernel)
theorem dX12_struck_0 : decode cX12_struck 0 = .ok (.aload_n 0, 1) := dk42 (k := 0) bX12_struck_0 rfl
theorem dX12_struck_1 : decode cX12_struck 1 = .ok (.iload_n 1, 1) := dk27 (k := 1) bX12_struck_0 rfl
theorem dX12_struck_2 : decode cX12_struck 2 = .ok (.iload_n 2, 1) := dk28 (k := 2) bX12_struck_0 rfl
theorem dX12_struck_3 : decode cX12_struck 3 = .ok (.i2l, 1) := dk133 (k := 3) bX12_struck_0 rfl
theorem dX12_struck_4 : decode cX12_struck 4 = .ok (.lconst 0, 1) := dk9 (k := 4) bX12_struck_0 rfl
theorem dX12_struck_5 : decode cX12_struck 5 = .ok (.lconst 1, 1) := dk10 (k := 5) bX12_struck_0 rfl
theorem dX12_struck_6 : decode cX12_struck 6 = .ok (.invokestatic 65, 3) := dk184 (k := 6) bX12_struck_0 rfl rfl
theorem dX12_struck_9 : decode cX12_struck 9 = .ok (.invokevirtual 380, 3) := dk182 (k := 9) bX12_struck_0 rfl rfl
theorem dX12_struck_12 : decode cX12_struck 12 = .ok (.istore_n 3, 1) := dk62 (k := 12) bX12_struck_0 rfl
theorem dX12_struck_13 : decode cX12_struck 13 = .ok (.iload_n 3, 1) := dk29 (k := 13) bX12_struck_0 rfl
theorem dX12_struck_14 : decode cX12_struck 14 = .ok (.ifCond .ge 5, 3) := dk156 (k := 14) bX12_struck_0 rfl (by decide)
theorem dX12_struck_17 : decode cX12_struck 17 = .ok (.iload_n 3, 1) := dk29 (k := 17) bX12_struck_0 rfl
theorem dX12_struck_18 : decode cX12_struck 18 = .ok (.ireturn, 1) := dk172 (k := 18) bX12_struck_0 rfl
theorem dX12_struck_19 : decode cX12_struck 19 = .ok (.iconst 0, 1) := dk3 (k := 19) bX12_struck_0 rfl
theorem dX12_struck_20 : decode cX12_struck 20 = .ok (.istore 4, 2) := dk54 (k := 20) bX12_struck_0 rfl rfl
theorem dX12_struck_22 : decode cX12_struck 22 = .ok (.iconst 0, 1) := dk3 (k := 22) bX12_struck_0 rfl
theorem dX12_struck_23 : decode cX12_struck 23 = .ok (.istore 5, 2) := dk54 (k := 23) bX12_struck_0 rfl rfl
theorem bX12_struck_25 : bL cX12_struck 25 [21, 5, 42, 180, 0, 47, 27, 46, 162, 0, 62, 21, 4, 28, 4, 160, 0, 21, 42, 27, 21, 5, 182, 1, 128] := bL_of (by decide +kernel)
theorem dX12_struck_25 : decode cX12_struck 25 = .ok (.iload 5, 2) := dk21 (k := 0) bX12_struck_25 rfl rfl
theorem dX12_struck_27 : decode cX12_struck 27 = .ok (.aload_n 0, 1) := dk42 (k := 2) bX12_struck_25 rfl
theorem dX12_struck_28 : decode cX12_struck 28 = .ok (.getfield 47, 3) := dk180 (k := 3) bX12_struck_25 rfl rfl
theorem dX12_struck_31 : decode cX12_struck 31 = .ok (.iload_n 1, 1) := dk27 (k := 6) bX12_struck_25 rfl
theorem dX12_struck_32 : decode cX12_struck 32 = .ok (.iaload, 1) := dk46 (k := 7) bX12_struck_25 rfl
theorem dX12_struck_33 : decode cX12_struck 33 = .ok (.if_icmp .ge 62, 3) := dk162 (k := 8) bX12_struck_25 rfl (by decide)
theorem dX12_struck_36 : decode cX12_struck 36 = .ok (.iload 4, 2) := dk21 (k := 11) bX12_struck_25 rfl rfl
theorem dX12_struck_38 : decode cX12_struck 38 = .ok (.iload_n 2, 1) := dk28 (k := 13) bX12_struck_25 rfl
theorem dX12_struck_39 : decode cX12_struck 39 = .ok (.iconst 1, 1) := dk4 (k := 14) bX12_struck_25 rfl
theorem dX12_struck_40 : decode cX12_struck 40 = .ok (.if_icmp .ne 21, 3) := dk160 (k := 15) bX12_struck_25 rfl (by decide)
theorem dX12_struck_43 : decode cX12_struck 43 = .ok (.aload_n 0, 1) := dk42 (k := 18) bX12_struck_25 rfl
theorem dX12_struck_44 : decode cX12_struck 44 = .ok (.iload_n 1, 1) := dk27 (k := 19) bX12_struck_25 rfl
theorem dX12_struck_45 : decode cX12_struck 45 = .ok (.iload 5, 2) := dk21 (k := 20) bX12_struck_25 rfl rfl
theorem dX12_struck_47 : decode cX12_struck 47 = .ok (.invokevirtual 384, 3) := dk182 (k := 22) bX12_struck_25 rfl rfl
theorem bX12_struck_50 : bL cX12_struck 50 [153, 0, 7, 3, 167, 0, 32, 4, 167, 0, 28, 42, 27, 21, 5, 182, 1, 128, 153, 0, 17, 42, 27, 21, 5] := bL_of (by decide +kernel)
theorem dX12_struck_50 : decode cX12_struck 50 = .ok (.ifCond .eq 7, 3) := dk153 (k := 0) bX12_struck_50 rfl (by decide)
theorem dX12_struck_53 : decode cX12_struck 53 = .ok (.iconst 0, 1) := dk3 (k := 3) bX12_struck_50 rfl
theorem dX12_struck_54 : decode cX12_struck 54 = .ok (.goto 32, 3) := dk167 (k := 4) bX12_struck_50 rfl (by decide)
theorem dX12_struck_57 : decode cX12_struck 57 = .ok (.iconst 1, 1) := dk4 (k := 7) bX12_struck_50 rfl
theorem dX12_struck_58 : decode cX12_struck 58 = .ok (.goto 28, 3) := dk167 (k := 8) bX12_struck_50 rfl (by decide)
theorem dX12_struck_61 : decode cX12_struck 61 = .ok (.aload_n 0, 1) := dk42 (k := 11) bX12_struck_50 rfl
theorem dX12_struck_62 : decode cX12_struck 62 = .ok (.iload_n 1, 1) := dk27 (k := 12) bX12_struck_50 rfl
theorem dX12_struck_63 : decode cX12_struck 63 = .ok (.iload 5, 2) := dk21 (k := 13) bX12_struck_50 rfl rfl
theorem dX12_struck_65 : decode cX12_struck 65 = .ok (.invokevirtual 384, 3) := dk182 (k := 15) bX12_struck_50 rfl rfl
theorem dX12_struck_68 : decode cX12_struck 68 = .ok (.ifCond .eq 17, 3) := dk153 (k := 18) bX12_struck_50 rfl (by decide)
theorem dX12_struck_71 : decode cX12_struck 71 = .ok (.aload_n 0, 1) := dk42 (k := 21) bX12_struck_50 rfl
theorem dX12_struck_72 : decode cX12_struck 72 = .ok (.iload_n 1, 1) := dk27 (k := 22) bX12_struck_50 rfl
theorem dX12_struck_73 : decode cX12_struck 73 = .ok (.iload 5, 2) := dk21 (k := 23) bX12_struck_50 rfl rfl
theorem bX12_struck_75 : bL cX12_struck 75 [182, 1, 131, 153, 0, 7, 4, 167, 0, 4, 3, 96, 54, 4, 132, 5, 2, 167, 255, 189, 21, 4, 172] := bL_of (by decide +kernel)
theorem dX12_struck_75 : decode cX12_struck 75 = .ok (.invokevirtual 387, 3) := dk182 (k := 0) bX12_struck_75 rfl rfl
theorem dX12_struck_78 : decode cX12_struck 78 = .ok (.ifCond .eq 7, 3) := dk153 (k := 3) bX12_struck_75 rfl (by decide)
theorem dX12_struck_81 : decode cX12_struck 81 = .ok (.iconst 1, 1) := dk4 (k := 6) bX12_struck_75 rfl
theorem dX12_struck_82 : decode cX12_struck 82 = .ok (.goto 4, 3) := dk167 (k := 7) bX12_struck_75 rfl (by decide)
theorem dX12_struck_85 : decode cX12_struck 85 = .ok (.iconst 0, 1) := dk3 (k := 10) bX12_struck_75 rfl
theorem dX12_struck_86 : decode cX12_struck 86 = .ok (.iadd, 1) := dk96 (k := 11) bX12_struck_75 rfl
theorem dX12_struck_87 : decode cX12_struck 87 = .ok (.istore 4, 2) := dk54 (k := 12) bX12_struck_75 rfl rfl
theorem dX12_struck_89 : decode cX12_struck 89 = .ok (.iinc 5 2, 3) := dk132 (k := 14) bX12_struck_75 rfl rfl (by decide)
theorem dX12_struck_92 : decode cX12_struck 92 = .ok (.goto (-67), 3) := dk167 (k := 17) bX12_struck_75 rfl (by decide)
theorem dX12_struck_95 : decode cX12_struck 95 = .ok (.iload 4, 2) := dk21 (k := 20) bX12_struck_75 rfl rfl
theorem dX12_struck_97 : decode cX12_struck 97 = .ok (.ireturn, 1) := dk172 (k := 22) bX12_struck_75 rfl
theorem bX12_goMonths_0 : bL cX12_goMonths 0 [42, 182, 0, 240, 31, 55, 4, 3, 54, 6, 3, 54, 7, 21, 7, 29, 162, 0, 101, 3, 54, 8, 42, 180, 0, 9] := bL_of (by decide +kernel)
theorem dX12_goMonths_0 : decode cX12_goMonths 0 = .ok (.aload_n 0, 1) := dk42 (k := 0) bX12_goMonths_0 rfl
theorem dX12_goMonths_1 : decode cX12_goMonths 1 = .ok (.invokevirtual 240, 3) := dk182 (k := 1) bX12_goMonths_0 rfl rfl
theorem dX12_goMonths_4 : decode cX12_goMonths 4 = .ok (.lload_n 1, 1) := dk31 (k := 4) bX12_goMonths_0 rfl
theorem dX12_goMonths_5 : decode cX12_goMonths 5 = .ok (.lstore 4, 2) := dk55 (k := 5) bX12_goMonths_0 rfl rfl
theorem dX12_goMonths_7 : decode cX12_goMonths 7 = .ok (.iconst 0, 1) := dk3 (k := 7) bX12_goMonths_0 rfl
theorem dX12_goMonths_8 : decode cX12_goMonths 8 = .ok (.istore 6, 2) := dk54 (k := 8) bX12_goMonths_0 rfl rfl
theorem dX12_goMonths_10 : decode cX12_goMonths 10 = .ok (.iconst 0, 1) := dk3 (k := 10) bX12_goMonths_0 rfl
theorem dX12_goMonths_11 : decode cX12_goMonths 11 = .ok (.istore 7, 2) := dk54 (k := 11) bX12_goMonths_0 rfl rfl
theorem dX12_goMonths_13 : decode cX12_goMonths 13 = .ok (.iload 7, 2) := dk21 (k := 13) bX12_goMonths_0 rfl rfl
theorem dX12_goMonths_15 : decode cX12_goMonths 15 = .ok (.iload_n 3, 1) := dk29 (k := 15) bX12_goMonths_0 rfl
theorem dX12_goMonths_16 : decode cX12_goMonths 16 = .ok (.if_icmp .ge 101, 3) := dk162 (k := 16) bX12_goMonths_0 rfl (by decide)
theorem dX12_goMonths_19 : decode cX12_goMonths 19 = .ok (.iconst 0, 1) := dk3 (k := 19) bX12_goMonths_0 rfl
theorem dX12_goMonths_20 : decode cX12_goMonths 20 = .ok (.istore 8, 2) := dk54 (k := 20) bX12_goMonths_0 rfl rfl
theorem dX12_goMonths_22 : decode cX12_goMonths 22 = .ok (.aload_n 0, 1) := dk42 (k := 22) bX12_goMonths_0 rfl
theorem dX12_goMonths_23 : decode cX12_goMonths 23 = .ok (.getfield 9, 3) := dk180 (k := 23) bX12_goMonths_0 rfl rfl
theorem bX12_goMonths_26 : bL cX12_goMonths 26 [16, 6, 46, 158, 0, 39, 20, 1, 134, 22, 4, 105, 20, 1, 136, 97, 20, 1, 138, 113, 55, 4, 4, 22, 4] := bL_of (by decide +kernel)
theorem dX12_goMonths_26 : decode cX12_goMonths 26 = .ok (.bipush 6, 2) := dk16 (k := 0) bX12_goMonths_26 rfl (by decide)
theorem dX12_goMonths_28 : decode cX12_goMonths 28 = .ok (.iaload, 1) := dk46 (k := 2) bX12_goMonths_26 rfl
theorem dX12_goMonths_29 : decode cX12_goMonths 29 = .ok (.ifCond .le 39, 3) := dk158 (k := 3) bX12_goMonths_26 rfl (by decide)
theorem dX12_goMonths_32 : decode cX12_goMonths 32 = .ok (.ldc2_w 390, 3) := dk20 (k := 6) bX12_goMonths_26 rfl rfl
theorem dX12_goMonths_35 : decode cX12_goMonths 35 = .ok (.lload 4, 2) := dk22 (k := 9) bX12_goMonths_26 rfl rfl
theorem dX12_goMonths_37 : decode cX12_goMonths 37 = .ok (.lmul, 1) := dk105 (k := 11) bX12_goMonths_26 rfl
theorem dX12_goMonths_38 : decode cX12_goMonths 38 = .ok (.ldc2_w 392, 3) := dk20 (k := 12) bX12_goMonths_26 rfl rfl
theorem dX12_goMonths_41 : decode cX12_goMonths 41 = .ok (.ladd, 1) := dk97 (k := 15) bX12_goMonths_26 rfl
theorem dX12_goMonths_42 : decode cX12_goMonths 42 = .ok (.ldc2_w 394, 3) := dk20 (k := 16) bX12_goMonths_26 rfl rfl
theorem dX12_goMonths_45 : decode cX12_goMonths 45 = .ok (.lrem, 1) := dk113 (k := 19) bX12_goMonths_26 rfl
theorem dX12_goMonths_46 : decode cX12_goMonths 46 = .ok (.lstore 4, 2) := dk55 (k := 20) bX12_goMonths_26 rfl rfl
theorem dX12_goMonths_48 : decode cX12_goMonths 48 = .ok (.iconst 1, 1) := dk4 (k := 22) bX12_goMonths_26 rfl
theorem dX12_goMonths_49 : decode cX12_goMonths 49 = .ok (.lload 4, 2) := dk22 (k := 23) bX12_goMonths_26 rfl rfl
theorem bX12_goMonths_51 : bL cX12_goMonths 51 [20, 1, 140, 109, 42, 180, 0, 9, 16, 6, 46, 133, 113, 136, 120, 54, 8, 42, 42, 42, 182, 1, 7, 21, 8] := bL_of (by decide +kernel)
theorem dX12_goMonths_51 : decode cX12_goMonths 51 = .ok (.ldc2_w 396, 3) := dk20 (k := 0) bX12_goMonths_51 rfl rfl
theorem dX12_goMonths_54 : decode cX12_goMonths 54 = .ok (.ldiv, 1) := dk109 (k := 3) bX12_goMonths_51 rfl
theorem dX12_goMonths_55 : decode cX12_goMonths 55 = .ok (.aload_n 0, 1) := dk42 (k := 4) bX12_goMonths_51 rfl
theorem dX12_goMonths_56 : decode cX12_goMonths 56 = .ok (.getfield 9, 3) := dk180 (k := 5) bX12_goMonths_51 rfl rfl
theorem dX12_goMonths_59 : decode cX12_goMonths 59 = .ok (.bipush 6, 2) := dk16 (k := 8) bX12_goMonths_51 rfl (by decide)
theorem dX12_goMonths_61 : decode cX12_goMonths 61 = .ok (.iaload, 1) := dk46 (k := 10) bX12_goMonths_51 rfl
theorem dX12_goMonths_62 : decode cX12_goMonths 62 = .ok (.i2l, 1) := dk133 (k := 11) bX12_goMonths_51 rfl
theorem dX12_goMonths_63 : decode cX12_goMonths 63 = .ok (.lrem, 1) := dk113 (k := 12) bX12_goMonths_51 rfl
theorem dX12_goMonths_64 : decode cX12_goMonths 64 = .ok (.l2i, 1) := dk136 (k := 13) bX12_goMonths_51 rfl
theorem dX12_goMonths_65 : decode cX12_goMonths 65 = .ok (.ishl, 1) := dk120 (k := 14) bX12_goMonths_51 rfl
theorem dX12_goMonths_66 : decode cX12_goMonths 66 = .ok (.istore 8, 2) := dk54 (k := 15) bX12_goMonths_51 rfl rfl
theorem dX12_goMonths_68 : decode cX12_goMonths 68 = .ok (.aload_n 0, 1) := dk42 (k := 17) bX12_goMonths_51 rfl
theorem dX12_goMonths_69 : decode cX12_goMonths 69 = .ok (.aload_n 0, 1) := dk42 (k := 18) bX12_goMonths_51 rfl
theorem dX12_goMonths_70 : decode cX12_goMonths 70 = .ok (.aload_n 0, 1) := dk42 (k := 19) bX12_goMonths_51 rfl
theorem dX12_goMonths_71 : decode cX12_goMonths 71 = .ok (.invokevirtual 263, 3) := dk182 (k := 20) bX12_goMonths_51 rfl rfl
theorem dX12_goMonths_74 : decode cX12_goMonths 74 = .ok (.iload 8, 2) := dk21 (k := 23) bX12_goMonths_51 rfl rfl
theorem bX12_goMonths_76 : bL cX12_goMonths 76 [128, 3, 182, 1, 14, 182, 1, 17, 153, 0, 27, 42, 182, 0, 194, 154, 0, 6, 167, 0, 17, 132, 6, 1] := bL_of (by decide +kernel)
theorem dX12_goMonths_76 : decode cX12_goMonths 76 = .ok (.ior, 1) := dk128 (k := 0) bX12_goMonths_76 rfl
theorem dX12_goMonths_77 : decode cX12_goMonths 77 = .ok (.iconst 0, 1) := dk3 (k := 1) bX12_goMonths_76 rfl
theorem dX12_goMonths_78 : decode cX12_goMonths 78 = .ok (.invokevirtual 270, 3) := dk182 (k := 2) bX12_goMonths_76 rfl rfl
theorem dX12_goMonths_81 : decode cX12_goMonths 81 = .ok (.invokevirtual 273, 3) := dk182 (k := 5) bX12_goMonths_76 rfl rfl
theorem dX12_goMonths_84 : decode cX12_goMonths 84 = .ok (.ifCond .eq 27, 3) := dk153 (k := 8) bX12_goMonths_76 rfl (by decide)
theorem dX12_goMonths_87 : decode cX12_goMonths 87 = .ok (.aload_n 0, 1) := dk42 (k := 11) bX12_goMonths_76 rfl
theorem dX12_goMonths_88 : decode cX12_goMonths 88 = .ok (.invokevirtual 194, 3) := dk182 (k := 12) bX12_goMonths_76 rfl rfl
theorem dX12_goMonths_91 : decode cX12_goMonths 91 = .ok (.ifCond .ne 6, 3) := dk154 (k := 15) bX12_goMonths_76 rfl (by decide)
theorem dX12_goMonths_94 : decode cX12_goMonths 94 = .ok (.goto 17, 3) := dk167 (k := 18) bX12_goMonths_76 rfl (by decide)
theorem dX12_goMonths_97 : decode cX12_goMonths 97 = .ok (.iinc 6 1, 3) := dk132 (k := 21) bX12_goMonths_76 rfl rfl (by decide)
theorem bX12_goMonths_100 : bL cX12_goMonths 100 [42, 42, 180, 0, 9, 8, 46, 182, 0, 197, 87, 132, 7, 1, 167, 255, 155, 21, 6, 172] := bL_of (by decide +kernel)
theorem dX12_goMonths_100 : decode cX12_goMonths 100 = .ok (.aload_n 0, 1) := dk42 (k := 0) bX12_goMonths_100 rfl
theorem dX12_goMonths_101 : decode cX12_goMonths 101 = .ok (.aload_n 0, 1) := dk42 (k := 1) bX12_goMonths_100 rfl
theorem dX12_goMonths_102 : decode cX12_goMonths 102 = .ok (.getfield 9, 3) := dk180 (k := 2) bX12_goMonths_100 rfl rfl
theorem dX12_goMonths_105 : decode cX12_goMonths 105 = .ok (.iconst 5, 1) := dk8 (k := 5) bX12_goMonths_100 rfl
theorem dX12_goMonths_106 : decode cX12_goMonths 106 = .ok (.iaload, 1) := dk46 (k := 6) bX12_goMonths_100 rfl
theorem dX12_goMonths_107 : decode cX12_goMonths 107 = .ok (.invokevirtual 197, 3) := dk182 (k := 7) bX12_goMonths_100 rfl rfl
theorem dX12_goMonths_110 : decode cX12_goMonths 110 = .ok (.pop, 1) := dk87 (k := 10) bX12_goMonths_100 rfl
theorem dX12_goMonths_111 : decode cX12_goMonths 111 = .ok (.iinc 7 1, 3) := dk132 (k := 11) bX12_goMonths_100 rfl rfl (by decide)
theorem dX12_goMonths_114 : decode cX12_goMonths 114 = .ok (.goto (-101), 3) := dk167 (k := 14) bX12_goMonths_100 rfl (by decide)
theorem dX12_goMonths_117 : decode cX12_goMonths 117 = .ok (.iload 6, 2) := dk21 (k := 17) bX12_goMonths_100 rfl rfl
theorem dX12_goMonths_119 : decode cX12_goMonths 119 = .ok (.ireturn, 1) := dk172 (k := 19) bX12_goMonths_100 rfl
theorem bX12_areMonths_0 : bL cX12_areMonths 0 [42, 182, 0, 73, 153, 0, 31, 27, 133, 9, 20, 1, 142, 184, 0, 65, 153, 0, 19, 28, 133, 9, 20, 0, 156] := bL_of (by decide +kernel)
theorem dX12_areMonths_0 : decode cX12_areMonths 0 = .ok (.aload_n 0, 1) := dk42 (k := 0) bX12_areMonths_0 rfl
theorem dX12_areMonths_1 : decode cX12_areMonths 1 = .ok (.invokevirtual 73, 3) := dk182 (k := 1) bX12_areMonths_0 rfl rfl
theorem dX12_areMonths_4 : decode cX12_areMonths 4 = .ok (.ifCond .eq 31, 3) := dk153 (k := 4) bX12_areMonths_0 rfl (by decide)
theorem dX12_areMonths_7 : decode cX12_areMonths 7 = .ok (.iload_n 1, 1) := dk27 (k := 7) bX12_areMonths_0 rfl
theorem dX12_areMonths_8 : decode cX12_areMonths 8 = .ok (.i2l, 1) := dk133 (k := 8) bX12_areMonths_0 rfl
theorem dX12_areMonths_9 : decode cX12_areMonths 9 = .ok (.lconst 0, 1) := dk9 (k := 9) bX12_areMonths_0 rfl
theorem dX12_areMonths_10 : decode cX12_areMonths 10 = .ok (.ldc2_w 398, 3) := dk20 (k := 10) bX12_areMonths_0 rfl rfl
theorem dX12_areMonths_13 : decode cX12_areMonths 13 = .ok (.invokestatic 65, 3) := dk184 (k := 13) bX12_areMonths_0 rfl rfl
theorem dX12_areMonths_16 : decode cX12_areMonths 16 = .ok (.ifCond .eq 19, 3) := dk153 (k := 16) bX12_areMonths_0 rfl (by decide)
theorem dX12_areMonths_19 : decode cX12_areMonths 19 = .ok (.iload_n 2, 1) := dk28 (k := 19) bX12_areMonths_0 rfl
theorem dX12_areMonths_20 : decode cX12_areMonths 20 = .ok (.i2l, 1) := dk133 (k := 20) bX12_areMonths_0 rfl
theorem dX12_areMonths_21 : decode cX12_areMonths 21 = .ok (.lconst 0, 1) := dk9 (k := 21) bX12_areMonths_0 rfl
theorem dX12_areMonths_22 : decode cX12_areMonths 22 = .ok (.ldc2_w 156, 3) := dk20 (k := 22) bX12_areMonths_0 rfl rfl
theorem bX12_areMonths_25 : bL cX12_areMonths 25 [184, 0, 65, 153, 0, 7, 4, 167, 0, 4, 3, 172] := bL_of (by decide +kernel)
theorem dX12_areMonths_25 : decode cX12_areMonths 25 = .ok (.invokestatic 65, 3) := dk184 (k := 0) bX12_areMonths_25 rfl rfl
theorem dX12_areMonths_28 : decode cX12_areMonths 28 = .ok (.ifCond .eq 7, 3) := dk153 (k := 3) bX12_areMonths_25 rfl (by decide)
theorem dX12_areMonths_31 : decode cX12_areMonths 31 = .ok (.iconst 1, 1) := dk4 (k := 6) bX12_areMonths_25 rfl
theorem dX12_areMonths_32 : decode cX12_areMonths 32 = .ok (.goto 4, 3) := dk167 (k := 7) bX12_areMonths_25 rfl (by decide)
theorem dX12_areMonths_35 : decode cX12_areMonths 35 = .ok (.iconst 0, 1) := dk3 (k := 10) bX12_areMonths_25 rfl
theorem dX12_areMonths_36 : decode cX12_areMonths 36 = .ok (.ireturn, 1) := dk172 (k := 11) bX12_areMonths_25 rfl
theorem bX12_drawn_0 : bL cX12_drawn 0 [42, 27, 28, 182, 1, 144, 153, 0, 15, 29, 133, 9, 20, 0, 63, 184, 0, 65, 154, 0, 6, 16, 254, 172] := bL_of (by decide +kernel)
theorem dX12_drawn_0 : decode cX12_drawn 0 = .ok (.aload_n 0, 1) := dk42 (k := 0) bX12_drawn_0 rfl
theorem dX12_drawn_1 : decode cX12_drawn 1 = .ok (.iload_n 1, 1) := dk27 (k := 1) bX12_drawn_0 rfl
theorem dX12_drawn_2 : decode cX12_drawn 2 = .ok (.iload_n 2, 1) := dk28 (k := 2) bX12_drawn_0 rfl
theorem dX12_drawn_3 : decode cX12_drawn 3 = .ok (.invokevirtual 400, 3) := dk182 (k := 3) bX12_drawn_0 rfl rfl
theorem dX12_drawn_6 : decode cX12_drawn 6 = .ok (.ifCond .eq 15, 3) := dk153 (k := 6) bX12_drawn_0 rfl (by decide)
theorem dX12_drawn_9 : decode cX12_drawn 9 = .ok (.iload_n 3, 1) := dk29 (k := 9) bX12_drawn_0 rfl
theorem dX12_drawn_10 : decode cX12_drawn 10 = .ok (.i2l, 1) := dk133 (k := 10) bX12_drawn_0 rfl
theorem dX12_drawn_11 : decode cX12_drawn 11 = .ok (.lconst 0, 1) := dk9 (k := 11) bX12_drawn_0 rfl
theorem dX12_drawn_12 : decode cX12_drawn 12 = .ok (.ldc2_w 63, 3) := dk20 (k := 12) bX12_drawn_0 rfl rfl
theorem dX12_drawn_15 : decode cX12_drawn 15 = .ok (.invokestatic 65, 3) := dk184 (k := 15) bX12_drawn_0 rfl rfl
theorem dX12_drawn_18 : decode cX12_drawn 18 = .ok (.ifCond .ne 6, 3) := dk154 (k := 18) bX12_drawn_0 rfl (by decide)
theorem dX12_drawn_21 : decode cX12_drawn 21 = .ok (.bipush (-2), 2) := dk16 (k := 21) bX12_drawn_0 rfl (by decide)
theorem dX12_drawn_23 : decode cX12_drawn 23 = .ok (.ireturn, 1) := dk172 (k := 23) bX12_drawn_0 rfl
theorem bX12_drawn_24 : bL cX12_drawn 24 [42, 27, 133, 28, 182, 1, 147, 54, 4, 29, 154, 0, 8, 21, 4, 167, 0, 24, 29, 4, 160, 0, 15, 42] := bL_of (by decide +kernel)
theorem dX12_drawn_24 : decode cX12_drawn 24 = .ok (.aload_n 0, 1) := dk42 (k := 0) bX12_drawn_24 rfl
theorem dX12_drawn_25 : decode cX12_drawn 25 = .ok (.iload_n 1, 1) := dk27 (k := 1) bX12_drawn_24 rfl
theorem dX12_drawn_26 : decode cX12_drawn 26 = .ok (.i2l, 1) := dk133 (k := 2) bX12_drawn_24 rfl
theorem dX12_drawn_27 : decode cX12_drawn 27 = .ok (.iload_n 2, 1) := dk28 (k := 3) bX12_drawn_24 rfl
theorem dX12_drawn_28 : decode cX12_drawn 28 = .ok (.invokevirtual 403, 3) := dk182 (k := 4) bX12_drawn_24 rfl rfl
theorem dX12_drawn_31 : decode cX12_drawn 31 = .ok (.istore 4, 2) := dk54 (k := 7) bX12_drawn_24 rfl rfl
theorem dX12_drawn_33 : decode cX12_drawn 33 = .ok (.iload_n 3, 1) := dk29 (k := 9) bX12_drawn_24 rfl
theorem dX12_drawn_34 : decode cX12_drawn 34 = .ok (.ifCond .ne 8, 3) := dk154 (k := 10) bX12_drawn_24 rfl (by decide)
theorem dX12_drawn_37 : decode cX12_drawn 37 = .ok (.iload 4, 2) := dk21 (k := 13) bX12_drawn_24 rfl rfl
theorem dX12_drawn_39 : decode cX12_drawn 39 = .ok (.goto 24, 3) := dk167 (k := 15) bX12_drawn_24 rfl (by decide)
theorem dX12_drawn_42 : decode cX12_drawn 42 = .ok (.iload_n 3, 1) := dk29 (k := 18) bX12_drawn_24 rfl
theorem dX12_drawn_43 : decode cX12_drawn 43 = .ok (.iconst 1, 1) := dk4 (k := 19) bX12_drawn_24 rfl
theorem dX12_drawn_44 : decode cX12_drawn 44 = .ok (.if_icmp .ne 15, 3) := dk160 (k := 20) bX12_drawn_24 rfl (by decide)
theorem dX12_drawn_47 : decode cX12_drawn 47 = .ok (.aload_n 0, 1) := dk42 (k := 23) bX12_drawn_24 rfl
theorem bX12_drawn_48 : bL cX12_drawn 48 [180, 0, 34, 42, 182, 0, 200, 46, 167, 0, 7, 42, 182, 0, 251, 172] := bL_of (by decide +kernel)
theorem dX12_drawn_48 : decode cX12_drawn 48 = .ok (.getfield 34, 3) := dk180 (k := 0) bX12_drawn_48 rfl rfl
theorem dX12_drawn_51 : decode cX12_drawn 51 = .ok (.aload_n 0, 1) := dk42 (k := 3) bX12_drawn_48 rfl
theorem dX12_drawn_52 : decode cX12_drawn 52 = .ok (.invokevirtual 200, 3) := dk182 (k := 4) bX12_drawn_48 rfl rfl
theorem dX12_drawn_55 : decode cX12_drawn 55 = .ok (.iaload, 1) := dk46 (k := 7) bX12_drawn_48 rfl
theorem dX12_drawn_56 : decode cX12_drawn 56 = .ok (.goto 7, 3) := dk167 (k := 8) bX12_drawn_48 rfl (by decide)
theorem dX12_drawn_59 : decode cX12_drawn 59 = .ok (.aload_n 0, 1) := dk42 (k := 11) bX12_drawn_48 rfl
theorem dX12_drawn_60 : decode cX12_drawn 60 = .ok (.invokevirtual 251, 3) := dk182 (k := 12) bX12_drawn_48 rfl rfl
theorem dX12_drawn_63 : decode cX12_drawn 63 = .ok (.ireturn, 1) := dk172 (k := 15) bX12_drawn_48 rfl
theorem bX12_luck_0 : bL cX12_luck 0 [42, 27, 29, 182, 1, 144, 153, 0, 15, 28, 133, 10, 20, 0, 246, 184, 0, 65, 154, 0, 6, 16, 254, 172] := bL_of (by decide +kernel)
theorem dX12_luck_0 : decode cX12_luck 0 = .ok (.aload_n 0, 1) := dk42 (k := 0) bX12_luck_0 rfl
theorem dX12_luck_1 : decode cX12_luck 1 = .ok (.iload_n 1, 1) := dk27 (k := 1) bX12_luck_0 rfl
theorem dX12_luck_2 : decode cX12_luck 2 = .ok (.iload_n 3, 1) := dk29 (k := 2) bX12_luck_0 rfl
theorem dX12_luck_3 : decode cX12_luck 3 = .ok (.invokevirtual 400, 3) := dk182 (k := 3) bX12_luck_0 rfl rfl
theorem dX12_luck_6 : decode cX12_luck 6 = .ok (.ifCond .eq 15, 3) := dk153 (k := 6) bX12_luck_0 rfl (by decide)
theorem dX12_luck_9 : decode cX12_luck 9 = .ok (.iload_n 2, 1) := dk28 (k := 9) bX12_luck_0 rfl
theorem dX12_luck_10 : decode cX12_luck 10 = .ok (.i2l, 1) := dk133 (k := 10) bX12_luck_0 rfl
theorem dX12_luck_11 : decode cX12_luck 11 = .ok (.lconst 1, 1) := dk10 (k := 11) bX12_luck_0 rfl
theorem dX12_luck_12 : decode cX12_luck 12 = .ok (.ldc2_w 246, 3) := dk20 (k := 12) bX12_luck_0 rfl rfl
theorem dX12_luck_15 : decode cX12_luck 15 = .ok (.invokestatic 65, 3) := dk184 (k := 15) bX12_luck_0 rfl rfl
theorem dX12_luck_18 : decode cX12_luck 18 = .ok (.ifCond .ne 6, 3) := dk154 (k := 18) bX12_luck_0 rfl (by decide)
theorem dX12_luck_21 : decode cX12_luck 21 = .ok (.bipush (-2), 2) := dk16 (k := 21) bX12_luck_0 rfl (by decide)
theorem dX12_luck_23 : decode cX12_luck 23 = .ok (.ireturn, 1) := dk172 (k := 23) bX12_luck_0 rfl
theorem bX12_luck_24 : bL cX12_luck 24 [3, 54, 4, 3, 54, 5, 21, 5, 28, 162, 0, 33, 21, 4, 42, 27, 133, 21, 5, 133, 97, 29, 182, 1, 147] := bL_of (by decide +kernel)
theorem dX12_luck_24 : decode cX12_luck 24 = .ok (.iconst 0, 1) := dk3 (k := 0) bX12_luck_24 rfl
theorem dX12_luck_25 : decode cX12_luck 25 = .ok (.istore 4, 2) := dk54 (k := 1) bX12_luck_24 rfl rfl
theorem dX12_luck_27 : decode cX12_luck 27 = .ok (.iconst 0, 1) := dk3 (k := 3) bX12_luck_24 rfl
theorem dX12_luck_28 : decode cX12_luck 28 = .ok (.istore 5, 2) := dk54 (k := 4) bX12_luck_24 rfl rfl
theorem dX12_luck_30 : decode cX12_luck 30 = .ok (.iload 5, 2) := dk21 (k := 6) bX12_luck_24 rfl rfl
theorem dX12_luck_32 : decode cX12_luck 32 = .ok (.iload_n 2, 1) := dk28 (k := 8) bX12_luck_24 rfl
theorem dX12_luck_33 : decode cX12_luck 33 = .ok (.if_icmp .ge 33, 3) := dk162 (k := 9) bX12_luck_24 rfl (by decide)
theorem dX12_luck_36 : decode cX12_luck 36 = .ok (.iload 4, 2) := dk21 (k := 12) bX12_luck_24 rfl rfl
theorem dX12_luck_38 : decode cX12_luck 38 = .ok (.aload_n 0, 1) := dk42 (k := 14) bX12_luck_24 rfl
theorem dX12_luck_39 : decode cX12_luck 39 = .ok (.iload_n 1, 1) := dk27 (k := 15) bX12_luck_24 rfl
theorem dX12_luck_40 : decode cX12_luck 40 = .ok (.i2l, 1) := dk133 (k := 16) bX12_luck_24 rfl
theorem dX12_luck_41 : decode cX12_luck 41 = .ok (.iload 5, 2) := dk21 (k := 17) bX12_luck_24 rfl rfl
theorem dX12_luck_43 : decode cX12_luck 43 = .ok (.i2l, 1) := dk133 (k := 19) bX12_luck_24 rfl
theorem dX12_luck_44 : decode cX12_luck 44 = .ok (.ladd, 1) := dk97 (k := 20) bX12_luck_24 rfl
theorem dX12_luck_45 : decode cX12_luck 45 = .ok (.iload_n 3, 1) := dk29 (k := 21) bX12_luck_24 rfl
theorem dX12_luck_46 : decode cX12_luck 46 = .ok (.invokevirtual 403, 3) := dk182 (k := 22) bX12_luck_24 rfl rfl
theorem bX12_luck_49 : bL cX12_luck 49 [158, 0, 7, 4, 167, 0, 4, 3, 96, 54, 4, 132, 5, 1, 167, 255, 223, 21, 4, 172] := bL_of (by decide +kernel)
theorem dX12_luck_49 : decode cX12_luck 49 = .ok (.ifCond .le 7, 3) := dk158 (k := 0) bX12_luck_49 rfl (by decide)
theorem dX12_luck_52 : decode cX12_luck 52 = .ok (.iconst 1, 1) := dk4 (k := 3) bX12_luck_49 rfl
theorem dX12_luck_53 : decode cX12_luck 53 = .ok (.goto 4, 3) := dk167 (k := 4) bX12_luck_49 rfl (by decide)
theorem dX12_luck_56 : decode cX12_luck 56 = .ok (.iconst 0, 1) := dk3 (k := 7) bX12_luck_49 rfl
theorem dX12_luck_57 : decode cX12_luck 57 = .ok (.iadd, 1) := dk96 (k := 8) bX12_luck_49 rfl
theorem dX12_luck_58 : decode cX12_luck 58 = .ok (.istore 4, 2) := dk54 (k := 9) bX12_luck_49 rfl rfl
theorem dX12_luck_60 : decode cX12_luck 60 = .ok (.iinc 5 1, 3) := dk132 (k := 11) bX12_luck_49 rfl rfl (by decide)
theorem dX12_luck_63 : decode cX12_luck 63 = .ok (.goto (-33), 3) := dk167 (k := 14) bX12_luck_49 rfl (by decide)
theorem dX12_luck_66 : decode cX12_luck 66 = .ok (.iload 4, 2) := dk21 (k := 17) bX12_luck_49 rfl rfl
theorem dX12_luck_68 : decode cX12_luck 68 = .ok (.ireturn, 1) := dk172 (k := 19) bX12_luck_49 rfl
theorem bX12_tell_0 : bL cX12_tell 0 [42, 27, 182, 1, 93, 154, 0, 6, 16, 254, 172, 42, 180, 0, 9, 16, 8, 46, 158, 0, 6, 16, 251, 172] := bL_of (by decide +kernel)
theorem dX12_tell_0 : decode cX12_tell 0 = .ok (.aload_n 0, 1) := dk42 (k := 0) bX12_tell_0 rfl
theorem dX12_tell_1 : decode cX12_tell 1 = .ok (.iload_n 1, 1) := dk27 (k := 1) bX12_tell_0 rfl
theorem dX12_tell_2 : decode cX12_tell 2 = .ok (.invokevirtual 349, 3) := dk182 (k := 2) bX12_tell_0 rfl rfl
theorem dX12_tell_5 : decode cX12_tell 5 = .ok (.ifCond .ne 6, 3) := dk154 (k := 5) bX12_tell_0 rfl (by decide)
theorem dX12_tell_8 : decode cX12_tell 8 = .ok (.bipush (-2), 2) := dk16 (k := 8) bX12_tell_0 rfl (by decide)
theorem dX12_tell_10 : decode cX12_tell 10 = .ok (.ireturn, 1) := dk172 (k := 10) bX12_tell_0 rfl
theorem dX12_tell_11 : decode cX12_tell 11 = .ok (.aload_n 0, 1) := dk42 (k := 11) bX12_tell_0 rfl
theorem dX12_tell_12 : decode cX12_tell 12 = .ok (.getfield 9, 3) := dk180 (k := 12) bX12_tell_0 rfl rfl
theorem dX12_tell_15 : decode cX12_tell 15 = .ok (.bipush 8, 2) := dk16 (k := 15) bX12_tell_0 rfl (by decide)
theorem dX12_tell_17 : decode cX12_tell 17 = .ok (.iaload, 1) := dk46 (k := 17) bX12_tell_0 rfl
theorem dX12_tell_18 : decode cX12_tell 18 = .ok (.ifCond .le 6, 3) := dk158 (k := 18) bX12_tell_0 rfl (by decide)
theorem dX12_tell_21 : decode cX12_tell 21 = .ok (.bipush (-5), 2) := dk16 (k := 21) bX12_tell_0 rfl (by decide)
theorem dX12_tell_23 : decode cX12_tell 23 = .ok (.ireturn, 1) := dk172 (k := 23) bX12_tell_0 rfl
theorem bX12_tell_24 : bL cX12_tell 24 [42, 180, 0, 9, 6, 46, 61, 42, 180, 0, 9, 6, 27, 79, 28, 172] := bL_of (by decide +kernel)
theorem dX12_tell_24 : decode cX12_tell 24 = .ok (.aload_n 0, 1) := dk42 (k := 0) bX12_tell_24 rfl
theorem dX12_tell_25 : decode cX12_tell 25 = .ok (.getfield 9, 3) := dk180 (k := 1) bX12_tell_24 rfl rfl
theorem dX12_tell_28 : decode cX12_tell 28 = .ok (.iconst 3, 1) := dk6 (k := 4) bX12_tell_24 rfl
theorem dX12_tell_29 : decode cX12_tell 29 = .ok (.iaload, 1) := dk46 (k := 5) bX12_tell_24 rfl
theorem dX12_tell_30 : decode cX12_tell 30 = .ok (.istore_n 2, 1) := dk61 (k := 6) bX12_tell_24 rfl
theorem dX12_tell_31 : decode cX12_tell 31 = .ok (.aload_n 0, 1) := dk42 (k := 7) bX12_tell_24 rfl
theorem dX12_tell_32 : decode cX12_tell 32 = .ok (.getfield 9, 3) := dk180 (k := 8) bX12_tell_24 rfl rfl
theorem dX12_tell_35 : decode cX12_tell 35 = .ok (.iconst 3, 1) := dk6 (k := 11) bX12_tell_24 rfl
theorem dX12_tell_36 : decode cX12_tell 36 = .ok (.iload_n 1, 1) := dk27 (k := 12) bX12_tell_24 rfl
theorem dX12_tell_37 : decode cX12_tell 37 = .ok (.iastore, 1) := dk79 (k := 13) bX12_tell_24 rfl
theorem dX12_tell_38 : decode cX12_tell 38 = .ok (.iload_n 2, 1) := dk28 (k := 14) bX12_tell_24 rfl
theorem dX12_tell_39 : decode cX12_tell 39 = .ok (.ireturn, 1) := dk172 (k := 15) bX12_tell_24 rfl
theorem bX12_likes_0 : bL cX12_likes 0 [42, 27, 133, 182, 0, 235, 153, 0, 27, 28, 133, 9, 20, 0, 63, 184, 0, 65, 153, 0, 15, 29, 133, 9] := bL_of (by decide +kernel)
theorem dX12_likes_0 : decode cX12_likes 0 = .ok (.aload_n 0, 1) := dk42 (k := 0) bX12_likes_0 rfl
theorem dX12_likes_1 : decode cX12_likes 1 = .ok (.iload_n 1, 1) := dk27 (k := 1) bX12_likes_0 rfl
theorem dX12_likes_2 : decode cX12_likes 2 = .ok (.i2l, 1) := dk133 (k := 2) bX12_likes_0 rfl
theorem dX12_likes_3 : decode cX12_likes 3 = .ok (.invokevirtual 235, 3) := dk182 (k := 3) bX12_likes_0 rfl rfl
theorem dX12_likes_6 : decode cX12_likes 6 = .ok (.ifCond .eq 27, 3) := dk153 (k := 6) bX12_likes_0 rfl (by decide)
theorem dX12_likes_9 : decode cX12_likes 9 = .ok (.iload_n 2, 1) := dk28 (k := 9) bX12_likes_0 rfl
theorem dX12_likes_10 : decode cX12_likes 10 = .ok (.i2l, 1) := dk133 (k := 10) bX12_likes_0 rfl
theorem dX12_likes_11 : decode cX12_likes 11 = .ok (.lconst 0, 1) := dk9 (k := 11) bX12_likes_0 rfl
theorem dX12_likes_12 : decode cX12_likes 12 = .ok (.ldc2_w 63, 3) := dk20 (k := 12) bX12_likes_0 rfl rfl
theorem dX12_likes_15 : decode cX12_likes 15 = .ok (.invokestatic 65, 3) := dk184 (k := 15) bX12_likes_0 rfl rfl
theorem dX12_likes_18 : decode cX12_likes 18 = .ok (.ifCond .eq 15, 3) := dk153 (k := 18) bX12_likes_0 rfl (by decide)
theorem dX12_likes_21 : decode cX12_likes 21 = .ok (.iload_n 3, 1) := dk29 (k := 21) bX12_likes_0 rfl
theorem dX12_likes_22 : decode cX12_likes 22 = .ok (.i2l, 1) := dk133 (k := 22) bX12_likes_0 rfl
theorem dX12_likes_23 : decode cX12_likes 23 = .ok (.lconst 0, 1) := dk9 (k := 23) bX12_likes_0 rfl
theorem bX12_likes_24 : bL cX12_likes 24 [20, 0, 71, 184, 0, 65, 154, 0, 6, 16, 254, 172, 42, 180, 0, 9, 16, 8, 46, 158, 0, 6, 16, 251] := bL_of (by decide +kernel)
theorem dX12_likes_24 : decode cX12_likes 24 = .ok (.ldc2_w 71, 3) := dk20 (k := 0) bX12_likes_24 rfl rfl
theorem dX12_likes_27 : decode cX12_likes 27 = .ok (.invokestatic 65, 3) := dk184 (k := 3) bX12_likes_24 rfl rfl
theorem dX12_likes_30 : decode cX12_likes 30 = .ok (.ifCond .ne 6, 3) := dk154 (k := 6) bX12_likes_24 rfl (by decide)
theorem dX12_likes_33 : decode cX12_likes 33 = .ok (.bipush (-2), 2) := dk16 (k := 9) bX12_likes_24 rfl (by decide)
theorem dX12_likes_35 : decode cX12_likes 35 = .ok (.ireturn, 1) := dk172 (k := 11) bX12_likes_24 rfl
theorem dX12_likes_36 : decode cX12_likes 36 = .ok (.aload_n 0, 1) := dk42 (k := 12) bX12_likes_24 rfl
theorem dX12_likes_37 : decode cX12_likes 37 = .ok (.getfield 9, 3) := dk180 (k := 13) bX12_likes_24 rfl rfl
theorem dX12_likes_40 : decode cX12_likes 40 = .ok (.bipush 8, 2) := dk16 (k := 16) bX12_likes_24 rfl (by decide)
theorem dX12_likes_42 : decode cX12_likes 42 = .ok (.iaload, 1) := dk46 (k := 18) bX12_likes_24 rfl
theorem dX12_likes_43 : decode cX12_likes 43 = .ok (.ifCond .le 6, 3) := dk158 (k := 19) bX12_likes_24 rfl (by decide)
theorem dX12_likes_46 : decode cX12_likes 46 = .ok (.bipush (-5), 2) := dk16 (k := 22) bX12_likes_24 rfl (by decide)
theorem bX12_likes_48 : bL cX12_likes 48 [172, 16, 19, 16, 7, 27, 104, 96, 5, 96, 28, 96, 54, 4, 42, 180, 0, 9, 21, 4, 46, 54, 5, 42] := bL_of (by decide +kernel)
theorem dX12_likes_48 : decode cX12_likes 48 = .ok (.ireturn, 1) := dk172 (k := 0) bX12_likes_48 rfl
theorem dX12_likes_49 : decode cX12_likes 49 = .ok (.bipush 19, 2) := dk16 (k := 1) bX12_likes_48 rfl (by decide)
theorem dX12_likes_51 : decode cX12_likes 51 = .ok (.bipush 7, 2) := dk16 (k := 3) bX12_likes_48 rfl (by decide)
theorem dX12_likes_53 : decode cX12_likes 53 = .ok (.iload_n 1, 1) := dk27 (k := 5) bX12_likes_48 rfl
theorem dX12_likes_54 : decode cX12_likes 54 = .ok (.imul, 1) := dk104 (k := 6) bX12_likes_48 rfl
theorem dX12_likes_55 : decode cX12_likes 55 = .ok (.iadd, 1) := dk96 (k := 7) bX12_likes_48 rfl
theorem dX12_likes_56 : decode cX12_likes 56 = .ok (.iconst 2, 1) := dk5 (k := 8) bX12_likes_48 rfl
theorem dX12_likes_57 : decode cX12_likes 57 = .ok (.iadd, 1) := dk96 (k := 9) bX12_likes_48 rfl
theorem dX12_likes_58 : decode cX12_likes 58 = .ok (.iload_n 2, 1) := dk28 (k := 10) bX12_likes_48 rfl
theorem dX12_likes_59 : decode cX12_likes 59 = .ok (.iadd, 1) := dk96 (k := 11) bX12_likes_48 rfl
theorem dX12_likes_60 : decode cX12_likes 60 = .ok (.istore 4, 2) := dk54 (k := 12) bX12_likes_48 rfl rfl
theorem dX12_likes_62 : decode cX12_likes 62 = .ok (.aload_n 0, 1) := dk42 (k := 14) bX12_likes_48 rfl
theorem dX12_likes_63 : decode cX12_likes 63 = .ok (.getfield 9, 3) := dk180 (k := 15) bX12_likes_48 rfl rfl
theorem dX12_likes_66 : decode cX12_likes 66 = .ok (.iload 4, 2) := dk21 (k := 18) bX12_likes_48 rfl rfl
theorem dX12_likes_68 : decode cX12_likes 68 = .ok (.iaload, 1) := dk46 (k := 20) bX12_likes_48 rfl
theorem dX12_likes_69 : decode cX12_likes 69 = .ok (.istore 5, 2) := dk54 (k := 21) bX12_likes_48 rfl rfl
theorem dX12_likes_71 : decode cX12_likes 71 = .ok (.aload_n 0, 1) := dk42 (k := 23) bX12_likes_48 rfl
theorem bX12_likes_72 : bL cX12_likes 72 [180, 0, 9, 21, 4, 29, 79, 21, 5, 172] := bL_of (by decide +kernel)
theorem dX12_likes_72 : decode cX12_likes 72 = .ok (.getfield 9, 3) := dk180 (k := 0) bX12_likes_72 rfl rfl
theorem dX12_likes_75 : decode cX12_likes 75 = .ok (.iload 4, 2) := dk21 (k := 3) bX12_likes_72 rfl rfl
theorem dX12_likes_77 : decode cX12_likes 77 = .ok (.iload_n 3, 1) := dk29 (k := 5) bX12_likes_72 rfl
theorem dX12_likes_78 : decode cX12_likes 78 = .ok (.iastore, 1) := dk79 (k := 6) bX12_likes_72 rfl
theorem dX12_likes_79 : decode cX12_likes 79 = .ok (.iload 5, 2) := dk21 (k := 7) bX12_likes_72 rfl rfl
theorem dX12_likes_81 : decode cX12_likes 81 = .ok (.ireturn, 1) := dk172 (k := 9) bX12_likes_72 rfl
theorem bX12_count_0 : bL cX12_count 0 [3, 61, 27] := bL_of (by decide +kernel)
theorem dX12_count_0 : decode cX12_count 0 = .ok (.iconst 0, 1) := dk3 (k := 0) bX12_count_0 rfl
theorem dX12_count_1 : decode cX12_count 1 = .ok (.istore_n 2, 1) := dk61 (k := 1) bX12_count_0 rfl
theorem dX12_count_2 : decode cX12_count 2 = .ok (.iload_n 1, 1) := dk27 (k := 2) bX12_count_0 rfl
theorem dX12_count_3 : decode cX12_count 3 = .ok (.tableswitch 150 0 9 #[53, 60, 68, 75, 82, 89, 96, 104, 109, 117], 53) := by decide +kernel
theorem bX12_count_56 : bL cX12_count 56 [42, 180, 0, 9, 3, 46, 172, 42, 180, 0, 9, 16, 6, 46, 172, 42, 180, 0, 9, 4, 46, 172, 42, 180, 0, 9] := bL_of (by decide +kernel)
theorem dX12_count_56 : decode cX12_count 56 = .ok (.aload_n 0, 1) := dk42 (k := 0) bX12_count_56 rfl
theorem dX12_count_57 : decode cX12_count 57 = .ok (.getfield 9, 3) := dk180 (k := 1) bX12_count_56 rfl rfl
theorem dX12_count_60 : decode cX12_count 60 = .ok (.iconst 0, 1) := dk3 (k := 4) bX12_count_56 rfl
theorem dX12_count_61 : decode cX12_count 61 = .ok (.iaload, 1) := dk46 (k := 5) bX12_count_56 rfl
theorem dX12_count_62 : decode cX12_count 62 = .ok (.ireturn, 1) := dk172 (k := 6) bX12_count_56 rfl
theorem dX12_count_63 : decode cX12_count 63 = .ok (.aload_n 0, 1) := dk42 (k := 7) bX12_count_56 rfl
theorem dX12_count_64 : decode cX12_count 64 = .ok (.getfield 9, 3) := dk180 (k := 8) bX12_count_56 rfl rfl
theorem dX12_count_67 : decode cX12_count 67 = .ok (.bipush 6, 2) := dk16 (k := 11) bX12_count_56 rfl (by decide)
theorem dX12_count_69 : decode cX12_count 69 = .ok (.iaload, 1) := dk46 (k := 13) bX12_count_56 rfl
theorem dX12_count_70 : decode cX12_count 70 = .ok (.ireturn, 1) := dk172 (k := 14) bX12_count_56 rfl
theorem dX12_count_71 : decode cX12_count 71 = .ok (.aload_n 0, 1) := dk42 (k := 15) bX12_count_56 rfl
theorem dX12_count_72 : decode cX12_count 72 = .ok (.getfield 9, 3) := dk180 (k := 16) bX12_count_56 rfl rfl
theorem dX12_count_75 : decode cX12_count 75 = .ok (.iconst 1, 1) := dk4 (k := 19) bX12_count_56 rfl
theorem dX12_count_76 : decode cX12_count 76 = .ok (.iaload, 1) := dk46 (k := 20) bX12_count_56 rfl
theorem dX12_count_77 : decode cX12_count 77 = .ok (.ireturn, 1) := dk172 (k := 21) bX12_count_56 rfl
theorem dX12_count_78 : decode cX12_count 78 = .ok (.aload_n 0, 1) := dk42 (k := 22) bX12_count_56 rfl
theorem dX12_count_79 : decode cX12_count 79 = .ok (.getfield 9, 3) := dk180 (k := 23) bX12_count_56 rfl rfl
theorem bX12_count_82 : bL cX12_count 82 [5, 46, 172, 42, 180, 0, 9, 6, 46, 172, 42, 180, 0, 9, 8, 46, 172, 42, 180, 0, 9, 16, 7, 46] := bL_of (by decide +kernel)
theorem dX12_count_82 : decode cX12_count 82 = .ok (.iconst 2, 1) := dk5 (k := 0) bX12_count_82 rfl
theorem dX12_count_83 : decode cX12_count 83 = .ok (.iaload, 1) := dk46 (k := 1) bX12_count_82 rfl
theorem dX12_count_84 : decode cX12_count 84 = .ok (.ireturn, 1) := dk172 (k := 2) bX12_count_82 rfl
theorem dX12_count_85 : decode cX12_count 85 = .ok (.aload_n 0, 1) := dk42 (k := 3) bX12_count_82 rfl
theorem dX12_count_86 : decode cX12_count 86 = .ok (.getfield 9, 3) := dk180 (k := 4) bX12_count_82 rfl rfl
theorem dX12_count_89 : decode cX12_count 89 = .ok (.iconst 3, 1) := dk6 (k := 7) bX12_count_82 rfl
theorem dX12_count_90 : decode cX12_count 90 = .ok (.iaload, 1) := dk46 (k := 8) bX12_count_82 rfl
theorem dX12_count_91 : decode cX12_count 91 = .ok (.ireturn, 1) := dk172 (k := 9) bX12_count_82 rfl
theorem dX12_count_92 : decode cX12_count 92 = .ok (.aload_n 0, 1) := dk42 (k := 10) bX12_count_82 rfl
theorem dX12_count_93 : decode cX12_count 93 = .ok (.getfield 9, 3) := dk180 (k := 11) bX12_count_82 rfl rfl
theorem dX12_count_96 : decode cX12_count 96 = .ok (.iconst 5, 1) := dk8 (k := 14) bX12_count_82 rfl
theorem dX12_count_97 : decode cX12_count 97 = .ok (.iaload, 1) := dk46 (k := 15) bX12_count_82 rfl
theorem dX12_count_98 : decode cX12_count 98 = .ok (.ireturn, 1) := dk172 (k := 16) bX12_count_82 rfl
theorem dX12_count_99 : decode cX12_count 99 = .ok (.aload_n 0, 1) := dk42 (k := 17) bX12_count_82 rfl
theorem dX12_count_100 : decode cX12_count 100 = .ok (.getfield 9, 3) := dk180 (k := 18) bX12_count_82 rfl rfl
theorem dX12_count_103 : decode cX12_count 103 = .ok (.bipush 7, 2) := dk16 (k := 21) bX12_count_82 rfl (by decide)
theorem dX12_count_105 : decode cX12_count 105 = .ok (.iaload, 1) := dk46 (k := 23) bX12_count_82 rfl
theorem bX12_count_106 : bL cX12_count 106 [172, 42, 180, 0, 81, 172, 42, 180, 0, 9, 16, 8, 46, 172, 3, 62, 29, 7, 162, 0, 27, 28, 42, 180, 0, 47] := bL_of (by decide +kernel)
theorem dX12_count_106 : decode cX12_count 106 = .ok (.ireturn, 1) := dk172 (k := 0) bX12_count_106 rfl
theorem dX12_count_107 : decode cX12_count 107 = .ok (.aload_n 0, 1) := dk42 (k := 1) bX12_count_106 rfl
theorem dX12_count_108 : decode cX12_count 108 = .ok (.getfield 81, 3) := dk180 (k := 2) bX12_count_106 rfl rfl
theorem dX12_count_111 : decode cX12_count 111 = .ok (.ireturn, 1) := dk172 (k := 5) bX12_count_106 rfl
theorem dX12_count_112 : decode cX12_count 112 = .ok (.aload_n 0, 1) := dk42 (k := 6) bX12_count_106 rfl
theorem dX12_count_113 : decode cX12_count 113 = .ok (.getfield 9, 3) := dk180 (k := 7) bX12_count_106 rfl rfl
theorem dX12_count_116 : decode cX12_count 116 = .ok (.bipush 8, 2) := dk16 (k := 10) bX12_count_106 rfl (by decide)
theorem dX12_count_118 : decode cX12_count 118 = .ok (.iaload, 1) := dk46 (k := 12) bX12_count_106 rfl
theorem dX12_count_119 : decode cX12_count 119 = .ok (.ireturn, 1) := dk172 (k := 13) bX12_count_106 rfl
theorem dX12_count_120 : decode cX12_count 120 = .ok (.iconst 0, 1) := dk3 (k := 14) bX12_count_106 rfl
theorem dX12_count_121 : decode cX12_count 121 = .ok (.istore_n 3, 1) := dk62 (k := 15) bX12_count_106 rfl
theorem dX12_count_122 : decode cX12_count 122 = .ok (.iload_n 3, 1) := dk29 (k := 16) bX12_count_106 rfl
theorem dX12_count_123 : decode cX12_count 123 = .ok (.iconst 4, 1) := dk7 (k := 17) bX12_count_106 rfl
theorem dX12_count_124 : decode cX12_count 124 = .ok (.if_icmp .ge 27, 3) := dk162 (k := 18) bX12_count_106 rfl (by decide)
theorem dX12_count_127 : decode cX12_count 127 = .ok (.iload_n 2, 1) := dk28 (k := 21) bX12_count_106 rfl
theorem dX12_count_128 : decode cX12_count 128 = .ok (.aload_n 0, 1) := dk42 (k := 22) bX12_count_106 rfl
theorem dX12_count_129 : decode cX12_count 129 = .ok (.getfield 47, 3) := dk180 (k := 23) bX12_count_106 rfl rfl
theorem bX12_count_132 : bL cX12_count 132 [29, 46, 2, 160, 0, 7, 3, 167, 0, 4, 4, 96, 61, 132, 3, 1, 167, 255, 230, 28, 172, 2, 172] := bL_of (by decide +kernel)
theorem dX12_count_132 : decode cX12_count 132 = .ok (.iload_n 3, 1) := dk29 (k := 0) bX12_count_132 rfl
theorem dX12_count_133 : decode cX12_count 133 = .ok (.iaload, 1) := dk46 (k := 1) bX12_count_132 rfl
theorem dX12_count_134 : decode cX12_count 134 = .ok (.iconst (-1), 1) := dk2 (k := 2) bX12_count_132 rfl
theorem dX12_count_135 : decode cX12_count 135 = .ok (.if_icmp .ne 7, 3) := dk160 (k := 3) bX12_count_132 rfl (by decide)
theorem dX12_count_138 : decode cX12_count 138 = .ok (.iconst 0, 1) := dk3 (k := 6) bX12_count_132 rfl
theorem dX12_count_139 : decode cX12_count 139 = .ok (.goto 4, 3) := dk167 (k := 7) bX12_count_132 rfl (by decide)
theorem dX12_count_142 : decode cX12_count 142 = .ok (.iconst 1, 1) := dk4 (k := 10) bX12_count_132 rfl
theorem dX12_count_143 : decode cX12_count 143 = .ok (.iadd, 1) := dk96 (k := 11) bX12_count_132 rfl
theorem dX12_count_144 : decode cX12_count 144 = .ok (.istore_n 2, 1) := dk61 (k := 12) bX12_count_132 rfl
theorem dX12_count_145 : decode cX12_count 145 = .ok (.iinc 3 1, 3) := dk132 (k := 13) bX12_count_132 rfl rfl (by decide)
theorem dX12_count_148 : decode cX12_count 148 = .ok (.goto (-26), 3) := dk167 (k := 16) bX12_count_132 rfl (by decide)
theorem dX12_count_151 : decode cX12_count 151 = .ok (.iload_n 2, 1) := dk28 (k := 19) bX12_count_132 rfl
theorem dX12_count_152 : decode cX12_count 152 = .ok (.ireturn, 1) := dk172 (k := 20) bX12_count_132 rfl
theorem dX12_count_153 : decode cX12_count 153 = .ok (.iconst (-1), 1) := dk2 (k := 21) bX12_count_132 rfl
theorem dX12_count_154 : decode cX12_count 154 = .ok (.ireturn, 1) := dk172 (k := 22) bX12_count_132 rfl
theorem bX12_isSlot_0 : bL cX12_isSlot 0 [26, 133, 9, 20, 1, 86, 184, 0, 65, 172] := bL_of (by decide +kernel)
theorem dX12_isSlot_0 : decode cX12_isSlot 0 = .ok (.iload_n 0, 1) := dk26 (k := 0) bX12_isSlot_0 rfl
theorem dX12_isSlot_1 : decode cX12_isSlot 1 = .ok (.i2l, 1) := dk133 (k := 1) bX12_isSlot_0 rfl
theorem dX12_isSlot_2 : decode cX12_isSlot 2 = .ok (.lconst 0, 1) := dk9 (k := 2) bX12_isSlot_0 rfl
theorem dX12_isSlot_3 : decode cX12_isSlot 3 = .ok (.ldc2_w 342, 3) := dk20 (k := 3) bX12_isSlot_0 rfl rfl
theorem dX12_isSlot_6 : decode cX12_isSlot 6 = .ok (.invokestatic 65, 3) := dk184 (k := 6) bX12_isSlot_0 rfl rfl
theorem dX12_isSlot_9 : decode cX12_isSlot 9 = .ok (.ireturn, 1) := dk172 (k := 9) bX12_isSlot_0 rfl
theorem bX12_cut_0 : bL cX12_cut 0 [16, 64, 16, 8, 28, 120, 100, 62, 30, 29, 121, 29, 123, 173] := bL_of (by decide +kernel)
theorem dX12_cut_0 : decode cX12_cut 0 = .ok (.bipush 64, 2) := dk16 (k := 0) bX12_cut_0 rfl (by decide)
theorem dX12_cut_2 : decode cX12_cut 2 = .ok (.bipush 8, 2) := dk16 (k := 2) bX12_cut_0 rfl (by decide)
theorem dX12_cut_4 : decode cX12_cut 4 = .ok (.iload_n 2, 1) := dk28 (k := 4) bX12_cut_0 rfl
theorem dX12_cut_5 : decode cX12_cut 5 = .ok (.ishl, 1) := dk120 (k := 5) bX12_cut_0 rfl
theorem dX12_cut_6 : decode cX12_cut 6 = .ok (.isub, 1) := dk100 (k := 6) bX12_cut_0 rfl
theorem dX12_cut_7 : decode cX12_cut 7 = .ok (.istore_n 3, 1) := dk62 (k := 7) bX12_cut_0 rfl
theorem dX12_cut_8 : decode cX12_cut 8 = .ok (.lload_n 0, 1) := dk30 (k := 8) bX12_cut_0 rfl
theorem dX12_cut_9 : decode cX12_cut 9 = .ok (.iload_n 3, 1) := dk29 (k := 9) bX12_cut_0 rfl
theorem dX12_cut_10 : decode cX12_cut 10 = .ok (.lshl, 1) := dk121 (k := 10) bX12_cut_0 rfl
theorem dX12_cut_11 : decode cX12_cut 11 = .ok (.iload_n 3, 1) := dk29 (k := 11) bX12_cut_0 rfl
theorem dX12_cut_12 : decode cX12_cut 12 = .ok (.lshr, 1) := dk123 (k := 12) bX12_cut_0 rfl
theorem dX12_cut_13 : decode cX12_cut 13 = .ok (.lreturn, 1) := dk173 (k := 13) bX12_cut_0 rfl
theorem bX12_row_0 : bL cX12_row 0 [27, 184, 1, 101, 153, 0, 21, 28, 133, 9, 20, 1, 86, 184, 0, 65, 153, 0, 9, 29, 16, 60, 164, 0, 6] := bL_of (by decide +kernel)
theorem dX12_row_0 : decode cX12_row 0 = .ok (.iload_n 1, 1) := dk27 (k := 0) bX12_row_0 rfl
theorem dX12_row_1 : decode cX12_row 1 = .ok (.invokestatic 357, 3) := dk184 (k := 1) bX12_row_0 rfl rfl
theorem dX12_row_4 : decode cX12_row 4 = .ok (.ifCond .eq 21, 3) := dk153 (k := 4) bX12_row_0 rfl (by decide)
theorem dX12_row_7 : decode cX12_row 7 = .ok (.iload_n 2, 1) := dk28 (k := 7) bX12_row_0 rfl
theorem dX12_row_8 : decode cX12_row 8 = .ok (.i2l, 1) := dk133 (k := 8) bX12_row_0 rfl
theorem dX12_row_9 : decode cX12_row 9 = .ok (.lconst 0, 1) := dk9 (k := 9) bX12_row_0 rfl
theorem dX12_row_10 : decode cX12_row 10 = .ok (.ldc2_w 342, 3) := dk20 (k := 10) bX12_row_0 rfl rfl
theorem dX12_row_13 : decode cX12_row 13 = .ok (.invokestatic 65, 3) := dk184 (k := 13) bX12_row_0 rfl rfl
theorem dX12_row_16 : decode cX12_row 16 = .ok (.ifCond .eq 9, 3) := dk153 (k := 16) bX12_row_0 rfl (by decide)
theorem dX12_row_19 : decode cX12_row 19 = .ok (.iload_n 3, 1) := dk29 (k := 19) bX12_row_0 rfl
theorem dX12_row_20 : decode cX12_row 20 = .ok (.bipush 60, 2) := dk16 (k := 20) bX12_row_0 rfl (by decide)
theorem dX12_row_22 : decode cX12_row 22 = .ok (.if_icmp .le 6, 3) := dk164 (k := 22) bX12_row_0 rfl (by decide)
theorem bX12_row_25 : bL cX12_row 25 [16, 254, 172, 29, 156, 0, 6, 16, 253, 172, 42, 180, 0, 47, 27, 29, 79, 42, 180, 0, 50, 27, 28, 79] := bL_of (by decide +kernel)
theorem dX12_row_25 : decode cX12_row 25 = .ok (.bipush (-2), 2) := dk16 (k := 0) bX12_row_25 rfl (by decide)
theorem dX12_row_27 : decode cX12_row 27 = .ok (.ireturn, 1) := dk172 (k := 2) bX12_row_25 rfl
theorem dX12_row_28 : decode cX12_row 28 = .ok (.iload_n 3, 1) := dk29 (k := 3) bX12_row_25 rfl
theorem dX12_row_29 : decode cX12_row 29 = .ok (.ifCond .ge 6, 3) := dk156 (k := 4) bX12_row_25 rfl (by decide)
theorem dX12_row_32 : decode cX12_row 32 = .ok (.bipush (-3), 2) := dk16 (k := 7) bX12_row_25 rfl (by decide)
theorem dX12_row_34 : decode cX12_row 34 = .ok (.ireturn, 1) := dk172 (k := 9) bX12_row_25 rfl
theorem dX12_row_35 : decode cX12_row 35 = .ok (.aload_n 0, 1) := dk42 (k := 10) bX12_row_25 rfl
theorem dX12_row_36 : decode cX12_row 36 = .ok (.getfield 47, 3) := dk180 (k := 11) bX12_row_25 rfl rfl
theorem dX12_row_39 : decode cX12_row 39 = .ok (.iload_n 1, 1) := dk27 (k := 14) bX12_row_25 rfl
theorem dX12_row_40 : decode cX12_row 40 = .ok (.iload_n 3, 1) := dk29 (k := 15) bX12_row_25 rfl
theorem dX12_row_41 : decode cX12_row 41 = .ok (.iastore, 1) := dk79 (k := 16) bX12_row_25 rfl
theorem dX12_row_42 : decode cX12_row 42 = .ok (.aload_n 0, 1) := dk42 (k := 17) bX12_row_25 rfl
theorem dX12_row_43 : decode cX12_row 43 = .ok (.getfield 50, 3) := dk180 (k := 18) bX12_row_25 rfl rfl
theorem dX12_row_46 : decode cX12_row 46 = .ok (.iload_n 1, 1) := dk27 (k := 21) bX12_row_25 rfl
theorem dX12_row_47 : decode cX12_row 47 = .ok (.iload_n 2, 1) := dk28 (k := 22) bX12_row_25 rfl
theorem dX12_row_48 : decode cX12_row 48 = .ok (.iastore, 1) := dk79 (k := 23) bX12_row_25 rfl
theorem bX12_row_49 : bL cX12_row 49 [3, 54, 4, 21, 4, 16, 60, 162, 0, 22, 42, 180, 0, 53, 16, 60, 27, 104, 21, 4, 96, 9, 80, 132, 4, 1] := bL_of (by decide +kernel)
theorem dX12_row_49 : decode cX12_row 49 = .ok (.iconst 0, 1) := dk3 (k := 0) bX12_row_49 rfl
theorem dX12_row_50 : decode cX12_row 50 = .ok (.istore 4, 2) := dk54 (k := 1) bX12_row_49 rfl rfl
theorem dX12_row_52 : decode cX12_row 52 = .ok (.iload 4, 2) := dk21 (k := 3) bX12_row_49 rfl rfl
theorem dX12_row_54 : decode cX12_row 54 = .ok (.bipush 60, 2) := dk16 (k := 5) bX12_row_49 rfl (by decide)
theorem dX12_row_56 : decode cX12_row 56 = .ok (.if_icmp .ge 22, 3) := dk162 (k := 7) bX12_row_49 rfl (by decide)
theorem dX12_row_59 : decode cX12_row 59 = .ok (.aload_n 0, 1) := dk42 (k := 10) bX12_row_49 rfl
theorem dX12_row_60 : decode cX12_row 60 = .ok (.getfield 53, 3) := dk180 (k := 11) bX12_row_49 rfl rfl
theorem dX12_row_63 : decode cX12_row 63 = .ok (.bipush 60, 2) := dk16 (k := 14) bX12_row_49 rfl (by decide)
theorem dX12_row_65 : decode cX12_row 65 = .ok (.iload_n 1, 1) := dk27 (k := 16) bX12_row_49 rfl
theorem dX12_row_66 : decode cX12_row 66 = .ok (.imul, 1) := dk104 (k := 17) bX12_row_49 rfl
theorem dX12_row_67 : decode cX12_row 67 = .ok (.iload 4, 2) := dk21 (k := 18) bX12_row_49 rfl rfl
theorem dX12_row_69 : decode cX12_row 69 = .ok (.iadd, 1) := dk96 (k := 20) bX12_row_49 rfl
theorem dX12_row_70 : decode cX12_row 70 = .ok (.lconst 0, 1) := dk9 (k := 21) bX12_row_49 rfl
theorem dX12_row_71 : decode cX12_row 71 = .ok (.lastore, 1) := dk80 (k := 22) bX12_row_49 rfl
theorem dX12_row_72 : decode cX12_row 72 = .ok (.iinc 4 1, 3) := dk132 (k := 23) bX12_row_49 rfl rfl (by decide)
theorem bX12_row_75 : bL cX12_row 75 [167, 255, 233, 3, 172] := bL_of (by decide +kernel)
theorem dX12_row_75 : decode cX12_row 75 = .ok (.goto (-23), 3) := dk167 (k := 0) bX12_row_75 rfl (by decide)
theorem dX12_row_78 : decode cX12_row 78 = .ok (.iconst 0, 1) := dk3 (k := 3) bX12_row_75 rfl
theorem dX12_row_79 : decode cX12_row 79 = .ok (.ireturn, 1) := dk172 (k := 4) bX12_row_75 rfl
theorem bX12_write_0 : bL cX12_write 0 [27, 184, 1, 101, 154, 0, 6, 16, 254, 172, 42, 180, 0, 47, 27, 46, 2, 160, 0, 6, 16, 250, 172, 28] := bL_of (by decide +kernel)
theorem dX12_write_0 : decode cX12_write 0 = .ok (.iload_n 1, 1) := dk27 (k := 0) bX12_write_0 rfl
theorem dX12_write_1 : decode cX12_write 1 = .ok (.invokestatic 357, 3) := dk184 (k := 1) bX12_write_0 rfl rfl
theorem dX12_write_4 : decode cX12_write 4 = .ok (.ifCond .ne 6, 3) := dk154 (k := 4) bX12_write_0 rfl (by decide)
theorem dX12_write_7 : decode cX12_write 7 = .ok (.bipush (-2), 2) := dk16 (k := 7) bX12_write_0 rfl (by decide)
theorem dX12_write_9 : decode cX12_write 9 = .ok (.ireturn, 1) := dk172 (k := 9) bX12_write_0 rfl
theorem dX12_write_10 : decode cX12_write 10 = .ok (.aload_n 0, 1) := dk42 (k := 10) bX12_write_0 rfl
theorem dX12_write_11 : decode cX12_write 11 = .ok (.getfield 47, 3) := dk180 (k := 11) bX12_write_0 rfl rfl
theorem dX12_write_14 : decode cX12_write 14 = .ok (.iload_n 1, 1) := dk27 (k := 14) bX12_write_0 rfl
theorem dX12_write_15 : decode cX12_write 15 = .ok (.iaload, 1) := dk46 (k := 15) bX12_write_0 rfl
theorem dX12_write_16 : decode cX12_write 16 = .ok (.iconst (-1), 1) := dk2 (k := 16) bX12_write_0 rfl
theorem dX12_write_17 : decode cX12_write 17 = .ok (.if_icmp .ne 6, 3) := dk160 (k := 17) bX12_write_0 rfl (by decide)
theorem dX12_write_20 : decode cX12_write 20 = .ok (.bipush (-6), 2) := dk16 (k := 20) bX12_write_0 rfl (by decide)
theorem dX12_write_22 : decode cX12_write 22 = .ok (.ireturn, 1) := dk172 (k := 22) bX12_write_0 rfl
theorem dX12_write_23 : decode cX12_write 23 = .ok (.iload_n 2, 1) := dk28 (k := 23) bX12_write_0 rfl
theorem bX12_write_24 : bL cX12_write 24 [133, 9, 42, 180, 0, 47, 27, 46, 4, 100, 133, 184, 0, 65, 154, 0, 6, 16, 249, 172, 42, 180, 0, 53] := bL_of (by decide +kernel)
theorem dX12_write_24 : decode cX12_write 24 = .ok (.i2l, 1) := dk133 (k := 0) bX12_write_24 rfl
theorem dX12_write_25 : decode cX12_write 25 = .ok (.lconst 0, 1) := dk9 (k := 1) bX12_write_24 rfl
theorem dX12_write_26 : decode cX12_write 26 = .ok (.aload_n 0, 1) := dk42 (k := 2) bX12_write_24 rfl
theorem dX12_write_27 : decode cX12_write 27 = .ok (.getfield 47, 3) := dk180 (k := 3) bX12_write_24 rfl rfl
theorem dX12_write_30 : decode cX12_write 30 = .ok (.iload_n 1, 1) := dk27 (k := 6) bX12_write_24 rfl
theorem dX12_write_31 : decode cX12_write 31 = .ok (.iaload, 1) := dk46 (k := 7) bX12_write_24 rfl
theorem dX12_write_32 : decode cX12_write 32 = .ok (.iconst 1, 1) := dk4 (k := 8) bX12_write_24 rfl
theorem dX12_write_33 : decode cX12_write 33 = .ok (.isub, 1) := dk100 (k := 9) bX12_write_24 rfl
theorem dX12_write_34 : decode cX12_write 34 = .ok (.i2l, 1) := dk133 (k := 10) bX12_write_24 rfl
theorem dX12_write_35 : decode cX12_write 35 = .ok (.invokestatic 65, 3) := dk184 (k := 11) bX12_write_24 rfl rfl
theorem dX12_write_38 : decode cX12_write 38 = .ok (.ifCond .ne 6, 3) := dk154 (k := 14) bX12_write_24 rfl (by decide)
theorem dX12_write_41 : decode cX12_write 41 = .ok (.bipush (-7), 2) := dk16 (k := 17) bX12_write_24 rfl (by decide)
theorem dX12_write_43 : decode cX12_write 43 = .ok (.ireturn, 1) := dk172 (k := 19) bX12_write_24 rfl
theorem dX12_write_44 : decode cX12_write 44 = .ok (.aload_n 0, 1) := dk42 (k := 20) bX12_write_24 rfl
theorem dX12_write_45 : decode cX12_write 45 = .ok (.getfield 53, 3) := dk180 (k := 21) bX12_write_24 rfl rfl
theorem bX12_write_48 : bL cX12_write 48 [16, 60, 27, 104, 28, 96, 33, 42, 180, 0, 50, 27, 46, 184, 1, 151, 80, 3, 172] := bL_of (by decide +kernel)
theorem dX12_write_48 : decode cX12_write 48 = .ok (.bipush 60, 2) := dk16 (k := 0) bX12_write_48 rfl (by decide)
theorem dX12_write_50 : decode cX12_write 50 = .ok (.iload_n 1, 1) := dk27 (k := 2) bX12_write_48 rfl
theorem dX12_write_51 : decode cX12_write 51 = .ok (.imul, 1) := dk104 (k := 3) bX12_write_48 rfl
theorem dX12_write_52 : decode cX12_write 52 = .ok (.iload_n 2, 1) := dk28 (k := 4) bX12_write_48 rfl
theorem dX12_write_53 : decode cX12_write 53 = .ok (.iadd, 1) := dk96 (k := 5) bX12_write_48 rfl
theorem dX12_write_54 : decode cX12_write 54 = .ok (.lload_n 3, 1) := dk33 (k := 6) bX12_write_48 rfl
theorem dX12_write_55 : decode cX12_write 55 = .ok (.aload_n 0, 1) := dk42 (k := 7) bX12_write_48 rfl
theorem dX12_write_56 : decode cX12_write 56 = .ok (.getfield 50, 3) := dk180 (k := 8) bX12_write_48 rfl rfl
theorem dX12_write_59 : decode cX12_write 59 = .ok (.iload_n 1, 1) := dk27 (k := 11) bX12_write_48 rfl
theorem dX12_write_60 : decode cX12_write 60 = .ok (.iaload, 1) := dk46 (k := 12) bX12_write_48 rfl
theorem dX12_write_61 : decode cX12_write 61 = .ok (.invokestatic 407, 3) := dk184 (k := 13) bX12_write_48 rfl rfl
theorem dX12_write_64 : decode cX12_write 64 = .ok (.lastore, 1) := dk80 (k := 16) bX12_write_48 rfl
theorem dX12_write_65 : decode cX12_write 65 = .ok (.iconst 0, 1) := dk3 (k := 17) bX12_write_48 rfl
theorem dX12_write_66 : decode cX12_write 66 = .ok (.ireturn, 1) := dk172 (k := 18) bX12_write_48 rfl
theorem bX12_paste_0 : bL cX12_paste 0 [27, 184, 1, 101, 153, 0, 10, 29, 184, 1, 101, 154, 0, 6, 16, 254, 172, 42, 180, 0, 47, 27, 46, 2] := bL_of (by decide +kernel)
theorem dX12_paste_0 : decode cX12_paste 0 = .ok (.iload_n 1, 1) := dk27 (k := 0) bX12_paste_0 rfl
theorem dX12_paste_1 : decode cX12_paste 1 = .ok (.invokestatic 357, 3) := dk184 (k := 1) bX12_paste_0 rfl rfl
theorem dX12_paste_4 : decode cX12_paste 4 = .ok (.ifCond .eq 10, 3) := dk153 (k := 4) bX12_paste_0 rfl (by decide)
theorem dX12_paste_7 : decode cX12_paste 7 = .ok (.iload_n 3, 1) := dk29 (k := 7) bX12_paste_0 rfl
theorem dX12_paste_8 : decode cX12_paste 8 = .ok (.invokestatic 357, 3) := dk184 (k := 8) bX12_paste_0 rfl rfl
theorem dX12_paste_11 : decode cX12_paste 11 = .ok (.ifCond .ne 6, 3) := dk154 (k := 11) bX12_paste_0 rfl (by decide)
theorem dX12_paste_14 : decode cX12_paste 14 = .ok (.bipush (-2), 2) := dk16 (k := 14) bX12_paste_0 rfl (by decide)
theorem dX12_paste_16 : decode cX12_paste 16 = .ok (.ireturn, 1) := dk172 (k := 16) bX12_paste_0 rfl
theorem dX12_paste_17 : decode cX12_paste 17 = .ok (.aload_n 0, 1) := dk42 (k := 17) bX12_paste_0 rfl
theorem dX12_paste_18 : decode cX12_paste 18 = .ok (.getfield 47, 3) := dk180 (k := 18) bX12_paste_0 rfl rfl
theorem dX12_paste_21 : decode cX12_paste 21 = .ok (.iload_n 1, 1) := dk27 (k := 21) bX12_paste_0 rfl
theorem dX12_paste_22 : decode cX12_paste 22 = .ok (.iaload, 1) := dk46 (k := 22) bX12_paste_0 rfl
theorem dX12_paste_23 : decode cX12_paste 23 = .ok (.iconst (-1), 1) := dk2 (k := 23) bX12_paste_0 rfl
theorem bX12_paste_24 : bL cX12_paste 24 [159, 0, 13, 42, 180, 0, 47, 29, 46, 2, 160, 0, 6, 16, 250, 172, 42, 180, 0, 50, 27, 46, 42, 180, 0, 50] := bL_of (by decide +kernel)
theorem dX12_paste_24 : decode cX12_paste 24 = .ok (.if_icmp .eq 13, 3) := dk159 (k := 0) bX12_paste_24 rfl (by decide)
theorem dX12_paste_27 : decode cX12_paste 27 = .ok (.aload_n 0, 1) := dk42 (k := 3) bX12_paste_24 rfl
theorem dX12_paste_28 : decode cX12_paste 28 = .ok (.getfield 47, 3) := dk180 (k := 4) bX12_paste_24 rfl rfl
theorem dX12_paste_31 : decode cX12_paste 31 = .ok (.iload_n 3, 1) := dk29 (k := 7) bX12_paste_24 rfl
theorem dX12_paste_32 : decode cX12_paste 32 = .ok (.iaload, 1) := dk46 (k := 8) bX12_paste_24 rfl
theorem dX12_paste_33 : decode cX12_paste 33 = .ok (.iconst (-1), 1) := dk2 (k := 9) bX12_paste_24 rfl
theorem dX12_paste_34 : decode cX12_paste 34 = .ok (.if_icmp .ne 6, 3) := dk160 (k := 10) bX12_paste_24 rfl (by decide)
theorem dX12_paste_37 : decode cX12_paste 37 = .ok (.bipush (-6), 2) := dk16 (k := 13) bX12_paste_24 rfl (by decide)
theorem dX12_paste_39 : decode cX12_paste 39 = .ok (.ireturn, 1) := dk172 (k := 15) bX12_paste_24 rfl
theorem dX12_paste_40 : decode cX12_paste 40 = .ok (.aload_n 0, 1) := dk42 (k := 16) bX12_paste_24 rfl
theorem dX12_paste_41 : decode cX12_paste 41 = .ok (.getfield 50, 3) := dk180 (k := 17) bX12_paste_24 rfl rfl
theorem dX12_paste_44 : decode cX12_paste 44 = .ok (.iload_n 1, 1) := dk27 (k := 20) bX12_paste_24 rfl
theorem dX12_paste_45 : decode cX12_paste 45 = .ok (.iaload, 1) := dk46 (k := 21) bX12_paste_24 rfl
theorem dX12_paste_46 : decode cX12_paste 46 = .ok (.aload_n 0, 1) := dk42 (k := 22) bX12_paste_24 rfl
theorem dX12_paste_47 : decode cX12_paste 47 = .ok (.getfield 50, 3) := dk180 (k := 23) bX12_paste_24 rfl rfl
theorem bX12_paste_50 : bL cX12_paste 50 [29, 46, 159, 0, 6, 16, 248, 172, 28, 155, 0, 48, 21, 4, 155, 0, 43, 21, 5, 155, 0, 38, 28, 133] := bL_of (by decide +kernel)
theorem dX12_paste_50 : decode cX12_paste 50 = .ok (.iload_n 3, 1) := dk29 (k := 0) bX12_paste_50 rfl
theorem dX12_paste_51 : decode cX12_paste 51 = .ok (.iaload, 1) := dk46 (k := 1) bX12_paste_50 rfl
theorem dX12_paste_52 : decode cX12_paste 52 = .ok (.if_icmp .eq 6, 3) := dk159 (k := 2) bX12_paste_50 rfl (by decide)
theorem dX12_paste_55 : decode cX12_paste 55 = .ok (.bipush (-8), 2) := dk16 (k := 5) bX12_paste_50 rfl (by decide)
theorem dX12_paste_57 : decode cX12_paste 57 = .ok (.ireturn, 1) := dk172 (k := 7) bX12_paste_50 rfl
theorem dX12_paste_58 : decode cX12_paste 58 = .ok (.iload_n 2, 1) := dk28 (k := 8) bX12_paste_50 rfl
theorem dX12_paste_59 : decode cX12_paste 59 = .ok (.ifCond .lt 48, 3) := dk155 (k := 9) bX12_paste_50 rfl (by decide)
theorem dX12_paste_62 : decode cX12_paste 62 = .ok (.iload 4, 2) := dk21 (k := 12) bX12_paste_50 rfl rfl
theorem dX12_paste_64 : decode cX12_paste 64 = .ok (.ifCond .lt 43, 3) := dk155 (k := 14) bX12_paste_50 rfl (by decide)
theorem dX12_paste_67 : decode cX12_paste 67 = .ok (.iload 5, 2) := dk21 (k := 17) bX12_paste_50 rfl rfl
theorem dX12_paste_69 : decode cX12_paste 69 = .ok (.ifCond .lt 38, 3) := dk155 (k := 19) bX12_paste_50 rfl (by decide)
theorem dX12_paste_72 : decode cX12_paste 72 = .ok (.iload_n 2, 1) := dk28 (k := 22) bX12_paste_50 rfl
theorem dX12_paste_73 : decode cX12_paste 73 = .ok (.i2l, 1) := dk133 (k := 23) bX12_paste_50 rfl
theorem bX12_paste_74 : bL cX12_paste 74 [21, 5, 133, 97, 42, 180, 0, 47, 27, 46, 133, 148, 157, 0, 21, 21, 4, 133, 21, 5, 133, 97, 42, 180, 0, 47] := bL_of (by decide +kernel)
theorem dX12_paste_74 : decode cX12_paste 74 = .ok (.iload 5, 2) := dk21 (k := 0) bX12_paste_74 rfl rfl
theorem dX12_paste_76 : decode cX12_paste 76 = .ok (.i2l, 1) := dk133 (k := 2) bX12_paste_74 rfl
theorem dX12_paste_77 : decode cX12_paste 77 = .ok (.ladd, 1) := dk97 (k := 3) bX12_paste_74 rfl
theorem dX12_paste_78 : decode cX12_paste 78 = .ok (.aload_n 0, 1) := dk42 (k := 4) bX12_paste_74 rfl
theorem dX12_paste_79 : decode cX12_paste 79 = .ok (.getfield 47, 3) := dk180 (k := 5) bX12_paste_74 rfl rfl
theorem dX12_paste_82 : decode cX12_paste 82 = .ok (.iload_n 1, 1) := dk27 (k := 8) bX12_paste_74 rfl
theorem dX12_paste_83 : decode cX12_paste 83 = .ok (.iaload, 1) := dk46 (k := 9) bX12_paste_74 rfl
theorem dX12_paste_84 : decode cX12_paste 84 = .ok (.i2l, 1) := dk133 (k := 10) bX12_paste_74 rfl
theorem dX12_paste_85 : decode cX12_paste 85 = .ok (.lcmp, 1) := dk148 (k := 11) bX12_paste_74 rfl
theorem dX12_paste_86 : decode cX12_paste 86 = .ok (.ifCond .gt 21, 3) := dk157 (k := 12) bX12_paste_74 rfl (by decide)
theorem dX12_paste_89 : decode cX12_paste 89 = .ok (.iload 4, 2) := dk21 (k := 15) bX12_paste_74 rfl rfl
theorem dX12_paste_91 : decode cX12_paste 91 = .ok (.i2l, 1) := dk133 (k := 17) bX12_paste_74 rfl
theorem dX12_paste_92 : decode cX12_paste 92 = .ok (.iload 5, 2) := dk21 (k := 18) bX12_paste_74 rfl rfl
theorem dX12_paste_94 : decode cX12_paste 94 = .ok (.i2l, 1) := dk133 (k := 20) bX12_paste_74 rfl
theorem dX12_paste_95 : decode cX12_paste 95 = .ok (.ladd, 1) := dk97 (k := 21) bX12_paste_74 rfl
theorem dX12_paste_96 : decode cX12_paste 96 = .ok (.aload_n 0, 1) := dk42 (k := 22) bX12_paste_74 rfl
theorem dX12_paste_97 : decode cX12_paste 97 = .ok (.getfield 47, 3) := dk180 (k := 23) bX12_paste_74 rfl rfl
theorem bX12_paste_100 : bL cX12_paste 100 [29, 46, 133, 148, 158, 0, 6, 16, 249, 172, 3, 54, 6, 21, 6, 21, 5, 162, 0, 30, 42, 180, 0, 57] := bL_of (by decide +kernel)
theorem dX12_paste_100 : decode cX12_paste 100 = .ok (.iload_n 3, 1) := dk29 (k := 0) bX12_paste_100 rfl
theorem dX12_paste_101 : decode cX12_paste 101 = .ok (.iaload, 1) := dk46 (k := 1) bX12_paste_100 rfl
theorem dX12_paste_102 : decode cX12_paste 102 = .ok (.i2l, 1) := dk133 (k := 2) bX12_paste_100 rfl
theorem dX12_paste_103 : decode cX12_paste 103 = .ok (.lcmp, 1) := dk148 (k := 3) bX12_paste_100 rfl
theorem dX12_paste_104 : decode cX12_paste 104 = .ok (.ifCond .le 6, 3) := dk158 (k := 4) bX12_paste_100 rfl (by decide)
theorem dX12_paste_107 : decode cX12_paste 107 = .ok (.bipush (-7), 2) := dk16 (k := 7) bX12_paste_100 rfl (by decide)
theorem dX12_paste_109 : decode cX12_paste 109 = .ok (.ireturn, 1) := dk172 (k := 9) bX12_paste_100 rfl
theorem dX12_paste_110 : decode cX12_paste 110 = .ok (.iconst 0, 1) := dk3 (k := 10) bX12_paste_100 rfl
theorem dX12_paste_111 : decode cX12_paste 111 = .ok (.istore 6, 2) := dk54 (k := 11) bX12_paste_100 rfl rfl
theorem dX12_paste_113 : decode cX12_paste 113 = .ok (.iload 6, 2) := dk21 (k := 13) bX12_paste_100 rfl rfl
theorem dX12_paste_115 : decode cX12_paste 115 = .ok (.iload 5, 2) := dk21 (k := 15) bX12_paste_100 rfl rfl
theorem dX12_paste_117 : decode cX12_paste 117 = .ok (.if_icmp .ge 30, 3) := dk162 (k := 17) bX12_paste_100 rfl (by decide)
theorem dX12_paste_120 : decode cX12_paste 120 = .ok (.aload_n 0, 1) := dk42 (k := 20) bX12_paste_100 rfl
theorem dX12_paste_121 : decode cX12_paste 121 = .ok (.getfield 57, 3) := dk180 (k := 21) bX12_paste_100 rfl rfl
theorem bX12_paste_124 : bL cX12_paste 124 [21, 6, 42, 180, 0, 53, 16, 60, 27, 104, 28, 96, 21, 6, 96, 47, 80, 132, 6, 1, 167, 255, 225, 3] := bL_of (by decide +kernel)
theorem dX12_paste_124 : decode cX12_paste 124 = .ok (.iload 6, 2) := dk21 (k := 0) bX12_paste_124 rfl rfl
theorem dX12_paste_126 : decode cX12_paste 126 = .ok (.aload_n 0, 1) := dk42 (k := 2) bX12_paste_124 rfl
theorem dX12_paste_127 : decode cX12_paste 127 = .ok (.getfield 53, 3) := dk180 (k := 3) bX12_paste_124 rfl rfl
theorem dX12_paste_130 : decode cX12_paste 130 = .ok (.bipush 60, 2) := dk16 (k := 6) bX12_paste_124 rfl (by decide)
theorem dX12_paste_132 : decode cX12_paste 132 = .ok (.iload_n 1, 1) := dk27 (k := 8) bX12_paste_124 rfl
theorem dX12_paste_133 : decode cX12_paste 133 = .ok (.imul, 1) := dk104 (k := 9) bX12_paste_124 rfl
theorem dX12_paste_134 : decode cX12_paste 134 = .ok (.iload_n 2, 1) := dk28 (k := 10) bX12_paste_124 rfl
theorem dX12_paste_135 : decode cX12_paste 135 = .ok (.iadd, 1) := dk96 (k := 11) bX12_paste_124 rfl
theorem dX12_paste_136 : decode cX12_paste 136 = .ok (.iload 6, 2) := dk21 (k := 12) bX12_paste_124 rfl rfl
theorem dX12_paste_138 : decode cX12_paste 138 = .ok (.iadd, 1) := dk96 (k := 14) bX12_paste_124 rfl
theorem dX12_paste_139 : decode cX12_paste 139 = .ok (.laload, 1) := dk47 (k := 15) bX12_paste_124 rfl
theorem dX12_paste_140 : decode cX12_paste 140 = .ok (.lastore, 1) := dk80 (k := 16) bX12_paste_124 rfl
theorem dX12_paste_141 : decode cX12_paste 141 = .ok (.iinc 6 1, 3) := dk132 (k := 17) bX12_paste_124 rfl rfl (by decide)
theorem dX12_paste_144 : decode cX12_paste 144 = .ok (.goto (-31), 3) := dk167 (k := 20) bX12_paste_124 rfl (by decide)
theorem dX12_paste_147 : decode cX12_paste 147 = .ok (.iconst 0, 1) := dk3 (k := 23) bX12_paste_124 rfl
theorem bX12_paste_148 : bL cX12_paste 148 [54, 6, 21, 6, 21, 5, 162, 0, 31, 42, 180, 0, 53, 16, 60, 29, 104, 21, 4, 96, 21, 6, 96, 42] := bL_of (by decide +kernel)
theorem dX12_paste_148 : decode cX12_paste 148 = .ok (.istore 6, 2) := dk54 (k := 0) bX12_paste_148 rfl rfl
theorem dX12_paste_150 : decode cX12_paste 150 = .ok (.iload 6, 2) := dk21 (k := 2) bX12_paste_148 rfl rfl
theorem dX12_paste_152 : decode cX12_paste 152 = .ok (.iload 5, 2) := dk21 (k := 4) bX12_paste_148 rfl rfl
theorem dX12_paste_154 : decode cX12_paste 154 = .ok (.if_icmp .ge 31, 3) := dk162 (k := 6) bX12_paste_148 rfl (by decide)
theorem dX12_paste_157 : decode cX12_paste 157 = .ok (.aload_n 0, 1) := dk42 (k := 9) bX12_paste_148 rfl
theorem dX12_paste_158 : decode cX12_paste 158 = .ok (.getfield 53, 3) := dk180 (k := 10) bX12_paste_148 rfl rfl
theorem dX12_paste_161 : decode cX12_paste 161 = .ok (.bipush 60, 2) := dk16 (k := 13) bX12_paste_148 rfl (by decide)
theorem dX12_paste_163 : decode cX12_paste 163 = .ok (.iload_n 3, 1) := dk29 (k := 15) bX12_paste_148 rfl
theorem dX12_paste_164 : decode cX12_paste 164 = .ok (.imul, 1) := dk104 (k := 16) bX12_paste_148 rfl
theorem dX12_paste_165 : decode cX12_paste 165 = .ok (.iload 4, 2) := dk21 (k := 17) bX12_paste_148 rfl rfl
theorem dX12_paste_167 : decode cX12_paste 167 = .ok (.iadd, 1) := dk96 (k := 19) bX12_paste_148 rfl
theorem dX12_paste_168 : decode cX12_paste 168 = .ok (.iload 6, 2) := dk21 (k := 20) bX12_paste_148 rfl rfl
theorem dX12_paste_170 : decode cX12_paste 170 = .ok (.iadd, 1) := dk96 (k := 22) bX12_paste_148 rfl
theorem dX12_paste_171 : decode cX12_paste 171 = .ok (.aload_n 0, 1) := dk42 (k := 23) bX12_paste_148 rfl
theorem bX12_paste_172 : bL cX12_paste 172 [180, 0, 57, 21, 6, 47, 80, 132, 6, 1, 167, 255, 224, 3, 172] := bL_of (by decide +kernel)
theorem dX12_paste_172 : decode cX12_paste 172 = .ok (.getfield 57, 3) := dk180 (k := 0) bX12_paste_172 rfl rfl
theorem dX12_paste_175 : decode cX12_paste 175 = .ok (.iload 6, 2) := dk21 (k := 3) bX12_paste_172 rfl rfl
theorem dX12_paste_177 : decode cX12_paste 177 = .ok (.laload, 1) := dk47 (k := 5) bX12_paste_172 rfl
theorem dX12_paste_178 : decode cX12_paste 178 = .ok (.lastore, 1) := dk80 (k := 6) bX12_paste_172 rfl
theorem dX12_paste_179 : decode cX12_paste 179 = .ok (.iinc 6 1, 3) := dk132 (k := 7) bX12_paste_172 rfl rfl (by decide)
theorem dX12_paste_182 : decode cX12_paste 182 = .ok (.goto (-32), 3) := dk167 (k := 10) bX12_paste_172 rfl (by decide)
theorem dX12_paste_185 : decode cX12_paste 185 = .ok (.iconst 0, 1) := dk3 (k := 13) bX12_paste_172 rfl
theorem dX12_paste_186 : decode cX12_paste 186 = .ok (.ireturn, 1) := dk172 (k := 14) bX12_paste_172 rfl
theorem bJ6_bitCount_0f7a4_0 : bL cJ6_bitCount_0f7a4 0 [26, 26, 4, 124, 19, 1, 9, 126, 100, 59, 26, 19, 1, 10, 126, 26, 5, 124, 19, 1, 10, 126, 96, 59] := bL_of (by decide +kernel)
theorem dJ6_bitCount_0f7a4_0 : decode cJ6_bitCount_0f7a4 0 = .ok (.iload_n 0, 1) := dk26 (k := 0) bJ6_bitCount_0f7a4_0 rfl
theorem dJ6_bitCount_0f7a4_1 : decode cJ6_bitCount_0f7a4 1 = .ok (.iload_n 0, 1) := dk26 (k := 1) bJ6_bitCount_0f7a4_0 rfl
theorem dJ6_bitCount_0f7a4_2 : decode cJ6_bitCount_0f7a4 2 = .ok (.iconst 1, 1) := dk4 (k := 2) bJ6_bitCount_0f7a4_0 rfl
theorem dJ6_bitCount_0f7a4_3 : decode cJ6_bitCount_0f7a4 3 = .ok (.iushr, 1) := dk124 (k := 3) bJ6_bitCount_0f7a4_0 rfl
theorem dJ6_bitCount_0f7a4_4 : decode cJ6_bitCount_0f7a4 4 = .ok (.ldc_w 265, 3) := dk19 (k := 4) bJ6_bitCount_0f7a4_0 rfl rfl
theorem dJ6_bitCount_0f7a4_7 : decode cJ6_bitCount_0f7a4 7 = .ok (.iand, 1) := dk126 (k := 7) bJ6_bitCount_0f7a4_0 rfl
theorem dJ6_bitCount_0f7a4_8 : decode cJ6_bitCount_0f7a4 8 = .ok (.isub, 1) := dk100 (k := 8) bJ6_bitCount_0f7a4_0 rfl
theorem dJ6_bitCount_0f7a4_9 : decode cJ6_bitCount_0f7a4 9 = .ok (.istore_n 0, 1) := dk59 (k := 9) bJ6_bitCount_0f7a4_0 rfl
theorem dJ6_bitCount_0f7a4_10 : decode cJ6_bitCount_0f7a4 10 = .ok (.iload_n 0, 1) := dk26 (k := 10) bJ6_bitCount_0f7a4_0 rfl
theorem dJ6_bitCount_0f7a4_11 : decode cJ6_bitCount_0f7a4 11 = .ok (.ldc_w 266, 3) := dk19 (k := 11) bJ6_bitCount_0f7a4_0 rfl rfl
theorem dJ6_bitCount_0f7a4_14 : decode cJ6_bitCount_0f7a4 14 = .ok (.iand, 1) := dk126 (k := 14) bJ6_bitCount_0f7a4_0 rfl
theorem dJ6_bitCount_0f7a4_15 : decode cJ6_bitCount_0f7a4 15 = .ok (.iload_n 0, 1) := dk26 (k := 15) bJ6_bitCount_0f7a4_0 rfl
theorem dJ6_bitCount_0f7a4_16 : decode cJ6_bitCount_0f7a4 16 = .ok (.iconst 2, 1) := dk5 (k := 16) bJ6_bitCount_0f7a4_0 rfl
theorem dJ6_bitCount_0f7a4_17 : decode cJ6_bitCount_0f7a4 17 = .ok (.iushr, 1) := dk124 (k := 17) bJ6_bitCount_0f7a4_0 rfl
theorem dJ6_bitCount_0f7a4_18 : decode cJ6_bitCount_0f7a4 18 = .ok (.ldc_w 266, 3) := dk19 (k := 18) bJ6_bitCount_0f7a4_0 rfl rfl
theorem dJ6_bitCount_0f7a4_21 : decode cJ6_bitCount_0f7a4 21 = .ok (.iand, 1) := dk126 (k := 21) bJ6_bitCount_0f7a4_0 rfl
theorem dJ6_bitCount_0f7a4_22 : decode cJ6_bitCount_0f7a4 22 = .ok (.iadd, 1) := dk96 (k := 22) bJ6_bitCount_0f7a4_0 rfl
theorem dJ6_bitCount_0f7a4_23 : decode cJ6_bitCount_0f7a4 23 = .ok (.istore_n 0, 1) := dk59 (k := 23) bJ6_bitCount_0f7a4_0 rfl
theorem bJ6_bitCount_0f7a4_24 : bL cJ6_bitCount_0f7a4 24 [26, 26, 7, 124, 96, 19, 1, 11, 126, 59, 26, 26, 16, 8, 124, 96, 59, 26, 26, 16, 16, 124, 96, 59] := bL_of (by decide +kernel)
theorem dJ6_bitCount_0f7a4_24 : decode cJ6_bitCount_0f7a4 24 = .ok (.iload_n 0, 1) := dk26 (k := 0) bJ6_bitCount_0f7a4_24 rfl
theorem dJ6_bitCount_0f7a4_25 : decode cJ6_bitCount_0f7a4 25 = .ok (.iload_n 0, 1) := dk26 (k := 1) bJ6_bitCount_0f7a4_24 rfl
theorem dJ6_bitCount_0f7a4_26 : decode cJ6_bitCount_0f7a4 26 = .ok (.iconst 4, 1) := dk7 (k := 2) bJ6_bitCount_0f7a4_24 rfl
theorem dJ6_bitCount_0f7a4_27 : decode cJ6_bitCount_0f7a4 27 = .ok (.iushr, 1) := dk124 (k := 3) bJ6_bitCount_0f7a4_24 rfl
theorem dJ6_bitCount_0f7a4_28 : decode cJ6_bitCount_0f7a4 28 = .ok (.iadd, 1) := dk96 (k := 4) bJ6_bitCount_0f7a4_24 rfl
theorem dJ6_bitCount_0f7a4_29 : decode cJ6_bitCount_0f7a4 29 = .ok (.ldc_w 267, 3) := dk19 (k := 5) bJ6_bitCount_0f7a4_24 rfl rfl
theorem dJ6_bitCount_0f7a4_32 : decode cJ6_bitCount_0f7a4 32 = .ok (.iand, 1) := dk126 (k := 8) bJ6_bitCount_0f7a4_24 rfl
theorem dJ6_bitCount_0f7a4_33 : decode cJ6_bitCount_0f7a4 33 = .ok (.istore_n 0, 1) := dk59 (k := 9) bJ6_bitCount_0f7a4_24 rfl
theorem dJ6_bitCount_0f7a4_34 : decode cJ6_bitCount_0f7a4 34 = .ok (.iload_n 0, 1) := dk26 (k := 10) bJ6_bitCount_0f7a4_24 rfl
theorem dJ6_bitCount_0f7a4_35 : decode cJ6_bitCount_0f7a4 35 = .ok (.iload_n 0, 1) := dk26 (k := 11) bJ6_bitCount_0f7a4_24 rfl
theorem dJ6_bitCount_0f7a4_36 : decode cJ6_bitCount_0f7a4 36 = .ok (.bipush 8, 2) := dk16 (k := 12) bJ6_bitCount_0f7a4_24 rfl (by decide)
theorem dJ6_bitCount_0f7a4_38 : decode cJ6_bitCount_0f7a4 38 = .ok (.iushr, 1) := dk124 (k := 14) bJ6_bitCount_0f7a4_24 rfl
theorem dJ6_bitCount_0f7a4_39 : decode cJ6_bitCount_0f7a4 39 = .ok (.iadd, 1) := dk96 (k := 15) bJ6_bitCount_0f7a4_24 rfl
theorem dJ6_bitCount_0f7a4_40 : decode cJ6_bitCount_0f7a4 40 = .ok (.istore_n 0, 1) := dk59 (k := 16) bJ6_bitCount_0f7a4_24 rfl
theorem dJ6_bitCount_0f7a4_41 : decode cJ6_bitCount_0f7a4 41 = .ok (.iload_n 0, 1) := dk26 (k := 17) bJ6_bitCount_0f7a4_24 rfl
theorem dJ6_bitCount_0f7a4_42 : decode cJ6_bitCount_0f7a4 42 = .ok (.iload_n 0, 1) := dk26 (k := 18) bJ6_bitCount_0f7a4_24 rfl
theorem dJ6_bitCount_0f7a4_43 : decode cJ6_bitCount_0f7a4 43 = .ok (.bipush 16, 2) := dk16 (k := 19) bJ6_bitCount_0f7a4_24 rfl (by decide)
theorem dJ6_bitCount_0f7a4_45 : decode cJ6_bitCount_0f7a4 45 = .ok (.iushr, 1) := dk124 (k := 21) bJ6_bitCount_0f7a4_24 rfl
theorem dJ6_bitCount_0f7a4_46 : decode cJ6_bitCount_0f7a4 46 = .ok (.iadd, 1) := dk96 (k := 22) bJ6_bitCount_0f7a4_24 rfl
theorem dJ6_bitCount_0f7a4_47 : decode cJ6_bitCount_0f7a4 47 = .ok (.istore_n 0, 1) := dk59 (k := 23) bJ6_bitCount_0f7a4_24 rfl
theorem bJ6_bitCount_0f7a4_48 : bL cJ6_bitCount_0f7a4 48 [26, 16, 63, 126, 172] := bL_of (by decide +kernel)
theorem dJ6_bitCount_0f7a4_48 : decode cJ6_bitCount_0f7a4 48 = .ok (.iload_n 0, 1) := dk26 (k := 0) bJ6_bitCount_0f7a4_48 rfl
theorem dJ6_bitCount_0f7a4_49 : decode cJ6_bitCount_0f7a4 49 = .ok (.bipush 63, 2) := dk16 (k := 1) bJ6_bitCount_0f7a4_48 rfl (by decide)
theorem dJ6_bitCount_0f7a4_51 : decode cJ6_bitCount_0f7a4 51 = .ok (.iand, 1) := dk126 (k := 3) bJ6_bitCount_0f7a4_48 rfl
theorem dJ6_bitCount_0f7a4_52 : decode cJ6_bitCount_0f7a4 52 = .ok (.ireturn, 1) := dk172 (k := 4) bJ6_bitCount_0f7a4_48 rfl
theorem bJ9_abs_0f7a4_0 : bL cJ9_abs_0f7a4 0 [26, 156, 0, 8, 26, 116, 167, 0, 4, 26, 172] := bL_of (by decide +kernel)
theorem dJ9_abs_0f7a4_0 : decode cJ9_abs_0f7a4 0 = .ok (.iload_n 0, 1) := dk26 (k := 0) bJ9_abs_0f7a4_0 rfl
theorem dJ9_abs_0f7a4_1 : decode cJ9_abs_0f7a4 1 = .ok (.ifCond .ge 8, 3) := dk156 (k := 1) bJ9_abs_0f7a4_0 rfl (by decide)
theorem dJ9_abs_0f7a4_4 : decode cJ9_abs_0f7a4 4 = .ok (.iload_n 0, 1) := dk26 (k := 4) bJ9_abs_0f7a4_0 rfl
theorem dJ9_abs_0f7a4_5 : decode cJ9_abs_0f7a4 5 = .ok (.ineg, 1) := dk116 (k := 5) bJ9_abs_0f7a4_0 rfl
theorem dJ9_abs_0f7a4_6 : decode cJ9_abs_0f7a4 6 = .ok (.goto 4, 3) := dk167 (k := 6) bJ9_abs_0f7a4_0 rfl (by decide)
theorem dJ9_abs_0f7a4_9 : decode cJ9_abs_0f7a4 9 = .ok (.iload_n 0, 1) := dk26 (k := 9) bJ9_abs_0f7a4_0 rfl
theorem dJ9_abs_0f7a4_10 : decode cJ9_abs_0f7a4 10 = .ok (.ireturn, 1) := dk172 (k := 10) bJ9_abs_0f7a4_0 rfl
theorem bJ9_max_7cf53_0 : bL cJ9_max_7cf53 0 [26, 27, 161, 0, 7, 26, 167, 0, 4, 27, 172] := bL_of (by decide +kernel)
theorem dJ9_max_7cf53_0 : decode cJ9_max_7cf53 0 = .ok (.iload_n 0, 1) := dk26 (k := 0) bJ9_max_7cf53_0 rfl
theorem dJ9_max_7cf53_1 : decode cJ9_max_7cf53 1 = .ok (.iload_n 1, 1) := dk27 (k := 1) bJ9_max_7cf53_0 rfl
theorem dJ9_max_7cf53_2 : decode cJ9_max_7cf53 2 = .ok (.if_icmp .lt 7, 3) := dk161 (k := 2) bJ9_max_7cf53_0 rfl (by decide)
theorem dJ9_max_7cf53_5 : decode cJ9_max_7cf53 5 = .ok (.iload_n 0, 1) := dk26 (k := 5) bJ9_max_7cf53_0 rfl
theorem dJ9_max_7cf53_6 : decode cJ9_max_7cf53 6 = .ok (.goto 4, 3) := dk167 (k := 6) bJ9_max_7cf53_0 rfl (by decide)
theorem dJ9_max_7cf53_9 : decode cJ9_max_7cf53 9 = .ok (.iload_n 1, 1) := dk27 (k := 9) bJ9_max_7cf53_0 rfl
theorem dJ9_max_7cf53_10 : decode cJ9_max_7cf53 10 = .ok (.ireturn, 1) := dk172 (k := 10) bJ9_max_7cf53_0 rfl
theorem bJ9_min_7cf53_0 : bL cJ9_min_7cf53 0 [26, 27, 163, 0, 7, 26, 167, 0, 4, 27, 172] := bL_of (by decide +kernel)
theorem dJ9_min_7cf53_0 : decode cJ9_min_7cf53 0 = .ok (.iload_n 0, 1) := dk26 (k := 0) bJ9_min_7cf53_0 rfl
theorem dJ9_min_7cf53_1 : decode cJ9_min_7cf53 1 = .ok (.iload_n 1, 1) := dk27 (k := 1) bJ9_min_7cf53_0 rfl
theorem dJ9_min_7cf53_2 : decode cJ9_min_7cf53 2 = .ok (.if_icmp .gt 7, 3) := dk163 (k := 2) bJ9_min_7cf53_0 rfl (by decide)
theorem dJ9_min_7cf53_5 : decode cJ9_min_7cf53 5 = .ok (.iload_n 0, 1) := dk26 (k := 5) bJ9_min_7cf53_0 rfl
theorem dJ9_min_7cf53_6 : decode cJ9_min_7cf53 6 = .ok (.goto 4, 3) := dk167 (k := 6) bJ9_min_7cf53_0 rfl (by decide)
theorem dJ9_min_7cf53_9 : decode cJ9_min_7cf53 9 = .ok (.iload_n 1, 1) := dk27 (k := 9) bJ9_min_7cf53_0 rfl
theorem dJ9_min_7cf53_10 : decode cJ9_min_7cf53 10 = .ok (.ireturn, 1) := dk172 (k := 10) bJ9_min_7cf53_0 rfl
theorem bJ0_length_8abf5_0 : bL cJ0_length_8abf5 0 [42, 180, 0, 9, 190, 42, 182, 1, 79, 122, 172] := bL_of (by decide +kernel)
theorem dJ0_length_8abf5_0 : decode cJ0_length_8abf5 0 = .ok (.aload_n 0, 1) := dk42 (k := 0) bJ0_length_8abf5_0 rfl
theorem dJ0_length_8abf5_1 : decode cJ0_length_8abf5 1 = .ok (.getfield 9, 3) := dk180 (k := 1) bJ0_length_8abf5_0 rfl rfl
theorem dJ0_length_8abf5_4 : decode cJ0_length_8abf5 4 = .ok (.arraylength, 1) := dk190 (k := 4) bJ0_length_8abf5_0 rfl
theorem dJ0_length_8abf5_5 : decode cJ0_length_8abf5 5 = .ok (.aload_n 0, 1) := dk42 (k := 5) bJ0_length_8abf5_0 rfl
theorem dJ0_length_8abf5_6 : decode cJ0_length_8abf5 6 = .ok (.invokevirtual 335, 3) := dk182 (k := 6) bJ0_length_8abf5_0 rfl rfl
theorem dJ0_length_8abf5_9 : decode cJ0_length_8abf5 9 = .ok (.ishr, 1) := dk122 (k := 9) bJ0_length_8abf5_0 rfl
theorem dJ0_length_8abf5_10 : decode cJ0_length_8abf5 10 = .ok (.ireturn, 1) := dk172 (k := 10) bJ0_length_8abf5_0 rfl
theorem bJ0_charAt_5068e_0 : bL cJ0_charAt_5068e 0 [42, 182, 1, 236, 153, 0, 12, 42, 180, 0, 9, 27, 184, 1, 239, 172, 42, 180, 0, 9, 27, 184, 1, 242] := bL_of (by decide +kernel)
theorem dJ0_charAt_5068e_0 : decode cJ0_charAt_5068e 0 = .ok (.aload_n 0, 1) := dk42 (k := 0) bJ0_charAt_5068e_0 rfl
theorem dJ0_charAt_5068e_1 : decode cJ0_charAt_5068e 1 = .ok (.invokevirtual 492, 3) := dk182 (k := 1) bJ0_charAt_5068e_0 rfl rfl
theorem dJ0_charAt_5068e_4 : decode cJ0_charAt_5068e 4 = .ok (.ifCond .eq 12, 3) := dk153 (k := 4) bJ0_charAt_5068e_0 rfl (by decide)
theorem dJ0_charAt_5068e_7 : decode cJ0_charAt_5068e 7 = .ok (.aload_n 0, 1) := dk42 (k := 7) bJ0_charAt_5068e_0 rfl
theorem dJ0_charAt_5068e_8 : decode cJ0_charAt_5068e 8 = .ok (.getfield 9, 3) := dk180 (k := 8) bJ0_charAt_5068e_0 rfl rfl
theorem dJ0_charAt_5068e_11 : decode cJ0_charAt_5068e 11 = .ok (.iload_n 1, 1) := dk27 (k := 11) bJ0_charAt_5068e_0 rfl
theorem dJ0_charAt_5068e_12 : decode cJ0_charAt_5068e 12 = .ok (.invokestatic 495, 3) := dk184 (k := 12) bJ0_charAt_5068e_0 rfl rfl
theorem dJ0_charAt_5068e_15 : decode cJ0_charAt_5068e 15 = .ok (.ireturn, 1) := dk172 (k := 15) bJ0_charAt_5068e_0 rfl
theorem dJ0_charAt_5068e_16 : decode cJ0_charAt_5068e 16 = .ok (.aload_n 0, 1) := dk42 (k := 16) bJ0_charAt_5068e_0 rfl
theorem dJ0_charAt_5068e_17 : decode cJ0_charAt_5068e 17 = .ok (.getfield 9, 3) := dk180 (k := 17) bJ0_charAt_5068e_0 rfl rfl
theorem dJ0_charAt_5068e_20 : decode cJ0_charAt_5068e 20 = .ok (.iload_n 1, 1) := dk27 (k := 20) bJ0_charAt_5068e_0 rfl
theorem dJ0_charAt_5068e_21 : decode cJ0_charAt_5068e 21 = .ok (.invokestatic 498, 3) := dk184 (k := 21) bJ0_charAt_5068e_0 rfl rfl
theorem bJ0_charAt_5068e_24 : bL cJ0_charAt_5068e 24 [172] := bL_of (by decide +kernel)
theorem dJ0_charAt_5068e_24 : decode cJ0_charAt_5068e 24 = .ok (.ireturn, 1) := dk172 (k := 0) bJ0_charAt_5068e_24 rfl
theorem bJ0_coder_7d493_0 : bL cJ0_coder_7d493 0 [178, 0, 38, 153, 0, 10, 42, 180, 0, 15, 167, 0, 4, 4, 172] := bL_of (by decide +kernel)
theorem dJ0_coder_7d493_0 : decode cJ0_coder_7d493 0 = .ok (.getstatic 38, 3) := dk178 (k := 0) bJ0_coder_7d493_0 rfl rfl
theorem dJ0_coder_7d493_3 : decode cJ0_coder_7d493 3 = .ok (.ifCond .eq 10, 3) := dk153 (k := 3) bJ0_coder_7d493_0 rfl (by decide)
theorem dJ0_coder_7d493_6 : decode cJ0_coder_7d493 6 = .ok (.aload_n 0, 1) := dk42 (k := 6) bJ0_coder_7d493_0 rfl
theorem dJ0_coder_7d493_7 : decode cJ0_coder_7d493 7 = .ok (.getfield 15, 3) := dk180 (k := 7) bJ0_coder_7d493_0 rfl rfl
theorem dJ0_coder_7d493_10 : decode cJ0_coder_7d493 10 = .ok (.goto 4, 3) := dk167 (k := 10) bJ0_coder_7d493_0 rfl (by decide)
theorem dJ0_coder_7d493_13 : decode cJ0_coder_7d493 13 = .ok (.iconst 1, 1) := dk4 (k := 13) bJ0_coder_7d493_0 rfl
theorem dJ0_coder_7d493_14 : decode cJ0_coder_7d493 14 = .ok (.ireturn, 1) := dk172 (k := 14) bJ0_coder_7d493_0 rfl
theorem bJ0_isLatin1_aae02_0 : bL cJ0_isLatin1_aae02 0 [178, 0, 38, 153, 0, 14, 42, 180, 0, 15, 154, 0, 7, 4, 167, 0, 4, 3, 172] := bL_of (by decide +kernel)
theorem dJ0_isLatin1_aae02_0 : decode cJ0_isLatin1_aae02 0 = .ok (.getstatic 38, 3) := dk178 (k := 0) bJ0_isLatin1_aae02_0 rfl rfl
theorem dJ0_isLatin1_aae02_3 : decode cJ0_isLatin1_aae02 3 = .ok (.ifCond .eq 14, 3) := dk153 (k := 3) bJ0_isLatin1_aae02_0 rfl (by decide)
theorem dJ0_isLatin1_aae02_6 : decode cJ0_isLatin1_aae02 6 = .ok (.aload_n 0, 1) := dk42 (k := 6) bJ0_isLatin1_aae02_0 rfl
theorem dJ0_isLatin1_aae02_7 : decode cJ0_isLatin1_aae02 7 = .ok (.getfield 15, 3) := dk180 (k := 7) bJ0_isLatin1_aae02_0 rfl rfl
theorem dJ0_isLatin1_aae02_10 : decode cJ0_isLatin1_aae02 10 = .ok (.ifCond .ne 7, 3) := dk154 (k := 10) bJ0_isLatin1_aae02_0 rfl (by decide)
theorem dJ0_isLatin1_aae02_13 : decode cJ0_isLatin1_aae02 13 = .ok (.iconst 1, 1) := dk4 (k := 13) bJ0_isLatin1_aae02_0 rfl
theorem dJ0_isLatin1_aae02_14 : decode cJ0_isLatin1_aae02 14 = .ok (.goto 4, 3) := dk167 (k := 14) bJ0_isLatin1_aae02_0 rfl (by decide)
theorem dJ0_isLatin1_aae02_17 : decode cJ0_isLatin1_aae02 17 = .ok (.iconst 0, 1) := dk3 (k := 17) bJ0_isLatin1_aae02_0 rfl
theorem dJ0_isLatin1_aae02_18 : decode cJ0_isLatin1_aae02 18 = .ok (.ireturn, 1) := dk172 (k := 18) bJ0_isLatin1_aae02_0 rfl
theorem bJ0_checkIndex_df160_0 : bL cJ0_checkIndex_df160 0 [26, 27, 178, 4, 29, 184, 4, 35, 87, 177] := bL_of (by decide +kernel)
theorem dJ0_checkIndex_df160_0 : decode cJ0_checkIndex_df160 0 = .ok (.iload_n 0, 1) := dk26 (k := 0) bJ0_checkIndex_df160_0 rfl
theorem dJ0_checkIndex_df160_1 : decode cJ0_checkIndex_df160 1 = .ok (.iload_n 1, 1) := dk27 (k := 1) bJ0_checkIndex_df160_0 rfl
theorem dJ0_checkIndex_df160_2 : decode cJ0_checkIndex_df160 2 = .ok (.getstatic 1053, 3) := dk178 (k := 2) bJ0_checkIndex_df160_0 rfl rfl
theorem dJ0_checkIndex_df160_5 : decode cJ0_checkIndex_df160 5 = .ok (.invokestatic 1059, 3) := dk184 (k := 5) bJ0_checkIndex_df160_0 rfl rfl
theorem dJ0_checkIndex_df160_8 : decode cJ0_checkIndex_df160 8 = .ok (.pop, 1) := dk87 (k := 8) bJ0_checkIndex_df160_0 rfl
theorem dJ0_checkIndex_df160_9 : decode cJ0_checkIndex_df160 9 = .ok (.return_, 1) := dk177 (k := 9) bJ0_checkIndex_df160_0 rfl
theorem bJ1_charAt_3b067_0 : bL cJ1_charAt_3b067 0 [27, 42, 190, 184, 0, 9, 42, 27, 51, 17, 0, 255, 126, 146, 172] := bL_of (by decide +kernel)
theorem dJ1_charAt_3b067_0 : decode cJ1_charAt_3b067 0 = .ok (.iload_n 1, 1) := dk27 (k := 0) bJ1_charAt_3b067_0 rfl
theorem dJ1_charAt_3b067_1 : decode cJ1_charAt_3b067 1 = .ok (.aload_n 0, 1) := dk42 (k := 1) bJ1_charAt_3b067_0 rfl
theorem dJ1_charAt_3b067_2 : decode cJ1_charAt_3b067 2 = .ok (.arraylength, 1) := dk190 (k := 2) bJ1_charAt_3b067_0 rfl
theorem dJ1_charAt_3b067_3 : decode cJ1_charAt_3b067 3 = .ok (.invokestatic 9, 3) := dk184 (k := 3) bJ1_charAt_3b067_0 rfl rfl
theorem dJ1_charAt_3b067_6 : decode cJ1_charAt_3b067 6 = .ok (.aload_n 0, 1) := dk42 (k := 6) bJ1_charAt_3b067_0 rfl
theorem dJ1_charAt_3b067_7 : decode cJ1_charAt_3b067 7 = .ok (.iload_n 1, 1) := dk27 (k := 7) bJ1_charAt_3b067_0 rfl
theorem dJ1_charAt_3b067_8 : decode cJ1_charAt_3b067 8 = .ok (.baload, 1) := dk51 (k := 8) bJ1_charAt_3b067_0 rfl
theorem dJ1_charAt_3b067_9 : decode cJ1_charAt_3b067 9 = .ok (.sipush 255, 3) := dk17 (k := 9) bJ1_charAt_3b067_0 rfl (by decide)
theorem dJ1_charAt_3b067_12 : decode cJ1_charAt_3b067 12 = .ok (.iand, 1) := dk126 (k := 12) bJ1_charAt_3b067_0 rfl
theorem dJ1_charAt_3b067_13 : decode cJ1_charAt_3b067 13 = .ok (.i2c, 1) := dk146 (k := 13) bJ1_charAt_3b067_0 rfl
theorem dJ1_charAt_3b067_14 : decode cJ1_charAt_3b067 14 = .ok (.ireturn, 1) := dk172 (k := 14) bJ1_charAt_3b067_0 rfl
theorem bJ2_getChar_3b067_0 : bL cJ2_getChar_3b067 0 [178, 0, 44, 154, 0, 25, 27, 155, 0, 11, 27, 42, 184, 0, 48, 161, 0, 13, 187, 0, 52, 89, 18, 54] := bL_of (by decide +kernel)
theorem dJ2_getChar_3b067_0 : decode cJ2_getChar_3b067 0 = .ok (.getstatic 44, 3) := dk178 (k := 0) bJ2_getChar_3b067_0 rfl rfl
theorem dJ2_getChar_3b067_3 : decode cJ2_getChar_3b067 3 = .ok (.ifCond .ne 25, 3) := dk154 (k := 3) bJ2_getChar_3b067_0 rfl (by decide)
theorem dJ2_getChar_3b067_6 : decode cJ2_getChar_3b067 6 = .ok (.iload_n 1, 1) := dk27 (k := 6) bJ2_getChar_3b067_0 rfl
theorem dJ2_getChar_3b067_7 : decode cJ2_getChar_3b067 7 = .ok (.ifCond .lt 11, 3) := dk155 (k := 7) bJ2_getChar_3b067_0 rfl (by decide)
theorem dJ2_getChar_3b067_10 : decode cJ2_getChar_3b067 10 = .ok (.iload_n 1, 1) := dk27 (k := 10) bJ2_getChar_3b067_0 rfl
theorem dJ2_getChar_3b067_11 : decode cJ2_getChar_3b067 11 = .ok (.aload_n 0, 1) := dk42 (k := 11) bJ2_getChar_3b067_0 rfl
theorem dJ2_getChar_3b067_12 : decode cJ2_getChar_3b067 12 = .ok (.invokestatic 48, 3) := dk184 (k := 12) bJ2_getChar_3b067_0 rfl rfl
theorem dJ2_getChar_3b067_15 : decode cJ2_getChar_3b067 15 = .ok (.if_icmp .lt 13, 3) := dk161 (k := 15) bJ2_getChar_3b067_0 rfl (by decide)
theorem dJ2_getChar_3b067_18 : decode cJ2_getChar_3b067 18 = .ok (.new 52, 3) := dk187 (k := 18) bJ2_getChar_3b067_0 rfl rfl
theorem dJ2_getChar_3b067_21 : decode cJ2_getChar_3b067 21 = .ok (.dup, 1) := dk89 (k := 21) bJ2_getChar_3b067_0 rfl
theorem dJ2_getChar_3b067_22 : decode cJ2_getChar_3b067 22 = .ok (.ldc 54, 2) := dk18 (k := 22) bJ2_getChar_3b067_0 rfl rfl
theorem bJ2_getChar_3b067_24 : bL cJ2_getChar_3b067 24 [183, 0, 56, 191, 27, 4, 120, 60, 42, 27, 132, 1, 1, 51, 17, 0, 255, 126, 178, 0, 59, 120, 42, 27] := bL_of (by decide +kernel)
theorem dJ2_getChar_3b067_24 : decode cJ2_getChar_3b067 24 = .ok (.invokespecial 56, 3) := dk183 (k := 0) bJ2_getChar_3b067_24 rfl rfl
theorem dJ2_getChar_3b067_27 : decode cJ2_getChar_3b067 27 = .ok (.athrow, 1) := dk191 (k := 3) bJ2_getChar_3b067_24 rfl
theorem dJ2_getChar_3b067_28 : decode cJ2_getChar_3b067 28 = .ok (.iload_n 1, 1) := dk27 (k := 4) bJ2_getChar_3b067_24 rfl
theorem dJ2_getChar_3b067_29 : decode cJ2_getChar_3b067 29 = .ok (.iconst 1, 1) := dk4 (k := 5) bJ2_getChar_3b067_24 rfl
theorem dJ2_getChar_3b067_30 : decode cJ2_getChar_3b067 30 = .ok (.ishl, 1) := dk120 (k := 6) bJ2_getChar_3b067_24 rfl
theorem dJ2_getChar_3b067_31 : decode cJ2_getChar_3b067 31 = .ok (.istore_n 1, 1) := dk60 (k := 7) bJ2_getChar_3b067_24 rfl
theorem dJ2_getChar_3b067_32 : decode cJ2_getChar_3b067 32 = .ok (.aload_n 0, 1) := dk42 (k := 8) bJ2_getChar_3b067_24 rfl
theorem dJ2_getChar_3b067_33 : decode cJ2_getChar_3b067 33 = .ok (.iload_n 1, 1) := dk27 (k := 9) bJ2_getChar_3b067_24 rfl
theorem dJ2_getChar_3b067_34 : decode cJ2_getChar_3b067 34 = .ok (.iinc 1 1, 3) := dk132 (k := 10) bJ2_getChar_3b067_24 rfl rfl (by decide)
theorem dJ2_getChar_3b067_37 : decode cJ2_getChar_3b067 37 = .ok (.baload, 1) := dk51 (k := 13) bJ2_getChar_3b067_24 rfl
theorem dJ2_getChar_3b067_38 : decode cJ2_getChar_3b067 38 = .ok (.sipush 255, 3) := dk17 (k := 14) bJ2_getChar_3b067_24 rfl (by decide)
theorem dJ2_getChar_3b067_41 : decode cJ2_getChar_3b067 41 = .ok (.iand, 1) := dk126 (k := 17) bJ2_getChar_3b067_24 rfl
theorem dJ2_getChar_3b067_42 : decode cJ2_getChar_3b067 42 = .ok (.getstatic 59, 3) := dk178 (k := 18) bJ2_getChar_3b067_24 rfl rfl
theorem dJ2_getChar_3b067_45 : decode cJ2_getChar_3b067 45 = .ok (.ishl, 1) := dk120 (k := 21) bJ2_getChar_3b067_24 rfl
theorem dJ2_getChar_3b067_46 : decode cJ2_getChar_3b067 46 = .ok (.aload_n 0, 1) := dk42 (k := 22) bJ2_getChar_3b067_24 rfl
theorem dJ2_getChar_3b067_47 : decode cJ2_getChar_3b067 47 = .ok (.iload_n 1, 1) := dk27 (k := 23) bJ2_getChar_3b067_24 rfl
theorem bJ2_getChar_3b067_48 : bL cJ2_getChar_3b067 48 [51, 17, 0, 255, 126, 178, 0, 63, 120, 128, 146, 172] := bL_of (by decide +kernel)
theorem dJ2_getChar_3b067_48 : decode cJ2_getChar_3b067 48 = .ok (.baload, 1) := dk51 (k := 0) bJ2_getChar_3b067_48 rfl
theorem dJ2_getChar_3b067_49 : decode cJ2_getChar_3b067 49 = .ok (.sipush 255, 3) := dk17 (k := 1) bJ2_getChar_3b067_48 rfl (by decide)
theorem dJ2_getChar_3b067_52 : decode cJ2_getChar_3b067 52 = .ok (.iand, 1) := dk126 (k := 4) bJ2_getChar_3b067_48 rfl
theorem dJ2_getChar_3b067_53 : decode cJ2_getChar_3b067 53 = .ok (.getstatic 63, 3) := dk178 (k := 5) bJ2_getChar_3b067_48 rfl rfl
theorem dJ2_getChar_3b067_56 : decode cJ2_getChar_3b067 56 = .ok (.ishl, 1) := dk120 (k := 8) bJ2_getChar_3b067_48 rfl
theorem dJ2_getChar_3b067_57 : decode cJ2_getChar_3b067 57 = .ok (.ior, 1) := dk128 (k := 9) bJ2_getChar_3b067_48 rfl
theorem dJ2_getChar_3b067_58 : decode cJ2_getChar_3b067 58 = .ok (.i2c, 1) := dk146 (k := 10) bJ2_getChar_3b067_48 rfl
theorem dJ2_getChar_3b067_59 : decode cJ2_getChar_3b067 59 = .ok (.ireturn, 1) := dk172 (k := 11) bJ2_getChar_3b067_48 rfl
theorem bJ2_length_9d52b_0 : bL cJ2_length_9d52b 0 [42, 190, 4, 122, 172] := bL_of (by decide +kernel)
theorem dJ2_length_9d52b_0 : decode cJ2_length_9d52b 0 = .ok (.aload_n 0, 1) := dk42 (k := 0) bJ2_length_9d52b_0 rfl
theorem dJ2_length_9d52b_1 : decode cJ2_length_9d52b 1 = .ok (.arraylength, 1) := dk190 (k := 1) bJ2_length_9d52b_0 rfl
theorem dJ2_length_9d52b_2 : decode cJ2_length_9d52b 2 = .ok (.iconst 1, 1) := dk4 (k := 2) bJ2_length_9d52b_0 rfl
theorem dJ2_length_9d52b_3 : decode cJ2_length_9d52b 3 = .ok (.ishr, 1) := dk122 (k := 3) bJ2_length_9d52b_0 rfl
theorem dJ2_length_9d52b_4 : decode cJ2_length_9d52b 4 = .ok (.ireturn, 1) := dk172 (k := 4) bJ2_length_9d52b_0 rfl
theorem bJ2_charAt_3b067_0 : bL cJ2_charAt_3b067 0 [27, 42, 184, 0, 67, 42, 27, 184, 0, 71, 172] := bL_of (by decide +kernel)
theorem dJ2_charAt_3b067_0 : decode cJ2_charAt_3b067 0 = .ok (.iload_n 1, 1) := dk27 (k := 0) bJ2_charAt_3b067_0 rfl
theorem dJ2_charAt_3b067_1 : decode cJ2_charAt_3b067 1 = .ok (.aload_n 0, 1) := dk42 (k := 1) bJ2_charAt_3b067_0 rfl
theorem dJ2_charAt_3b067_2 : decode cJ2_charAt_3b067 2 = .ok (.invokestatic 67, 3) := dk184 (k := 2) bJ2_charAt_3b067_0 rfl rfl
theorem dJ2_charAt_3b067_5 : decode cJ2_charAt_3b067 5 = .ok (.aload_n 0, 1) := dk42 (k := 5) bJ2_charAt_3b067_0 rfl
theorem dJ2_charAt_3b067_6 : decode cJ2_charAt_3b067 6 = .ok (.iload_n 1, 1) := dk27 (k := 6) bJ2_charAt_3b067_0 rfl
theorem dJ2_charAt_3b067_7 : decode cJ2_charAt_3b067 7 = .ok (.invokestatic 71, 3) := dk184 (k := 7) bJ2_charAt_3b067_0 rfl rfl
theorem dJ2_charAt_3b067_10 : decode cJ2_charAt_3b067 10 = .ok (.ireturn, 1) := dk172 (k := 10) bJ2_charAt_3b067_0 rfl
theorem bJ2_checkIndex_2214a_0 : bL cJ2_checkIndex_2214a 0 [26, 43, 184, 0, 48, 184, 1, 158, 177] := bL_of (by decide +kernel)
theorem dJ2_checkIndex_2214a_0 : decode cJ2_checkIndex_2214a 0 = .ok (.iload_n 0, 1) := dk26 (k := 0) bJ2_checkIndex_2214a_0 rfl
theorem dJ2_checkIndex_2214a_1 : decode cJ2_checkIndex_2214a 1 = .ok (.aload_n 1, 1) := dk43 (k := 1) bJ2_checkIndex_2214a_0 rfl
theorem dJ2_checkIndex_2214a_2 : decode cJ2_checkIndex_2214a 2 = .ok (.invokestatic 48, 3) := dk184 (k := 2) bJ2_checkIndex_2214a_0 rfl rfl
theorem dJ2_checkIndex_2214a_5 : decode cJ2_checkIndex_2214a 5 = .ok (.invokestatic 414, 3) := dk184 (k := 5) bJ2_checkIndex_2214a_0 rfl rfl
theorem dJ2_checkIndex_2214a_8 : decode cJ2_checkIndex_2214a 8 = .ok (.return_, 1) := dk177 (k := 8) bJ2_checkIndex_2214a_0 rfl
theorem bJ3_checkIndex_8e157_0 : bL cJ3_checkIndex_8e157 0 [26, 155, 0, 8, 26, 27, 161, 0, 10, 44, 26, 27, 184, 0, 95, 191, 26, 172] := bL_of (by decide +kernel)
theorem dJ3_checkIndex_8e157_0 : decode cJ3_checkIndex_8e157 0 = .ok (.iload_n 0, 1) := dk26 (k := 0) bJ3_checkIndex_8e157_0 rfl
theorem dJ3_checkIndex_8e157_1 : decode cJ3_checkIndex_8e157 1 = .ok (.ifCond .lt 8, 3) := dk155 (k := 1) bJ3_checkIndex_8e157_0 rfl (by decide)
theorem dJ3_checkIndex_8e157_4 : decode cJ3_checkIndex_8e157 4 = .ok (.iload_n 0, 1) := dk26 (k := 4) bJ3_checkIndex_8e157_0 rfl
theorem dJ3_checkIndex_8e157_5 : decode cJ3_checkIndex_8e157 5 = .ok (.iload_n 1, 1) := dk27 (k := 5) bJ3_checkIndex_8e157_0 rfl
theorem dJ3_checkIndex_8e157_6 : decode cJ3_checkIndex_8e157 6 = .ok (.if_icmp .lt 10, 3) := dk161 (k := 6) bJ3_checkIndex_8e157_0 rfl (by decide)
theorem dJ3_checkIndex_8e157_9 : decode cJ3_checkIndex_8e157 9 = .ok (.aload_n 2, 1) := dk44 (k := 9) bJ3_checkIndex_8e157_0 rfl
theorem dJ3_checkIndex_8e157_10 : decode cJ3_checkIndex_8e157 10 = .ok (.iload_n 0, 1) := dk26 (k := 10) bJ3_checkIndex_8e157_0 rfl
theorem dJ3_checkIndex_8e157_11 : decode cJ3_checkIndex_8e157 11 = .ok (.iload_n 1, 1) := dk27 (k := 11) bJ3_checkIndex_8e157_0 rfl
theorem dJ3_checkIndex_8e157_12 : decode cJ3_checkIndex_8e157 12 = .ok (.invokestatic 95, 3) := dk184 (k := 12) bJ3_checkIndex_8e157_0 rfl rfl
theorem dJ3_checkIndex_8e157_15 : decode cJ3_checkIndex_8e157 15 = .ok (.athrow, 1) := dk191 (k := 15) bJ3_checkIndex_8e157_0 rfl
theorem dJ3_checkIndex_8e157_16 : decode cJ3_checkIndex_8e157 16 = .ok (.iload_n 0, 1) := dk26 (k := 16) bJ3_checkIndex_8e157_0 rfl
theorem dJ3_checkIndex_8e157_17 : decode cJ3_checkIndex_8e157 17 = .ok (.ireturn, 1) := dk172 (k := 17) bJ3_checkIndex_8e157_0 rfl
end
section
theorem bL_law_0 : bL cL_law 0 [187, 0, 7, 89, 183, 0, 9, 76, 187, 0, 10, 89, 183, 0, 12, 77, 3, 62, 29, 42, 190, 16, 6, 100] := bL_of (by decide +kernel)
theorem dL_law_0 : decode cL_law 0 = .ok (.new 7, 3) := dk187 (k := 0) bL_law_0 rfl rfl
theorem dL_law_3 : decode cL_law 3 = .ok (.dup, 1) := dk89 (k := 3) bL_law_0 rfl
theorem dL_law_4 : decode cL_law 4 = .ok (.invokespecial 9, 3) := dk183 (k := 4) bL_law_0 rfl rfl
theorem dL_law_7 : decode cL_law 7 = .ok (.astore_n 1, 1) := dk76 (k := 7) bL_law_0 rfl
theorem dL_law_8 : decode cL_law 8 = .ok (.new 10, 3) := dk187 (k := 8) bL_law_0 rfl rfl
theorem dL_law_11 : decode cL_law 11 = .ok (.dup, 1) := dk89 (k := 11) bL_law_0 rfl
theorem dL_law_12 : decode cL_law 12 = .ok (.invokespecial 12, 3) := dk183 (k := 12) bL_law_0 rfl rfl
theorem dL_law_15 : decode cL_law 15 = .ok (.astore_n 2, 1) := dk77 (k := 15) bL_law_0 rfl
theorem dL_law_16 : decode cL_law 16 = .ok (.iconst 0, 1) := dk3 (k := 16) bL_law_0 rfl
theorem dL_law_17 : decode cL_law 17 = .ok (.istore_n 3, 1) := dk62 (k := 17) bL_law_0 rfl
theorem dL_law_18 : decode cL_law 18 = .ok (.iload_n 3, 1) := dk29 (k := 18) bL_law_0 rfl
theorem dL_law_19 : decode cL_law 19 = .ok (.aload_n 0, 1) := dk42 (k := 19) bL_law_0 rfl
theorem dL_law_20 : decode cL_law 20 = .ok (.arraylength, 1) := dk190 (k := 20) bL_law_0 rfl
theorem dL_law_21 : decode cL_law 21 = .ok (.bipush 6, 2) := dk16 (k := 21) bL_law_0 rfl (by decide)
theorem dL_law_23 : decode cL_law 23 = .ok (.isub, 1) := dk100 (k := 23) bL_law_0 rfl
theorem bL_law_24 : bL cL_law 24 [163, 7, 183, 42, 29, 46, 16, 127, 126] := bL_of (by decide +kernel)
theorem dL_law_24 : decode cL_law 24 = .ok (.if_icmp .gt 1975, 3) := dk163 (k := 0) bL_law_24 rfl (by decide)
theorem dL_law_27 : decode cL_law 27 = .ok (.aload_n 0, 1) := dk42 (k := 3) bL_law_24 rfl
theorem dL_law_28 : decode cL_law 28 = .ok (.iload_n 3, 1) := dk29 (k := 4) bL_law_24 rfl
theorem dL_law_29 : decode cL_law 29 = .ok (.iaload, 1) := dk46 (k := 5) bL_law_24 rfl
theorem dL_law_30 : decode cL_law 30 = .ok (.bipush 127, 2) := dk16 (k := 6) bL_law_24 rfl (by decide)
theorem dL_law_32 : decode cL_law 32 = .ok (.iand, 1) := dk126 (k := 8) bL_law_24 rfl
theorem dL_law_33 : decode cL_law 33 = .ok (.tableswitch 1960 0 64 #[275, 338, 361, 374, 397, 430, 453, 486, 509, 532, 545, 558, 581, 614, 637, 650, 663, 686, 709, 722, 735, 748, 771, 794, 807, 820, 843, 856, 889, 922, 955, 998, 1041, 1064, 1087, 1100, 1113, 1136, 1149, 1182, 1195, 1208, 1231, 1264, 1277, 1300, 1323, 1356, 1379, 1392, 1415, 1448, 1481, 1504, 1527, 1560, 1603, 1646, 1669, 1712, 1735, 1758, 1781, 1824, 1897], 275) := by decide +kernel
theorem bL_law_308 : bL cL_law 308 [43, 42, 29, 4, 96, 46, 42, 29, 5, 96, 46, 42, 29, 6, 96, 46, 42, 29, 7, 96, 46, 42, 29, 8] := bL_of (by decide +kernel)
theorem dL_law_308 : decode cL_law 308 = .ok (.aload_n 1, 1) := dk43 (k := 0) bL_law_308 rfl
theorem dL_law_309 : decode cL_law 309 = .ok (.aload_n 0, 1) := dk42 (k := 1) bL_law_308 rfl
theorem dL_law_310 : decode cL_law 310 = .ok (.iload_n 3, 1) := dk29 (k := 2) bL_law_308 rfl
theorem dL_law_311 : decode cL_law 311 = .ok (.iconst 1, 1) := dk4 (k := 3) bL_law_308 rfl
theorem dL_law_312 : decode cL_law 312 = .ok (.iadd, 1) := dk96 (k := 4) bL_law_308 rfl
theorem dL_law_313 : decode cL_law 313 = .ok (.iaload, 1) := dk46 (k := 5) bL_law_308 rfl
theorem dL_law_314 : decode cL_law 314 = .ok (.aload_n 0, 1) := dk42 (k := 6) bL_law_308 rfl
theorem dL_law_315 : decode cL_law 315 = .ok (.iload_n 3, 1) := dk29 (k := 7) bL_law_308 rfl
theorem dL_law_316 : decode cL_law 316 = .ok (.iconst 2, 1) := dk5 (k := 8) bL_law_308 rfl
theorem dL_law_317 : decode cL_law 317 = .ok (.iadd, 1) := dk96 (k := 9) bL_law_308 rfl
theorem dL_law_318 : decode cL_law 318 = .ok (.iaload, 1) := dk46 (k := 10) bL_law_308 rfl
theorem dL_law_319 : decode cL_law 319 = .ok (.aload_n 0, 1) := dk42 (k := 11) bL_law_308 rfl
theorem dL_law_320 : decode cL_law 320 = .ok (.iload_n 3, 1) := dk29 (k := 12) bL_law_308 rfl
theorem dL_law_321 : decode cL_law 321 = .ok (.iconst 3, 1) := dk6 (k := 13) bL_law_308 rfl
theorem dL_law_322 : decode cL_law 322 = .ok (.iadd, 1) := dk96 (k := 14) bL_law_308 rfl
theorem dL_law_323 : decode cL_law 323 = .ok (.iaload, 1) := dk46 (k := 15) bL_law_308 rfl
theorem dL_law_324 : decode cL_law 324 = .ok (.aload_n 0, 1) := dk42 (k := 16) bL_law_308 rfl
theorem dL_law_325 : decode cL_law 325 = .ok (.iload_n 3, 1) := dk29 (k := 17) bL_law_308 rfl
theorem dL_law_326 : decode cL_law 326 = .ok (.iconst 4, 1) := dk7 (k := 18) bL_law_308 rfl
theorem dL_law_327 : decode cL_law 327 = .ok (.iadd, 1) := dk96 (k := 19) bL_law_308 rfl
theorem dL_law_328 : decode cL_law 328 = .ok (.iaload, 1) := dk46 (k := 20) bL_law_308 rfl
theorem dL_law_329 : decode cL_law 329 = .ok (.aload_n 0, 1) := dk42 (k := 21) bL_law_308 rfl
theorem dL_law_330 : decode cL_law 330 = .ok (.iload_n 3, 1) := dk29 (k := 22) bL_law_308 rfl
theorem dL_law_331 : decode cL_law 331 = .ok (.iconst 5, 1) := dk8 (k := 23) bL_law_308 rfl
theorem bL_law_332 : bL cL_law 332 [96, 46, 182, 0, 13, 87, 44, 42, 29, 4, 96, 46, 42, 29, 5, 96, 46, 42, 29, 6, 96, 46, 42, 29] := bL_of (by decide +kernel)
theorem dL_law_332 : decode cL_law 332 = .ok (.iadd, 1) := dk96 (k := 0) bL_law_332 rfl
theorem dL_law_333 : decode cL_law 333 = .ok (.iaload, 1) := dk46 (k := 1) bL_law_332 rfl
theorem dL_law_334 : decode cL_law 334 = .ok (.invokevirtual 13, 3) := dk182 (k := 2) bL_law_332 rfl rfl
theorem dL_law_337 : decode cL_law 337 = .ok (.pop, 1) := dk87 (k := 5) bL_law_332 rfl
theorem dL_law_338 : decode cL_law 338 = .ok (.aload_n 2, 1) := dk44 (k := 6) bL_law_332 rfl
theorem dL_law_339 : decode cL_law 339 = .ok (.aload_n 0, 1) := dk42 (k := 7) bL_law_332 rfl
theorem dL_law_340 : decode cL_law 340 = .ok (.iload_n 3, 1) := dk29 (k := 8) bL_law_332 rfl
theorem dL_law_341 : decode cL_law 341 = .ok (.iconst 1, 1) := dk4 (k := 9) bL_law_332 rfl
theorem dL_law_342 : decode cL_law 342 = .ok (.iadd, 1) := dk96 (k := 10) bL_law_332 rfl
theorem dL_law_343 : decode cL_law 343 = .ok (.iaload, 1) := dk46 (k := 11) bL_law_332 rfl
theorem dL_law_344 : decode cL_law 344 = .ok (.aload_n 0, 1) := dk42 (k := 12) bL_law_332 rfl
theorem dL_law_345 : decode cL_law 345 = .ok (.iload_n 3, 1) := dk29 (k := 13) bL_law_332 rfl
theorem dL_law_346 : decode cL_law 346 = .ok (.iconst 2, 1) := dk5 (k := 14) bL_law_332 rfl
theorem dL_law_347 : decode cL_law 347 = .ok (.iadd, 1) := dk96 (k := 15) bL_law_332 rfl
theorem dL_law_348 : decode cL_law 348 = .ok (.iaload, 1) := dk46 (k := 16) bL_law_332 rfl
theorem dL_law_349 : decode cL_law 349 = .ok (.aload_n 0, 1) := dk42 (k := 17) bL_law_332 rfl
theorem dL_law_350 : decode cL_law 350 = .ok (.iload_n 3, 1) := dk29 (k := 18) bL_law_332 rfl
theorem dL_law_351 : decode cL_law 351 = .ok (.iconst 3, 1) := dk6 (k := 19) bL_law_332 rfl
theorem dL_law_352 : decode cL_law 352 = .ok (.iadd, 1) := dk96 (k := 20) bL_law_332 rfl
theorem dL_law_353 : decode cL_law 353 = .ok (.iaload, 1) := dk46 (k := 21) bL_law_332 rfl
theorem dL_law_354 : decode cL_law 354 = .ok (.aload_n 0, 1) := dk42 (k := 22) bL_law_332 rfl
theorem dL_law_355 : decode cL_law 355 = .ok (.iload_n 3, 1) := dk29 (k := 23) bL_law_332 rfl
theorem bL_law_356 : bL cL_law 356 [7, 96, 46, 42, 29, 8, 96, 46, 182, 0, 17, 87, 167, 6, 89, 43, 42, 29, 4, 96, 46, 182, 0, 18] := bL_of (by decide +kernel)
theorem dL_law_356 : decode cL_law 356 = .ok (.iconst 4, 1) := dk7 (k := 0) bL_law_356 rfl
theorem dL_law_357 : decode cL_law 357 = .ok (.iadd, 1) := dk96 (k := 1) bL_law_356 rfl
theorem dL_law_358 : decode cL_law 358 = .ok (.iaload, 1) := dk46 (k := 2) bL_law_356 rfl
theorem dL_law_359 : decode cL_law 359 = .ok (.aload_n 0, 1) := dk42 (k := 3) bL_law_356 rfl
theorem dL_law_360 : decode cL_law 360 = .ok (.iload_n 3, 1) := dk29 (k := 4) bL_law_356 rfl
theorem dL_law_361 : decode cL_law 361 = .ok (.iconst 5, 1) := dk8 (k := 5) bL_law_356 rfl
theorem dL_law_362 : decode cL_law 362 = .ok (.iadd, 1) := dk96 (k := 6) bL_law_356 rfl
theorem dL_law_363 : decode cL_law 363 = .ok (.iaload, 1) := dk46 (k := 7) bL_law_356 rfl
theorem dL_law_364 : decode cL_law 364 = .ok (.invokevirtual 17, 3) := dk182 (k := 8) bL_law_356 rfl rfl
theorem dL_law_367 : decode cL_law 367 = .ok (.pop, 1) := dk87 (k := 11) bL_law_356 rfl
theorem dL_law_368 : decode cL_law 368 = .ok (.goto 1625, 3) := dk167 (k := 12) bL_law_356 rfl (by decide)
theorem dL_law_371 : decode cL_law 371 = .ok (.aload_n 1, 1) := dk43 (k := 15) bL_law_356 rfl
theorem dL_law_372 : decode cL_law 372 = .ok (.aload_n 0, 1) := dk42 (k := 16) bL_law_356 rfl
theorem dL_law_373 : decode cL_law 373 = .ok (.iload_n 3, 1) := dk29 (k := 17) bL_law_356 rfl
theorem dL_law_374 : decode cL_law 374 = .ok (.iconst 1, 1) := dk4 (k := 18) bL_law_356 rfl
theorem dL_law_375 : decode cL_law 375 = .ok (.iadd, 1) := dk96 (k := 19) bL_law_356 rfl
theorem dL_law_376 : decode cL_law 376 = .ok (.iaload, 1) := dk46 (k := 20) bL_law_356 rfl
theorem dL_law_377 : decode cL_law 377 = .ok (.invokevirtual 18, 3) := dk182 (k := 21) bL_law_356 rfl rfl
theorem bL_law_380 : bL cL_law 380 [44, 42, 29, 4, 96, 46, 182, 0, 22, 159, 6, 68, 3, 172, 43, 182, 0, 23, 87, 44, 182, 0, 27, 87] := bL_of (by decide +kernel)
theorem dL_law_380 : decode cL_law 380 = .ok (.aload_n 2, 1) := dk44 (k := 0) bL_law_380 rfl
theorem dL_law_381 : decode cL_law 381 = .ok (.aload_n 0, 1) := dk42 (k := 1) bL_law_380 rfl
theorem dL_law_382 : decode cL_law 382 = .ok (.iload_n 3, 1) := dk29 (k := 2) bL_law_380 rfl
theorem dL_law_383 : decode cL_law 383 = .ok (.iconst 1, 1) := dk4 (k := 3) bL_law_380 rfl
theorem dL_law_384 : decode cL_law 384 = .ok (.iadd, 1) := dk96 (k := 4) bL_law_380 rfl
theorem dL_law_385 : decode cL_law 385 = .ok (.iaload, 1) := dk46 (k := 5) bL_law_380 rfl
theorem dL_law_386 : decode cL_law 386 = .ok (.invokevirtual 22, 3) := dk182 (k := 6) bL_law_380 rfl rfl
theorem dL_law_389 : decode cL_law 389 = .ok (.if_icmp .eq 1604, 3) := dk159 (k := 9) bL_law_380 rfl (by decide)
theorem dL_law_392 : decode cL_law 392 = .ok (.iconst 0, 1) := dk3 (k := 12) bL_law_380 rfl
theorem dL_law_393 : decode cL_law 393 = .ok (.ireturn, 1) := dk172 (k := 13) bL_law_380 rfl
theorem dL_law_394 : decode cL_law 394 = .ok (.aload_n 1, 1) := dk43 (k := 14) bL_law_380 rfl
theorem dL_law_395 : decode cL_law 395 = .ok (.invokevirtual 23, 3) := dk182 (k := 15) bL_law_380 rfl rfl
theorem dL_law_398 : decode cL_law 398 = .ok (.pop, 1) := dk87 (k := 18) bL_law_380 rfl
theorem dL_law_399 : decode cL_law 399 = .ok (.aload_n 2, 1) := dk44 (k := 19) bL_law_380 rfl
theorem dL_law_400 : decode cL_law 400 = .ok (.invokevirtual 27, 3) := dk182 (k := 20) bL_law_380 rfl rfl
theorem dL_law_403 : decode cL_law 403 = .ok (.pop, 1) := dk87 (k := 23) bL_law_380 rfl
theorem bL_law_404 : bL cL_law 404 [167, 6, 53, 43, 42, 29, 4, 96, 46, 182, 0, 28, 87, 44, 42, 29, 4, 96, 46, 182, 0, 31, 87, 167, 6, 30] := bL_of (by decide +kernel)
theorem dL_law_404 : decode cL_law 404 = .ok (.goto 1589, 3) := dk167 (k := 0) bL_law_404 rfl (by decide)
theorem dL_law_407 : decode cL_law 407 = .ok (.aload_n 1, 1) := dk43 (k := 3) bL_law_404 rfl
theorem dL_law_408 : decode cL_law 408 = .ok (.aload_n 0, 1) := dk42 (k := 4) bL_law_404 rfl
theorem dL_law_409 : decode cL_law 409 = .ok (.iload_n 3, 1) := dk29 (k := 5) bL_law_404 rfl
theorem dL_law_410 : decode cL_law 410 = .ok (.iconst 1, 1) := dk4 (k := 6) bL_law_404 rfl
theorem dL_law_411 : decode cL_law 411 = .ok (.iadd, 1) := dk96 (k := 7) bL_law_404 rfl
theorem dL_law_412 : decode cL_law 412 = .ok (.iaload, 1) := dk46 (k := 8) bL_law_404 rfl
theorem dL_law_413 : decode cL_law 413 = .ok (.invokevirtual 28, 3) := dk182 (k := 9) bL_law_404 rfl rfl
theorem dL_law_416 : decode cL_law 416 = .ok (.pop, 1) := dk87 (k := 12) bL_law_404 rfl
theorem dL_law_417 : decode cL_law 417 = .ok (.aload_n 2, 1) := dk44 (k := 13) bL_law_404 rfl
theorem dL_law_418 : decode cL_law 418 = .ok (.aload_n 0, 1) := dk42 (k := 14) bL_law_404 rfl
theorem dL_law_419 : decode cL_law 419 = .ok (.iload_n 3, 1) := dk29 (k := 15) bL_law_404 rfl
theorem dL_law_420 : decode cL_law 420 = .ok (.iconst 1, 1) := dk4 (k := 16) bL_law_404 rfl
theorem dL_law_421 : decode cL_law 421 = .ok (.iadd, 1) := dk96 (k := 17) bL_law_404 rfl
theorem dL_law_422 : decode cL_law 422 = .ok (.iaload, 1) := dk46 (k := 18) bL_law_404 rfl
theorem dL_law_423 : decode cL_law 423 = .ok (.invokevirtual 31, 3) := dk182 (k := 19) bL_law_404 rfl rfl
theorem dL_law_426 : decode cL_law 426 = .ok (.pop, 1) := dk87 (k := 22) bL_law_404 rfl
theorem dL_law_427 : decode cL_law 427 = .ok (.goto 1566, 3) := dk167 (k := 23) bL_law_404 rfl (by decide)
theorem bL_law_430 : bL cL_law 430 [43, 42, 29, 4, 96, 46, 42, 29, 5, 96, 46, 182, 0, 32, 87, 44, 42, 29, 4, 96, 46, 42, 29, 5] := bL_of (by decide +kernel)
theorem dL_law_430 : decode cL_law 430 = .ok (.aload_n 1, 1) := dk43 (k := 0) bL_law_430 rfl
theorem dL_law_431 : decode cL_law 431 = .ok (.aload_n 0, 1) := dk42 (k := 1) bL_law_430 rfl
theorem dL_law_432 : decode cL_law 432 = .ok (.iload_n 3, 1) := dk29 (k := 2) bL_law_430 rfl
theorem dL_law_433 : decode cL_law 433 = .ok (.iconst 1, 1) := dk4 (k := 3) bL_law_430 rfl
theorem dL_law_434 : decode cL_law 434 = .ok (.iadd, 1) := dk96 (k := 4) bL_law_430 rfl
theorem dL_law_435 : decode cL_law 435 = .ok (.iaload, 1) := dk46 (k := 5) bL_law_430 rfl
theorem dL_law_436 : decode cL_law 436 = .ok (.aload_n 0, 1) := dk42 (k := 6) bL_law_430 rfl
theorem dL_law_437 : decode cL_law 437 = .ok (.iload_n 3, 1) := dk29 (k := 7) bL_law_430 rfl
theorem dL_law_438 : decode cL_law 438 = .ok (.iconst 2, 1) := dk5 (k := 8) bL_law_430 rfl
theorem dL_law_439 : decode cL_law 439 = .ok (.iadd, 1) := dk96 (k := 9) bL_law_430 rfl
theorem dL_law_440 : decode cL_law 440 = .ok (.iaload, 1) := dk46 (k := 10) bL_law_430 rfl
theorem dL_law_441 : decode cL_law 441 = .ok (.invokevirtual 32, 3) := dk182 (k := 11) bL_law_430 rfl rfl
theorem dL_law_444 : decode cL_law 444 = .ok (.pop, 1) := dk87 (k := 14) bL_law_430 rfl
theorem dL_law_445 : decode cL_law 445 = .ok (.aload_n 2, 1) := dk44 (k := 15) bL_law_430 rfl
theorem dL_law_446 : decode cL_law 446 = .ok (.aload_n 0, 1) := dk42 (k := 16) bL_law_430 rfl
theorem dL_law_447 : decode cL_law 447 = .ok (.iload_n 3, 1) := dk29 (k := 17) bL_law_430 rfl
theorem dL_law_448 : decode cL_law 448 = .ok (.iconst 1, 1) := dk4 (k := 18) bL_law_430 rfl
theorem dL_law_449 : decode cL_law 449 = .ok (.iadd, 1) := dk96 (k := 19) bL_law_430 rfl
theorem dL_law_450 : decode cL_law 450 = .ok (.iaload, 1) := dk46 (k := 20) bL_law_430 rfl
theorem dL_law_451 : decode cL_law 451 = .ok (.aload_n 0, 1) := dk42 (k := 21) bL_law_430 rfl
theorem dL_law_452 : decode cL_law 452 = .ok (.iload_n 3, 1) := dk29 (k := 22) bL_law_430 rfl
theorem dL_law_453 : decode cL_law 453 = .ok (.iconst 2, 1) := dk5 (k := 23) bL_law_430 rfl
theorem bL_law_454 : bL cL_law 454 [96, 46, 182, 0, 36, 87, 167, 5, 253, 43, 42, 29, 4, 96, 46, 182, 0, 37, 87, 44, 42, 29, 4, 96] := bL_of (by decide +kernel)
theorem dL_law_454 : decode cL_law 454 = .ok (.iadd, 1) := dk96 (k := 0) bL_law_454 rfl
theorem dL_law_455 : decode cL_law 455 = .ok (.iaload, 1) := dk46 (k := 1) bL_law_454 rfl
theorem dL_law_456 : decode cL_law 456 = .ok (.invokevirtual 36, 3) := dk182 (k := 2) bL_law_454 rfl rfl
theorem dL_law_459 : decode cL_law 459 = .ok (.pop, 1) := dk87 (k := 5) bL_law_454 rfl
theorem dL_law_460 : decode cL_law 460 = .ok (.goto 1533, 3) := dk167 (k := 6) bL_law_454 rfl (by decide)
theorem dL_law_463 : decode cL_law 463 = .ok (.aload_n 1, 1) := dk43 (k := 9) bL_law_454 rfl
theorem dL_law_464 : decode cL_law 464 = .ok (.aload_n 0, 1) := dk42 (k := 10) bL_law_454 rfl
theorem dL_law_465 : decode cL_law 465 = .ok (.iload_n 3, 1) := dk29 (k := 11) bL_law_454 rfl
theorem dL_law_466 : decode cL_law 466 = .ok (.iconst 1, 1) := dk4 (k := 12) bL_law_454 rfl
theorem dL_law_467 : decode cL_law 467 = .ok (.iadd, 1) := dk96 (k := 13) bL_law_454 rfl
theorem dL_law_468 : decode cL_law 468 = .ok (.iaload, 1) := dk46 (k := 14) bL_law_454 rfl
theorem dL_law_469 : decode cL_law 469 = .ok (.invokevirtual 37, 3) := dk182 (k := 15) bL_law_454 rfl rfl
theorem dL_law_472 : decode cL_law 472 = .ok (.pop, 1) := dk87 (k := 18) bL_law_454 rfl
theorem dL_law_473 : decode cL_law 473 = .ok (.aload_n 2, 1) := dk44 (k := 19) bL_law_454 rfl
theorem dL_law_474 : decode cL_law 474 = .ok (.aload_n 0, 1) := dk42 (k := 20) bL_law_454 rfl
theorem dL_law_475 : decode cL_law 475 = .ok (.iload_n 3, 1) := dk29 (k := 21) bL_law_454 rfl
theorem dL_law_476 : decode cL_law 476 = .ok (.iconst 1, 1) := dk4 (k := 22) bL_law_454 rfl
theorem dL_law_477 : decode cL_law 477 = .ok (.iadd, 1) := dk96 (k := 23) bL_law_454 rfl
theorem bL_law_478 : bL cL_law 478 [46, 182, 0, 40, 87, 167, 5, 230, 43, 42, 29, 4, 96, 46, 42, 29, 5, 96, 46, 182, 0, 41, 87, 44] := bL_of (by decide +kernel)
theorem dL_law_478 : decode cL_law 478 = .ok (.iaload, 1) := dk46 (k := 0) bL_law_478 rfl
theorem dL_law_479 : decode cL_law 479 = .ok (.invokevirtual 40, 3) := dk182 (k := 1) bL_law_478 rfl rfl
theorem dL_law_482 : decode cL_law 482 = .ok (.pop, 1) := dk87 (k := 4) bL_law_478 rfl
theorem dL_law_483 : decode cL_law 483 = .ok (.goto 1510, 3) := dk167 (k := 5) bL_law_478 rfl (by decide)
theorem dL_law_486 : decode cL_law 486 = .ok (.aload_n 1, 1) := dk43 (k := 8) bL_law_478 rfl
theorem dL_law_487 : decode cL_law 487 = .ok (.aload_n 0, 1) := dk42 (k := 9) bL_law_478 rfl
theorem dL_law_488 : decode cL_law 488 = .ok (.iload_n 3, 1) := dk29 (k := 10) bL_law_478 rfl
theorem dL_law_489 : decode cL_law 489 = .ok (.iconst 1, 1) := dk4 (k := 11) bL_law_478 rfl
theorem dL_law_490 : decode cL_law 490 = .ok (.iadd, 1) := dk96 (k := 12) bL_law_478 rfl
theorem dL_law_491 : decode cL_law 491 = .ok (.iaload, 1) := dk46 (k := 13) bL_law_478 rfl
theorem dL_law_492 : decode cL_law 492 = .ok (.aload_n 0, 1) := dk42 (k := 14) bL_law_478 rfl
theorem dL_law_493 : decode cL_law 493 = .ok (.iload_n 3, 1) := dk29 (k := 15) bL_law_478 rfl
theorem dL_law_494 : decode cL_law 494 = .ok (.iconst 2, 1) := dk5 (k := 16) bL_law_478 rfl
theorem dL_law_495 : decode cL_law 495 = .ok (.iadd, 1) := dk96 (k := 17) bL_law_478 rfl
theorem dL_law_496 : decode cL_law 496 = .ok (.iaload, 1) := dk46 (k := 18) bL_law_478 rfl
theorem dL_law_497 : decode cL_law 497 = .ok (.invokevirtual 41, 3) := dk182 (k := 19) bL_law_478 rfl rfl
theorem dL_law_500 : decode cL_law 500 = .ok (.pop, 1) := dk87 (k := 22) bL_law_478 rfl
theorem dL_law_501 : decode cL_law 501 = .ok (.aload_n 2, 1) := dk44 (k := 23) bL_law_478 rfl
theorem bL_law_502 : bL cL_law 502 [42, 29, 4, 96, 46, 42, 29, 5, 96, 46, 182, 0, 44, 87, 167, 5, 197, 43, 42, 29, 4, 96, 46, 182, 0, 45] := bL_of (by decide +kernel)
theorem dL_law_502 : decode cL_law 502 = .ok (.aload_n 0, 1) := dk42 (k := 0) bL_law_502 rfl
theorem dL_law_503 : decode cL_law 503 = .ok (.iload_n 3, 1) := dk29 (k := 1) bL_law_502 rfl
theorem dL_law_504 : decode cL_law 504 = .ok (.iconst 1, 1) := dk4 (k := 2) bL_law_502 rfl
theorem dL_law_505 : decode cL_law 505 = .ok (.iadd, 1) := dk96 (k := 3) bL_law_502 rfl
theorem dL_law_506 : decode cL_law 506 = .ok (.iaload, 1) := dk46 (k := 4) bL_law_502 rfl
theorem dL_law_507 : decode cL_law 507 = .ok (.aload_n 0, 1) := dk42 (k := 5) bL_law_502 rfl
theorem dL_law_508 : decode cL_law 508 = .ok (.iload_n 3, 1) := dk29 (k := 6) bL_law_502 rfl
theorem dL_law_509 : decode cL_law 509 = .ok (.iconst 2, 1) := dk5 (k := 7) bL_law_502 rfl
theorem dL_law_510 : decode cL_law 510 = .ok (.iadd, 1) := dk96 (k := 8) bL_law_502 rfl
theorem dL_law_511 : decode cL_law 511 = .ok (.iaload, 1) := dk46 (k := 9) bL_law_502 rfl
theorem dL_law_512 : decode cL_law 512 = .ok (.invokevirtual 44, 3) := dk182 (k := 10) bL_law_502 rfl rfl
theorem dL_law_515 : decode cL_law 515 = .ok (.pop, 1) := dk87 (k := 13) bL_law_502 rfl
theorem dL_law_516 : decode cL_law 516 = .ok (.goto 1477, 3) := dk167 (k := 14) bL_law_502 rfl (by decide)
theorem dL_law_519 : decode cL_law 519 = .ok (.aload_n 1, 1) := dk43 (k := 17) bL_law_502 rfl
theorem dL_law_520 : decode cL_law 520 = .ok (.aload_n 0, 1) := dk42 (k := 18) bL_law_502 rfl
theorem dL_law_521 : decode cL_law 521 = .ok (.iload_n 3, 1) := dk29 (k := 19) bL_law_502 rfl
theorem dL_law_522 : decode cL_law 522 = .ok (.iconst 1, 1) := dk4 (k := 20) bL_law_502 rfl
theorem dL_law_523 : decode cL_law 523 = .ok (.iadd, 1) := dk96 (k := 21) bL_law_502 rfl
theorem dL_law_524 : decode cL_law 524 = .ok (.iaload, 1) := dk46 (k := 22) bL_law_502 rfl
theorem dL_law_525 : decode cL_law 525 = .ok (.invokevirtual 45, 3) := dk182 (k := 23) bL_law_502 rfl rfl
theorem bL_law_528 : bL cL_law 528 [87, 44, 42, 29, 4, 96, 46, 182, 0, 48, 87, 167, 5, 174, 43, 42, 29, 4, 96, 46, 182, 0, 49, 87] := bL_of (by decide +kernel)
theorem dL_law_528 : decode cL_law 528 = .ok (.pop, 1) := dk87 (k := 0) bL_law_528 rfl
theorem dL_law_529 : decode cL_law 529 = .ok (.aload_n 2, 1) := dk44 (k := 1) bL_law_528 rfl
theorem dL_law_530 : decode cL_law 530 = .ok (.aload_n 0, 1) := dk42 (k := 2) bL_law_528 rfl
theorem dL_law_531 : decode cL_law 531 = .ok (.iload_n 3, 1) := dk29 (k := 3) bL_law_528 rfl
theorem dL_law_532 : decode cL_law 532 = .ok (.iconst 1, 1) := dk4 (k := 4) bL_law_528 rfl
theorem dL_law_533 : decode cL_law 533 = .ok (.iadd, 1) := dk96 (k := 5) bL_law_528 rfl
theorem dL_law_534 : decode cL_law 534 = .ok (.iaload, 1) := dk46 (k := 6) bL_law_528 rfl
theorem dL_law_535 : decode cL_law 535 = .ok (.invokevirtual 48, 3) := dk182 (k := 7) bL_law_528 rfl rfl
theorem dL_law_538 : decode cL_law 538 = .ok (.pop, 1) := dk87 (k := 10) bL_law_528 rfl
theorem dL_law_539 : decode cL_law 539 = .ok (.goto 1454, 3) := dk167 (k := 11) bL_law_528 rfl (by decide)
theorem dL_law_542 : decode cL_law 542 = .ok (.aload_n 1, 1) := dk43 (k := 14) bL_law_528 rfl
theorem dL_law_543 : decode cL_law 543 = .ok (.aload_n 0, 1) := dk42 (k := 15) bL_law_528 rfl
theorem dL_law_544 : decode cL_law 544 = .ok (.iload_n 3, 1) := dk29 (k := 16) bL_law_528 rfl
theorem dL_law_545 : decode cL_law 545 = .ok (.iconst 1, 1) := dk4 (k := 17) bL_law_528 rfl
theorem dL_law_546 : decode cL_law 546 = .ok (.iadd, 1) := dk96 (k := 18) bL_law_528 rfl
theorem dL_law_547 : decode cL_law 547 = .ok (.iaload, 1) := dk46 (k := 19) bL_law_528 rfl
theorem dL_law_548 : decode cL_law 548 = .ok (.invokevirtual 49, 3) := dk182 (k := 20) bL_law_528 rfl rfl
theorem dL_law_551 : decode cL_law 551 = .ok (.pop, 1) := dk87 (k := 23) bL_law_528 rfl
theorem bL_law_552 : bL cL_law 552 [44, 42, 29, 4, 96, 46, 182, 0, 52, 87, 167, 5, 151, 43, 182, 0, 53, 87, 44, 182, 0, 56, 87, 167, 5, 138] := bL_of (by decide +kernel)
theorem dL_law_552 : decode cL_law 552 = .ok (.aload_n 2, 1) := dk44 (k := 0) bL_law_552 rfl
theorem dL_law_553 : decode cL_law 553 = .ok (.aload_n 0, 1) := dk42 (k := 1) bL_law_552 rfl
theorem dL_law_554 : decode cL_law 554 = .ok (.iload_n 3, 1) := dk29 (k := 2) bL_law_552 rfl
theorem dL_law_555 : decode cL_law 555 = .ok (.iconst 1, 1) := dk4 (k := 3) bL_law_552 rfl
theorem dL_law_556 : decode cL_law 556 = .ok (.iadd, 1) := dk96 (k := 4) bL_law_552 rfl
theorem dL_law_557 : decode cL_law 557 = .ok (.iaload, 1) := dk46 (k := 5) bL_law_552 rfl
theorem dL_law_558 : decode cL_law 558 = .ok (.invokevirtual 52, 3) := dk182 (k := 6) bL_law_552 rfl rfl
theorem dL_law_561 : decode cL_law 561 = .ok (.pop, 1) := dk87 (k := 9) bL_law_552 rfl
theorem dL_law_562 : decode cL_law 562 = .ok (.goto 1431, 3) := dk167 (k := 10) bL_law_552 rfl (by decide)
theorem dL_law_565 : decode cL_law 565 = .ok (.aload_n 1, 1) := dk43 (k := 13) bL_law_552 rfl
theorem dL_law_566 : decode cL_law 566 = .ok (.invokevirtual 53, 3) := dk182 (k := 14) bL_law_552 rfl rfl
theorem dL_law_569 : decode cL_law 569 = .ok (.pop, 1) := dk87 (k := 17) bL_law_552 rfl
theorem dL_law_570 : decode cL_law 570 = .ok (.aload_n 2, 1) := dk44 (k := 18) bL_law_552 rfl
theorem dL_law_571 : decode cL_law 571 = .ok (.invokevirtual 56, 3) := dk182 (k := 19) bL_law_552 rfl rfl
theorem dL_law_574 : decode cL_law 574 = .ok (.pop, 1) := dk87 (k := 22) bL_law_552 rfl
theorem dL_law_575 : decode cL_law 575 = .ok (.goto 1418, 3) := dk167 (k := 23) bL_law_552 rfl (by decide)
theorem bL_law_578 : bL cL_law 578 [43, 182, 0, 57, 87, 44, 182, 0, 60, 87, 167, 5, 125, 43, 42, 29, 4, 96, 46, 182, 0, 61, 87, 44] := bL_of (by decide +kernel)
theorem dL_law_578 : decode cL_law 578 = .ok (.aload_n 1, 1) := dk43 (k := 0) bL_law_578 rfl
theorem dL_law_579 : decode cL_law 579 = .ok (.invokevirtual 57, 3) := dk182 (k := 1) bL_law_578 rfl rfl
theorem dL_law_582 : decode cL_law 582 = .ok (.pop, 1) := dk87 (k := 4) bL_law_578 rfl
theorem dL_law_583 : decode cL_law 583 = .ok (.aload_n 2, 1) := dk44 (k := 5) bL_law_578 rfl
theorem dL_law_584 : decode cL_law 584 = .ok (.invokevirtual 60, 3) := dk182 (k := 6) bL_law_578 rfl rfl
theorem dL_law_587 : decode cL_law 587 = .ok (.pop, 1) := dk87 (k := 9) bL_law_578 rfl
theorem dL_law_588 : decode cL_law 588 = .ok (.goto 1405, 3) := dk167 (k := 10) bL_law_578 rfl (by decide)
theorem dL_law_591 : decode cL_law 591 = .ok (.aload_n 1, 1) := dk43 (k := 13) bL_law_578 rfl
theorem dL_law_592 : decode cL_law 592 = .ok (.aload_n 0, 1) := dk42 (k := 14) bL_law_578 rfl
theorem dL_law_593 : decode cL_law 593 = .ok (.iload_n 3, 1) := dk29 (k := 15) bL_law_578 rfl
theorem dL_law_594 : decode cL_law 594 = .ok (.iconst 1, 1) := dk4 (k := 16) bL_law_578 rfl
theorem dL_law_595 : decode cL_law 595 = .ok (.iadd, 1) := dk96 (k := 17) bL_law_578 rfl
theorem dL_law_596 : decode cL_law 596 = .ok (.iaload, 1) := dk46 (k := 18) bL_law_578 rfl
theorem dL_law_597 : decode cL_law 597 = .ok (.invokevirtual 61, 3) := dk182 (k := 19) bL_law_578 rfl rfl
theorem dL_law_600 : decode cL_law 600 = .ok (.pop, 1) := dk87 (k := 22) bL_law_578 rfl
theorem dL_law_601 : decode cL_law 601 = .ok (.aload_n 2, 1) := dk44 (k := 23) bL_law_578 rfl
theorem bL_law_602 : bL cL_law 602 [42, 29, 4, 96, 46, 182, 0, 64, 87, 167, 5, 102, 43, 42, 29, 4, 96, 46, 42, 29, 5, 96, 46, 182, 0, 65] := bL_of (by decide +kernel)
theorem dL_law_602 : decode cL_law 602 = .ok (.aload_n 0, 1) := dk42 (k := 0) bL_law_602 rfl
theorem dL_law_603 : decode cL_law 603 = .ok (.iload_n 3, 1) := dk29 (k := 1) bL_law_602 rfl
theorem dL_law_604 : decode cL_law 604 = .ok (.iconst 1, 1) := dk4 (k := 2) bL_law_602 rfl
theorem dL_law_605 : decode cL_law 605 = .ok (.iadd, 1) := dk96 (k := 3) bL_law_602 rfl
theorem dL_law_606 : decode cL_law 606 = .ok (.iaload, 1) := dk46 (k := 4) bL_law_602 rfl
theorem dL_law_607 : decode cL_law 607 = .ok (.invokevirtual 64, 3) := dk182 (k := 5) bL_law_602 rfl rfl
theorem dL_law_610 : decode cL_law 610 = .ok (.pop, 1) := dk87 (k := 8) bL_law_602 rfl
theorem dL_law_611 : decode cL_law 611 = .ok (.goto 1382, 3) := dk167 (k := 9) bL_law_602 rfl (by decide)
theorem dL_law_614 : decode cL_law 614 = .ok (.aload_n 1, 1) := dk43 (k := 12) bL_law_602 rfl
theorem dL_law_615 : decode cL_law 615 = .ok (.aload_n 0, 1) := dk42 (k := 13) bL_law_602 rfl
theorem dL_law_616 : decode cL_law 616 = .ok (.iload_n 3, 1) := dk29 (k := 14) bL_law_602 rfl
theorem dL_law_617 : decode cL_law 617 = .ok (.iconst 1, 1) := dk4 (k := 15) bL_law_602 rfl
theorem dL_law_618 : decode cL_law 618 = .ok (.iadd, 1) := dk96 (k := 16) bL_law_602 rfl
theorem dL_law_619 : decode cL_law 619 = .ok (.iaload, 1) := dk46 (k := 17) bL_law_602 rfl
theorem dL_law_620 : decode cL_law 620 = .ok (.aload_n 0, 1) := dk42 (k := 18) bL_law_602 rfl
theorem dL_law_621 : decode cL_law 621 = .ok (.iload_n 3, 1) := dk29 (k := 19) bL_law_602 rfl
theorem dL_law_622 : decode cL_law 622 = .ok (.iconst 2, 1) := dk5 (k := 20) bL_law_602 rfl
theorem dL_law_623 : decode cL_law 623 = .ok (.iadd, 1) := dk96 (k := 21) bL_law_602 rfl
theorem dL_law_624 : decode cL_law 624 = .ok (.iaload, 1) := dk46 (k := 22) bL_law_602 rfl
theorem dL_law_625 : decode cL_law 625 = .ok (.invokevirtual 65, 3) := dk182 (k := 23) bL_law_602 rfl rfl
theorem bL_law_628 : bL cL_law 628 [87, 44, 42, 29, 4, 96, 46, 42, 29, 5, 96, 46, 182, 0, 68, 87, 167, 5, 69, 43, 42, 29, 4, 96] := bL_of (by decide +kernel)
theorem dL_law_628 : decode cL_law 628 = .ok (.pop, 1) := dk87 (k := 0) bL_law_628 rfl
theorem dL_law_629 : decode cL_law 629 = .ok (.aload_n 2, 1) := dk44 (k := 1) bL_law_628 rfl
theorem dL_law_630 : decode cL_law 630 = .ok (.aload_n 0, 1) := dk42 (k := 2) bL_law_628 rfl
theorem dL_law_631 : decode cL_law 631 = .ok (.iload_n 3, 1) := dk29 (k := 3) bL_law_628 rfl
theorem dL_law_632 : decode cL_law 632 = .ok (.iconst 1, 1) := dk4 (k := 4) bL_law_628 rfl
theorem dL_law_633 : decode cL_law 633 = .ok (.iadd, 1) := dk96 (k := 5) bL_law_628 rfl
theorem dL_law_634 : decode cL_law 634 = .ok (.iaload, 1) := dk46 (k := 6) bL_law_628 rfl
theorem dL_law_635 : decode cL_law 635 = .ok (.aload_n 0, 1) := dk42 (k := 7) bL_law_628 rfl
theorem dL_law_636 : decode cL_law 636 = .ok (.iload_n 3, 1) := dk29 (k := 8) bL_law_628 rfl
theorem dL_law_637 : decode cL_law 637 = .ok (.iconst 2, 1) := dk5 (k := 9) bL_law_628 rfl
theorem dL_law_638 : decode cL_law 638 = .ok (.iadd, 1) := dk96 (k := 10) bL_law_628 rfl
theorem dL_law_639 : decode cL_law 639 = .ok (.iaload, 1) := dk46 (k := 11) bL_law_628 rfl
theorem dL_law_640 : decode cL_law 640 = .ok (.invokevirtual 68, 3) := dk182 (k := 12) bL_law_628 rfl rfl
theorem dL_law_643 : decode cL_law 643 = .ok (.pop, 1) := dk87 (k := 15) bL_law_628 rfl
theorem dL_law_644 : decode cL_law 644 = .ok (.goto 1349, 3) := dk167 (k := 16) bL_law_628 rfl (by decide)
theorem dL_law_647 : decode cL_law 647 = .ok (.aload_n 1, 1) := dk43 (k := 19) bL_law_628 rfl
theorem dL_law_648 : decode cL_law 648 = .ok (.aload_n 0, 1) := dk42 (k := 20) bL_law_628 rfl
theorem dL_law_649 : decode cL_law 649 = .ok (.iload_n 3, 1) := dk29 (k := 21) bL_law_628 rfl
theorem dL_law_650 : decode cL_law 650 = .ok (.iconst 1, 1) := dk4 (k := 22) bL_law_628 rfl
theorem dL_law_651 : decode cL_law 651 = .ok (.iadd, 1) := dk96 (k := 23) bL_law_628 rfl
theorem bL_law_652 : bL cL_law 652 [46, 182, 0, 69, 87, 44, 42, 29, 4, 96, 46, 182, 0, 72, 87, 167, 5, 46, 43, 182, 0, 73, 87, 44] := bL_of (by decide +kernel)
theorem dL_law_652 : decode cL_law 652 = .ok (.iaload, 1) := dk46 (k := 0) bL_law_652 rfl
theorem dL_law_653 : decode cL_law 653 = .ok (.invokevirtual 69, 3) := dk182 (k := 1) bL_law_652 rfl rfl
theorem dL_law_656 : decode cL_law 656 = .ok (.pop, 1) := dk87 (k := 4) bL_law_652 rfl
theorem dL_law_657 : decode cL_law 657 = .ok (.aload_n 2, 1) := dk44 (k := 5) bL_law_652 rfl
theorem dL_law_658 : decode cL_law 658 = .ok (.aload_n 0, 1) := dk42 (k := 6) bL_law_652 rfl
theorem dL_law_659 : decode cL_law 659 = .ok (.iload_n 3, 1) := dk29 (k := 7) bL_law_652 rfl
theorem dL_law_660 : decode cL_law 660 = .ok (.iconst 1, 1) := dk4 (k := 8) bL_law_652 rfl
theorem dL_law_661 : decode cL_law 661 = .ok (.iadd, 1) := dk96 (k := 9) bL_law_652 rfl
theorem dL_law_662 : decode cL_law 662 = .ok (.iaload, 1) := dk46 (k := 10) bL_law_652 rfl
theorem dL_law_663 : decode cL_law 663 = .ok (.invokevirtual 72, 3) := dk182 (k := 11) bL_law_652 rfl rfl
theorem dL_law_666 : decode cL_law 666 = .ok (.pop, 1) := dk87 (k := 14) bL_law_652 rfl
theorem dL_law_667 : decode cL_law 667 = .ok (.goto 1326, 3) := dk167 (k := 15) bL_law_652 rfl (by decide)
theorem dL_law_670 : decode cL_law 670 = .ok (.aload_n 1, 1) := dk43 (k := 18) bL_law_652 rfl
theorem dL_law_671 : decode cL_law 671 = .ok (.invokevirtual 73, 3) := dk182 (k := 19) bL_law_652 rfl rfl
theorem dL_law_674 : decode cL_law 674 = .ok (.pop, 1) := dk87 (k := 22) bL_law_652 rfl
theorem dL_law_675 : decode cL_law 675 = .ok (.aload_n 2, 1) := dk44 (k := 23) bL_law_652 rfl
theorem bL_law_676 : bL cL_law 676 [182, 0, 76, 87, 167, 5, 33, 43, 182, 0, 77, 87, 44, 182, 0, 80, 87, 167, 5, 20, 43, 42, 29, 4] := bL_of (by decide +kernel)
theorem dL_law_676 : decode cL_law 676 = .ok (.invokevirtual 76, 3) := dk182 (k := 0) bL_law_676 rfl rfl
theorem dL_law_679 : decode cL_law 679 = .ok (.pop, 1) := dk87 (k := 3) bL_law_676 rfl
theorem dL_law_680 : decode cL_law 680 = .ok (.goto 1313, 3) := dk167 (k := 4) bL_law_676 rfl (by decide)
theorem dL_law_683 : decode cL_law 683 = .ok (.aload_n 1, 1) := dk43 (k := 7) bL_law_676 rfl
theorem dL_law_684 : decode cL_law 684 = .ok (.invokevirtual 77, 3) := dk182 (k := 8) bL_law_676 rfl rfl
theorem dL_law_687 : decode cL_law 687 = .ok (.pop, 1) := dk87 (k := 11) bL_law_676 rfl
theorem dL_law_688 : decode cL_law 688 = .ok (.aload_n 2, 1) := dk44 (k := 12) bL_law_676 rfl
theorem dL_law_689 : decode cL_law 689 = .ok (.invokevirtual 80, 3) := dk182 (k := 13) bL_law_676 rfl rfl
theorem dL_law_692 : decode cL_law 692 = .ok (.pop, 1) := dk87 (k := 16) bL_law_676 rfl
theorem dL_law_693 : decode cL_law 693 = .ok (.goto 1300, 3) := dk167 (k := 17) bL_law_676 rfl (by decide)
theorem dL_law_696 : decode cL_law 696 = .ok (.aload_n 1, 1) := dk43 (k := 20) bL_law_676 rfl
theorem dL_law_697 : decode cL_law 697 = .ok (.aload_n 0, 1) := dk42 (k := 21) bL_law_676 rfl
theorem dL_law_698 : decode cL_law 698 = .ok (.iload_n 3, 1) := dk29 (k := 22) bL_law_676 rfl
theorem dL_law_699 : decode cL_law 699 = .ok (.iconst 1, 1) := dk4 (k := 23) bL_law_676 rfl
theorem bL_law_700 : bL cL_law 700 [96, 46, 182, 0, 81, 87, 44, 42, 29, 4, 96, 46, 182, 0, 84, 87, 167, 4, 253, 43, 42, 29, 4, 96] := bL_of (by decide +kernel)
theorem dL_law_700 : decode cL_law 700 = .ok (.iadd, 1) := dk96 (k := 0) bL_law_700 rfl
theorem dL_law_701 : decode cL_law 701 = .ok (.iaload, 1) := dk46 (k := 1) bL_law_700 rfl
theorem dL_law_702 : decode cL_law 702 = .ok (.invokevirtual 81, 3) := dk182 (k := 2) bL_law_700 rfl rfl
theorem dL_law_705 : decode cL_law 705 = .ok (.pop, 1) := dk87 (k := 5) bL_law_700 rfl
theorem dL_law_706 : decode cL_law 706 = .ok (.aload_n 2, 1) := dk44 (k := 6) bL_law_700 rfl
theorem dL_law_707 : decode cL_law 707 = .ok (.aload_n 0, 1) := dk42 (k := 7) bL_law_700 rfl
theorem dL_law_708 : decode cL_law 708 = .ok (.iload_n 3, 1) := dk29 (k := 8) bL_law_700 rfl
theorem dL_law_709 : decode cL_law 709 = .ok (.iconst 1, 1) := dk4 (k := 9) bL_law_700 rfl
theorem dL_law_710 : decode cL_law 710 = .ok (.iadd, 1) := dk96 (k := 10) bL_law_700 rfl
theorem dL_law_711 : decode cL_law 711 = .ok (.iaload, 1) := dk46 (k := 11) bL_law_700 rfl
theorem dL_law_712 : decode cL_law 712 = .ok (.invokevirtual 84, 3) := dk182 (k := 12) bL_law_700 rfl rfl
theorem dL_law_715 : decode cL_law 715 = .ok (.pop, 1) := dk87 (k := 15) bL_law_700 rfl
theorem dL_law_716 : decode cL_law 716 = .ok (.goto 1277, 3) := dk167 (k := 16) bL_law_700 rfl (by decide)
theorem dL_law_719 : decode cL_law 719 = .ok (.aload_n 1, 1) := dk43 (k := 19) bL_law_700 rfl
theorem dL_law_720 : decode cL_law 720 = .ok (.aload_n 0, 1) := dk42 (k := 20) bL_law_700 rfl
theorem dL_law_721 : decode cL_law 721 = .ok (.iload_n 3, 1) := dk29 (k := 21) bL_law_700 rfl
theorem dL_law_722 : decode cL_law 722 = .ok (.iconst 1, 1) := dk4 (k := 22) bL_law_700 rfl
theorem dL_law_723 : decode cL_law 723 = .ok (.iadd, 1) := dk96 (k := 23) bL_law_700 rfl
theorem bL_law_724 : bL cL_law 724 [46, 182, 0, 85, 87, 44, 42, 29, 4, 96, 46, 182, 0, 88, 87, 167, 4, 230, 43, 182, 0, 89, 87, 44] := bL_of (by decide +kernel)
theorem dL_law_724 : decode cL_law 724 = .ok (.iaload, 1) := dk46 (k := 0) bL_law_724 rfl
theorem dL_law_725 : decode cL_law 725 = .ok (.invokevirtual 85, 3) := dk182 (k := 1) bL_law_724 rfl rfl
theorem dL_law_728 : decode cL_law 728 = .ok (.pop, 1) := dk87 (k := 4) bL_law_724 rfl
theorem dL_law_729 : decode cL_law 729 = .ok (.aload_n 2, 1) := dk44 (k := 5) bL_law_724 rfl
theorem dL_law_730 : decode cL_law 730 = .ok (.aload_n 0, 1) := dk42 (k := 6) bL_law_724 rfl
theorem dL_law_731 : decode cL_law 731 = .ok (.iload_n 3, 1) := dk29 (k := 7) bL_law_724 rfl
theorem dL_law_732 : decode cL_law 732 = .ok (.iconst 1, 1) := dk4 (k := 8) bL_law_724 rfl
theorem dL_law_733 : decode cL_law 733 = .ok (.iadd, 1) := dk96 (k := 9) bL_law_724 rfl
theorem dL_law_734 : decode cL_law 734 = .ok (.iaload, 1) := dk46 (k := 10) bL_law_724 rfl
theorem dL_law_735 : decode cL_law 735 = .ok (.invokevirtual 88, 3) := dk182 (k := 11) bL_law_724 rfl rfl
theorem dL_law_738 : decode cL_law 738 = .ok (.pop, 1) := dk87 (k := 14) bL_law_724 rfl
theorem dL_law_739 : decode cL_law 739 = .ok (.goto 1254, 3) := dk167 (k := 15) bL_law_724 rfl (by decide)
theorem dL_law_742 : decode cL_law 742 = .ok (.aload_n 1, 1) := dk43 (k := 18) bL_law_724 rfl
theorem dL_law_743 : decode cL_law 743 = .ok (.invokevirtual 89, 3) := dk182 (k := 19) bL_law_724 rfl rfl
theorem dL_law_746 : decode cL_law 746 = .ok (.pop, 1) := dk87 (k := 22) bL_law_724 rfl
theorem dL_law_747 : decode cL_law 747 = .ok (.aload_n 2, 1) := dk44 (k := 23) bL_law_724 rfl
theorem bL_law_748 : bL cL_law 748 [182, 0, 92, 87, 167, 4, 217, 43, 182, 0, 93, 87, 44, 182, 0, 96, 87, 167, 4, 204, 43, 182, 0, 97] := bL_of (by decide +kernel)
theorem dL_law_748 : decode cL_law 748 = .ok (.invokevirtual 92, 3) := dk182 (k := 0) bL_law_748 rfl rfl
theorem dL_law_751 : decode cL_law 751 = .ok (.pop, 1) := dk87 (k := 3) bL_law_748 rfl
theorem dL_law_752 : decode cL_law 752 = .ok (.goto 1241, 3) := dk167 (k := 4) bL_law_748 rfl (by decide)
theorem dL_law_755 : decode cL_law 755 = .ok (.aload_n 1, 1) := dk43 (k := 7) bL_law_748 rfl
theorem dL_law_756 : decode cL_law 756 = .ok (.invokevirtual 93, 3) := dk182 (k := 8) bL_law_748 rfl rfl
theorem dL_law_759 : decode cL_law 759 = .ok (.pop, 1) := dk87 (k := 11) bL_law_748 rfl
theorem dL_law_760 : decode cL_law 760 = .ok (.aload_n 2, 1) := dk44 (k := 12) bL_law_748 rfl
theorem dL_law_761 : decode cL_law 761 = .ok (.invokevirtual 96, 3) := dk182 (k := 13) bL_law_748 rfl rfl
theorem dL_law_764 : decode cL_law 764 = .ok (.pop, 1) := dk87 (k := 16) bL_law_748 rfl
theorem dL_law_765 : decode cL_law 765 = .ok (.goto 1228, 3) := dk167 (k := 17) bL_law_748 rfl (by decide)
theorem dL_law_768 : decode cL_law 768 = .ok (.aload_n 1, 1) := dk43 (k := 20) bL_law_748 rfl
theorem dL_law_769 : decode cL_law 769 = .ok (.invokevirtual 97, 3) := dk182 (k := 21) bL_law_748 rfl rfl
theorem bL_law_772 : bL cL_law 772 [87, 44, 182, 0, 100, 87, 167, 4, 191, 43, 42, 29, 4, 96, 46, 182, 0, 101, 87, 44, 42, 29, 4, 96] := bL_of (by decide +kernel)
theorem dL_law_772 : decode cL_law 772 = .ok (.pop, 1) := dk87 (k := 0) bL_law_772 rfl
theorem dL_law_773 : decode cL_law 773 = .ok (.aload_n 2, 1) := dk44 (k := 1) bL_law_772 rfl
theorem dL_law_774 : decode cL_law 774 = .ok (.invokevirtual 100, 3) := dk182 (k := 2) bL_law_772 rfl rfl
theorem dL_law_777 : decode cL_law 777 = .ok (.pop, 1) := dk87 (k := 5) bL_law_772 rfl
theorem dL_law_778 : decode cL_law 778 = .ok (.goto 1215, 3) := dk167 (k := 6) bL_law_772 rfl (by decide)
theorem dL_law_781 : decode cL_law 781 = .ok (.aload_n 1, 1) := dk43 (k := 9) bL_law_772 rfl
theorem dL_law_782 : decode cL_law 782 = .ok (.aload_n 0, 1) := dk42 (k := 10) bL_law_772 rfl
theorem dL_law_783 : decode cL_law 783 = .ok (.iload_n 3, 1) := dk29 (k := 11) bL_law_772 rfl
theorem dL_law_784 : decode cL_law 784 = .ok (.iconst 1, 1) := dk4 (k := 12) bL_law_772 rfl
theorem dL_law_785 : decode cL_law 785 = .ok (.iadd, 1) := dk96 (k := 13) bL_law_772 rfl
theorem dL_law_786 : decode cL_law 786 = .ok (.iaload, 1) := dk46 (k := 14) bL_law_772 rfl
theorem dL_law_787 : decode cL_law 787 = .ok (.invokevirtual 101, 3) := dk182 (k := 15) bL_law_772 rfl rfl
theorem dL_law_790 : decode cL_law 790 = .ok (.pop, 1) := dk87 (k := 18) bL_law_772 rfl
theorem dL_law_791 : decode cL_law 791 = .ok (.aload_n 2, 1) := dk44 (k := 19) bL_law_772 rfl
theorem dL_law_792 : decode cL_law 792 = .ok (.aload_n 0, 1) := dk42 (k := 20) bL_law_772 rfl
theorem dL_law_793 : decode cL_law 793 = .ok (.iload_n 3, 1) := dk29 (k := 21) bL_law_772 rfl
theorem dL_law_794 : decode cL_law 794 = .ok (.iconst 1, 1) := dk4 (k := 22) bL_law_772 rfl
theorem dL_law_795 : decode cL_law 795 = .ok (.iadd, 1) := dk96 (k := 23) bL_law_772 rfl
theorem bL_law_796 : bL cL_law 796 [46, 182, 0, 104, 87, 167, 4, 168, 43, 42, 29, 4, 96, 46, 182, 0, 105, 87, 44, 42, 29, 4, 96, 46] := bL_of (by decide +kernel)
theorem dL_law_796 : decode cL_law 796 = .ok (.iaload, 1) := dk46 (k := 0) bL_law_796 rfl
theorem dL_law_797 : decode cL_law 797 = .ok (.invokevirtual 104, 3) := dk182 (k := 1) bL_law_796 rfl rfl
theorem dL_law_800 : decode cL_law 800 = .ok (.pop, 1) := dk87 (k := 4) bL_law_796 rfl
theorem dL_law_801 : decode cL_law 801 = .ok (.goto 1192, 3) := dk167 (k := 5) bL_law_796 rfl (by decide)
theorem dL_law_804 : decode cL_law 804 = .ok (.aload_n 1, 1) := dk43 (k := 8) bL_law_796 rfl
theorem dL_law_805 : decode cL_law 805 = .ok (.aload_n 0, 1) := dk42 (k := 9) bL_law_796 rfl
theorem dL_law_806 : decode cL_law 806 = .ok (.iload_n 3, 1) := dk29 (k := 10) bL_law_796 rfl
theorem dL_law_807 : decode cL_law 807 = .ok (.iconst 1, 1) := dk4 (k := 11) bL_law_796 rfl
theorem dL_law_808 : decode cL_law 808 = .ok (.iadd, 1) := dk96 (k := 12) bL_law_796 rfl
theorem dL_law_809 : decode cL_law 809 = .ok (.iaload, 1) := dk46 (k := 13) bL_law_796 rfl
theorem dL_law_810 : decode cL_law 810 = .ok (.invokevirtual 105, 3) := dk182 (k := 14) bL_law_796 rfl rfl
theorem dL_law_813 : decode cL_law 813 = .ok (.pop, 1) := dk87 (k := 17) bL_law_796 rfl
theorem dL_law_814 : decode cL_law 814 = .ok (.aload_n 2, 1) := dk44 (k := 18) bL_law_796 rfl
theorem dL_law_815 : decode cL_law 815 = .ok (.aload_n 0, 1) := dk42 (k := 19) bL_law_796 rfl
theorem dL_law_816 : decode cL_law 816 = .ok (.iload_n 3, 1) := dk29 (k := 20) bL_law_796 rfl
theorem dL_law_817 : decode cL_law 817 = .ok (.iconst 1, 1) := dk4 (k := 21) bL_law_796 rfl
theorem dL_law_818 : decode cL_law 818 = .ok (.iadd, 1) := dk96 (k := 22) bL_law_796 rfl
theorem dL_law_819 : decode cL_law 819 = .ok (.iaload, 1) := dk46 (k := 23) bL_law_796 rfl
theorem bL_law_820 : bL cL_law 820 [182, 0, 108, 87, 167, 4, 145, 43, 182, 0, 109, 87, 44, 182, 0, 112, 87, 167, 4, 132, 43, 182, 0, 113] := bL_of (by decide +kernel)
theorem dL_law_820 : decode cL_law 820 = .ok (.invokevirtual 108, 3) := dk182 (k := 0) bL_law_820 rfl rfl
theorem dL_law_823 : decode cL_law 823 = .ok (.pop, 1) := dk87 (k := 3) bL_law_820 rfl
theorem dL_law_824 : decode cL_law 824 = .ok (.goto 1169, 3) := dk167 (k := 4) bL_law_820 rfl (by decide)
theorem dL_law_827 : decode cL_law 827 = .ok (.aload_n 1, 1) := dk43 (k := 7) bL_law_820 rfl
theorem dL_law_828 : decode cL_law 828 = .ok (.invokevirtual 109, 3) := dk182 (k := 8) bL_law_820 rfl rfl
theorem dL_law_831 : decode cL_law 831 = .ok (.pop, 1) := dk87 (k := 11) bL_law_820 rfl
theorem dL_law_832 : decode cL_law 832 = .ok (.aload_n 2, 1) := dk44 (k := 12) bL_law_820 rfl
theorem dL_law_833 : decode cL_law 833 = .ok (.invokevirtual 112, 3) := dk182 (k := 13) bL_law_820 rfl rfl
theorem dL_law_836 : decode cL_law 836 = .ok (.pop, 1) := dk87 (k := 16) bL_law_820 rfl
theorem dL_law_837 : decode cL_law 837 = .ok (.goto 1156, 3) := dk167 (k := 17) bL_law_820 rfl (by decide)
theorem dL_law_840 : decode cL_law 840 = .ok (.aload_n 1, 1) := dk43 (k := 20) bL_law_820 rfl
theorem dL_law_841 : decode cL_law 841 = .ok (.invokevirtual 113, 3) := dk182 (k := 21) bL_law_820 rfl rfl
theorem bL_law_844 : bL cL_law 844 [87, 44, 182, 0, 116, 87, 167, 4, 119, 43, 42, 29, 4, 96, 46, 182, 0, 117, 87, 44, 42, 29, 4, 96] := bL_of (by decide +kernel)
theorem dL_law_844 : decode cL_law 844 = .ok (.pop, 1) := dk87 (k := 0) bL_law_844 rfl
theorem dL_law_845 : decode cL_law 845 = .ok (.aload_n 2, 1) := dk44 (k := 1) bL_law_844 rfl
theorem dL_law_846 : decode cL_law 846 = .ok (.invokevirtual 116, 3) := dk182 (k := 2) bL_law_844 rfl rfl
theorem dL_law_849 : decode cL_law 849 = .ok (.pop, 1) := dk87 (k := 5) bL_law_844 rfl
theorem dL_law_850 : decode cL_law 850 = .ok (.goto 1143, 3) := dk167 (k := 6) bL_law_844 rfl (by decide)
theorem dL_law_853 : decode cL_law 853 = .ok (.aload_n 1, 1) := dk43 (k := 9) bL_law_844 rfl
theorem dL_law_854 : decode cL_law 854 = .ok (.aload_n 0, 1) := dk42 (k := 10) bL_law_844 rfl
theorem dL_law_855 : decode cL_law 855 = .ok (.iload_n 3, 1) := dk29 (k := 11) bL_law_844 rfl
theorem dL_law_856 : decode cL_law 856 = .ok (.iconst 1, 1) := dk4 (k := 12) bL_law_844 rfl
theorem dL_law_857 : decode cL_law 857 = .ok (.iadd, 1) := dk96 (k := 13) bL_law_844 rfl
theorem dL_law_858 : decode cL_law 858 = .ok (.iaload, 1) := dk46 (k := 14) bL_law_844 rfl
theorem dL_law_859 : decode cL_law 859 = .ok (.invokevirtual 117, 3) := dk182 (k := 15) bL_law_844 rfl rfl
theorem dL_law_862 : decode cL_law 862 = .ok (.pop, 1) := dk87 (k := 18) bL_law_844 rfl
theorem dL_law_863 : decode cL_law 863 = .ok (.aload_n 2, 1) := dk44 (k := 19) bL_law_844 rfl
theorem dL_law_864 : decode cL_law 864 = .ok (.aload_n 0, 1) := dk42 (k := 20) bL_law_844 rfl
theorem dL_law_865 : decode cL_law 865 = .ok (.iload_n 3, 1) := dk29 (k := 21) bL_law_844 rfl
theorem dL_law_866 : decode cL_law 866 = .ok (.iconst 1, 1) := dk4 (k := 22) bL_law_844 rfl
theorem dL_law_867 : decode cL_law 867 = .ok (.iadd, 1) := dk96 (k := 23) bL_law_844 rfl
theorem bL_law_868 : bL cL_law 868 [46, 182, 0, 120, 87, 167, 4, 96, 43, 182, 0, 121, 87, 44, 182, 0, 124, 87, 167, 4, 83, 43, 42, 29] := bL_of (by decide +kernel)
theorem dL_law_868 : decode cL_law 868 = .ok (.iaload, 1) := dk46 (k := 0) bL_law_868 rfl
theorem dL_law_869 : decode cL_law 869 = .ok (.invokevirtual 120, 3) := dk182 (k := 1) bL_law_868 rfl rfl
theorem dL_law_872 : decode cL_law 872 = .ok (.pop, 1) := dk87 (k := 4) bL_law_868 rfl
theorem dL_law_873 : decode cL_law 873 = .ok (.goto 1120, 3) := dk167 (k := 5) bL_law_868 rfl (by decide)
theorem dL_law_876 : decode cL_law 876 = .ok (.aload_n 1, 1) := dk43 (k := 8) bL_law_868 rfl
theorem dL_law_877 : decode cL_law 877 = .ok (.invokevirtual 121, 3) := dk182 (k := 9) bL_law_868 rfl rfl
theorem dL_law_880 : decode cL_law 880 = .ok (.pop, 1) := dk87 (k := 12) bL_law_868 rfl
theorem dL_law_881 : decode cL_law 881 = .ok (.aload_n 2, 1) := dk44 (k := 13) bL_law_868 rfl
theorem dL_law_882 : decode cL_law 882 = .ok (.invokevirtual 124, 3) := dk182 (k := 14) bL_law_868 rfl rfl
theorem dL_law_885 : decode cL_law 885 = .ok (.pop, 1) := dk87 (k := 17) bL_law_868 rfl
theorem dL_law_886 : decode cL_law 886 = .ok (.goto 1107, 3) := dk167 (k := 18) bL_law_868 rfl (by decide)
theorem dL_law_889 : decode cL_law 889 = .ok (.aload_n 1, 1) := dk43 (k := 21) bL_law_868 rfl
theorem dL_law_890 : decode cL_law 890 = .ok (.aload_n 0, 1) := dk42 (k := 22) bL_law_868 rfl
theorem dL_law_891 : decode cL_law 891 = .ok (.iload_n 3, 1) := dk29 (k := 23) bL_law_868 rfl
theorem bL_law_892 : bL cL_law 892 [4, 96, 46, 42, 29, 5, 96, 46, 182, 0, 125, 87, 44, 42, 29, 4, 96, 46, 42, 29, 5, 96, 46, 182, 0, 128] := bL_of (by decide +kernel)
theorem dL_law_892 : decode cL_law 892 = .ok (.iconst 1, 1) := dk4 (k := 0) bL_law_892 rfl
theorem dL_law_893 : decode cL_law 893 = .ok (.iadd, 1) := dk96 (k := 1) bL_law_892 rfl
theorem dL_law_894 : decode cL_law 894 = .ok (.iaload, 1) := dk46 (k := 2) bL_law_892 rfl
theorem dL_law_895 : decode cL_law 895 = .ok (.aload_n 0, 1) := dk42 (k := 3) bL_law_892 rfl
theorem dL_law_896 : decode cL_law 896 = .ok (.iload_n 3, 1) := dk29 (k := 4) bL_law_892 rfl
theorem dL_law_897 : decode cL_law 897 = .ok (.iconst 2, 1) := dk5 (k := 5) bL_law_892 rfl
theorem dL_law_898 : decode cL_law 898 = .ok (.iadd, 1) := dk96 (k := 6) bL_law_892 rfl
theorem dL_law_899 : decode cL_law 899 = .ok (.iaload, 1) := dk46 (k := 7) bL_law_892 rfl
theorem dL_law_900 : decode cL_law 900 = .ok (.invokevirtual 125, 3) := dk182 (k := 8) bL_law_892 rfl rfl
theorem dL_law_903 : decode cL_law 903 = .ok (.pop, 1) := dk87 (k := 11) bL_law_892 rfl
theorem dL_law_904 : decode cL_law 904 = .ok (.aload_n 2, 1) := dk44 (k := 12) bL_law_892 rfl
theorem dL_law_905 : decode cL_law 905 = .ok (.aload_n 0, 1) := dk42 (k := 13) bL_law_892 rfl
theorem dL_law_906 : decode cL_law 906 = .ok (.iload_n 3, 1) := dk29 (k := 14) bL_law_892 rfl
theorem dL_law_907 : decode cL_law 907 = .ok (.iconst 1, 1) := dk4 (k := 15) bL_law_892 rfl
theorem dL_law_908 : decode cL_law 908 = .ok (.iadd, 1) := dk96 (k := 16) bL_law_892 rfl
theorem dL_law_909 : decode cL_law 909 = .ok (.iaload, 1) := dk46 (k := 17) bL_law_892 rfl
theorem dL_law_910 : decode cL_law 910 = .ok (.aload_n 0, 1) := dk42 (k := 18) bL_law_892 rfl
theorem dL_law_911 : decode cL_law 911 = .ok (.iload_n 3, 1) := dk29 (k := 19) bL_law_892 rfl
theorem dL_law_912 : decode cL_law 912 = .ok (.iconst 2, 1) := dk5 (k := 20) bL_law_892 rfl
theorem dL_law_913 : decode cL_law 913 = .ok (.iadd, 1) := dk96 (k := 21) bL_law_892 rfl
theorem dL_law_914 : decode cL_law 914 = .ok (.iaload, 1) := dk46 (k := 22) bL_law_892 rfl
theorem dL_law_915 : decode cL_law 915 = .ok (.invokevirtual 128, 3) := dk182 (k := 23) bL_law_892 rfl rfl
theorem bL_law_918 : bL cL_law 918 [87, 167, 4, 50, 43, 42, 29, 4, 96, 46, 42, 29, 5, 96, 46, 182, 0, 129, 87, 44, 42, 29, 4, 96] := bL_of (by decide +kernel)
theorem dL_law_918 : decode cL_law 918 = .ok (.pop, 1) := dk87 (k := 0) bL_law_918 rfl
theorem dL_law_919 : decode cL_law 919 = .ok (.goto 1074, 3) := dk167 (k := 1) bL_law_918 rfl (by decide)
theorem dL_law_922 : decode cL_law 922 = .ok (.aload_n 1, 1) := dk43 (k := 4) bL_law_918 rfl
theorem dL_law_923 : decode cL_law 923 = .ok (.aload_n 0, 1) := dk42 (k := 5) bL_law_918 rfl
theorem dL_law_924 : decode cL_law 924 = .ok (.iload_n 3, 1) := dk29 (k := 6) bL_law_918 rfl
theorem dL_law_925 : decode cL_law 925 = .ok (.iconst 1, 1) := dk4 (k := 7) bL_law_918 rfl
theorem dL_law_926 : decode cL_law 926 = .ok (.iadd, 1) := dk96 (k := 8) bL_law_918 rfl
theorem dL_law_927 : decode cL_law 927 = .ok (.iaload, 1) := dk46 (k := 9) bL_law_918 rfl
theorem dL_law_928 : decode cL_law 928 = .ok (.aload_n 0, 1) := dk42 (k := 10) bL_law_918 rfl
theorem dL_law_929 : decode cL_law 929 = .ok (.iload_n 3, 1) := dk29 (k := 11) bL_law_918 rfl
theorem dL_law_930 : decode cL_law 930 = .ok (.iconst 2, 1) := dk5 (k := 12) bL_law_918 rfl
theorem dL_law_931 : decode cL_law 931 = .ok (.iadd, 1) := dk96 (k := 13) bL_law_918 rfl
theorem dL_law_932 : decode cL_law 932 = .ok (.iaload, 1) := dk46 (k := 14) bL_law_918 rfl
theorem dL_law_933 : decode cL_law 933 = .ok (.invokevirtual 129, 3) := dk182 (k := 15) bL_law_918 rfl rfl
theorem dL_law_936 : decode cL_law 936 = .ok (.pop, 1) := dk87 (k := 18) bL_law_918 rfl
theorem dL_law_937 : decode cL_law 937 = .ok (.aload_n 2, 1) := dk44 (k := 19) bL_law_918 rfl
theorem dL_law_938 : decode cL_law 938 = .ok (.aload_n 0, 1) := dk42 (k := 20) bL_law_918 rfl
theorem dL_law_939 : decode cL_law 939 = .ok (.iload_n 3, 1) := dk29 (k := 21) bL_law_918 rfl
theorem dL_law_940 : decode cL_law 940 = .ok (.iconst 1, 1) := dk4 (k := 22) bL_law_918 rfl
theorem dL_law_941 : decode cL_law 941 = .ok (.iadd, 1) := dk96 (k := 23) bL_law_918 rfl
theorem bL_law_942 : bL cL_law 942 [46, 42, 29, 5, 96, 46, 182, 0, 132, 87, 167, 4, 17, 43, 42, 29, 4, 96, 46, 42, 29, 5, 96, 46] := bL_of (by decide +kernel)
theorem dL_law_942 : decode cL_law 942 = .ok (.iaload, 1) := dk46 (k := 0) bL_law_942 rfl
theorem dL_law_943 : decode cL_law 943 = .ok (.aload_n 0, 1) := dk42 (k := 1) bL_law_942 rfl
theorem dL_law_944 : decode cL_law 944 = .ok (.iload_n 3, 1) := dk29 (k := 2) bL_law_942 rfl
theorem dL_law_945 : decode cL_law 945 = .ok (.iconst 2, 1) := dk5 (k := 3) bL_law_942 rfl
theorem dL_law_946 : decode cL_law 946 = .ok (.iadd, 1) := dk96 (k := 4) bL_law_942 rfl
theorem dL_law_947 : decode cL_law 947 = .ok (.iaload, 1) := dk46 (k := 5) bL_law_942 rfl
theorem dL_law_948 : decode cL_law 948 = .ok (.invokevirtual 132, 3) := dk182 (k := 6) bL_law_942 rfl rfl
theorem dL_law_951 : decode cL_law 951 = .ok (.pop, 1) := dk87 (k := 9) bL_law_942 rfl
theorem dL_law_952 : decode cL_law 952 = .ok (.goto 1041, 3) := dk167 (k := 10) bL_law_942 rfl (by decide)
theorem dL_law_955 : decode cL_law 955 = .ok (.aload_n 1, 1) := dk43 (k := 13) bL_law_942 rfl
theorem dL_law_956 : decode cL_law 956 = .ok (.aload_n 0, 1) := dk42 (k := 14) bL_law_942 rfl
theorem dL_law_957 : decode cL_law 957 = .ok (.iload_n 3, 1) := dk29 (k := 15) bL_law_942 rfl
theorem dL_law_958 : decode cL_law 958 = .ok (.iconst 1, 1) := dk4 (k := 16) bL_law_942 rfl
theorem dL_law_959 : decode cL_law 959 = .ok (.iadd, 1) := dk96 (k := 17) bL_law_942 rfl
theorem dL_law_960 : decode cL_law 960 = .ok (.iaload, 1) := dk46 (k := 18) bL_law_942 rfl
theorem dL_law_961 : decode cL_law 961 = .ok (.aload_n 0, 1) := dk42 (k := 19) bL_law_942 rfl
theorem dL_law_962 : decode cL_law 962 = .ok (.iload_n 3, 1) := dk29 (k := 20) bL_law_942 rfl
theorem dL_law_963 : decode cL_law 963 = .ok (.iconst 2, 1) := dk5 (k := 21) bL_law_942 rfl
theorem dL_law_964 : decode cL_law 964 = .ok (.iadd, 1) := dk96 (k := 22) bL_law_942 rfl
theorem dL_law_965 : decode cL_law 965 = .ok (.iaload, 1) := dk46 (k := 23) bL_law_942 rfl
theorem bL_law_966 : bL cL_law 966 [182, 0, 133, 87, 44, 42, 29, 4, 96, 46, 42, 29, 5, 96, 46, 182, 0, 136, 87, 167, 3, 240, 43, 42] := bL_of (by decide +kernel)
theorem dL_law_966 : decode cL_law 966 = .ok (.invokevirtual 133, 3) := dk182 (k := 0) bL_law_966 rfl rfl
theorem dL_law_969 : decode cL_law 969 = .ok (.pop, 1) := dk87 (k := 3) bL_law_966 rfl
theorem dL_law_970 : decode cL_law 970 = .ok (.aload_n 2, 1) := dk44 (k := 4) bL_law_966 rfl
theorem dL_law_971 : decode cL_law 971 = .ok (.aload_n 0, 1) := dk42 (k := 5) bL_law_966 rfl
theorem dL_law_972 : decode cL_law 972 = .ok (.iload_n 3, 1) := dk29 (k := 6) bL_law_966 rfl
theorem dL_law_973 : decode cL_law 973 = .ok (.iconst 1, 1) := dk4 (k := 7) bL_law_966 rfl
theorem dL_law_974 : decode cL_law 974 = .ok (.iadd, 1) := dk96 (k := 8) bL_law_966 rfl
theorem dL_law_975 : decode cL_law 975 = .ok (.iaload, 1) := dk46 (k := 9) bL_law_966 rfl
theorem dL_law_976 : decode cL_law 976 = .ok (.aload_n 0, 1) := dk42 (k := 10) bL_law_966 rfl
theorem dL_law_977 : decode cL_law 977 = .ok (.iload_n 3, 1) := dk29 (k := 11) bL_law_966 rfl
theorem dL_law_978 : decode cL_law 978 = .ok (.iconst 2, 1) := dk5 (k := 12) bL_law_966 rfl
theorem dL_law_979 : decode cL_law 979 = .ok (.iadd, 1) := dk96 (k := 13) bL_law_966 rfl
theorem dL_law_980 : decode cL_law 980 = .ok (.iaload, 1) := dk46 (k := 14) bL_law_966 rfl
theorem dL_law_981 : decode cL_law 981 = .ok (.invokevirtual 136, 3) := dk182 (k := 15) bL_law_966 rfl rfl
theorem dL_law_984 : decode cL_law 984 = .ok (.pop, 1) := dk87 (k := 18) bL_law_966 rfl
theorem dL_law_985 : decode cL_law 985 = .ok (.goto 1008, 3) := dk167 (k := 19) bL_law_966 rfl (by decide)
theorem dL_law_988 : decode cL_law 988 = .ok (.aload_n 1, 1) := dk43 (k := 22) bL_law_966 rfl
theorem dL_law_989 : decode cL_law 989 = .ok (.aload_n 0, 1) := dk42 (k := 23) bL_law_966 rfl
theorem bL_law_990 : bL cL_law 990 [29, 4, 96, 46, 42, 29, 5, 96, 46, 42, 29, 6, 96, 46, 182, 0, 137, 87, 44, 42, 29, 4, 96, 46] := bL_of (by decide +kernel)
theorem dL_law_990 : decode cL_law 990 = .ok (.iload_n 3, 1) := dk29 (k := 0) bL_law_990 rfl
theorem dL_law_991 : decode cL_law 991 = .ok (.iconst 1, 1) := dk4 (k := 1) bL_law_990 rfl
theorem dL_law_992 : decode cL_law 992 = .ok (.iadd, 1) := dk96 (k := 2) bL_law_990 rfl
theorem dL_law_993 : decode cL_law 993 = .ok (.iaload, 1) := dk46 (k := 3) bL_law_990 rfl
theorem dL_law_994 : decode cL_law 994 = .ok (.aload_n 0, 1) := dk42 (k := 4) bL_law_990 rfl
theorem dL_law_995 : decode cL_law 995 = .ok (.iload_n 3, 1) := dk29 (k := 5) bL_law_990 rfl
theorem dL_law_996 : decode cL_law 996 = .ok (.iconst 2, 1) := dk5 (k := 6) bL_law_990 rfl
theorem dL_law_997 : decode cL_law 997 = .ok (.iadd, 1) := dk96 (k := 7) bL_law_990 rfl
theorem dL_law_998 : decode cL_law 998 = .ok (.iaload, 1) := dk46 (k := 8) bL_law_990 rfl
theorem dL_law_999 : decode cL_law 999 = .ok (.aload_n 0, 1) := dk42 (k := 9) bL_law_990 rfl
theorem dL_law_1000 : decode cL_law 1000 = .ok (.iload_n 3, 1) := dk29 (k := 10) bL_law_990 rfl
theorem dL_law_1001 : decode cL_law 1001 = .ok (.iconst 3, 1) := dk6 (k := 11) bL_law_990 rfl
theorem dL_law_1002 : decode cL_law 1002 = .ok (.iadd, 1) := dk96 (k := 12) bL_law_990 rfl
theorem dL_law_1003 : decode cL_law 1003 = .ok (.iaload, 1) := dk46 (k := 13) bL_law_990 rfl
theorem dL_law_1004 : decode cL_law 1004 = .ok (.invokevirtual 137, 3) := dk182 (k := 14) bL_law_990 rfl rfl
theorem dL_law_1007 : decode cL_law 1007 = .ok (.pop, 1) := dk87 (k := 17) bL_law_990 rfl
theorem dL_law_1008 : decode cL_law 1008 = .ok (.aload_n 2, 1) := dk44 (k := 18) bL_law_990 rfl
theorem dL_law_1009 : decode cL_law 1009 = .ok (.aload_n 0, 1) := dk42 (k := 19) bL_law_990 rfl
theorem dL_law_1010 : decode cL_law 1010 = .ok (.iload_n 3, 1) := dk29 (k := 20) bL_law_990 rfl
theorem dL_law_1011 : decode cL_law 1011 = .ok (.iconst 1, 1) := dk4 (k := 21) bL_law_990 rfl
theorem dL_law_1012 : decode cL_law 1012 = .ok (.iadd, 1) := dk96 (k := 22) bL_law_990 rfl
theorem dL_law_1013 : decode cL_law 1013 = .ok (.iaload, 1) := dk46 (k := 23) bL_law_990 rfl
theorem bL_law_1014 : bL cL_law 1014 [42, 29, 5, 96, 46, 42, 29, 6, 96, 46, 182, 0, 141, 87, 167, 3, 197, 43, 42, 29, 4, 96, 46, 42] := bL_of (by decide +kernel)
theorem dL_law_1014 : decode cL_law 1014 = .ok (.aload_n 0, 1) := dk42 (k := 0) bL_law_1014 rfl
theorem dL_law_1015 : decode cL_law 1015 = .ok (.iload_n 3, 1) := dk29 (k := 1) bL_law_1014 rfl
theorem dL_law_1016 : decode cL_law 1016 = .ok (.iconst 2, 1) := dk5 (k := 2) bL_law_1014 rfl
theorem dL_law_1017 : decode cL_law 1017 = .ok (.iadd, 1) := dk96 (k := 3) bL_law_1014 rfl
theorem dL_law_1018 : decode cL_law 1018 = .ok (.iaload, 1) := dk46 (k := 4) bL_law_1014 rfl
theorem dL_law_1019 : decode cL_law 1019 = .ok (.aload_n 0, 1) := dk42 (k := 5) bL_law_1014 rfl
theorem dL_law_1020 : decode cL_law 1020 = .ok (.iload_n 3, 1) := dk29 (k := 6) bL_law_1014 rfl
theorem dL_law_1021 : decode cL_law 1021 = .ok (.iconst 3, 1) := dk6 (k := 7) bL_law_1014 rfl
theorem dL_law_1022 : decode cL_law 1022 = .ok (.iadd, 1) := dk96 (k := 8) bL_law_1014 rfl
theorem dL_law_1023 : decode cL_law 1023 = .ok (.iaload, 1) := dk46 (k := 9) bL_law_1014 rfl
theorem dL_law_1024 : decode cL_law 1024 = .ok (.invokevirtual 141, 3) := dk182 (k := 10) bL_law_1014 rfl rfl
theorem dL_law_1027 : decode cL_law 1027 = .ok (.pop, 1) := dk87 (k := 13) bL_law_1014 rfl
theorem dL_law_1028 : decode cL_law 1028 = .ok (.goto 965, 3) := dk167 (k := 14) bL_law_1014 rfl (by decide)
theorem dL_law_1031 : decode cL_law 1031 = .ok (.aload_n 1, 1) := dk43 (k := 17) bL_law_1014 rfl
theorem dL_law_1032 : decode cL_law 1032 = .ok (.aload_n 0, 1) := dk42 (k := 18) bL_law_1014 rfl
theorem dL_law_1033 : decode cL_law 1033 = .ok (.iload_n 3, 1) := dk29 (k := 19) bL_law_1014 rfl
theorem dL_law_1034 : decode cL_law 1034 = .ok (.iconst 1, 1) := dk4 (k := 20) bL_law_1014 rfl
theorem dL_law_1035 : decode cL_law 1035 = .ok (.iadd, 1) := dk96 (k := 21) bL_law_1014 rfl
theorem dL_law_1036 : decode cL_law 1036 = .ok (.iaload, 1) := dk46 (k := 22) bL_law_1014 rfl
theorem dL_law_1037 : decode cL_law 1037 = .ok (.aload_n 0, 1) := dk42 (k := 23) bL_law_1014 rfl
theorem bL_law_1038 : bL cL_law 1038 [29, 5, 96, 46, 42, 29, 6, 96, 46, 182, 0, 142, 87, 44, 42, 29, 4, 96, 46, 42, 29, 5, 96, 46] := bL_of (by decide +kernel)
theorem dL_law_1038 : decode cL_law 1038 = .ok (.iload_n 3, 1) := dk29 (k := 0) bL_law_1038 rfl
theorem dL_law_1039 : decode cL_law 1039 = .ok (.iconst 2, 1) := dk5 (k := 1) bL_law_1038 rfl
theorem dL_law_1040 : decode cL_law 1040 = .ok (.iadd, 1) := dk96 (k := 2) bL_law_1038 rfl
theorem dL_law_1041 : decode cL_law 1041 = .ok (.iaload, 1) := dk46 (k := 3) bL_law_1038 rfl
theorem dL_law_1042 : decode cL_law 1042 = .ok (.aload_n 0, 1) := dk42 (k := 4) bL_law_1038 rfl
theorem dL_law_1043 : decode cL_law 1043 = .ok (.iload_n 3, 1) := dk29 (k := 5) bL_law_1038 rfl
theorem dL_law_1044 : decode cL_law 1044 = .ok (.iconst 3, 1) := dk6 (k := 6) bL_law_1038 rfl
theorem dL_law_1045 : decode cL_law 1045 = .ok (.iadd, 1) := dk96 (k := 7) bL_law_1038 rfl
theorem dL_law_1046 : decode cL_law 1046 = .ok (.iaload, 1) := dk46 (k := 8) bL_law_1038 rfl
theorem dL_law_1047 : decode cL_law 1047 = .ok (.invokevirtual 142, 3) := dk182 (k := 9) bL_law_1038 rfl rfl
theorem dL_law_1050 : decode cL_law 1050 = .ok (.pop, 1) := dk87 (k := 12) bL_law_1038 rfl
theorem dL_law_1051 : decode cL_law 1051 = .ok (.aload_n 2, 1) := dk44 (k := 13) bL_law_1038 rfl
theorem dL_law_1052 : decode cL_law 1052 = .ok (.aload_n 0, 1) := dk42 (k := 14) bL_law_1038 rfl
theorem dL_law_1053 : decode cL_law 1053 = .ok (.iload_n 3, 1) := dk29 (k := 15) bL_law_1038 rfl
theorem dL_law_1054 : decode cL_law 1054 = .ok (.iconst 1, 1) := dk4 (k := 16) bL_law_1038 rfl
theorem dL_law_1055 : decode cL_law 1055 = .ok (.iadd, 1) := dk96 (k := 17) bL_law_1038 rfl
theorem dL_law_1056 : decode cL_law 1056 = .ok (.iaload, 1) := dk46 (k := 18) bL_law_1038 rfl
theorem dL_law_1057 : decode cL_law 1057 = .ok (.aload_n 0, 1) := dk42 (k := 19) bL_law_1038 rfl
theorem dL_law_1058 : decode cL_law 1058 = .ok (.iload_n 3, 1) := dk29 (k := 20) bL_law_1038 rfl
theorem dL_law_1059 : decode cL_law 1059 = .ok (.iconst 2, 1) := dk5 (k := 21) bL_law_1038 rfl
theorem dL_law_1060 : decode cL_law 1060 = .ok (.iadd, 1) := dk96 (k := 22) bL_law_1038 rfl
theorem dL_law_1061 : decode cL_law 1061 = .ok (.iaload, 1) := dk46 (k := 23) bL_law_1038 rfl
theorem bL_law_1062 : bL cL_law 1062 [42, 29, 6, 96, 46, 182, 0, 145, 87, 167, 3, 154, 43, 42, 29, 4, 96, 46, 182, 0, 146, 87, 44, 42] := bL_of (by decide +kernel)
theorem dL_law_1062 : decode cL_law 1062 = .ok (.aload_n 0, 1) := dk42 (k := 0) bL_law_1062 rfl
theorem dL_law_1063 : decode cL_law 1063 = .ok (.iload_n 3, 1) := dk29 (k := 1) bL_law_1062 rfl
theorem dL_law_1064 : decode cL_law 1064 = .ok (.iconst 3, 1) := dk6 (k := 2) bL_law_1062 rfl
theorem dL_law_1065 : decode cL_law 1065 = .ok (.iadd, 1) := dk96 (k := 3) bL_law_1062 rfl
theorem dL_law_1066 : decode cL_law 1066 = .ok (.iaload, 1) := dk46 (k := 4) bL_law_1062 rfl
theorem dL_law_1067 : decode cL_law 1067 = .ok (.invokevirtual 145, 3) := dk182 (k := 5) bL_law_1062 rfl rfl
theorem dL_law_1070 : decode cL_law 1070 = .ok (.pop, 1) := dk87 (k := 8) bL_law_1062 rfl
theorem dL_law_1071 : decode cL_law 1071 = .ok (.goto 922, 3) := dk167 (k := 9) bL_law_1062 rfl (by decide)
theorem dL_law_1074 : decode cL_law 1074 = .ok (.aload_n 1, 1) := dk43 (k := 12) bL_law_1062 rfl
theorem dL_law_1075 : decode cL_law 1075 = .ok (.aload_n 0, 1) := dk42 (k := 13) bL_law_1062 rfl
theorem dL_law_1076 : decode cL_law 1076 = .ok (.iload_n 3, 1) := dk29 (k := 14) bL_law_1062 rfl
theorem dL_law_1077 : decode cL_law 1077 = .ok (.iconst 1, 1) := dk4 (k := 15) bL_law_1062 rfl
theorem dL_law_1078 : decode cL_law 1078 = .ok (.iadd, 1) := dk96 (k := 16) bL_law_1062 rfl
theorem dL_law_1079 : decode cL_law 1079 = .ok (.iaload, 1) := dk46 (k := 17) bL_law_1062 rfl
theorem dL_law_1080 : decode cL_law 1080 = .ok (.invokevirtual 146, 3) := dk182 (k := 18) bL_law_1062 rfl rfl
theorem dL_law_1083 : decode cL_law 1083 = .ok (.pop, 1) := dk87 (k := 21) bL_law_1062 rfl
theorem dL_law_1084 : decode cL_law 1084 = .ok (.aload_n 2, 1) := dk44 (k := 22) bL_law_1062 rfl
theorem dL_law_1085 : decode cL_law 1085 = .ok (.aload_n 0, 1) := dk42 (k := 23) bL_law_1062 rfl
theorem bL_law_1086 : bL cL_law 1086 [29, 4, 96, 46, 182, 0, 149, 87, 167, 3, 131, 43, 42, 29, 4, 96, 46, 182, 0, 150, 87, 44, 42, 29] := bL_of (by decide +kernel)
theorem dL_law_1086 : decode cL_law 1086 = .ok (.iload_n 3, 1) := dk29 (k := 0) bL_law_1086 rfl
theorem dL_law_1087 : decode cL_law 1087 = .ok (.iconst 1, 1) := dk4 (k := 1) bL_law_1086 rfl
theorem dL_law_1088 : decode cL_law 1088 = .ok (.iadd, 1) := dk96 (k := 2) bL_law_1086 rfl
theorem dL_law_1089 : decode cL_law 1089 = .ok (.iaload, 1) := dk46 (k := 3) bL_law_1086 rfl
theorem dL_law_1090 : decode cL_law 1090 = .ok (.invokevirtual 149, 3) := dk182 (k := 4) bL_law_1086 rfl rfl
theorem dL_law_1093 : decode cL_law 1093 = .ok (.pop, 1) := dk87 (k := 7) bL_law_1086 rfl
theorem dL_law_1094 : decode cL_law 1094 = .ok (.goto 899, 3) := dk167 (k := 8) bL_law_1086 rfl (by decide)
theorem dL_law_1097 : decode cL_law 1097 = .ok (.aload_n 1, 1) := dk43 (k := 11) bL_law_1086 rfl
theorem dL_law_1098 : decode cL_law 1098 = .ok (.aload_n 0, 1) := dk42 (k := 12) bL_law_1086 rfl
theorem dL_law_1099 : decode cL_law 1099 = .ok (.iload_n 3, 1) := dk29 (k := 13) bL_law_1086 rfl
theorem dL_law_1100 : decode cL_law 1100 = .ok (.iconst 1, 1) := dk4 (k := 14) bL_law_1086 rfl
theorem dL_law_1101 : decode cL_law 1101 = .ok (.iadd, 1) := dk96 (k := 15) bL_law_1086 rfl
theorem dL_law_1102 : decode cL_law 1102 = .ok (.iaload, 1) := dk46 (k := 16) bL_law_1086 rfl
theorem dL_law_1103 : decode cL_law 1103 = .ok (.invokevirtual 150, 3) := dk182 (k := 17) bL_law_1086 rfl rfl
theorem dL_law_1106 : decode cL_law 1106 = .ok (.pop, 1) := dk87 (k := 20) bL_law_1086 rfl
theorem dL_law_1107 : decode cL_law 1107 = .ok (.aload_n 2, 1) := dk44 (k := 21) bL_law_1086 rfl
theorem dL_law_1108 : decode cL_law 1108 = .ok (.aload_n 0, 1) := dk42 (k := 22) bL_law_1086 rfl
theorem dL_law_1109 : decode cL_law 1109 = .ok (.iload_n 3, 1) := dk29 (k := 23) bL_law_1086 rfl
theorem bL_law_1110 : bL cL_law 1110 [4, 96, 46, 182, 0, 153, 87, 167, 3, 108, 43, 182, 0, 154, 87, 44, 182, 0, 157, 87, 167, 3, 95, 43] := bL_of (by decide +kernel)
theorem dL_law_1110 : decode cL_law 1110 = .ok (.iconst 1, 1) := dk4 (k := 0) bL_law_1110 rfl
theorem dL_law_1111 : decode cL_law 1111 = .ok (.iadd, 1) := dk96 (k := 1) bL_law_1110 rfl
theorem dL_law_1112 : decode cL_law 1112 = .ok (.iaload, 1) := dk46 (k := 2) bL_law_1110 rfl
theorem dL_law_1113 : decode cL_law 1113 = .ok (.invokevirtual 153, 3) := dk182 (k := 3) bL_law_1110 rfl rfl
theorem dL_law_1116 : decode cL_law 1116 = .ok (.pop, 1) := dk87 (k := 6) bL_law_1110 rfl
theorem dL_law_1117 : decode cL_law 1117 = .ok (.goto 876, 3) := dk167 (k := 7) bL_law_1110 rfl (by decide)
theorem dL_law_1120 : decode cL_law 1120 = .ok (.aload_n 1, 1) := dk43 (k := 10) bL_law_1110 rfl
theorem dL_law_1121 : decode cL_law 1121 = .ok (.invokevirtual 154, 3) := dk182 (k := 11) bL_law_1110 rfl rfl
theorem dL_law_1124 : decode cL_law 1124 = .ok (.pop, 1) := dk87 (k := 14) bL_law_1110 rfl
theorem dL_law_1125 : decode cL_law 1125 = .ok (.aload_n 2, 1) := dk44 (k := 15) bL_law_1110 rfl
theorem dL_law_1126 : decode cL_law 1126 = .ok (.invokevirtual 157, 3) := dk182 (k := 16) bL_law_1110 rfl rfl
theorem dL_law_1129 : decode cL_law 1129 = .ok (.pop, 1) := dk87 (k := 19) bL_law_1110 rfl
theorem dL_law_1130 : decode cL_law 1130 = .ok (.goto 863, 3) := dk167 (k := 20) bL_law_1110 rfl (by decide)
theorem dL_law_1133 : decode cL_law 1133 = .ok (.aload_n 1, 1) := dk43 (k := 23) bL_law_1110 rfl
theorem bL_law_1134 : bL cL_law 1134 [182, 0, 158, 87, 44, 182, 0, 161, 87, 167, 3, 82, 43, 42, 29, 4, 96, 46, 182, 0, 162, 87, 44, 42] := bL_of (by decide +kernel)
theorem dL_law_1134 : decode cL_law 1134 = .ok (.invokevirtual 158, 3) := dk182 (k := 0) bL_law_1134 rfl rfl
theorem dL_law_1137 : decode cL_law 1137 = .ok (.pop, 1) := dk87 (k := 3) bL_law_1134 rfl
theorem dL_law_1138 : decode cL_law 1138 = .ok (.aload_n 2, 1) := dk44 (k := 4) bL_law_1134 rfl
theorem dL_law_1139 : decode cL_law 1139 = .ok (.invokevirtual 161, 3) := dk182 (k := 5) bL_law_1134 rfl rfl
theorem dL_law_1142 : decode cL_law 1142 = .ok (.pop, 1) := dk87 (k := 8) bL_law_1134 rfl
theorem dL_law_1143 : decode cL_law 1143 = .ok (.goto 850, 3) := dk167 (k := 9) bL_law_1134 rfl (by decide)
theorem dL_law_1146 : decode cL_law 1146 = .ok (.aload_n 1, 1) := dk43 (k := 12) bL_law_1134 rfl
theorem dL_law_1147 : decode cL_law 1147 = .ok (.aload_n 0, 1) := dk42 (k := 13) bL_law_1134 rfl
theorem dL_law_1148 : decode cL_law 1148 = .ok (.iload_n 3, 1) := dk29 (k := 14) bL_law_1134 rfl
theorem dL_law_1149 : decode cL_law 1149 = .ok (.iconst 1, 1) := dk4 (k := 15) bL_law_1134 rfl
theorem dL_law_1150 : decode cL_law 1150 = .ok (.iadd, 1) := dk96 (k := 16) bL_law_1134 rfl
theorem dL_law_1151 : decode cL_law 1151 = .ok (.iaload, 1) := dk46 (k := 17) bL_law_1134 rfl
theorem dL_law_1152 : decode cL_law 1152 = .ok (.invokevirtual 162, 3) := dk182 (k := 18) bL_law_1134 rfl rfl
theorem dL_law_1155 : decode cL_law 1155 = .ok (.pop, 1) := dk87 (k := 21) bL_law_1134 rfl
theorem dL_law_1156 : decode cL_law 1156 = .ok (.aload_n 2, 1) := dk44 (k := 22) bL_law_1134 rfl
theorem dL_law_1157 : decode cL_law 1157 = .ok (.aload_n 0, 1) := dk42 (k := 23) bL_law_1134 rfl
theorem bL_law_1158 : bL cL_law 1158 [29, 4, 96, 46, 182, 0, 165, 87, 167, 3, 59, 43, 182, 0, 166, 87, 44, 182, 0, 169, 87, 167, 3, 46] := bL_of (by decide +kernel)
theorem dL_law_1158 : decode cL_law 1158 = .ok (.iload_n 3, 1) := dk29 (k := 0) bL_law_1158 rfl
theorem dL_law_1159 : decode cL_law 1159 = .ok (.iconst 1, 1) := dk4 (k := 1) bL_law_1158 rfl
theorem dL_law_1160 : decode cL_law 1160 = .ok (.iadd, 1) := dk96 (k := 2) bL_law_1158 rfl
theorem dL_law_1161 : decode cL_law 1161 = .ok (.iaload, 1) := dk46 (k := 3) bL_law_1158 rfl
theorem dL_law_1162 : decode cL_law 1162 = .ok (.invokevirtual 165, 3) := dk182 (k := 4) bL_law_1158 rfl rfl
theorem dL_law_1165 : decode cL_law 1165 = .ok (.pop, 1) := dk87 (k := 7) bL_law_1158 rfl
theorem dL_law_1166 : decode cL_law 1166 = .ok (.goto 827, 3) := dk167 (k := 8) bL_law_1158 rfl (by decide)
theorem dL_law_1169 : decode cL_law 1169 = .ok (.aload_n 1, 1) := dk43 (k := 11) bL_law_1158 rfl
theorem dL_law_1170 : decode cL_law 1170 = .ok (.invokevirtual 166, 3) := dk182 (k := 12) bL_law_1158 rfl rfl
theorem dL_law_1173 : decode cL_law 1173 = .ok (.pop, 1) := dk87 (k := 15) bL_law_1158 rfl
theorem dL_law_1174 : decode cL_law 1174 = .ok (.aload_n 2, 1) := dk44 (k := 16) bL_law_1158 rfl
theorem dL_law_1175 : decode cL_law 1175 = .ok (.invokevirtual 169, 3) := dk182 (k := 17) bL_law_1158 rfl rfl
theorem dL_law_1178 : decode cL_law 1178 = .ok (.pop, 1) := dk87 (k := 20) bL_law_1158 rfl
theorem dL_law_1179 : decode cL_law 1179 = .ok (.goto 814, 3) := dk167 (k := 21) bL_law_1158 rfl (by decide)
theorem bL_law_1182 : bL cL_law 1182 [43, 42, 29, 4, 96, 46, 42, 29, 5, 96, 46, 182, 0, 170, 87, 44, 42, 29, 4, 96, 46, 42, 29, 5] := bL_of (by decide +kernel)
theorem dL_law_1182 : decode cL_law 1182 = .ok (.aload_n 1, 1) := dk43 (k := 0) bL_law_1182 rfl
theorem dL_law_1183 : decode cL_law 1183 = .ok (.aload_n 0, 1) := dk42 (k := 1) bL_law_1182 rfl
theorem dL_law_1184 : decode cL_law 1184 = .ok (.iload_n 3, 1) := dk29 (k := 2) bL_law_1182 rfl
theorem dL_law_1185 : decode cL_law 1185 = .ok (.iconst 1, 1) := dk4 (k := 3) bL_law_1182 rfl
theorem dL_law_1186 : decode cL_law 1186 = .ok (.iadd, 1) := dk96 (k := 4) bL_law_1182 rfl
theorem dL_law_1187 : decode cL_law 1187 = .ok (.iaload, 1) := dk46 (k := 5) bL_law_1182 rfl
theorem dL_law_1188 : decode cL_law 1188 = .ok (.aload_n 0, 1) := dk42 (k := 6) bL_law_1182 rfl
theorem dL_law_1189 : decode cL_law 1189 = .ok (.iload_n 3, 1) := dk29 (k := 7) bL_law_1182 rfl
theorem dL_law_1190 : decode cL_law 1190 = .ok (.iconst 2, 1) := dk5 (k := 8) bL_law_1182 rfl
theorem dL_law_1191 : decode cL_law 1191 = .ok (.iadd, 1) := dk96 (k := 9) bL_law_1182 rfl
theorem dL_law_1192 : decode cL_law 1192 = .ok (.iaload, 1) := dk46 (k := 10) bL_law_1182 rfl
theorem dL_law_1193 : decode cL_law 1193 = .ok (.invokevirtual 170, 3) := dk182 (k := 11) bL_law_1182 rfl rfl
theorem dL_law_1196 : decode cL_law 1196 = .ok (.pop, 1) := dk87 (k := 14) bL_law_1182 rfl
theorem dL_law_1197 : decode cL_law 1197 = .ok (.aload_n 2, 1) := dk44 (k := 15) bL_law_1182 rfl
theorem dL_law_1198 : decode cL_law 1198 = .ok (.aload_n 0, 1) := dk42 (k := 16) bL_law_1182 rfl
theorem dL_law_1199 : decode cL_law 1199 = .ok (.iload_n 3, 1) := dk29 (k := 17) bL_law_1182 rfl
theorem dL_law_1200 : decode cL_law 1200 = .ok (.iconst 1, 1) := dk4 (k := 18) bL_law_1182 rfl
theorem dL_law_1201 : decode cL_law 1201 = .ok (.iadd, 1) := dk96 (k := 19) bL_law_1182 rfl
theorem dL_law_1202 : decode cL_law 1202 = .ok (.iaload, 1) := dk46 (k := 20) bL_law_1182 rfl
theorem dL_law_1203 : decode cL_law 1203 = .ok (.aload_n 0, 1) := dk42 (k := 21) bL_law_1182 rfl
theorem dL_law_1204 : decode cL_law 1204 = .ok (.iload_n 3, 1) := dk29 (k := 22) bL_law_1182 rfl
theorem dL_law_1205 : decode cL_law 1205 = .ok (.iconst 2, 1) := dk5 (k := 23) bL_law_1182 rfl
theorem bL_law_1206 : bL cL_law 1206 [96, 46, 182, 0, 173, 87, 167, 3, 13, 43, 182, 0, 174, 87, 44, 182, 0, 177, 87, 167, 3, 0, 43, 182, 0, 178] := bL_of (by decide +kernel)
theorem dL_law_1206 : decode cL_law 1206 = .ok (.iadd, 1) := dk96 (k := 0) bL_law_1206 rfl
theorem dL_law_1207 : decode cL_law 1207 = .ok (.iaload, 1) := dk46 (k := 1) bL_law_1206 rfl
theorem dL_law_1208 : decode cL_law 1208 = .ok (.invokevirtual 173, 3) := dk182 (k := 2) bL_law_1206 rfl rfl
theorem dL_law_1211 : decode cL_law 1211 = .ok (.pop, 1) := dk87 (k := 5) bL_law_1206 rfl
theorem dL_law_1212 : decode cL_law 1212 = .ok (.goto 781, 3) := dk167 (k := 6) bL_law_1206 rfl (by decide)
theorem dL_law_1215 : decode cL_law 1215 = .ok (.aload_n 1, 1) := dk43 (k := 9) bL_law_1206 rfl
theorem dL_law_1216 : decode cL_law 1216 = .ok (.invokevirtual 174, 3) := dk182 (k := 10) bL_law_1206 rfl rfl
theorem dL_law_1219 : decode cL_law 1219 = .ok (.pop, 1) := dk87 (k := 13) bL_law_1206 rfl
theorem dL_law_1220 : decode cL_law 1220 = .ok (.aload_n 2, 1) := dk44 (k := 14) bL_law_1206 rfl
theorem dL_law_1221 : decode cL_law 1221 = .ok (.invokevirtual 177, 3) := dk182 (k := 15) bL_law_1206 rfl rfl
theorem dL_law_1224 : decode cL_law 1224 = .ok (.pop, 1) := dk87 (k := 18) bL_law_1206 rfl
theorem dL_law_1225 : decode cL_law 1225 = .ok (.goto 768, 3) := dk167 (k := 19) bL_law_1206 rfl (by decide)
theorem dL_law_1228 : decode cL_law 1228 = .ok (.aload_n 1, 1) := dk43 (k := 22) bL_law_1206 rfl
theorem dL_law_1229 : decode cL_law 1229 = .ok (.invokevirtual 178, 3) := dk182 (k := 23) bL_law_1206 rfl rfl
theorem bL_law_1232 : bL cL_law 1232 [87, 44, 182, 0, 181, 87, 167, 2, 243, 43, 42, 29, 4, 96, 46, 182, 0, 182, 87, 44, 42, 29, 4, 96] := bL_of (by decide +kernel)
theorem dL_law_1232 : decode cL_law 1232 = .ok (.pop, 1) := dk87 (k := 0) bL_law_1232 rfl
theorem dL_law_1233 : decode cL_law 1233 = .ok (.aload_n 2, 1) := dk44 (k := 1) bL_law_1232 rfl
theorem dL_law_1234 : decode cL_law 1234 = .ok (.invokevirtual 181, 3) := dk182 (k := 2) bL_law_1232 rfl rfl
theorem dL_law_1237 : decode cL_law 1237 = .ok (.pop, 1) := dk87 (k := 5) bL_law_1232 rfl
theorem dL_law_1238 : decode cL_law 1238 = .ok (.goto 755, 3) := dk167 (k := 6) bL_law_1232 rfl (by decide)
theorem dL_law_1241 : decode cL_law 1241 = .ok (.aload_n 1, 1) := dk43 (k := 9) bL_law_1232 rfl
theorem dL_law_1242 : decode cL_law 1242 = .ok (.aload_n 0, 1) := dk42 (k := 10) bL_law_1232 rfl
theorem dL_law_1243 : decode cL_law 1243 = .ok (.iload_n 3, 1) := dk29 (k := 11) bL_law_1232 rfl
theorem dL_law_1244 : decode cL_law 1244 = .ok (.iconst 1, 1) := dk4 (k := 12) bL_law_1232 rfl
theorem dL_law_1245 : decode cL_law 1245 = .ok (.iadd, 1) := dk96 (k := 13) bL_law_1232 rfl
theorem dL_law_1246 : decode cL_law 1246 = .ok (.iaload, 1) := dk46 (k := 14) bL_law_1232 rfl
theorem dL_law_1247 : decode cL_law 1247 = .ok (.invokevirtual 182, 3) := dk182 (k := 15) bL_law_1232 rfl rfl
theorem dL_law_1250 : decode cL_law 1250 = .ok (.pop, 1) := dk87 (k := 18) bL_law_1232 rfl
theorem dL_law_1251 : decode cL_law 1251 = .ok (.aload_n 2, 1) := dk44 (k := 19) bL_law_1232 rfl
theorem dL_law_1252 : decode cL_law 1252 = .ok (.aload_n 0, 1) := dk42 (k := 20) bL_law_1232 rfl
theorem dL_law_1253 : decode cL_law 1253 = .ok (.iload_n 3, 1) := dk29 (k := 21) bL_law_1232 rfl
theorem dL_law_1254 : decode cL_law 1254 = .ok (.iconst 1, 1) := dk4 (k := 22) bL_law_1232 rfl
theorem dL_law_1255 : decode cL_law 1255 = .ok (.iadd, 1) := dk96 (k := 23) bL_law_1232 rfl
theorem bL_law_1256 : bL cL_law 1256 [46, 182, 0, 185, 87, 167, 2, 220, 43, 42, 29, 4, 96, 46, 42, 29, 5, 96, 46, 182, 0, 186, 87, 44] := bL_of (by decide +kernel)
theorem dL_law_1256 : decode cL_law 1256 = .ok (.iaload, 1) := dk46 (k := 0) bL_law_1256 rfl
theorem dL_law_1257 : decode cL_law 1257 = .ok (.invokevirtual 185, 3) := dk182 (k := 1) bL_law_1256 rfl rfl
theorem dL_law_1260 : decode cL_law 1260 = .ok (.pop, 1) := dk87 (k := 4) bL_law_1256 rfl
theorem dL_law_1261 : decode cL_law 1261 = .ok (.goto 732, 3) := dk167 (k := 5) bL_law_1256 rfl (by decide)
theorem dL_law_1264 : decode cL_law 1264 = .ok (.aload_n 1, 1) := dk43 (k := 8) bL_law_1256 rfl
theorem dL_law_1265 : decode cL_law 1265 = .ok (.aload_n 0, 1) := dk42 (k := 9) bL_law_1256 rfl
theorem dL_law_1266 : decode cL_law 1266 = .ok (.iload_n 3, 1) := dk29 (k := 10) bL_law_1256 rfl
theorem dL_law_1267 : decode cL_law 1267 = .ok (.iconst 1, 1) := dk4 (k := 11) bL_law_1256 rfl
theorem dL_law_1268 : decode cL_law 1268 = .ok (.iadd, 1) := dk96 (k := 12) bL_law_1256 rfl
theorem dL_law_1269 : decode cL_law 1269 = .ok (.iaload, 1) := dk46 (k := 13) bL_law_1256 rfl
theorem dL_law_1270 : decode cL_law 1270 = .ok (.aload_n 0, 1) := dk42 (k := 14) bL_law_1256 rfl
theorem dL_law_1271 : decode cL_law 1271 = .ok (.iload_n 3, 1) := dk29 (k := 15) bL_law_1256 rfl
theorem dL_law_1272 : decode cL_law 1272 = .ok (.iconst 2, 1) := dk5 (k := 16) bL_law_1256 rfl
theorem dL_law_1273 : decode cL_law 1273 = .ok (.iadd, 1) := dk96 (k := 17) bL_law_1256 rfl
theorem dL_law_1274 : decode cL_law 1274 = .ok (.iaload, 1) := dk46 (k := 18) bL_law_1256 rfl
theorem dL_law_1275 : decode cL_law 1275 = .ok (.invokevirtual 186, 3) := dk182 (k := 19) bL_law_1256 rfl rfl
theorem dL_law_1278 : decode cL_law 1278 = .ok (.pop, 1) := dk87 (k := 22) bL_law_1256 rfl
theorem dL_law_1279 : decode cL_law 1279 = .ok (.aload_n 2, 1) := dk44 (k := 23) bL_law_1256 rfl
theorem bL_law_1280 : bL cL_law 1280 [42, 29, 4, 96, 46, 42, 29, 5, 96, 46, 182, 0, 189, 87, 167, 2, 187, 43, 182, 0, 190, 87, 44, 182, 0, 193] := bL_of (by decide +kernel)
theorem dL_law_1280 : decode cL_law 1280 = .ok (.aload_n 0, 1) := dk42 (k := 0) bL_law_1280 rfl
theorem dL_law_1281 : decode cL_law 1281 = .ok (.iload_n 3, 1) := dk29 (k := 1) bL_law_1280 rfl
theorem dL_law_1282 : decode cL_law 1282 = .ok (.iconst 1, 1) := dk4 (k := 2) bL_law_1280 rfl
theorem dL_law_1283 : decode cL_law 1283 = .ok (.iadd, 1) := dk96 (k := 3) bL_law_1280 rfl
theorem dL_law_1284 : decode cL_law 1284 = .ok (.iaload, 1) := dk46 (k := 4) bL_law_1280 rfl
theorem dL_law_1285 : decode cL_law 1285 = .ok (.aload_n 0, 1) := dk42 (k := 5) bL_law_1280 rfl
theorem dL_law_1286 : decode cL_law 1286 = .ok (.iload_n 3, 1) := dk29 (k := 6) bL_law_1280 rfl
theorem dL_law_1287 : decode cL_law 1287 = .ok (.iconst 2, 1) := dk5 (k := 7) bL_law_1280 rfl
theorem dL_law_1288 : decode cL_law 1288 = .ok (.iadd, 1) := dk96 (k := 8) bL_law_1280 rfl
theorem dL_law_1289 : decode cL_law 1289 = .ok (.iaload, 1) := dk46 (k := 9) bL_law_1280 rfl
theorem dL_law_1290 : decode cL_law 1290 = .ok (.invokevirtual 189, 3) := dk182 (k := 10) bL_law_1280 rfl rfl
theorem dL_law_1293 : decode cL_law 1293 = .ok (.pop, 1) := dk87 (k := 13) bL_law_1280 rfl
theorem dL_law_1294 : decode cL_law 1294 = .ok (.goto 699, 3) := dk167 (k := 14) bL_law_1280 rfl (by decide)
theorem dL_law_1297 : decode cL_law 1297 = .ok (.aload_n 1, 1) := dk43 (k := 17) bL_law_1280 rfl
theorem dL_law_1298 : decode cL_law 1298 = .ok (.invokevirtual 190, 3) := dk182 (k := 18) bL_law_1280 rfl rfl
theorem dL_law_1301 : decode cL_law 1301 = .ok (.pop, 1) := dk87 (k := 21) bL_law_1280 rfl
theorem dL_law_1302 : decode cL_law 1302 = .ok (.aload_n 2, 1) := dk44 (k := 22) bL_law_1280 rfl
theorem dL_law_1303 : decode cL_law 1303 = .ok (.invokevirtual 193, 3) := dk182 (k := 23) bL_law_1280 rfl rfl
theorem bL_law_1306 : bL cL_law 1306 [87, 167, 2, 174, 43, 42, 29, 4, 96, 46, 182, 0, 194, 87, 44, 42, 29, 4, 96, 46, 182, 0, 197, 87] := bL_of (by decide +kernel)
theorem dL_law_1306 : decode cL_law 1306 = .ok (.pop, 1) := dk87 (k := 0) bL_law_1306 rfl
theorem dL_law_1307 : decode cL_law 1307 = .ok (.goto 686, 3) := dk167 (k := 1) bL_law_1306 rfl (by decide)
theorem dL_law_1310 : decode cL_law 1310 = .ok (.aload_n 1, 1) := dk43 (k := 4) bL_law_1306 rfl
theorem dL_law_1311 : decode cL_law 1311 = .ok (.aload_n 0, 1) := dk42 (k := 5) bL_law_1306 rfl
theorem dL_law_1312 : decode cL_law 1312 = .ok (.iload_n 3, 1) := dk29 (k := 6) bL_law_1306 rfl
theorem dL_law_1313 : decode cL_law 1313 = .ok (.iconst 1, 1) := dk4 (k := 7) bL_law_1306 rfl
theorem dL_law_1314 : decode cL_law 1314 = .ok (.iadd, 1) := dk96 (k := 8) bL_law_1306 rfl
theorem dL_law_1315 : decode cL_law 1315 = .ok (.iaload, 1) := dk46 (k := 9) bL_law_1306 rfl
theorem dL_law_1316 : decode cL_law 1316 = .ok (.invokevirtual 194, 3) := dk182 (k := 10) bL_law_1306 rfl rfl
theorem dL_law_1319 : decode cL_law 1319 = .ok (.pop, 1) := dk87 (k := 13) bL_law_1306 rfl
theorem dL_law_1320 : decode cL_law 1320 = .ok (.aload_n 2, 1) := dk44 (k := 14) bL_law_1306 rfl
theorem dL_law_1321 : decode cL_law 1321 = .ok (.aload_n 0, 1) := dk42 (k := 15) bL_law_1306 rfl
theorem dL_law_1322 : decode cL_law 1322 = .ok (.iload_n 3, 1) := dk29 (k := 16) bL_law_1306 rfl
theorem dL_law_1323 : decode cL_law 1323 = .ok (.iconst 1, 1) := dk4 (k := 17) bL_law_1306 rfl
theorem dL_law_1324 : decode cL_law 1324 = .ok (.iadd, 1) := dk96 (k := 18) bL_law_1306 rfl
theorem dL_law_1325 : decode cL_law 1325 = .ok (.iaload, 1) := dk46 (k := 19) bL_law_1306 rfl
theorem dL_law_1326 : decode cL_law 1326 = .ok (.invokevirtual 197, 3) := dk182 (k := 20) bL_law_1306 rfl rfl
theorem dL_law_1329 : decode cL_law 1329 = .ok (.pop, 1) := dk87 (k := 23) bL_law_1306 rfl
theorem bL_law_1330 : bL cL_law 1330 [167, 2, 151, 43, 42, 29, 4, 96, 46, 182, 0, 198, 87, 44, 42, 29, 4, 96, 46, 182, 0, 201, 87, 167, 2, 128] := bL_of (by decide +kernel)
theorem dL_law_1330 : decode cL_law 1330 = .ok (.goto 663, 3) := dk167 (k := 0) bL_law_1330 rfl (by decide)
theorem dL_law_1333 : decode cL_law 1333 = .ok (.aload_n 1, 1) := dk43 (k := 3) bL_law_1330 rfl
theorem dL_law_1334 : decode cL_law 1334 = .ok (.aload_n 0, 1) := dk42 (k := 4) bL_law_1330 rfl
theorem dL_law_1335 : decode cL_law 1335 = .ok (.iload_n 3, 1) := dk29 (k := 5) bL_law_1330 rfl
theorem dL_law_1336 : decode cL_law 1336 = .ok (.iconst 1, 1) := dk4 (k := 6) bL_law_1330 rfl
theorem dL_law_1337 : decode cL_law 1337 = .ok (.iadd, 1) := dk96 (k := 7) bL_law_1330 rfl
theorem dL_law_1338 : decode cL_law 1338 = .ok (.iaload, 1) := dk46 (k := 8) bL_law_1330 rfl
theorem dL_law_1339 : decode cL_law 1339 = .ok (.invokevirtual 198, 3) := dk182 (k := 9) bL_law_1330 rfl rfl
theorem dL_law_1342 : decode cL_law 1342 = .ok (.pop, 1) := dk87 (k := 12) bL_law_1330 rfl
theorem dL_law_1343 : decode cL_law 1343 = .ok (.aload_n 2, 1) := dk44 (k := 13) bL_law_1330 rfl
theorem dL_law_1344 : decode cL_law 1344 = .ok (.aload_n 0, 1) := dk42 (k := 14) bL_law_1330 rfl
theorem dL_law_1345 : decode cL_law 1345 = .ok (.iload_n 3, 1) := dk29 (k := 15) bL_law_1330 rfl
theorem dL_law_1346 : decode cL_law 1346 = .ok (.iconst 1, 1) := dk4 (k := 16) bL_law_1330 rfl
theorem dL_law_1347 : decode cL_law 1347 = .ok (.iadd, 1) := dk96 (k := 17) bL_law_1330 rfl
theorem dL_law_1348 : decode cL_law 1348 = .ok (.iaload, 1) := dk46 (k := 18) bL_law_1330 rfl
theorem dL_law_1349 : decode cL_law 1349 = .ok (.invokevirtual 201, 3) := dk182 (k := 19) bL_law_1330 rfl rfl
theorem dL_law_1352 : decode cL_law 1352 = .ok (.pop, 1) := dk87 (k := 22) bL_law_1330 rfl
theorem dL_law_1353 : decode cL_law 1353 = .ok (.goto 640, 3) := dk167 (k := 23) bL_law_1330 rfl (by decide)
theorem bL_law_1356 : bL cL_law 1356 [43, 42, 29, 4, 96, 46, 42, 29, 5, 96, 46, 182, 0, 202, 87, 44, 42, 29, 4, 96, 46, 42, 29, 5] := bL_of (by decide +kernel)
theorem dL_law_1356 : decode cL_law 1356 = .ok (.aload_n 1, 1) := dk43 (k := 0) bL_law_1356 rfl
theorem dL_law_1357 : decode cL_law 1357 = .ok (.aload_n 0, 1) := dk42 (k := 1) bL_law_1356 rfl
theorem dL_law_1358 : decode cL_law 1358 = .ok (.iload_n 3, 1) := dk29 (k := 2) bL_law_1356 rfl
theorem dL_law_1359 : decode cL_law 1359 = .ok (.iconst 1, 1) := dk4 (k := 3) bL_law_1356 rfl
theorem dL_law_1360 : decode cL_law 1360 = .ok (.iadd, 1) := dk96 (k := 4) bL_law_1356 rfl
theorem dL_law_1361 : decode cL_law 1361 = .ok (.iaload, 1) := dk46 (k := 5) bL_law_1356 rfl
theorem dL_law_1362 : decode cL_law 1362 = .ok (.aload_n 0, 1) := dk42 (k := 6) bL_law_1356 rfl
theorem dL_law_1363 : decode cL_law 1363 = .ok (.iload_n 3, 1) := dk29 (k := 7) bL_law_1356 rfl
theorem dL_law_1364 : decode cL_law 1364 = .ok (.iconst 2, 1) := dk5 (k := 8) bL_law_1356 rfl
theorem dL_law_1365 : decode cL_law 1365 = .ok (.iadd, 1) := dk96 (k := 9) bL_law_1356 rfl
theorem dL_law_1366 : decode cL_law 1366 = .ok (.iaload, 1) := dk46 (k := 10) bL_law_1356 rfl
theorem dL_law_1367 : decode cL_law 1367 = .ok (.invokevirtual 202, 3) := dk182 (k := 11) bL_law_1356 rfl rfl
theorem dL_law_1370 : decode cL_law 1370 = .ok (.pop, 1) := dk87 (k := 14) bL_law_1356 rfl
theorem dL_law_1371 : decode cL_law 1371 = .ok (.aload_n 2, 1) := dk44 (k := 15) bL_law_1356 rfl
theorem dL_law_1372 : decode cL_law 1372 = .ok (.aload_n 0, 1) := dk42 (k := 16) bL_law_1356 rfl
theorem dL_law_1373 : decode cL_law 1373 = .ok (.iload_n 3, 1) := dk29 (k := 17) bL_law_1356 rfl
theorem dL_law_1374 : decode cL_law 1374 = .ok (.iconst 1, 1) := dk4 (k := 18) bL_law_1356 rfl
theorem dL_law_1375 : decode cL_law 1375 = .ok (.iadd, 1) := dk96 (k := 19) bL_law_1356 rfl
theorem dL_law_1376 : decode cL_law 1376 = .ok (.iaload, 1) := dk46 (k := 20) bL_law_1356 rfl
theorem dL_law_1377 : decode cL_law 1377 = .ok (.aload_n 0, 1) := dk42 (k := 21) bL_law_1356 rfl
theorem dL_law_1378 : decode cL_law 1378 = .ok (.iload_n 3, 1) := dk29 (k := 22) bL_law_1356 rfl
theorem dL_law_1379 : decode cL_law 1379 = .ok (.iconst 2, 1) := dk5 (k := 23) bL_law_1356 rfl
theorem bL_law_1380 : bL cL_law 1380 [96, 46, 182, 0, 205, 87, 167, 2, 95, 43, 42, 29, 4, 96, 46, 182, 0, 206, 87, 44, 42, 29, 4, 96] := bL_of (by decide +kernel)
theorem dL_law_1380 : decode cL_law 1380 = .ok (.iadd, 1) := dk96 (k := 0) bL_law_1380 rfl
theorem dL_law_1381 : decode cL_law 1381 = .ok (.iaload, 1) := dk46 (k := 1) bL_law_1380 rfl
theorem dL_law_1382 : decode cL_law 1382 = .ok (.invokevirtual 205, 3) := dk182 (k := 2) bL_law_1380 rfl rfl
theorem dL_law_1385 : decode cL_law 1385 = .ok (.pop, 1) := dk87 (k := 5) bL_law_1380 rfl
theorem dL_law_1386 : decode cL_law 1386 = .ok (.goto 607, 3) := dk167 (k := 6) bL_law_1380 rfl (by decide)
theorem dL_law_1389 : decode cL_law 1389 = .ok (.aload_n 1, 1) := dk43 (k := 9) bL_law_1380 rfl
theorem dL_law_1390 : decode cL_law 1390 = .ok (.aload_n 0, 1) := dk42 (k := 10) bL_law_1380 rfl
theorem dL_law_1391 : decode cL_law 1391 = .ok (.iload_n 3, 1) := dk29 (k := 11) bL_law_1380 rfl
theorem dL_law_1392 : decode cL_law 1392 = .ok (.iconst 1, 1) := dk4 (k := 12) bL_law_1380 rfl
theorem dL_law_1393 : decode cL_law 1393 = .ok (.iadd, 1) := dk96 (k := 13) bL_law_1380 rfl
theorem dL_law_1394 : decode cL_law 1394 = .ok (.iaload, 1) := dk46 (k := 14) bL_law_1380 rfl
theorem dL_law_1395 : decode cL_law 1395 = .ok (.invokevirtual 206, 3) := dk182 (k := 15) bL_law_1380 rfl rfl
theorem dL_law_1398 : decode cL_law 1398 = .ok (.pop, 1) := dk87 (k := 18) bL_law_1380 rfl
theorem dL_law_1399 : decode cL_law 1399 = .ok (.aload_n 2, 1) := dk44 (k := 19) bL_law_1380 rfl
theorem dL_law_1400 : decode cL_law 1400 = .ok (.aload_n 0, 1) := dk42 (k := 20) bL_law_1380 rfl
theorem dL_law_1401 : decode cL_law 1401 = .ok (.iload_n 3, 1) := dk29 (k := 21) bL_law_1380 rfl
theorem dL_law_1402 : decode cL_law 1402 = .ok (.iconst 1, 1) := dk4 (k := 22) bL_law_1380 rfl
theorem dL_law_1403 : decode cL_law 1403 = .ok (.iadd, 1) := dk96 (k := 23) bL_law_1380 rfl
theorem bL_law_1404 : bL cL_law 1404 [46, 182, 0, 209, 87, 167, 2, 72, 43, 182, 0, 210, 87, 44, 182, 0, 213, 87, 167, 2, 59, 43, 42, 29] := bL_of (by decide +kernel)
theorem dL_law_1404 : decode cL_law 1404 = .ok (.iaload, 1) := dk46 (k := 0) bL_law_1404 rfl
theorem dL_law_1405 : decode cL_law 1405 = .ok (.invokevirtual 209, 3) := dk182 (k := 1) bL_law_1404 rfl rfl
theorem dL_law_1408 : decode cL_law 1408 = .ok (.pop, 1) := dk87 (k := 4) bL_law_1404 rfl
theorem dL_law_1409 : decode cL_law 1409 = .ok (.goto 584, 3) := dk167 (k := 5) bL_law_1404 rfl (by decide)
theorem dL_law_1412 : decode cL_law 1412 = .ok (.aload_n 1, 1) := dk43 (k := 8) bL_law_1404 rfl
theorem dL_law_1413 : decode cL_law 1413 = .ok (.invokevirtual 210, 3) := dk182 (k := 9) bL_law_1404 rfl rfl
theorem dL_law_1416 : decode cL_law 1416 = .ok (.pop, 1) := dk87 (k := 12) bL_law_1404 rfl
theorem dL_law_1417 : decode cL_law 1417 = .ok (.aload_n 2, 1) := dk44 (k := 13) bL_law_1404 rfl
theorem dL_law_1418 : decode cL_law 1418 = .ok (.invokevirtual 213, 3) := dk182 (k := 14) bL_law_1404 rfl rfl
theorem dL_law_1421 : decode cL_law 1421 = .ok (.pop, 1) := dk87 (k := 17) bL_law_1404 rfl
theorem dL_law_1422 : decode cL_law 1422 = .ok (.goto 571, 3) := dk167 (k := 18) bL_law_1404 rfl (by decide)
theorem dL_law_1425 : decode cL_law 1425 = .ok (.aload_n 1, 1) := dk43 (k := 21) bL_law_1404 rfl
theorem dL_law_1426 : decode cL_law 1426 = .ok (.aload_n 0, 1) := dk42 (k := 22) bL_law_1404 rfl
theorem dL_law_1427 : decode cL_law 1427 = .ok (.iload_n 3, 1) := dk29 (k := 23) bL_law_1404 rfl
theorem bL_law_1428 : bL cL_law 1428 [4, 96, 46, 182, 0, 214, 87, 44, 42, 29, 4, 96, 46, 182, 0, 217, 87, 167, 2, 36, 43, 42, 29, 4] := bL_of (by decide +kernel)
theorem dL_law_1428 : decode cL_law 1428 = .ok (.iconst 1, 1) := dk4 (k := 0) bL_law_1428 rfl
theorem dL_law_1429 : decode cL_law 1429 = .ok (.iadd, 1) := dk96 (k := 1) bL_law_1428 rfl
theorem dL_law_1430 : decode cL_law 1430 = .ok (.iaload, 1) := dk46 (k := 2) bL_law_1428 rfl
theorem dL_law_1431 : decode cL_law 1431 = .ok (.invokevirtual 214, 3) := dk182 (k := 3) bL_law_1428 rfl rfl
theorem dL_law_1434 : decode cL_law 1434 = .ok (.pop, 1) := dk87 (k := 6) bL_law_1428 rfl
theorem dL_law_1435 : decode cL_law 1435 = .ok (.aload_n 2, 1) := dk44 (k := 7) bL_law_1428 rfl
theorem dL_law_1436 : decode cL_law 1436 = .ok (.aload_n 0, 1) := dk42 (k := 8) bL_law_1428 rfl
theorem dL_law_1437 : decode cL_law 1437 = .ok (.iload_n 3, 1) := dk29 (k := 9) bL_law_1428 rfl
theorem dL_law_1438 : decode cL_law 1438 = .ok (.iconst 1, 1) := dk4 (k := 10) bL_law_1428 rfl
theorem dL_law_1439 : decode cL_law 1439 = .ok (.iadd, 1) := dk96 (k := 11) bL_law_1428 rfl
theorem dL_law_1440 : decode cL_law 1440 = .ok (.iaload, 1) := dk46 (k := 12) bL_law_1428 rfl
theorem dL_law_1441 : decode cL_law 1441 = .ok (.invokevirtual 217, 3) := dk182 (k := 13) bL_law_1428 rfl rfl
theorem dL_law_1444 : decode cL_law 1444 = .ok (.pop, 1) := dk87 (k := 16) bL_law_1428 rfl
theorem dL_law_1445 : decode cL_law 1445 = .ok (.goto 548, 3) := dk167 (k := 17) bL_law_1428 rfl (by decide)
theorem dL_law_1448 : decode cL_law 1448 = .ok (.aload_n 1, 1) := dk43 (k := 20) bL_law_1428 rfl
theorem dL_law_1449 : decode cL_law 1449 = .ok (.aload_n 0, 1) := dk42 (k := 21) bL_law_1428 rfl
theorem dL_law_1450 : decode cL_law 1450 = .ok (.iload_n 3, 1) := dk29 (k := 22) bL_law_1428 rfl
theorem dL_law_1451 : decode cL_law 1451 = .ok (.iconst 1, 1) := dk4 (k := 23) bL_law_1428 rfl
theorem bL_law_1452 : bL cL_law 1452 [96, 46, 42, 29, 5, 96, 46, 182, 0, 218, 87, 44, 42, 29, 4, 96, 46, 42, 29, 5, 96, 46, 182, 0, 221] := bL_of (by decide +kernel)
theorem dL_law_1452 : decode cL_law 1452 = .ok (.iadd, 1) := dk96 (k := 0) bL_law_1452 rfl
theorem dL_law_1453 : decode cL_law 1453 = .ok (.iaload, 1) := dk46 (k := 1) bL_law_1452 rfl
theorem dL_law_1454 : decode cL_law 1454 = .ok (.aload_n 0, 1) := dk42 (k := 2) bL_law_1452 rfl
theorem dL_law_1455 : decode cL_law 1455 = .ok (.iload_n 3, 1) := dk29 (k := 3) bL_law_1452 rfl
theorem dL_law_1456 : decode cL_law 1456 = .ok (.iconst 2, 1) := dk5 (k := 4) bL_law_1452 rfl
theorem dL_law_1457 : decode cL_law 1457 = .ok (.iadd, 1) := dk96 (k := 5) bL_law_1452 rfl
theorem dL_law_1458 : decode cL_law 1458 = .ok (.iaload, 1) := dk46 (k := 6) bL_law_1452 rfl
theorem dL_law_1459 : decode cL_law 1459 = .ok (.invokevirtual 218, 3) := dk182 (k := 7) bL_law_1452 rfl rfl
theorem dL_law_1462 : decode cL_law 1462 = .ok (.pop, 1) := dk87 (k := 10) bL_law_1452 rfl
theorem dL_law_1463 : decode cL_law 1463 = .ok (.aload_n 2, 1) := dk44 (k := 11) bL_law_1452 rfl
theorem dL_law_1464 : decode cL_law 1464 = .ok (.aload_n 0, 1) := dk42 (k := 12) bL_law_1452 rfl
theorem dL_law_1465 : decode cL_law 1465 = .ok (.iload_n 3, 1) := dk29 (k := 13) bL_law_1452 rfl
theorem dL_law_1466 : decode cL_law 1466 = .ok (.iconst 1, 1) := dk4 (k := 14) bL_law_1452 rfl
theorem dL_law_1467 : decode cL_law 1467 = .ok (.iadd, 1) := dk96 (k := 15) bL_law_1452 rfl
theorem dL_law_1468 : decode cL_law 1468 = .ok (.iaload, 1) := dk46 (k := 16) bL_law_1452 rfl
theorem dL_law_1469 : decode cL_law 1469 = .ok (.aload_n 0, 1) := dk42 (k := 17) bL_law_1452 rfl
theorem dL_law_1470 : decode cL_law 1470 = .ok (.iload_n 3, 1) := dk29 (k := 18) bL_law_1452 rfl
theorem dL_law_1471 : decode cL_law 1471 = .ok (.iconst 2, 1) := dk5 (k := 19) bL_law_1452 rfl
theorem dL_law_1472 : decode cL_law 1472 = .ok (.iadd, 1) := dk96 (k := 20) bL_law_1452 rfl
theorem dL_law_1473 : decode cL_law 1473 = .ok (.iaload, 1) := dk46 (k := 21) bL_law_1452 rfl
theorem dL_law_1474 : decode cL_law 1474 = .ok (.invokevirtual 221, 3) := dk182 (k := 22) bL_law_1452 rfl rfl
theorem bL_law_1477 : bL cL_law 1477 [87, 167, 2, 3, 43, 42, 29, 4, 96, 46, 42, 29, 5, 96, 46, 182, 0, 222, 87, 44, 42, 29, 4, 96] := bL_of (by decide +kernel)
theorem dL_law_1477 : decode cL_law 1477 = .ok (.pop, 1) := dk87 (k := 0) bL_law_1477 rfl
theorem dL_law_1478 : decode cL_law 1478 = .ok (.goto 515, 3) := dk167 (k := 1) bL_law_1477 rfl (by decide)
theorem dL_law_1481 : decode cL_law 1481 = .ok (.aload_n 1, 1) := dk43 (k := 4) bL_law_1477 rfl
theorem dL_law_1482 : decode cL_law 1482 = .ok (.aload_n 0, 1) := dk42 (k := 5) bL_law_1477 rfl
theorem dL_law_1483 : decode cL_law 1483 = .ok (.iload_n 3, 1) := dk29 (k := 6) bL_law_1477 rfl
theorem dL_law_1484 : decode cL_law 1484 = .ok (.iconst 1, 1) := dk4 (k := 7) bL_law_1477 rfl
theorem dL_law_1485 : decode cL_law 1485 = .ok (.iadd, 1) := dk96 (k := 8) bL_law_1477 rfl
theorem dL_law_1486 : decode cL_law 1486 = .ok (.iaload, 1) := dk46 (k := 9) bL_law_1477 rfl
theorem dL_law_1487 : decode cL_law 1487 = .ok (.aload_n 0, 1) := dk42 (k := 10) bL_law_1477 rfl
theorem dL_law_1488 : decode cL_law 1488 = .ok (.iload_n 3, 1) := dk29 (k := 11) bL_law_1477 rfl
theorem dL_law_1489 : decode cL_law 1489 = .ok (.iconst 2, 1) := dk5 (k := 12) bL_law_1477 rfl
theorem dL_law_1490 : decode cL_law 1490 = .ok (.iadd, 1) := dk96 (k := 13) bL_law_1477 rfl
theorem dL_law_1491 : decode cL_law 1491 = .ok (.iaload, 1) := dk46 (k := 14) bL_law_1477 rfl
theorem dL_law_1492 : decode cL_law 1492 = .ok (.invokevirtual 222, 3) := dk182 (k := 15) bL_law_1477 rfl rfl
theorem dL_law_1495 : decode cL_law 1495 = .ok (.pop, 1) := dk87 (k := 18) bL_law_1477 rfl
theorem dL_law_1496 : decode cL_law 1496 = .ok (.aload_n 2, 1) := dk44 (k := 19) bL_law_1477 rfl
theorem dL_law_1497 : decode cL_law 1497 = .ok (.aload_n 0, 1) := dk42 (k := 20) bL_law_1477 rfl
theorem dL_law_1498 : decode cL_law 1498 = .ok (.iload_n 3, 1) := dk29 (k := 21) bL_law_1477 rfl
theorem dL_law_1499 : decode cL_law 1499 = .ok (.iconst 1, 1) := dk4 (k := 22) bL_law_1477 rfl
theorem dL_law_1500 : decode cL_law 1500 = .ok (.iadd, 1) := dk96 (k := 23) bL_law_1477 rfl
theorem bL_law_1501 : bL cL_law 1501 [46, 42, 29, 5, 96, 46, 182, 0, 225, 87, 167, 1, 226, 43, 42, 29, 4, 96, 46, 182, 0, 226, 87, 44] := bL_of (by decide +kernel)
theorem dL_law_1501 : decode cL_law 1501 = .ok (.iaload, 1) := dk46 (k := 0) bL_law_1501 rfl
theorem dL_law_1502 : decode cL_law 1502 = .ok (.aload_n 0, 1) := dk42 (k := 1) bL_law_1501 rfl
theorem dL_law_1503 : decode cL_law 1503 = .ok (.iload_n 3, 1) := dk29 (k := 2) bL_law_1501 rfl
theorem dL_law_1504 : decode cL_law 1504 = .ok (.iconst 2, 1) := dk5 (k := 3) bL_law_1501 rfl
theorem dL_law_1505 : decode cL_law 1505 = .ok (.iadd, 1) := dk96 (k := 4) bL_law_1501 rfl
theorem dL_law_1506 : decode cL_law 1506 = .ok (.iaload, 1) := dk46 (k := 5) bL_law_1501 rfl
theorem dL_law_1507 : decode cL_law 1507 = .ok (.invokevirtual 225, 3) := dk182 (k := 6) bL_law_1501 rfl rfl
theorem dL_law_1510 : decode cL_law 1510 = .ok (.pop, 1) := dk87 (k := 9) bL_law_1501 rfl
theorem dL_law_1511 : decode cL_law 1511 = .ok (.goto 482, 3) := dk167 (k := 10) bL_law_1501 rfl (by decide)
theorem dL_law_1514 : decode cL_law 1514 = .ok (.aload_n 1, 1) := dk43 (k := 13) bL_law_1501 rfl
theorem dL_law_1515 : decode cL_law 1515 = .ok (.aload_n 0, 1) := dk42 (k := 14) bL_law_1501 rfl
theorem dL_law_1516 : decode cL_law 1516 = .ok (.iload_n 3, 1) := dk29 (k := 15) bL_law_1501 rfl
theorem dL_law_1517 : decode cL_law 1517 = .ok (.iconst 1, 1) := dk4 (k := 16) bL_law_1501 rfl
theorem dL_law_1518 : decode cL_law 1518 = .ok (.iadd, 1) := dk96 (k := 17) bL_law_1501 rfl
theorem dL_law_1519 : decode cL_law 1519 = .ok (.iaload, 1) := dk46 (k := 18) bL_law_1501 rfl
theorem dL_law_1520 : decode cL_law 1520 = .ok (.invokevirtual 226, 3) := dk182 (k := 19) bL_law_1501 rfl rfl
theorem dL_law_1523 : decode cL_law 1523 = .ok (.pop, 1) := dk87 (k := 22) bL_law_1501 rfl
theorem dL_law_1524 : decode cL_law 1524 = .ok (.aload_n 2, 1) := dk44 (k := 23) bL_law_1501 rfl
theorem bL_law_1525 : bL cL_law 1525 [42, 29, 4, 96, 46, 182, 0, 229, 87, 167, 1, 203, 43, 42, 29, 4, 96, 46, 182, 0, 230, 87, 44, 42] := bL_of (by decide +kernel)
theorem dL_law_1525 : decode cL_law 1525 = .ok (.aload_n 0, 1) := dk42 (k := 0) bL_law_1525 rfl
theorem dL_law_1526 : decode cL_law 1526 = .ok (.iload_n 3, 1) := dk29 (k := 1) bL_law_1525 rfl
theorem dL_law_1527 : decode cL_law 1527 = .ok (.iconst 1, 1) := dk4 (k := 2) bL_law_1525 rfl
theorem dL_law_1528 : decode cL_law 1528 = .ok (.iadd, 1) := dk96 (k := 3) bL_law_1525 rfl
theorem dL_law_1529 : decode cL_law 1529 = .ok (.iaload, 1) := dk46 (k := 4) bL_law_1525 rfl
theorem dL_law_1530 : decode cL_law 1530 = .ok (.invokevirtual 229, 3) := dk182 (k := 5) bL_law_1525 rfl rfl
theorem dL_law_1533 : decode cL_law 1533 = .ok (.pop, 1) := dk87 (k := 8) bL_law_1525 rfl
theorem dL_law_1534 : decode cL_law 1534 = .ok (.goto 459, 3) := dk167 (k := 9) bL_law_1525 rfl (by decide)
theorem dL_law_1537 : decode cL_law 1537 = .ok (.aload_n 1, 1) := dk43 (k := 12) bL_law_1525 rfl
theorem dL_law_1538 : decode cL_law 1538 = .ok (.aload_n 0, 1) := dk42 (k := 13) bL_law_1525 rfl
theorem dL_law_1539 : decode cL_law 1539 = .ok (.iload_n 3, 1) := dk29 (k := 14) bL_law_1525 rfl
theorem dL_law_1540 : decode cL_law 1540 = .ok (.iconst 1, 1) := dk4 (k := 15) bL_law_1525 rfl
theorem dL_law_1541 : decode cL_law 1541 = .ok (.iadd, 1) := dk96 (k := 16) bL_law_1525 rfl
theorem dL_law_1542 : decode cL_law 1542 = .ok (.iaload, 1) := dk46 (k := 17) bL_law_1525 rfl
theorem dL_law_1543 : decode cL_law 1543 = .ok (.invokevirtual 230, 3) := dk182 (k := 18) bL_law_1525 rfl rfl
theorem dL_law_1546 : decode cL_law 1546 = .ok (.pop, 1) := dk87 (k := 21) bL_law_1525 rfl
theorem dL_law_1547 : decode cL_law 1547 = .ok (.aload_n 2, 1) := dk44 (k := 22) bL_law_1525 rfl
theorem dL_law_1548 : decode cL_law 1548 = .ok (.aload_n 0, 1) := dk42 (k := 23) bL_law_1525 rfl
theorem bL_law_1549 : bL cL_law 1549 [29, 4, 96, 46, 182, 0, 233, 87, 167, 1, 180, 43, 42, 29, 4, 96, 46, 42, 29, 5, 96, 46, 182, 0, 234] := bL_of (by decide +kernel)
theorem dL_law_1549 : decode cL_law 1549 = .ok (.iload_n 3, 1) := dk29 (k := 0) bL_law_1549 rfl
theorem dL_law_1550 : decode cL_law 1550 = .ok (.iconst 1, 1) := dk4 (k := 1) bL_law_1549 rfl
theorem dL_law_1551 : decode cL_law 1551 = .ok (.iadd, 1) := dk96 (k := 2) bL_law_1549 rfl
theorem dL_law_1552 : decode cL_law 1552 = .ok (.iaload, 1) := dk46 (k := 3) bL_law_1549 rfl
theorem dL_law_1553 : decode cL_law 1553 = .ok (.invokevirtual 233, 3) := dk182 (k := 4) bL_law_1549 rfl rfl
theorem dL_law_1556 : decode cL_law 1556 = .ok (.pop, 1) := dk87 (k := 7) bL_law_1549 rfl
theorem dL_law_1557 : decode cL_law 1557 = .ok (.goto 436, 3) := dk167 (k := 8) bL_law_1549 rfl (by decide)
theorem dL_law_1560 : decode cL_law 1560 = .ok (.aload_n 1, 1) := dk43 (k := 11) bL_law_1549 rfl
theorem dL_law_1561 : decode cL_law 1561 = .ok (.aload_n 0, 1) := dk42 (k := 12) bL_law_1549 rfl
theorem dL_law_1562 : decode cL_law 1562 = .ok (.iload_n 3, 1) := dk29 (k := 13) bL_law_1549 rfl
theorem dL_law_1563 : decode cL_law 1563 = .ok (.iconst 1, 1) := dk4 (k := 14) bL_law_1549 rfl
theorem dL_law_1564 : decode cL_law 1564 = .ok (.iadd, 1) := dk96 (k := 15) bL_law_1549 rfl
theorem dL_law_1565 : decode cL_law 1565 = .ok (.iaload, 1) := dk46 (k := 16) bL_law_1549 rfl
theorem dL_law_1566 : decode cL_law 1566 = .ok (.aload_n 0, 1) := dk42 (k := 17) bL_law_1549 rfl
theorem dL_law_1567 : decode cL_law 1567 = .ok (.iload_n 3, 1) := dk29 (k := 18) bL_law_1549 rfl
theorem dL_law_1568 : decode cL_law 1568 = .ok (.iconst 2, 1) := dk5 (k := 19) bL_law_1549 rfl
theorem dL_law_1569 : decode cL_law 1569 = .ok (.iadd, 1) := dk96 (k := 20) bL_law_1549 rfl
theorem dL_law_1570 : decode cL_law 1570 = .ok (.iaload, 1) := dk46 (k := 21) bL_law_1549 rfl
theorem dL_law_1571 : decode cL_law 1571 = .ok (.invokevirtual 234, 3) := dk182 (k := 22) bL_law_1549 rfl rfl
theorem bL_law_1574 : bL cL_law 1574 [87, 44, 42, 29, 4, 96, 46, 42, 29, 5, 96, 46, 182, 0, 237, 87, 167, 1, 147, 43, 42, 29, 4, 96] := bL_of (by decide +kernel)
theorem dL_law_1574 : decode cL_law 1574 = .ok (.pop, 1) := dk87 (k := 0) bL_law_1574 rfl
theorem dL_law_1575 : decode cL_law 1575 = .ok (.aload_n 2, 1) := dk44 (k := 1) bL_law_1574 rfl
theorem dL_law_1576 : decode cL_law 1576 = .ok (.aload_n 0, 1) := dk42 (k := 2) bL_law_1574 rfl
theorem dL_law_1577 : decode cL_law 1577 = .ok (.iload_n 3, 1) := dk29 (k := 3) bL_law_1574 rfl
theorem dL_law_1578 : decode cL_law 1578 = .ok (.iconst 1, 1) := dk4 (k := 4) bL_law_1574 rfl
theorem dL_law_1579 : decode cL_law 1579 = .ok (.iadd, 1) := dk96 (k := 5) bL_law_1574 rfl
theorem dL_law_1580 : decode cL_law 1580 = .ok (.iaload, 1) := dk46 (k := 6) bL_law_1574 rfl
theorem dL_law_1581 : decode cL_law 1581 = .ok (.aload_n 0, 1) := dk42 (k := 7) bL_law_1574 rfl
theorem dL_law_1582 : decode cL_law 1582 = .ok (.iload_n 3, 1) := dk29 (k := 8) bL_law_1574 rfl
theorem dL_law_1583 : decode cL_law 1583 = .ok (.iconst 2, 1) := dk5 (k := 9) bL_law_1574 rfl
theorem dL_law_1584 : decode cL_law 1584 = .ok (.iadd, 1) := dk96 (k := 10) bL_law_1574 rfl
theorem dL_law_1585 : decode cL_law 1585 = .ok (.iaload, 1) := dk46 (k := 11) bL_law_1574 rfl
theorem dL_law_1586 : decode cL_law 1586 = .ok (.invokevirtual 237, 3) := dk182 (k := 12) bL_law_1574 rfl rfl
theorem dL_law_1589 : decode cL_law 1589 = .ok (.pop, 1) := dk87 (k := 15) bL_law_1574 rfl
theorem dL_law_1590 : decode cL_law 1590 = .ok (.goto 403, 3) := dk167 (k := 16) bL_law_1574 rfl (by decide)
theorem dL_law_1593 : decode cL_law 1593 = .ok (.aload_n 1, 1) := dk43 (k := 19) bL_law_1574 rfl
theorem dL_law_1594 : decode cL_law 1594 = .ok (.aload_n 0, 1) := dk42 (k := 20) bL_law_1574 rfl
theorem dL_law_1595 : decode cL_law 1595 = .ok (.iload_n 3, 1) := dk29 (k := 21) bL_law_1574 rfl
theorem dL_law_1596 : decode cL_law 1596 = .ok (.iconst 1, 1) := dk4 (k := 22) bL_law_1574 rfl
theorem dL_law_1597 : decode cL_law 1597 = .ok (.iadd, 1) := dk96 (k := 23) bL_law_1574 rfl
theorem bL_law_1598 : bL cL_law 1598 [46, 42, 29, 5, 96, 46, 42, 29, 6, 96, 46, 182, 0, 238, 87, 44, 42, 29, 4, 96, 46, 42, 29, 5] := bL_of (by decide +kernel)
theorem dL_law_1598 : decode cL_law 1598 = .ok (.iaload, 1) := dk46 (k := 0) bL_law_1598 rfl
theorem dL_law_1599 : decode cL_law 1599 = .ok (.aload_n 0, 1) := dk42 (k := 1) bL_law_1598 rfl
theorem dL_law_1600 : decode cL_law 1600 = .ok (.iload_n 3, 1) := dk29 (k := 2) bL_law_1598 rfl
theorem dL_law_1601 : decode cL_law 1601 = .ok (.iconst 2, 1) := dk5 (k := 3) bL_law_1598 rfl
theorem dL_law_1602 : decode cL_law 1602 = .ok (.iadd, 1) := dk96 (k := 4) bL_law_1598 rfl
theorem dL_law_1603 : decode cL_law 1603 = .ok (.iaload, 1) := dk46 (k := 5) bL_law_1598 rfl
theorem dL_law_1604 : decode cL_law 1604 = .ok (.aload_n 0, 1) := dk42 (k := 6) bL_law_1598 rfl
theorem dL_law_1605 : decode cL_law 1605 = .ok (.iload_n 3, 1) := dk29 (k := 7) bL_law_1598 rfl
theorem dL_law_1606 : decode cL_law 1606 = .ok (.iconst 3, 1) := dk6 (k := 8) bL_law_1598 rfl
theorem dL_law_1607 : decode cL_law 1607 = .ok (.iadd, 1) := dk96 (k := 9) bL_law_1598 rfl
theorem dL_law_1608 : decode cL_law 1608 = .ok (.iaload, 1) := dk46 (k := 10) bL_law_1598 rfl
theorem dL_law_1609 : decode cL_law 1609 = .ok (.invokevirtual 238, 3) := dk182 (k := 11) bL_law_1598 rfl rfl
theorem dL_law_1612 : decode cL_law 1612 = .ok (.pop, 1) := dk87 (k := 14) bL_law_1598 rfl
theorem dL_law_1613 : decode cL_law 1613 = .ok (.aload_n 2, 1) := dk44 (k := 15) bL_law_1598 rfl
theorem dL_law_1614 : decode cL_law 1614 = .ok (.aload_n 0, 1) := dk42 (k := 16) bL_law_1598 rfl
theorem dL_law_1615 : decode cL_law 1615 = .ok (.iload_n 3, 1) := dk29 (k := 17) bL_law_1598 rfl
theorem dL_law_1616 : decode cL_law 1616 = .ok (.iconst 1, 1) := dk4 (k := 18) bL_law_1598 rfl
theorem dL_law_1617 : decode cL_law 1617 = .ok (.iadd, 1) := dk96 (k := 19) bL_law_1598 rfl
theorem dL_law_1618 : decode cL_law 1618 = .ok (.iaload, 1) := dk46 (k := 20) bL_law_1598 rfl
theorem dL_law_1619 : decode cL_law 1619 = .ok (.aload_n 0, 1) := dk42 (k := 21) bL_law_1598 rfl
theorem dL_law_1620 : decode cL_law 1620 = .ok (.iload_n 3, 1) := dk29 (k := 22) bL_law_1598 rfl
theorem dL_law_1621 : decode cL_law 1621 = .ok (.iconst 2, 1) := dk5 (k := 23) bL_law_1598 rfl
theorem bL_law_1622 : bL cL_law 1622 [96, 46, 42, 29, 6, 96, 46, 182, 0, 241, 87, 167, 1, 104, 43, 42, 29, 4, 96, 46, 42, 29, 5, 96] := bL_of (by decide +kernel)
theorem dL_law_1622 : decode cL_law 1622 = .ok (.iadd, 1) := dk96 (k := 0) bL_law_1622 rfl
theorem dL_law_1623 : decode cL_law 1623 = .ok (.iaload, 1) := dk46 (k := 1) bL_law_1622 rfl
theorem dL_law_1624 : decode cL_law 1624 = .ok (.aload_n 0, 1) := dk42 (k := 2) bL_law_1622 rfl
theorem dL_law_1625 : decode cL_law 1625 = .ok (.iload_n 3, 1) := dk29 (k := 3) bL_law_1622 rfl
theorem dL_law_1626 : decode cL_law 1626 = .ok (.iconst 3, 1) := dk6 (k := 4) bL_law_1622 rfl
theorem dL_law_1627 : decode cL_law 1627 = .ok (.iadd, 1) := dk96 (k := 5) bL_law_1622 rfl
theorem dL_law_1628 : decode cL_law 1628 = .ok (.iaload, 1) := dk46 (k := 6) bL_law_1622 rfl
theorem dL_law_1629 : decode cL_law 1629 = .ok (.invokevirtual 241, 3) := dk182 (k := 7) bL_law_1622 rfl rfl
theorem dL_law_1632 : decode cL_law 1632 = .ok (.pop, 1) := dk87 (k := 10) bL_law_1622 rfl
theorem dL_law_1633 : decode cL_law 1633 = .ok (.goto 360, 3) := dk167 (k := 11) bL_law_1622 rfl (by decide)
theorem dL_law_1636 : decode cL_law 1636 = .ok (.aload_n 1, 1) := dk43 (k := 14) bL_law_1622 rfl
theorem dL_law_1637 : decode cL_law 1637 = .ok (.aload_n 0, 1) := dk42 (k := 15) bL_law_1622 rfl
theorem dL_law_1638 : decode cL_law 1638 = .ok (.iload_n 3, 1) := dk29 (k := 16) bL_law_1622 rfl
theorem dL_law_1639 : decode cL_law 1639 = .ok (.iconst 1, 1) := dk4 (k := 17) bL_law_1622 rfl
theorem dL_law_1640 : decode cL_law 1640 = .ok (.iadd, 1) := dk96 (k := 18) bL_law_1622 rfl
theorem dL_law_1641 : decode cL_law 1641 = .ok (.iaload, 1) := dk46 (k := 19) bL_law_1622 rfl
theorem dL_law_1642 : decode cL_law 1642 = .ok (.aload_n 0, 1) := dk42 (k := 20) bL_law_1622 rfl
theorem dL_law_1643 : decode cL_law 1643 = .ok (.iload_n 3, 1) := dk29 (k := 21) bL_law_1622 rfl
theorem dL_law_1644 : decode cL_law 1644 = .ok (.iconst 2, 1) := dk5 (k := 22) bL_law_1622 rfl
theorem dL_law_1645 : decode cL_law 1645 = .ok (.iadd, 1) := dk96 (k := 23) bL_law_1622 rfl
theorem bL_law_1646 : bL cL_law 1646 [46, 42, 29, 6, 96, 46, 182, 0, 242, 87, 44, 42, 29, 4, 96, 46, 42, 29, 5, 96, 46, 42, 29, 6] := bL_of (by decide +kernel)
theorem dL_law_1646 : decode cL_law 1646 = .ok (.iaload, 1) := dk46 (k := 0) bL_law_1646 rfl
theorem dL_law_1647 : decode cL_law 1647 = .ok (.aload_n 0, 1) := dk42 (k := 1) bL_law_1646 rfl
theorem dL_law_1648 : decode cL_law 1648 = .ok (.iload_n 3, 1) := dk29 (k := 2) bL_law_1646 rfl
theorem dL_law_1649 : decode cL_law 1649 = .ok (.iconst 3, 1) := dk6 (k := 3) bL_law_1646 rfl
theorem dL_law_1650 : decode cL_law 1650 = .ok (.iadd, 1) := dk96 (k := 4) bL_law_1646 rfl
theorem dL_law_1651 : decode cL_law 1651 = .ok (.iaload, 1) := dk46 (k := 5) bL_law_1646 rfl
theorem dL_law_1652 : decode cL_law 1652 = .ok (.invokevirtual 242, 3) := dk182 (k := 6) bL_law_1646 rfl rfl
theorem dL_law_1655 : decode cL_law 1655 = .ok (.pop, 1) := dk87 (k := 9) bL_law_1646 rfl
theorem dL_law_1656 : decode cL_law 1656 = .ok (.aload_n 2, 1) := dk44 (k := 10) bL_law_1646 rfl
theorem dL_law_1657 : decode cL_law 1657 = .ok (.aload_n 0, 1) := dk42 (k := 11) bL_law_1646 rfl
theorem dL_law_1658 : decode cL_law 1658 = .ok (.iload_n 3, 1) := dk29 (k := 12) bL_law_1646 rfl
theorem dL_law_1659 : decode cL_law 1659 = .ok (.iconst 1, 1) := dk4 (k := 13) bL_law_1646 rfl
theorem dL_law_1660 : decode cL_law 1660 = .ok (.iadd, 1) := dk96 (k := 14) bL_law_1646 rfl
theorem dL_law_1661 : decode cL_law 1661 = .ok (.iaload, 1) := dk46 (k := 15) bL_law_1646 rfl
theorem dL_law_1662 : decode cL_law 1662 = .ok (.aload_n 0, 1) := dk42 (k := 16) bL_law_1646 rfl
theorem dL_law_1663 : decode cL_law 1663 = .ok (.iload_n 3, 1) := dk29 (k := 17) bL_law_1646 rfl
theorem dL_law_1664 : decode cL_law 1664 = .ok (.iconst 2, 1) := dk5 (k := 18) bL_law_1646 rfl
theorem dL_law_1665 : decode cL_law 1665 = .ok (.iadd, 1) := dk96 (k := 19) bL_law_1646 rfl
theorem dL_law_1666 : decode cL_law 1666 = .ok (.iaload, 1) := dk46 (k := 20) bL_law_1646 rfl
theorem dL_law_1667 : decode cL_law 1667 = .ok (.aload_n 0, 1) := dk42 (k := 21) bL_law_1646 rfl
theorem dL_law_1668 : decode cL_law 1668 = .ok (.iload_n 3, 1) := dk29 (k := 22) bL_law_1646 rfl
theorem dL_law_1669 : decode cL_law 1669 = .ok (.iconst 3, 1) := dk6 (k := 23) bL_law_1646 rfl
theorem bL_law_1670 : bL cL_law 1670 [96, 46, 182, 0, 245, 87, 167, 1, 61, 43, 42, 29, 4, 96, 46, 182, 0, 246, 87, 44, 42, 29, 4, 96] := bL_of (by decide +kernel)
theorem dL_law_1670 : decode cL_law 1670 = .ok (.iadd, 1) := dk96 (k := 0) bL_law_1670 rfl
theorem dL_law_1671 : decode cL_law 1671 = .ok (.iaload, 1) := dk46 (k := 1) bL_law_1670 rfl
theorem dL_law_1672 : decode cL_law 1672 = .ok (.invokevirtual 245, 3) := dk182 (k := 2) bL_law_1670 rfl rfl
theorem dL_law_1675 : decode cL_law 1675 = .ok (.pop, 1) := dk87 (k := 5) bL_law_1670 rfl
theorem dL_law_1676 : decode cL_law 1676 = .ok (.goto 317, 3) := dk167 (k := 6) bL_law_1670 rfl (by decide)
theorem dL_law_1679 : decode cL_law 1679 = .ok (.aload_n 1, 1) := dk43 (k := 9) bL_law_1670 rfl
theorem dL_law_1680 : decode cL_law 1680 = .ok (.aload_n 0, 1) := dk42 (k := 10) bL_law_1670 rfl
theorem dL_law_1681 : decode cL_law 1681 = .ok (.iload_n 3, 1) := dk29 (k := 11) bL_law_1670 rfl
theorem dL_law_1682 : decode cL_law 1682 = .ok (.iconst 1, 1) := dk4 (k := 12) bL_law_1670 rfl
theorem dL_law_1683 : decode cL_law 1683 = .ok (.iadd, 1) := dk96 (k := 13) bL_law_1670 rfl
theorem dL_law_1684 : decode cL_law 1684 = .ok (.iaload, 1) := dk46 (k := 14) bL_law_1670 rfl
theorem dL_law_1685 : decode cL_law 1685 = .ok (.invokevirtual 246, 3) := dk182 (k := 15) bL_law_1670 rfl rfl
theorem dL_law_1688 : decode cL_law 1688 = .ok (.pop, 1) := dk87 (k := 18) bL_law_1670 rfl
theorem dL_law_1689 : decode cL_law 1689 = .ok (.aload_n 2, 1) := dk44 (k := 19) bL_law_1670 rfl
theorem dL_law_1690 : decode cL_law 1690 = .ok (.aload_n 0, 1) := dk42 (k := 20) bL_law_1670 rfl
theorem dL_law_1691 : decode cL_law 1691 = .ok (.iload_n 3, 1) := dk29 (k := 21) bL_law_1670 rfl
theorem dL_law_1692 : decode cL_law 1692 = .ok (.iconst 1, 1) := dk4 (k := 22) bL_law_1670 rfl
theorem dL_law_1693 : decode cL_law 1693 = .ok (.iadd, 1) := dk96 (k := 23) bL_law_1670 rfl
theorem bL_law_1694 : bL cL_law 1694 [46, 182, 0, 249, 87, 167, 1, 38, 43, 42, 29, 4, 96, 46, 42, 29, 5, 96, 46, 42, 29, 6, 96, 46] := bL_of (by decide +kernel)
theorem dL_law_1694 : decode cL_law 1694 = .ok (.iaload, 1) := dk46 (k := 0) bL_law_1694 rfl
theorem dL_law_1695 : decode cL_law 1695 = .ok (.invokevirtual 249, 3) := dk182 (k := 1) bL_law_1694 rfl rfl
theorem dL_law_1698 : decode cL_law 1698 = .ok (.pop, 1) := dk87 (k := 4) bL_law_1694 rfl
theorem dL_law_1699 : decode cL_law 1699 = .ok (.goto 294, 3) := dk167 (k := 5) bL_law_1694 rfl (by decide)
theorem dL_law_1702 : decode cL_law 1702 = .ok (.aload_n 1, 1) := dk43 (k := 8) bL_law_1694 rfl
theorem dL_law_1703 : decode cL_law 1703 = .ok (.aload_n 0, 1) := dk42 (k := 9) bL_law_1694 rfl
theorem dL_law_1704 : decode cL_law 1704 = .ok (.iload_n 3, 1) := dk29 (k := 10) bL_law_1694 rfl
theorem dL_law_1705 : decode cL_law 1705 = .ok (.iconst 1, 1) := dk4 (k := 11) bL_law_1694 rfl
theorem dL_law_1706 : decode cL_law 1706 = .ok (.iadd, 1) := dk96 (k := 12) bL_law_1694 rfl
theorem dL_law_1707 : decode cL_law 1707 = .ok (.iaload, 1) := dk46 (k := 13) bL_law_1694 rfl
theorem dL_law_1708 : decode cL_law 1708 = .ok (.aload_n 0, 1) := dk42 (k := 14) bL_law_1694 rfl
theorem dL_law_1709 : decode cL_law 1709 = .ok (.iload_n 3, 1) := dk29 (k := 15) bL_law_1694 rfl
theorem dL_law_1710 : decode cL_law 1710 = .ok (.iconst 2, 1) := dk5 (k := 16) bL_law_1694 rfl
theorem dL_law_1711 : decode cL_law 1711 = .ok (.iadd, 1) := dk96 (k := 17) bL_law_1694 rfl
theorem dL_law_1712 : decode cL_law 1712 = .ok (.iaload, 1) := dk46 (k := 18) bL_law_1694 rfl
theorem dL_law_1713 : decode cL_law 1713 = .ok (.aload_n 0, 1) := dk42 (k := 19) bL_law_1694 rfl
theorem dL_law_1714 : decode cL_law 1714 = .ok (.iload_n 3, 1) := dk29 (k := 20) bL_law_1694 rfl
theorem dL_law_1715 : decode cL_law 1715 = .ok (.iconst 3, 1) := dk6 (k := 21) bL_law_1694 rfl
theorem dL_law_1716 : decode cL_law 1716 = .ok (.iadd, 1) := dk96 (k := 22) bL_law_1694 rfl
theorem dL_law_1717 : decode cL_law 1717 = .ok (.iaload, 1) := dk46 (k := 23) bL_law_1694 rfl
theorem bL_law_1718 : bL cL_law 1718 [182, 0, 250, 87, 44, 42, 29, 4, 96, 46, 42, 29, 5, 96, 46, 42, 29, 6, 96, 46, 182, 0, 253, 87] := bL_of (by decide +kernel)
theorem dL_law_1718 : decode cL_law 1718 = .ok (.invokevirtual 250, 3) := dk182 (k := 0) bL_law_1718 rfl rfl
theorem dL_law_1721 : decode cL_law 1721 = .ok (.pop, 1) := dk87 (k := 3) bL_law_1718 rfl
theorem dL_law_1722 : decode cL_law 1722 = .ok (.aload_n 2, 1) := dk44 (k := 4) bL_law_1718 rfl
theorem dL_law_1723 : decode cL_law 1723 = .ok (.aload_n 0, 1) := dk42 (k := 5) bL_law_1718 rfl
theorem dL_law_1724 : decode cL_law 1724 = .ok (.iload_n 3, 1) := dk29 (k := 6) bL_law_1718 rfl
theorem dL_law_1725 : decode cL_law 1725 = .ok (.iconst 1, 1) := dk4 (k := 7) bL_law_1718 rfl
theorem dL_law_1726 : decode cL_law 1726 = .ok (.iadd, 1) := dk96 (k := 8) bL_law_1718 rfl
theorem dL_law_1727 : decode cL_law 1727 = .ok (.iaload, 1) := dk46 (k := 9) bL_law_1718 rfl
theorem dL_law_1728 : decode cL_law 1728 = .ok (.aload_n 0, 1) := dk42 (k := 10) bL_law_1718 rfl
theorem dL_law_1729 : decode cL_law 1729 = .ok (.iload_n 3, 1) := dk29 (k := 11) bL_law_1718 rfl
theorem dL_law_1730 : decode cL_law 1730 = .ok (.iconst 2, 1) := dk5 (k := 12) bL_law_1718 rfl
theorem dL_law_1731 : decode cL_law 1731 = .ok (.iadd, 1) := dk96 (k := 13) bL_law_1718 rfl
theorem dL_law_1732 : decode cL_law 1732 = .ok (.iaload, 1) := dk46 (k := 14) bL_law_1718 rfl
theorem dL_law_1733 : decode cL_law 1733 = .ok (.aload_n 0, 1) := dk42 (k := 15) bL_law_1718 rfl
theorem dL_law_1734 : decode cL_law 1734 = .ok (.iload_n 3, 1) := dk29 (k := 16) bL_law_1718 rfl
theorem dL_law_1735 : decode cL_law 1735 = .ok (.iconst 3, 1) := dk6 (k := 17) bL_law_1718 rfl
theorem dL_law_1736 : decode cL_law 1736 = .ok (.iadd, 1) := dk96 (k := 18) bL_law_1718 rfl
theorem dL_law_1737 : decode cL_law 1737 = .ok (.iaload, 1) := dk46 (k := 19) bL_law_1718 rfl
theorem dL_law_1738 : decode cL_law 1738 = .ok (.invokevirtual 253, 3) := dk182 (k := 20) bL_law_1718 rfl rfl
theorem dL_law_1741 : decode cL_law 1741 = .ok (.pop, 1) := dk87 (k := 23) bL_law_1718 rfl
theorem bL_law_1742 : bL cL_law 1742 [167, 0, 251, 43, 42, 29, 4, 96, 46, 182, 0, 254, 87, 44, 42, 29, 4, 96, 46, 182, 1, 1, 87, 167, 0, 228] := bL_of (by decide +kernel)
theorem dL_law_1742 : decode cL_law 1742 = .ok (.goto 251, 3) := dk167 (k := 0) bL_law_1742 rfl (by decide)
theorem dL_law_1745 : decode cL_law 1745 = .ok (.aload_n 1, 1) := dk43 (k := 3) bL_law_1742 rfl
theorem dL_law_1746 : decode cL_law 1746 = .ok (.aload_n 0, 1) := dk42 (k := 4) bL_law_1742 rfl
theorem dL_law_1747 : decode cL_law 1747 = .ok (.iload_n 3, 1) := dk29 (k := 5) bL_law_1742 rfl
theorem dL_law_1748 : decode cL_law 1748 = .ok (.iconst 1, 1) := dk4 (k := 6) bL_law_1742 rfl
theorem dL_law_1749 : decode cL_law 1749 = .ok (.iadd, 1) := dk96 (k := 7) bL_law_1742 rfl
theorem dL_law_1750 : decode cL_law 1750 = .ok (.iaload, 1) := dk46 (k := 8) bL_law_1742 rfl
theorem dL_law_1751 : decode cL_law 1751 = .ok (.invokevirtual 254, 3) := dk182 (k := 9) bL_law_1742 rfl rfl
theorem dL_law_1754 : decode cL_law 1754 = .ok (.pop, 1) := dk87 (k := 12) bL_law_1742 rfl
theorem dL_law_1755 : decode cL_law 1755 = .ok (.aload_n 2, 1) := dk44 (k := 13) bL_law_1742 rfl
theorem dL_law_1756 : decode cL_law 1756 = .ok (.aload_n 0, 1) := dk42 (k := 14) bL_law_1742 rfl
theorem dL_law_1757 : decode cL_law 1757 = .ok (.iload_n 3, 1) := dk29 (k := 15) bL_law_1742 rfl
theorem dL_law_1758 : decode cL_law 1758 = .ok (.iconst 1, 1) := dk4 (k := 16) bL_law_1742 rfl
theorem dL_law_1759 : decode cL_law 1759 = .ok (.iadd, 1) := dk96 (k := 17) bL_law_1742 rfl
theorem dL_law_1760 : decode cL_law 1760 = .ok (.iaload, 1) := dk46 (k := 18) bL_law_1742 rfl
theorem dL_law_1761 : decode cL_law 1761 = .ok (.invokevirtual 257, 3) := dk182 (k := 19) bL_law_1742 rfl rfl
theorem dL_law_1764 : decode cL_law 1764 = .ok (.pop, 1) := dk87 (k := 22) bL_law_1742 rfl
theorem dL_law_1765 : decode cL_law 1765 = .ok (.goto 228, 3) := dk167 (k := 23) bL_law_1742 rfl (by decide)
theorem bL_law_1768 : bL cL_law 1768 [43, 42, 29, 4, 96, 46, 182, 1, 2, 87, 44, 42, 29, 4, 96, 46, 182, 1, 5, 87, 167, 0, 205, 43] := bL_of (by decide +kernel)
theorem dL_law_1768 : decode cL_law 1768 = .ok (.aload_n 1, 1) := dk43 (k := 0) bL_law_1768 rfl
theorem dL_law_1769 : decode cL_law 1769 = .ok (.aload_n 0, 1) := dk42 (k := 1) bL_law_1768 rfl
theorem dL_law_1770 : decode cL_law 1770 = .ok (.iload_n 3, 1) := dk29 (k := 2) bL_law_1768 rfl
theorem dL_law_1771 : decode cL_law 1771 = .ok (.iconst 1, 1) := dk4 (k := 3) bL_law_1768 rfl
theorem dL_law_1772 : decode cL_law 1772 = .ok (.iadd, 1) := dk96 (k := 4) bL_law_1768 rfl
theorem dL_law_1773 : decode cL_law 1773 = .ok (.iaload, 1) := dk46 (k := 5) bL_law_1768 rfl
theorem dL_law_1774 : decode cL_law 1774 = .ok (.invokevirtual 258, 3) := dk182 (k := 6) bL_law_1768 rfl rfl
theorem dL_law_1777 : decode cL_law 1777 = .ok (.pop, 1) := dk87 (k := 9) bL_law_1768 rfl
theorem dL_law_1778 : decode cL_law 1778 = .ok (.aload_n 2, 1) := dk44 (k := 10) bL_law_1768 rfl
theorem dL_law_1779 : decode cL_law 1779 = .ok (.aload_n 0, 1) := dk42 (k := 11) bL_law_1768 rfl
theorem dL_law_1780 : decode cL_law 1780 = .ok (.iload_n 3, 1) := dk29 (k := 12) bL_law_1768 rfl
theorem dL_law_1781 : decode cL_law 1781 = .ok (.iconst 1, 1) := dk4 (k := 13) bL_law_1768 rfl
theorem dL_law_1782 : decode cL_law 1782 = .ok (.iadd, 1) := dk96 (k := 14) bL_law_1768 rfl
theorem dL_law_1783 : decode cL_law 1783 = .ok (.iaload, 1) := dk46 (k := 15) bL_law_1768 rfl
theorem dL_law_1784 : decode cL_law 1784 = .ok (.invokevirtual 261, 3) := dk182 (k := 16) bL_law_1768 rfl rfl
theorem dL_law_1787 : decode cL_law 1787 = .ok (.pop, 1) := dk87 (k := 19) bL_law_1768 rfl
theorem dL_law_1788 : decode cL_law 1788 = .ok (.goto 205, 3) := dk167 (k := 20) bL_law_1768 rfl (by decide)
theorem dL_law_1791 : decode cL_law 1791 = .ok (.aload_n 1, 1) := dk43 (k := 23) bL_law_1768 rfl
theorem bL_law_1792 : bL cL_law 1792 [42, 29, 4, 96, 46, 182, 1, 6, 87, 44, 42, 29, 4, 96, 46, 182, 1, 9, 87, 167, 0, 182, 43, 42] := bL_of (by decide +kernel)
theorem dL_law_1792 : decode cL_law 1792 = .ok (.aload_n 0, 1) := dk42 (k := 0) bL_law_1792 rfl
theorem dL_law_1793 : decode cL_law 1793 = .ok (.iload_n 3, 1) := dk29 (k := 1) bL_law_1792 rfl
theorem dL_law_1794 : decode cL_law 1794 = .ok (.iconst 1, 1) := dk4 (k := 2) bL_law_1792 rfl
theorem dL_law_1795 : decode cL_law 1795 = .ok (.iadd, 1) := dk96 (k := 3) bL_law_1792 rfl
theorem dL_law_1796 : decode cL_law 1796 = .ok (.iaload, 1) := dk46 (k := 4) bL_law_1792 rfl
theorem dL_law_1797 : decode cL_law 1797 = .ok (.invokevirtual 262, 3) := dk182 (k := 5) bL_law_1792 rfl rfl
theorem dL_law_1800 : decode cL_law 1800 = .ok (.pop, 1) := dk87 (k := 8) bL_law_1792 rfl
theorem dL_law_1801 : decode cL_law 1801 = .ok (.aload_n 2, 1) := dk44 (k := 9) bL_law_1792 rfl
theorem dL_law_1802 : decode cL_law 1802 = .ok (.aload_n 0, 1) := dk42 (k := 10) bL_law_1792 rfl
theorem dL_law_1803 : decode cL_law 1803 = .ok (.iload_n 3, 1) := dk29 (k := 11) bL_law_1792 rfl
theorem dL_law_1804 : decode cL_law 1804 = .ok (.iconst 1, 1) := dk4 (k := 12) bL_law_1792 rfl
theorem dL_law_1805 : decode cL_law 1805 = .ok (.iadd, 1) := dk96 (k := 13) bL_law_1792 rfl
theorem dL_law_1806 : decode cL_law 1806 = .ok (.iaload, 1) := dk46 (k := 14) bL_law_1792 rfl
theorem dL_law_1807 : decode cL_law 1807 = .ok (.invokevirtual 265, 3) := dk182 (k := 15) bL_law_1792 rfl rfl
theorem dL_law_1810 : decode cL_law 1810 = .ok (.pop, 1) := dk87 (k := 18) bL_law_1792 rfl
theorem dL_law_1811 : decode cL_law 1811 = .ok (.goto 182, 3) := dk167 (k := 19) bL_law_1792 rfl (by decide)
theorem dL_law_1814 : decode cL_law 1814 = .ok (.aload_n 1, 1) := dk43 (k := 22) bL_law_1792 rfl
theorem dL_law_1815 : decode cL_law 1815 = .ok (.aload_n 0, 1) := dk42 (k := 23) bL_law_1792 rfl
theorem bL_law_1816 : bL cL_law 1816 [29, 4, 96, 46, 42, 29, 5, 96, 46, 42, 29, 6, 96, 46, 182, 1, 10, 87, 44, 42, 29, 4, 96, 46] := bL_of (by decide +kernel)
theorem dL_law_1816 : decode cL_law 1816 = .ok (.iload_n 3, 1) := dk29 (k := 0) bL_law_1816 rfl
theorem dL_law_1817 : decode cL_law 1817 = .ok (.iconst 1, 1) := dk4 (k := 1) bL_law_1816 rfl
theorem dL_law_1818 : decode cL_law 1818 = .ok (.iadd, 1) := dk96 (k := 2) bL_law_1816 rfl
theorem dL_law_1819 : decode cL_law 1819 = .ok (.iaload, 1) := dk46 (k := 3) bL_law_1816 rfl
theorem dL_law_1820 : decode cL_law 1820 = .ok (.aload_n 0, 1) := dk42 (k := 4) bL_law_1816 rfl
theorem dL_law_1821 : decode cL_law 1821 = .ok (.iload_n 3, 1) := dk29 (k := 5) bL_law_1816 rfl
theorem dL_law_1822 : decode cL_law 1822 = .ok (.iconst 2, 1) := dk5 (k := 6) bL_law_1816 rfl
theorem dL_law_1823 : decode cL_law 1823 = .ok (.iadd, 1) := dk96 (k := 7) bL_law_1816 rfl
theorem dL_law_1824 : decode cL_law 1824 = .ok (.iaload, 1) := dk46 (k := 8) bL_law_1816 rfl
theorem dL_law_1825 : decode cL_law 1825 = .ok (.aload_n 0, 1) := dk42 (k := 9) bL_law_1816 rfl
theorem dL_law_1826 : decode cL_law 1826 = .ok (.iload_n 3, 1) := dk29 (k := 10) bL_law_1816 rfl
theorem dL_law_1827 : decode cL_law 1827 = .ok (.iconst 3, 1) := dk6 (k := 11) bL_law_1816 rfl
theorem dL_law_1828 : decode cL_law 1828 = .ok (.iadd, 1) := dk96 (k := 12) bL_law_1816 rfl
theorem dL_law_1829 : decode cL_law 1829 = .ok (.iaload, 1) := dk46 (k := 13) bL_law_1816 rfl
theorem dL_law_1830 : decode cL_law 1830 = .ok (.invokevirtual 266, 3) := dk182 (k := 14) bL_law_1816 rfl rfl
theorem dL_law_1833 : decode cL_law 1833 = .ok (.pop, 1) := dk87 (k := 17) bL_law_1816 rfl
theorem dL_law_1834 : decode cL_law 1834 = .ok (.aload_n 2, 1) := dk44 (k := 18) bL_law_1816 rfl
theorem dL_law_1835 : decode cL_law 1835 = .ok (.aload_n 0, 1) := dk42 (k := 19) bL_law_1816 rfl
theorem dL_law_1836 : decode cL_law 1836 = .ok (.iload_n 3, 1) := dk29 (k := 20) bL_law_1816 rfl
theorem dL_law_1837 : decode cL_law 1837 = .ok (.iconst 1, 1) := dk4 (k := 21) bL_law_1816 rfl
theorem dL_law_1838 : decode cL_law 1838 = .ok (.iadd, 1) := dk96 (k := 22) bL_law_1816 rfl
theorem dL_law_1839 : decode cL_law 1839 = .ok (.iaload, 1) := dk46 (k := 23) bL_law_1816 rfl
theorem bL_law_1840 : bL cL_law 1840 [42, 29, 5, 96, 46, 42, 29, 6, 96, 46, 182, 1, 13, 87, 167, 0, 139, 43, 42, 29, 4, 96, 46, 42] := bL_of (by decide +kernel)
theorem dL_law_1840 : decode cL_law 1840 = .ok (.aload_n 0, 1) := dk42 (k := 0) bL_law_1840 rfl
theorem dL_law_1841 : decode cL_law 1841 = .ok (.iload_n 3, 1) := dk29 (k := 1) bL_law_1840 rfl
theorem dL_law_1842 : decode cL_law 1842 = .ok (.iconst 2, 1) := dk5 (k := 2) bL_law_1840 rfl
theorem dL_law_1843 : decode cL_law 1843 = .ok (.iadd, 1) := dk96 (k := 3) bL_law_1840 rfl
theorem dL_law_1844 : decode cL_law 1844 = .ok (.iaload, 1) := dk46 (k := 4) bL_law_1840 rfl
theorem dL_law_1845 : decode cL_law 1845 = .ok (.aload_n 0, 1) := dk42 (k := 5) bL_law_1840 rfl
theorem dL_law_1846 : decode cL_law 1846 = .ok (.iload_n 3, 1) := dk29 (k := 6) bL_law_1840 rfl
theorem dL_law_1847 : decode cL_law 1847 = .ok (.iconst 3, 1) := dk6 (k := 7) bL_law_1840 rfl
theorem dL_law_1848 : decode cL_law 1848 = .ok (.iadd, 1) := dk96 (k := 8) bL_law_1840 rfl
theorem dL_law_1849 : decode cL_law 1849 = .ok (.iaload, 1) := dk46 (k := 9) bL_law_1840 rfl
theorem dL_law_1850 : decode cL_law 1850 = .ok (.invokevirtual 269, 3) := dk182 (k := 10) bL_law_1840 rfl rfl
theorem dL_law_1853 : decode cL_law 1853 = .ok (.pop, 1) := dk87 (k := 13) bL_law_1840 rfl
theorem dL_law_1854 : decode cL_law 1854 = .ok (.goto 139, 3) := dk167 (k := 14) bL_law_1840 rfl (by decide)
theorem dL_law_1857 : decode cL_law 1857 = .ok (.aload_n 1, 1) := dk43 (k := 17) bL_law_1840 rfl
theorem dL_law_1858 : decode cL_law 1858 = .ok (.aload_n 0, 1) := dk42 (k := 18) bL_law_1840 rfl
theorem dL_law_1859 : decode cL_law 1859 = .ok (.iload_n 3, 1) := dk29 (k := 19) bL_law_1840 rfl
theorem dL_law_1860 : decode cL_law 1860 = .ok (.iconst 1, 1) := dk4 (k := 20) bL_law_1840 rfl
theorem dL_law_1861 : decode cL_law 1861 = .ok (.iadd, 1) := dk96 (k := 21) bL_law_1840 rfl
theorem dL_law_1862 : decode cL_law 1862 = .ok (.iaload, 1) := dk46 (k := 22) bL_law_1840 rfl
theorem dL_law_1863 : decode cL_law 1863 = .ok (.aload_n 0, 1) := dk42 (k := 23) bL_law_1840 rfl
theorem bL_law_1864 : bL cL_law 1864 [29, 5, 96, 46, 42, 29, 6, 96, 46, 133, 16, 32, 121, 42, 29, 7, 96, 46, 133, 20, 1, 14, 127, 129] := bL_of (by decide +kernel)
theorem dL_law_1864 : decode cL_law 1864 = .ok (.iload_n 3, 1) := dk29 (k := 0) bL_law_1864 rfl
theorem dL_law_1865 : decode cL_law 1865 = .ok (.iconst 2, 1) := dk5 (k := 1) bL_law_1864 rfl
theorem dL_law_1866 : decode cL_law 1866 = .ok (.iadd, 1) := dk96 (k := 2) bL_law_1864 rfl
theorem dL_law_1867 : decode cL_law 1867 = .ok (.iaload, 1) := dk46 (k := 3) bL_law_1864 rfl
theorem dL_law_1868 : decode cL_law 1868 = .ok (.aload_n 0, 1) := dk42 (k := 4) bL_law_1864 rfl
theorem dL_law_1869 : decode cL_law 1869 = .ok (.iload_n 3, 1) := dk29 (k := 5) bL_law_1864 rfl
theorem dL_law_1870 : decode cL_law 1870 = .ok (.iconst 3, 1) := dk6 (k := 6) bL_law_1864 rfl
theorem dL_law_1871 : decode cL_law 1871 = .ok (.iadd, 1) := dk96 (k := 7) bL_law_1864 rfl
theorem dL_law_1872 : decode cL_law 1872 = .ok (.iaload, 1) := dk46 (k := 8) bL_law_1864 rfl
theorem dL_law_1873 : decode cL_law 1873 = .ok (.i2l, 1) := dk133 (k := 9) bL_law_1864 rfl
theorem dL_law_1874 : decode cL_law 1874 = .ok (.bipush 32, 2) := dk16 (k := 10) bL_law_1864 rfl (by decide)
theorem dL_law_1876 : decode cL_law 1876 = .ok (.lshl, 1) := dk121 (k := 12) bL_law_1864 rfl
theorem dL_law_1877 : decode cL_law 1877 = .ok (.aload_n 0, 1) := dk42 (k := 13) bL_law_1864 rfl
theorem dL_law_1878 : decode cL_law 1878 = .ok (.iload_n 3, 1) := dk29 (k := 14) bL_law_1864 rfl
theorem dL_law_1879 : decode cL_law 1879 = .ok (.iconst 4, 1) := dk7 (k := 15) bL_law_1864 rfl
theorem dL_law_1880 : decode cL_law 1880 = .ok (.iadd, 1) := dk96 (k := 16) bL_law_1864 rfl
theorem dL_law_1881 : decode cL_law 1881 = .ok (.iaload, 1) := dk46 (k := 17) bL_law_1864 rfl
theorem dL_law_1882 : decode cL_law 1882 = .ok (.i2l, 1) := dk133 (k := 18) bL_law_1864 rfl
theorem dL_law_1883 : decode cL_law 1883 = .ok (.ldc2_w 270, 3) := dk20 (k := 19) bL_law_1864 rfl rfl
theorem dL_law_1886 : decode cL_law 1886 = .ok (.land, 1) := dk127 (k := 22) bL_law_1864 rfl
theorem dL_law_1887 : decode cL_law 1887 = .ok (.lor, 1) := dk129 (k := 23) bL_law_1864 rfl
theorem bL_law_1888 : bL cL_law 1888 [182, 1, 16, 87, 44, 42, 29, 4, 96, 46, 42, 29, 5, 96, 46, 42, 29, 6, 96, 46, 133, 16, 32, 121] := bL_of (by decide +kernel)
theorem dL_law_1888 : decode cL_law 1888 = .ok (.invokevirtual 272, 3) := dk182 (k := 0) bL_law_1888 rfl rfl
theorem dL_law_1891 : decode cL_law 1891 = .ok (.pop, 1) := dk87 (k := 3) bL_law_1888 rfl
theorem dL_law_1892 : decode cL_law 1892 = .ok (.aload_n 2, 1) := dk44 (k := 4) bL_law_1888 rfl
theorem dL_law_1893 : decode cL_law 1893 = .ok (.aload_n 0, 1) := dk42 (k := 5) bL_law_1888 rfl
theorem dL_law_1894 : decode cL_law 1894 = .ok (.iload_n 3, 1) := dk29 (k := 6) bL_law_1888 rfl
theorem dL_law_1895 : decode cL_law 1895 = .ok (.iconst 1, 1) := dk4 (k := 7) bL_law_1888 rfl
theorem dL_law_1896 : decode cL_law 1896 = .ok (.iadd, 1) := dk96 (k := 8) bL_law_1888 rfl
theorem dL_law_1897 : decode cL_law 1897 = .ok (.iaload, 1) := dk46 (k := 9) bL_law_1888 rfl
theorem dL_law_1898 : decode cL_law 1898 = .ok (.aload_n 0, 1) := dk42 (k := 10) bL_law_1888 rfl
theorem dL_law_1899 : decode cL_law 1899 = .ok (.iload_n 3, 1) := dk29 (k := 11) bL_law_1888 rfl
theorem dL_law_1900 : decode cL_law 1900 = .ok (.iconst 2, 1) := dk5 (k := 12) bL_law_1888 rfl
theorem dL_law_1901 : decode cL_law 1901 = .ok (.iadd, 1) := dk96 (k := 13) bL_law_1888 rfl
theorem dL_law_1902 : decode cL_law 1902 = .ok (.iaload, 1) := dk46 (k := 14) bL_law_1888 rfl
theorem dL_law_1903 : decode cL_law 1903 = .ok (.aload_n 0, 1) := dk42 (k := 15) bL_law_1888 rfl
theorem dL_law_1904 : decode cL_law 1904 = .ok (.iload_n 3, 1) := dk29 (k := 16) bL_law_1888 rfl
theorem dL_law_1905 : decode cL_law 1905 = .ok (.iconst 3, 1) := dk6 (k := 17) bL_law_1888 rfl
theorem dL_law_1906 : decode cL_law 1906 = .ok (.iadd, 1) := dk96 (k := 18) bL_law_1888 rfl
theorem dL_law_1907 : decode cL_law 1907 = .ok (.iaload, 1) := dk46 (k := 19) bL_law_1888 rfl
theorem dL_law_1908 : decode cL_law 1908 = .ok (.i2l, 1) := dk133 (k := 20) bL_law_1888 rfl
theorem dL_law_1909 : decode cL_law 1909 = .ok (.bipush 32, 2) := dk16 (k := 21) bL_law_1888 rfl (by decide)
theorem dL_law_1911 : decode cL_law 1911 = .ok (.lshl, 1) := dk121 (k := 23) bL_law_1888 rfl
theorem bL_law_1912 : bL cL_law 1912 [42, 29, 7, 96, 46, 133, 20, 1, 14, 127, 129, 182, 1, 20, 87, 167, 0, 66, 43, 42, 29, 4, 96, 46] := bL_of (by decide +kernel)
theorem dL_law_1912 : decode cL_law 1912 = .ok (.aload_n 0, 1) := dk42 (k := 0) bL_law_1912 rfl
theorem dL_law_1913 : decode cL_law 1913 = .ok (.iload_n 3, 1) := dk29 (k := 1) bL_law_1912 rfl
theorem dL_law_1914 : decode cL_law 1914 = .ok (.iconst 4, 1) := dk7 (k := 2) bL_law_1912 rfl
theorem dL_law_1915 : decode cL_law 1915 = .ok (.iadd, 1) := dk96 (k := 3) bL_law_1912 rfl
theorem dL_law_1916 : decode cL_law 1916 = .ok (.iaload, 1) := dk46 (k := 4) bL_law_1912 rfl
theorem dL_law_1917 : decode cL_law 1917 = .ok (.i2l, 1) := dk133 (k := 5) bL_law_1912 rfl
theorem dL_law_1918 : decode cL_law 1918 = .ok (.ldc2_w 270, 3) := dk20 (k := 6) bL_law_1912 rfl rfl
theorem dL_law_1921 : decode cL_law 1921 = .ok (.land, 1) := dk127 (k := 9) bL_law_1912 rfl
theorem dL_law_1922 : decode cL_law 1922 = .ok (.lor, 1) := dk129 (k := 10) bL_law_1912 rfl
theorem dL_law_1923 : decode cL_law 1923 = .ok (.invokevirtual 276, 3) := dk182 (k := 11) bL_law_1912 rfl rfl
theorem dL_law_1926 : decode cL_law 1926 = .ok (.pop, 1) := dk87 (k := 14) bL_law_1912 rfl
theorem dL_law_1927 : decode cL_law 1927 = .ok (.goto 66, 3) := dk167 (k := 15) bL_law_1912 rfl (by decide)
theorem dL_law_1930 : decode cL_law 1930 = .ok (.aload_n 1, 1) := dk43 (k := 18) bL_law_1912 rfl
theorem dL_law_1931 : decode cL_law 1931 = .ok (.aload_n 0, 1) := dk42 (k := 19) bL_law_1912 rfl
theorem dL_law_1932 : decode cL_law 1932 = .ok (.iload_n 3, 1) := dk29 (k := 20) bL_law_1912 rfl
theorem dL_law_1933 : decode cL_law 1933 = .ok (.iconst 1, 1) := dk4 (k := 21) bL_law_1912 rfl
theorem dL_law_1934 : decode cL_law 1934 = .ok (.iadd, 1) := dk96 (k := 22) bL_law_1912 rfl
theorem dL_law_1935 : decode cL_law 1935 = .ok (.iaload, 1) := dk46 (k := 23) bL_law_1912 rfl
theorem bL_law_1936 : bL cL_law 1936 [42, 29, 5, 96, 46, 42, 29, 6, 96, 46, 42, 29, 7, 96, 46, 42, 29, 8, 96, 46, 182, 1, 21, 87] := bL_of (by decide +kernel)
theorem dL_law_1936 : decode cL_law 1936 = .ok (.aload_n 0, 1) := dk42 (k := 0) bL_law_1936 rfl
theorem dL_law_1937 : decode cL_law 1937 = .ok (.iload_n 3, 1) := dk29 (k := 1) bL_law_1936 rfl
theorem dL_law_1938 : decode cL_law 1938 = .ok (.iconst 2, 1) := dk5 (k := 2) bL_law_1936 rfl
theorem dL_law_1939 : decode cL_law 1939 = .ok (.iadd, 1) := dk96 (k := 3) bL_law_1936 rfl
theorem dL_law_1940 : decode cL_law 1940 = .ok (.iaload, 1) := dk46 (k := 4) bL_law_1936 rfl
theorem dL_law_1941 : decode cL_law 1941 = .ok (.aload_n 0, 1) := dk42 (k := 5) bL_law_1936 rfl
theorem dL_law_1942 : decode cL_law 1942 = .ok (.iload_n 3, 1) := dk29 (k := 6) bL_law_1936 rfl
theorem dL_law_1943 : decode cL_law 1943 = .ok (.iconst 3, 1) := dk6 (k := 7) bL_law_1936 rfl
theorem dL_law_1944 : decode cL_law 1944 = .ok (.iadd, 1) := dk96 (k := 8) bL_law_1936 rfl
theorem dL_law_1945 : decode cL_law 1945 = .ok (.iaload, 1) := dk46 (k := 9) bL_law_1936 rfl
theorem dL_law_1946 : decode cL_law 1946 = .ok (.aload_n 0, 1) := dk42 (k := 10) bL_law_1936 rfl
theorem dL_law_1947 : decode cL_law 1947 = .ok (.iload_n 3, 1) := dk29 (k := 11) bL_law_1936 rfl
theorem dL_law_1948 : decode cL_law 1948 = .ok (.iconst 4, 1) := dk7 (k := 12) bL_law_1936 rfl
theorem dL_law_1949 : decode cL_law 1949 = .ok (.iadd, 1) := dk96 (k := 13) bL_law_1936 rfl
theorem dL_law_1950 : decode cL_law 1950 = .ok (.iaload, 1) := dk46 (k := 14) bL_law_1936 rfl
theorem dL_law_1951 : decode cL_law 1951 = .ok (.aload_n 0, 1) := dk42 (k := 15) bL_law_1936 rfl
theorem dL_law_1952 : decode cL_law 1952 = .ok (.iload_n 3, 1) := dk29 (k := 16) bL_law_1936 rfl
theorem dL_law_1953 : decode cL_law 1953 = .ok (.iconst 5, 1) := dk8 (k := 17) bL_law_1936 rfl
theorem dL_law_1954 : decode cL_law 1954 = .ok (.iadd, 1) := dk96 (k := 18) bL_law_1936 rfl
theorem dL_law_1955 : decode cL_law 1955 = .ok (.iaload, 1) := dk46 (k := 19) bL_law_1936 rfl
theorem dL_law_1956 : decode cL_law 1956 = .ok (.invokevirtual 277, 3) := dk182 (k := 20) bL_law_1936 rfl rfl
theorem dL_law_1959 : decode cL_law 1959 = .ok (.pop, 1) := dk87 (k := 23) bL_law_1936 rfl
theorem bL_law_1960 : bL cL_law 1960 [44, 42, 29, 4, 96, 46, 42, 29, 5, 96, 46, 42, 29, 6, 96, 46, 42, 29, 7, 96, 46, 42, 29, 8] := bL_of (by decide +kernel)
theorem dL_law_1960 : decode cL_law 1960 = .ok (.aload_n 2, 1) := dk44 (k := 0) bL_law_1960 rfl
theorem dL_law_1961 : decode cL_law 1961 = .ok (.aload_n 0, 1) := dk42 (k := 1) bL_law_1960 rfl
theorem dL_law_1962 : decode cL_law 1962 = .ok (.iload_n 3, 1) := dk29 (k := 2) bL_law_1960 rfl
theorem dL_law_1963 : decode cL_law 1963 = .ok (.iconst 1, 1) := dk4 (k := 3) bL_law_1960 rfl
theorem dL_law_1964 : decode cL_law 1964 = .ok (.iadd, 1) := dk96 (k := 4) bL_law_1960 rfl
theorem dL_law_1965 : decode cL_law 1965 = .ok (.iaload, 1) := dk46 (k := 5) bL_law_1960 rfl
theorem dL_law_1966 : decode cL_law 1966 = .ok (.aload_n 0, 1) := dk42 (k := 6) bL_law_1960 rfl
theorem dL_law_1967 : decode cL_law 1967 = .ok (.iload_n 3, 1) := dk29 (k := 7) bL_law_1960 rfl
theorem dL_law_1968 : decode cL_law 1968 = .ok (.iconst 2, 1) := dk5 (k := 8) bL_law_1960 rfl
theorem dL_law_1969 : decode cL_law 1969 = .ok (.iadd, 1) := dk96 (k := 9) bL_law_1960 rfl
theorem dL_law_1970 : decode cL_law 1970 = .ok (.iaload, 1) := dk46 (k := 10) bL_law_1960 rfl
theorem dL_law_1971 : decode cL_law 1971 = .ok (.aload_n 0, 1) := dk42 (k := 11) bL_law_1960 rfl
theorem dL_law_1972 : decode cL_law 1972 = .ok (.iload_n 3, 1) := dk29 (k := 12) bL_law_1960 rfl
theorem dL_law_1973 : decode cL_law 1973 = .ok (.iconst 3, 1) := dk6 (k := 13) bL_law_1960 rfl
theorem dL_law_1974 : decode cL_law 1974 = .ok (.iadd, 1) := dk96 (k := 14) bL_law_1960 rfl
theorem dL_law_1975 : decode cL_law 1975 = .ok (.iaload, 1) := dk46 (k := 15) bL_law_1960 rfl
theorem dL_law_1976 : decode cL_law 1976 = .ok (.aload_n 0, 1) := dk42 (k := 16) bL_law_1960 rfl
theorem dL_law_1977 : decode cL_law 1977 = .ok (.iload_n 3, 1) := dk29 (k := 17) bL_law_1960 rfl
theorem dL_law_1978 : decode cL_law 1978 = .ok (.iconst 4, 1) := dk7 (k := 18) bL_law_1960 rfl
theorem dL_law_1979 : decode cL_law 1979 = .ok (.iadd, 1) := dk96 (k := 19) bL_law_1960 rfl
theorem dL_law_1980 : decode cL_law 1980 = .ok (.iaload, 1) := dk46 (k := 20) bL_law_1960 rfl
theorem dL_law_1981 : decode cL_law 1981 = .ok (.aload_n 0, 1) := dk42 (k := 21) bL_law_1960 rfl
theorem dL_law_1982 : decode cL_law 1982 = .ok (.iload_n 3, 1) := dk29 (k := 22) bL_law_1960 rfl
theorem dL_law_1983 : decode cL_law 1983 = .ok (.iconst 5, 1) := dk8 (k := 23) bL_law_1960 rfl
theorem bL_law_1984 : bL cL_law 1984 [96, 46, 182, 1, 24, 87, 167, 0, 3, 132, 3, 6, 167, 248, 70, 4, 172] := bL_of (by decide +kernel)
theorem dL_law_1984 : decode cL_law 1984 = .ok (.iadd, 1) := dk96 (k := 0) bL_law_1984 rfl
theorem dL_law_1985 : decode cL_law 1985 = .ok (.iaload, 1) := dk46 (k := 1) bL_law_1984 rfl
theorem dL_law_1986 : decode cL_law 1986 = .ok (.invokevirtual 280, 3) := dk182 (k := 2) bL_law_1984 rfl rfl
theorem dL_law_1989 : decode cL_law 1989 = .ok (.pop, 1) := dk87 (k := 5) bL_law_1984 rfl
theorem dL_law_1990 : decode cL_law 1990 = .ok (.goto 3, 3) := dk167 (k := 6) bL_law_1984 rfl (by decide)
theorem dL_law_1993 : decode cL_law 1993 = .ok (.iinc 3 6, 3) := dk132 (k := 9) bL_law_1984 rfl rfl (by decide)
theorem dL_law_1996 : decode cL_law 1996 = .ok (.goto (-1978), 3) := dk167 (k := 12) bL_law_1984 rfl (by decide)
theorem dL_law_1999 : decode cL_law 1999 = .ok (.iconst 1, 1) := dk4 (k := 15) bL_law_1984 rfl
theorem dL_law_2000 : decode cL_law 2000 = .ok (.ireturn, 1) := dk172 (k := 16) bL_law_1984 rfl
end
