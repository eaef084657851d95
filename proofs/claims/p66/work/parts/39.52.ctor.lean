theorem kw_fl_12_57 : Cond.fieldLink RX12 57 (TX12 25).1 (TX12 25).2.1 (TX12 25).2.2.1 ∈ fwTb := fwTb_6 (i := 155) rfl rfl
theorem kw_fl_12_53 : Cond.fieldLink RX12 53 (TX12 24).1 (TX12 24).2.1 (TX12 24).2.2.1 ∈ fwTb := fwTb_6 (i := 154) rfl rfl
theorem kw_ar_long : Cond.arrayClass (newarray.typeOf .long) ∈ fwTb := fwTb_1 (i := 224) rfl rfl
theorem kw_fl_12_50 : Cond.fieldLink RX12 50 (TX12 23).1 (TX12 23).2.1 (TX12 23).2.2.1 ∈ fwTb := fwTb_6 (i := 153) rfl rfl
theorem kw_fl_12_47 : Cond.fieldLink RX12 47 (TX12 22).1 (TX12 22).2.1 (TX12 22).2.2.1 ∈ fwTb := fwTb_6 (i := 152) rfl rfl
theorem kw_fl_12_44 : Cond.fieldLink RX12 44 (TX12 20).1 (TX12 20).2.1 (TX12 20).2.2.1 ∈ fwTb := fwTb_6 (i := 150) rfl rfl
theorem kw_fl_12_41 : Cond.fieldLink RX12 41 (TX12 19).1 (TX12 19).2.1 (TX12 19).2.2.1 ∈ fwTb := fwTb_6 (i := 149) rfl rfl
theorem kw_fl_12_38 : Cond.fieldLink RX12 38 (TX12 16).1 (TX12 16).2.1 (TX12 16).2.2.1 ∈ fwTb := fwTb_6 (i := 146) rfl rfl
theorem kw_fl_12_34 : Cond.fieldLink RX12 34 (TX12 15).1 (TX12 15).2.1 (TX12 15).2.2.1 ∈ fwTb := fwTb_6 (i := 145) rfl rfl
theorem kw_fl_12_31 : Cond.fieldLink RX12 31 (TX12 14).1 (TX12 14).2.1 (TX12 14).2.2.1 ∈ fwTb := fwTb_6 (i := 144) rfl rfl
theorem kw_fl_12_27 : Cond.fieldLink RX12 27 (TX12 13).1 (TX12 13).2.1 (TX12 13).2.2.1 ∈ fwTb := fwTb_6 (i := 143) rfl rfl
theorem kw_fl_12_24 : Cond.fieldLink RX12 24 (TX12 6).1 (TX12 6).2.1 (TX12 6).2.2.1 ∈ fwTb := fwTb_6 (i := 136) rfl rfl
theorem kw_fl_12_20 : Cond.fieldLink RX12 20 (TX12 4).1 (TX12 4).2.1 (TX12 4).2.2.1 ∈ fwTb := fwTb_6 (i := 134) rfl rfl
theorem kw_fl_12_16 : Cond.fieldLink RX12 16 (TX12 3).1 (TX12 3).2.1 (TX12 3).2.2.1 ∈ fwTb := fwTb_6 (i := 133) rfl rfl
theorem kw_fl_12_13 : Cond.fieldLink RX12 13 (TX12 2).1 (TX12 2).2.1 (TX12 2).2.2.1 ∈ fwTb := fwTb_6 (i := 132) rfl rfl
theorem kw_fl_12_9 : Cond.fieldLink RX12 9 (TX12 1).1 (TX12 1).2.1 (TX12 1).2.2.1 ∈ fwTb := fwTb_6 (i := 131) rfl rfl
theorem kw_ol_12 : Cond.methodLink RX12 3 Lib.objectInit ∈ fwTb := fwTb_6 (i := 129) rfl rfl
theorem kw_fl_11_91 : Cond.fieldLink RX11 91 (TX11 11).1 (TX11 11).2.1 (TX11 11).2.2.1 ∈ fwTb := fwTb_2 (i := 118) rfl rfl
theorem kw_ml_11_88 : Cond.methodLink RX11 88 (mX6_init).1 ∈ fwTb := fwTb_2 (i := 73) rfl rfl
theorem kw_cl_11_86 : Cond.classLink RX11 86 RX6 ∈ fwTb := fwTb_2 (i := 71) rfl rfl
theorem kw_ii_6 : Cond.initialized RX6 ∈ fwTb := fwTb_1 (i := 12) rfl rfl
theorem kw_in_6 : Cond.instantiable RX6 9 ∈ fwTb := fwTb_2 (i := 72) rfl rfl
theorem kw_fl_11_82 : Cond.fieldLink RX11 82 (TX11 10).1 (TX11 10).2.1 (TX11 10).2.2.1 ∈ fwTb := fwTb_2 (i := 117) rfl rfl
theorem kw_ml_11_81 : Cond.methodLink RX11 81 (mX0_init).1 ∈ fwTb := fwTb_2 (i := 60) rfl rfl
theorem kw_cl_11_79 : Cond.classLink RX11 79 RX0 ∈ fwTb := fwTb_2 (i := 58) rfl rfl
theorem kw_ii_0 : Cond.initialized RX0 ∈ fwTb := fwTb_1 (i := 11) rfl rfl
theorem kw_in_0 : Cond.instantiable RX0 2 ∈ fwTb := fwTb_2 (i := 59) rfl rfl
theorem kw_fl_11_75 : Cond.fieldLink RX11 75 (TX11 9).1 (TX11 9).2.1 (TX11 9).2.2.1 ∈ fwTb := fwTb_2 (i := 116) rfl rfl
theorem kw_ml_11_72 : Cond.methodLink RX11 72 (mX7_init).1 ∈ fwTb := fwTb_2 (i := 32) rfl rfl
theorem kw_cl_11_70 : Cond.classLink RX11 70 RX7 ∈ fwTb := fwTb_2 (i := 30) rfl rfl
theorem kw_ii_7 : Cond.initialized RX7 ∈ fwTb := fwTb_1 (i := 10) rfl rfl
theorem kw_in_7 : Cond.instantiable RX7 7 ∈ fwTb := fwTb_2 (i := 31) rfl rfl
theorem kw_fl_11_66 : Cond.fieldLink RX11 66 (TX11 8).1 (TX11 8).2.1 (TX11 8).2.2.1 ∈ fwTb := fwTb_2 (i := 115) rfl rfl
theorem kw_ml_11_65 : Cond.methodLink RX11 65 (mX10_init).1 ∈ fwTb := fwTb_2 (i := 11) rfl rfl
theorem kw_cl_11_63 : Cond.classLink RX11 63 RX10 ∈ fwTb := fwTb_2 (i := 9) rfl rfl
theorem kw_ii_10 : Cond.initialized RX10 ∈ fwTb := fwTb_1 (i := 9) rfl rfl
theorem kw_in_10 : Cond.instantiable RX10 4 ∈ fwTb := fwTb_2 (i := 10) rfl rfl
theorem kw_fl_11_59 : Cond.fieldLink RX11 59 (TX11 7).1 (TX11 7).2.1 (TX11 7).2.2.1 ∈ fwTb := fwTb_2 (i := 114) rfl rfl
theorem kw_ml_11_56 : Cond.methodLink RX11 56 (mX4_init).1 ∈ fwTb := fwTb_1 (i := 229) rfl rfl
theorem kw_cl_11_54 : Cond.classLink RX11 54 RX4 ∈ fwTb := fwTb_1 (i := 227) rfl rfl
theorem kw_ii_4 : Cond.initialized RX4 ∈ fwTb := fwTb_1 (i := 8) rfl rfl
theorem kw_in_4 : Cond.instantiable RX4 5 ∈ fwTb := fwTb_1 (i := 228) rfl rfl
theorem kw_fl_11_50 : Cond.fieldLink RX11 50 (TX11 6).1 (TX11 6).2.1 (TX11 6).2.2.1 ∈ fwTb := fwTb_2 (i := 113) rfl rfl
theorem kw_mn_11_49 : Cond.methodLinkNest RX11 49 (mX1_init).1 "FootLower" ∈ lw_tbl := fw_in_1 (List.mem_of_getElem? (i := 226) rfl)
theorem kw_cl_11_47 : Cond.classLink RX11 47 RX1 ∈ fwTb := fwTb_1 (i := 225) rfl rfl
theorem kw_fl_11_43 : Cond.fieldLink RX11 43 (TX11 5).1 (TX11 5).2.1 (TX11 5).2.2.1 ∈ fwTb := fwTb_2 (i := 112) rfl rfl
theorem kw_mn_11_42 : Cond.methodLinkNest RX11 42 (mX8_init).1 "FootLower" ∈ lw_tbl := fw_in_1 (List.mem_of_getElem? (i := 207) rfl)
theorem kw_cl_11_40 : Cond.classLink RX11 40 RX8 ∈ fwTb := fwTb_1 (i := 205) rfl rfl
theorem kw_ii_8 : Cond.initialized RX8 ∈ fwTb := fwTb_1 (i := 7) rfl rfl
theorem kw_in_8 : Cond.instantiable RX8 3 ∈ fwTb := fwTb_1 (i := 206) rfl rfl
theorem kw_fl_11_36 : Cond.fieldLink RX11 36 (TX11 4).1 (TX11 4).2.1 (TX11 4).2.2.1 ∈ fwTb := fwTb_2 (i := 111) rfl rfl
theorem kw_ar_boolean : Cond.arrayClass (newarray.typeOf .boolean) ∈ fwTb := fwTb_1 (i := 223) rfl rfl
theorem kw_fl_11_32 : Cond.fieldLink RX11 32 (TX11 3).1 (TX11 3).2.1 (TX11 3).2.2.1 ∈ fwTb := fwTb_2 (i := 110) rfl rfl
theorem kw_fl_11_28 : Cond.fieldLink RX11 28 (TX11 2).1 (TX11 2).2.1 (TX11 2).2.2.1 ∈ fwTb := fwTb_2 (i := 109) rfl rfl
theorem kw_mn_11_27 : Cond.methodLinkNest RX11 27 (mX2_init).1 "FootLower" ∈ lw_tbl := fw_in_1 (List.mem_of_getElem? (i := 203) rfl)
theorem kw_cl_11_25 : Cond.classLink RX11 25 RX2 ∈ fwTb := fwTb_1 (i := 202) rfl rfl
theorem kw_fl_11_21 : Cond.fieldLink RX11 21 (TX11 1).1 (TX11 1).2.1 (TX11 1).2.2.1 ∈ fwTb := fwTb_2 (i := 108) rfl rfl
theorem kw_ml_11_18 : Cond.methodLink RX11 18 (mX5_init).1 ∈ fwTb := fwTb_1 (i := 63) rfl rfl
theorem kw_cl_11_16 : Cond.classLink RX11 16 RX5 ∈ fwTb := fwTb_1 (i := 61) rfl rfl
theorem kw_ii_5 : Cond.initialized RX5 ∈ fwTb := fwTb_1 (i := 3) rfl rfl
theorem kw_in_5 : Cond.instantiable RX5 8 ∈ fwTb := fwTb_1 (i := 62) rfl rfl
theorem kw_fl_11_10 : Cond.fieldLink RX11 10 (TX11 0).1 (TX11 0).2.1 (TX11 0).2.2.1 ∈ fwTb := fwTb_2 (i := 107) rfl rfl
theorem kw_mn_11_9 : Cond.methodLinkNest RX11 9 (mX9_init).1 "FootLower" ∈ lw_tbl := fw_in_1 (List.mem_of_getElem? (i := 31) rfl)
theorem kw_cl_11_7 : Cond.classLink RX11 7 RX9 ∈ fwTb := fwTb_1 (i := 29) rfl rfl
theorem kw_ii_9 : Cond.initialized RX9 ∈ fwTb := fwTb_1 (i := 2) rfl rfl
theorem kw_in_9 : Cond.instantiable RX9 6 ∈ fwTb := fwTb_1 (i := 30) rfl rfl
theorem kw_ol_11 : Cond.methodLink RX11 1 Lib.objectInit ∈ fwTb := fwTb_1 (i := 26) rfl rfl
theorem kw_fl_6_29 : Cond.fieldLink RX6 29 (TX6 2).1 (TX6 2).2.1 (TX6 2).2.2.1 ∈ fwTb := fwTb_2 (i := 79) rfl rfl
theorem kw_fl_6_25 : Cond.fieldLink RX6 25 (TX6 1).1 (TX6 1).2.1 (TX6 1).2.2.1 ∈ fwTb := fwTb_2 (i := 78) rfl rfl
theorem kw_fl_6_21 : Cond.fieldLink RX6 21 (TX6 0).1 (TX6 0).2.1 (TX6 0).2.2.1 ∈ fwTb := fwTb_2 (i := 77) rfl rfl
theorem kw_fl_6_18 : Cond.fieldLink RX6 18 (TX6 5).1 (TX6 5).2.1 (TX6 5).2.2.1 ∈ fwTb := fwTb_2 (i := 82) rfl rfl
theorem kw_fl_6_15 : Cond.fieldLink RX6 15 (TX6 4).1 (TX6 4).2.1 (TX6 4).2.2.1 ∈ fwTb := fwTb_2 (i := 81) rfl rfl
theorem kw_fl_6_9 : Cond.fieldLink RX6 9 (TX6 3).1 (TX6 3).2.1 (TX6 3).2.2.1 ∈ fwTb := fwTb_2 (i := 80) rfl rfl
theorem kw_ol_6 : Cond.methodLink RX6 3 Lib.objectInit ∈ fwTb := fwTb_2 (i := 76) rfl rfl
theorem kw_fl_0_15 : Cond.fieldLink RX0 15 (TX0 1).1 (TX0 1).2.1 (TX0 1).2.2.1 ∈ fwTb := fwTb_2 (i := 65) rfl rfl
theorem kw_fl_0_9 : Cond.fieldLink RX0 9 (TX0 0).1 (TX0 0).2.1 (TX0 0).2.2.1 ∈ fwTb := fwTb_2 (i := 64) rfl rfl
theorem kw_ol_0 : Cond.methodLink RX0 3 Lib.objectInit ∈ fwTb := fwTb_2 (i := 63) rfl rfl
theorem kw_fl_7_25 : Cond.fieldLink RX7 25 (TX7 1).1 (TX7 1).2.1 (TX7 1).2.2.1 ∈ fwTb := fwTb_2 (i := 37) rfl rfl
theorem kw_fl_7_21 : Cond.fieldLink RX7 21 (TX7 0).1 (TX7 0).2.1 (TX7 0).2.2.1 ∈ fwTb := fwTb_2 (i := 36) rfl rfl
theorem kw_fl_7_18 : Cond.fieldLink RX7 18 (TX7 4).1 (TX7 4).2.1 (TX7 4).2.2.1 ∈ fwTb := fwTb_2 (i := 40) rfl rfl
theorem kw_fl_7_15 : Cond.fieldLink RX7 15 (TX7 3).1 (TX7 3).2.1 (TX7 3).2.2.1 ∈ fwTb := fwTb_2 (i := 39) rfl rfl
theorem kw_fl_7_9 : Cond.fieldLink RX7 9 (TX7 2).1 (TX7 2).2.1 (TX7 2).2.2.1 ∈ fwTb := fwTb_2 (i := 38) rfl rfl
theorem kw_ol_7 : Cond.methodLink RX7 3 Lib.objectInit ∈ fwTb := fwTb_2 (i := 35) rfl rfl
theorem kw_fl_10_15 : Cond.fieldLink RX10 15 (TX10 0).1 (TX10 0).2.1 (TX10 0).2.2.1 ∈ fwTb := fwTb_2 (i := 15) rfl rfl
theorem kw_fl_10_9 : Cond.fieldLink RX10 9 (TX10 1).1 (TX10 1).2.1 (TX10 1).2.2.1 ∈ fwTb := fwTb_2 (i := 16) rfl rfl
theorem kw_ol_10 : Cond.methodLink RX10 3 Lib.objectInit ∈ fwTb := fwTb_2 (i := 14) rfl rfl
theorem kw_fl_4_15 : Cond.fieldLink RX4 15 (TX4 0).1 (TX4 0).2.1 (TX4 0).2.2.1 ∈ fwTb := fwTb_1 (i := 233) rfl rfl
theorem kw_fl_4_9 : Cond.fieldLink RX4 9 (TX4 1).1 (TX4 1).2.1 (TX4 1).2.2.1 ∈ fwTb := fwTb_1 (i := 234) rfl rfl
theorem kw_ol_4 : Cond.methodLink RX4 3 Lib.objectInit ∈ fwTb := fwTb_1 (i := 232) rfl rfl
theorem kw_fl_8_20 : Cond.fieldLink RX8 20 (TX8 2).1 (TX8 2).2.1 (TX8 2).2.2.1 ∈ fwTb := fwTb_1 (i := 215) rfl rfl
theorem kw_fl_8_16 : Cond.fieldLink RX8 16 (TX8 1).1 (TX8 1).2.1 (TX8 1).2.2.1 ∈ fwTb := fwTb_1 (i := 214) rfl rfl
theorem kw_fl_8_11 : Cond.fieldLink RX8 11 (TX8 0).1 (TX8 0).2.1 (TX8 0).2.2.1 ∈ fwTb := fwTb_1 (i := 213) rfl rfl
theorem kw_mu : Cond.classLink RX8 9 "[[J" ∈ fwTb := fwTb_1 (i := 211) rfl rfl
theorem kw_ol_8 : Cond.methodLink RX8 3 Lib.objectInit ∈ fwTb := fwTb_1 (i := 210) rfl rfl
theorem kw_fl_5_22 : Cond.fieldLink RX5 22 (TX5 0).1 (TX5 0).2.1 (TX5 0).2.2.1 ∈ fwTb := fwTb_1 (i := 174) rfl rfl
theorem kw_fl_5_18 : Cond.fieldLink RX5 18 (TX5 7).1 (TX5 7).2.1 (TX5 7).2.2.1 ∈ fwTb := fwTb_1 (i := 183) rfl rfl
theorem kw_fl_5_12 : Cond.fieldLink RX5 12 (TX5 1).1 (TX5 1).2.1 (TX5 1).2.2.1 ∈ fwTb := fwTb_1 (i := 175) rfl rfl
theorem kw_mn_5_11 : Cond.methodLinkNest RX5 11 (mX2_init).1 "FootLower" ∈ lw_tbl := fw_in_1 (List.mem_of_getElem? (i := 69) rfl)
theorem kw_cl_5_9 : Cond.classLink RX5 9 RX2 ∈ fwTb := fwTb_1 (i := 67) rfl rfl
theorem kw_ii_2 : Cond.initialized RX2 ∈ fwTb := fwTb_1 (i := 4) rfl rfl
theorem kw_in_2 : Cond.instantiable RX2 7 ∈ fwTb := fwTb_1 (i := 68) rfl rfl
theorem kw_ol_5 : Cond.methodLink RX5 3 Lib.objectInit ∈ fwTb := fwTb_1 (i := 66) rfl rfl
theorem kw_fl_9_22 : Cond.fieldLink RX9 22 (TX9 4).1 (TX9 4).2.1 (TX9 4).2.2.1 ∈ fwTb := fwTb_1 (i := 42) rfl rfl
theorem kw_fl_9_19 : Cond.fieldLink RX9 19 (TX9 3).1 (TX9 3).2.1 (TX9 3).2.2.1 ∈ fwTb := fwTb_1 (i := 40) rfl rfl
theorem kw_fl_9_15 : Cond.fieldLink RX9 15 (TX9 2).1 (TX9 2).2.1 (TX9 2).2.2.1 ∈ fwTb := fwTb_1 (i := 38) rfl rfl
theorem kw_fl_9_9 : Cond.fieldLink RX9 9 (TX9 0).1 (TX9 0).2.1 (TX9 0).2.2.1 ∈ fwTb := fwTb_1 (i := 35) rfl rfl
theorem kw_ar_byte : Cond.arrayClass (newarray.typeOf .byte) ∈ fwTb := fwTb_1 (i := 59) rfl rfl
theorem kw_ol_9 : Cond.methodLink RX9 3 Lib.objectInit ∈ fwTb := fwTb_1 (i := 34) rfl rfl
theorem kw_fl_2_25 : Cond.fieldLink RX2 25 (TX2 2).1 (TX2 2).2.1 (TX2 2).2.2.1 ∈ fwTb := fwTb_1 (i := 146) rfl rfl
theorem kw_fl_2_21 : Cond.fieldLink RX2 21 (TX2 1).1 (TX2 1).2.1 (TX2 1).2.2.1 ∈ fwTb := fwTb_1 (i := 139) rfl rfl
theorem kw_mn_2_20 : Cond.methodLinkNest RX2 20 (mX3_init).1 "FootLower" ∈ lw_tbl := fw_in_1 (List.mem_of_getElem? (i := 107) rfl)
theorem kw_cl_2_18 : Cond.classLink RX2 18 RX3 ∈ fwTb := fwTb_1 (i := 105) rfl rfl
theorem kw_ii_3 : Cond.initialized RX3 ∈ fwTb := fwTb_1 (i := 6) rfl rfl
theorem kw_in_3 : Cond.instantiable RX3 4 ∈ fwTb := fwTb_1 (i := 106) rfl rfl
theorem kw_fl_2_12 : Cond.fieldLink RX2 12 (TX2 0).1 (TX2 0).2.1 (TX2 0).2.2.1 ∈ fwTb := fwTb_1 (i := 131) rfl rfl
theorem kw_mn_2_11 : Cond.methodLinkNest RX2 11 (mX1_init).1 "FootLower" ∈ lw_tbl := fw_in_1 (List.mem_of_getElem? (i := 75) rfl)
theorem kw_cl_2_9 : Cond.classLink RX2 9 RX1 ∈ fwTb := fwTb_1 (i := 73) rfl rfl
theorem kw_ii_1 : Cond.initialized RX1 ∈ fwTb := fwTb_1 (i := 5) rfl rfl
theorem kw_in_1 : Cond.instantiable RX1 5 ∈ fwTb := fwTb_1 (i := 74) rfl rfl
theorem kw_ol_2 : Cond.methodLink RX2 3 Lib.objectInit ∈ fwTb := fwTb_1 (i := 72) rfl rfl
theorem kw_fl_3_18 : Cond.fieldLink RX3 18 (TX3 2).1 (TX3 2).2.1 (TX3 2).2.2.1 ∈ fwTb := fwTb_1 (i := 113) rfl rfl
theorem kw_fl_3_15 : Cond.fieldLink RX3 15 (TX3 1).1 (TX3 1).2.1 (TX3 1).2.2.1 ∈ fwTb := fwTb_1 (i := 112) rfl rfl
theorem kw_fl_3_9 : Cond.fieldLink RX3 9 (TX3 0).1 (TX3 0).2.1 (TX3 0).2.2.1 ∈ fwTb := fwTb_1 (i := 111) rfl rfl
theorem kw_ol_3 : Cond.methodLink RX3 3 Lib.objectInit ∈ fwTb := fwTb_1 (i := 110) rfl rfl
theorem kw_fl_1_9 : Cond.fieldLink RX1 9 (TX1 0).1 (TX1 0).2.1 (TX1 0).2.2.1 ∈ fwTb := fwTb_1 (i := 79) rfl rfl
theorem kw_ar_int : Cond.arrayClass (newarray.typeOf .int) ∈ fwTb := fwTb_1 (i := 60) rfl rfl
theorem kw_ol_1 : Cond.methodLink RX1 3 Lib.objectInit ∈ fwTb := fwTb_1 (i := 78) rfl rfl
theorem kw_oc : Cond.code Lib.objectInit ⟨#[0xb1]⟩ 1 none ∈ fwTb := fwTb_1 (i := 28) rfl rfl
theorem kw_oi : Cond.instanceMethod Lib.objectInit ∈ fwTb := fwTb_1 (i := 27) rfl rfl
set_option maxRecDepth 100000 in
set_option maxHeartbeats 4000000 in
theorem c_X1_init {d n0 : Nat} {tc : Nat → ClassId} {Q : List va_E → Prop} (P : List va_E) (a : Nat) (ha : P.length = a) (k : Q (P ++ [.inr (1, [.ref (n0 + (a + 1)), .int 0, .int 0, .int 0, .int 0]), .inl (tc 0, 10, .inl (fun _ => 0))])) : kCt n0 tc mX1_init (d + 1) 1 10 [aR 0 (a + 0)] (P ++ [.inr (1, [.null, .int 0, .int 0, .int 0, .int 0])]) Q := by
  refine kCt_of [some (aR 0 (a + 0))] rfl rfl rfl ?_
  refine k_aload dX1_init_0 rfl ?_
  refine k_obj dX1_init_1 kw_ol_1 kw_oi kw_oc (Nat.le_of_ble_eq_true rfl) ?_
  refine k_aload dX1_init_4 rfl ?_
  refine k_bipush dX1_init_5 rfl ?_
  refine K_newa (a := a) [.inr (1, [.null, .int 0, .int 0, .int 0, .int 0]), .inl (tc 0, 10, .inl (fun _ => 0))] (t := 0) (N := 10) (a0 := (10, .inl (fun _ => 0))) dX1_init_7 kw_ar_int rfl (fun _ => rfl) (by decide) (by decide) (by decide) (by decide) (by decide) ha rfl rfl ?_
  refine K_put (f := 0) (ci := 1) (q := (RX1, TX1, 5)) (a := a) (i := 0) [.inr (1, [.ref (n0 + (a + 1)), .int 0, .int 0, .int 0, .int 0]), .inl (tc 0, 10, .inl (fun _ => 0))] (tyX1 0) dX1_init_9 rfl rfl (by decide) kw_fl_1_9 (tyX1_ok 0 (by decide)) (Or.inr ⟨rfl, rfl, rfl⟩) rfl rfl (Nat.le_of_ble_eq_true rfl) ha rfl ?_
  exact k_vret dX1_init_12 rfl rfl rfl k
theorem kok_1 : kMok mX1_init 0 := ⟨⟨fwTb_1 (i := 77) rfl rfl, fwTb_1 (i := 5) rfl rfl, ⟨by decide, by decide, by decide +kernel⟩, by decide⟩, rfl, rfl, fwTb_1 (i := 76) rfl rfl⟩
set_option maxRecDepth 100000 in
set_option maxHeartbeats 4000000 in
theorem c_X3_init {d n0 : Nat} {tc : Nat → ClassId} {Q : List va_E → Prop} (P : List va_E) (a : Nat) (ha : P.length = a) (k : Q (P ++ [.inr (3, [.ref (n0 + (a + 1)), .ref (n0 + (a + 2)), .ref (n0 + (a + 3)), .int 0]), .inl (tc 0, 56, .inl (fun _ => 0)), .inl (tc 0, 8, .inl (fun _ => 0)), .inl (tc 0, 8, .inl (fun _ => 0))])) : kCt n0 tc mX3_init (d + 1) 3 72 [aR 0 (a + 0)] (P ++ [.inr (3, [.null, .null, .null, .int 0])]) Q := by
  refine kCt_of [some (aR 0 (a + 0))] rfl rfl rfl ?_
  refine k_aload dX3_init_0 rfl ?_
  refine k_obj dX3_init_1 kw_ol_3 kw_oi kw_oc (Nat.le_of_ble_eq_true rfl) ?_
  refine k_aload dX3_init_4 rfl ?_
  refine k_bipush dX3_init_5 rfl ?_
  refine K_newa (a := a) [.inr (3, [.null, .null, .null, .int 0]), .inl (tc 0, 56, .inl (fun _ => 0))] (t := 0) (N := 56) (a0 := (56, .inl (fun _ => 0))) dX3_init_7 kw_ar_int rfl (fun _ => rfl) (by decide) (by decide) (by decide) (by decide) (by decide) ha rfl rfl ?_
  refine K_put (f := 0) (ci := 3) (q := (RX3, TX3, 4)) (a := a) (i := 0) [.inr (3, [.ref (n0 + (a + 1)), .null, .null, .int 0]), .inl (tc 0, 56, .inl (fun _ => 0))] (tyX3 0) dX3_init_9 rfl rfl (by decide) kw_fl_3_9 (tyX3_ok 0 (by decide)) (Or.inr ⟨rfl, rfl, rfl⟩) rfl rfl (Nat.le_of_ble_eq_true rfl) ha rfl ?_
  refine k_aload dX3_init_12 rfl ?_
  refine k_bipush dX3_init_13 rfl ?_
  refine K_newa (a := a) [.inr (3, [.ref (n0 + (a + 1)), .null, .null, .int 0]), .inl (tc 0, 56, .inl (fun _ => 0)), .inl (tc 0, 8, .inl (fun _ => 0))] (t := 0) (N := 8) (a0 := (8, .inl (fun _ => 0))) dX3_init_15 kw_ar_int rfl (fun _ => rfl) (by decide) (by decide) (by decide) (by decide) (by decide) ha rfl rfl ?_
  refine K_put (f := 1) (ci := 3) (q := (RX3, TX3, 4)) (a := a) (i := 0) [.inr (3, [.ref (n0 + (a + 1)), .ref (n0 + (a + 2)), .null, .int 0]), .inl (tc 0, 56, .inl (fun _ => 0)), .inl (tc 0, 8, .inl (fun _ => 0))] (tyX3 1) dX3_init_17 rfl rfl (by decide) kw_fl_3_15 (tyX3_ok 1 (by decide)) (Or.inr ⟨rfl, rfl, rfl⟩) rfl rfl (Nat.le_of_ble_eq_true rfl) ha rfl ?_
  refine k_aload dX3_init_20 rfl ?_
  refine k_bipush dX3_init_21 rfl ?_
  refine K_newa (a := a) [.inr (3, [.ref (n0 + (a + 1)), .ref (n0 + (a + 2)), .null, .int 0]), .inl (tc 0, 56, .inl (fun _ => 0)), .inl (tc 0, 8, .inl (fun _ => 0)), .inl (tc 0, 8, .inl (fun _ => 0))] (t := 0) (N := 8) (a0 := (8, .inl (fun _ => 0))) dX3_init_23 kw_ar_int rfl (fun _ => rfl) (by decide) (by decide) (by decide) (by decide) (by decide) ha rfl rfl ?_
  refine K_put (f := 2) (ci := 3) (q := (RX3, TX3, 4)) (a := a) (i := 0) [.inr (3, [.ref (n0 + (a + 1)), .ref (n0 + (a + 2)), .ref (n0 + (a + 3)), .int 0]), .inl (tc 0, 56, .inl (fun _ => 0)), .inl (tc 0, 8, .inl (fun _ => 0)), .inl (tc 0, 8, .inl (fun _ => 0))] (tyX3 2) dX3_init_25 rfl rfl (by decide) kw_fl_3_18 (tyX3_ok 2 (by decide)) (Or.inr ⟨rfl, rfl, rfl⟩) rfl rfl (Nat.le_of_ble_eq_true rfl) ha rfl ?_
  exact k_vret dX3_init_28 rfl rfl rfl k
theorem kok_3 : kMok mX3_init 0 := ⟨⟨fwTb_1 (i := 109) rfl rfl, fwTb_1 (i := 6) rfl rfl, ⟨by decide, by decide, by decide +kernel⟩, by decide⟩, rfl, rfl, fwTb_1 (i := 108) rfl rfl⟩
set_option maxRecDepth 100000 in
set_option maxHeartbeats 4000000 in
theorem c_X2_init {d n0 : Nat} {tc : Nat → ClassId} {Q : List va_E → Prop} (P : List va_E) (a : Nat) (ha : P.length = a) (k : Q (P ++ [.inr (2, [.ref (n0 + (a + 1)), .ref (n0 + (a + 3)), .ref (n0 + (a + 7)), .int 0, .int 0, .int 0, .int 0]), .inr (1, [.ref (n0 + (a + 2)), .int 0, .int 0, .int 0, .int 0]), .inl (tc 0, 10, .inl (fun _ => 0)), .inr (3, [.ref (n0 + (a + 4)), .ref (n0 + (a + 5)), .ref (n0 + (a + 6)), .int 0]), .inl (tc 0, 56, .inl (fun _ => 0)), .inl (tc 0, 8, .inl (fun _ => 0)), .inl (tc 0, 8, .inl (fun _ => 0)), .inl (tc 0, 60, .inl (fun _ => 0))])) : kCt n0 tc mX2_init (d + 2) 7 151 [aR 0 (a + 0)] (P ++ [.inr (2, [.null, .null, .null, .int 0, .int 0, .int 0, .int 0])]) Q := by
  refine kCt_of [some (aR 0 (a + 0))] rfl rfl rfl ?_
  refine k_aload dX2_init_0 rfl ?_
  refine k_obj dX2_init_1 kw_ol_2 kw_oi kw_oc (Nat.le_of_ble_eq_true rfl) ?_
  refine k_aload dX2_init_4 rfl ?_
  refine K_new (ci := 1) (q := (RX1, TX1, 5)) (fs := [.null, .int 0, .int 0, .int 0, .int 0]) (a := a) [.inr (2, [.null, .null, .null, .int 0, .int 0, .int 0, .int 0]), .inr (1, [.null, .int 0, .int 0, .int 0, .int 0])] tyX1 dX2_init_5 rfl kw_cl_2_9 kw_in_1 kw_ii_1 tyX1_ok (fun j hj => by have hj : j < 5 := hj; rcases (show j = 0 ∨ j = 1 ∨ j = 2 ∨ j = 3 ∨ j = 4 by omega) with rfl | rfl | rfl | rfl | rfl <;> rfl) (by decide) (by decide) ha rfl rfl ?_
  refine k_dup dX2_init_8 rfl ?_
  refine K_callN (S := [aR 0 (a + 1), aR 0 (a + 0)]) (a := a) (X0 := [.inr (2, [.null, .null, .null, .int 0, .int 0, .int 0, .int 0])]) (o := .inr (1, [.null, .int 0, .int 0, .int 0, .int 0])) (mc' := 1) (ms' := 10) [] dX2_init_9 kw_mn_2_11 kok_1 rfl (Nat.le_of_ble_eq_true rfl) (by decide) (by decide) rfl ha rfl ?_
  refine c_X1_init (d := d) (P ++ [.inr (2, [.null, .null, .null, .int 0, .int 0, .int 0, .int 0])]) (a + 1)  (kln ha rfl) ?_
  rw [List.append_assoc]
  show kWP n0 tc mX2_init (d + 2) 7 151 12 [some (aR 0 (a + 0))] [aR 0 (a + 1), aR 0 (a + 0)] (P ++ [.inr (2, [.null, .null, .null, .int 0, .int 0, .int 0, .int 0]), .inr (1, [.ref (n0 + (a + 2)), .int 0, .int 0, .int 0, .int 0]), .inl (tc 0, 10, .inl (fun _ => 0))]) 2 15 Q
  refine K_put (f := 0) (ci := 2) (q := (RX2, TX2, 7)) (a := a) (i := 0) [.inr (2, [.ref (n0 + (a + 1)), .null, .null, .int 0, .int 0, .int 0, .int 0]), .inr (1, [.ref (n0 + (a + 2)), .int 0, .int 0, .int 0, .int 0]), .inl (tc 0, 10, .inl (fun _ => 0))] (tyX2 0) dX2_init_12 rfl rfl (by decide) kw_fl_2_12 (tyX2_ok 0 (by decide)) (Or.inr ⟨rfl, rfl, rfl⟩) rfl rfl (Nat.le_of_ble_eq_true rfl) ha rfl ?_
  refine k_aload dX2_init_15 rfl ?_
  refine K_new (ci := 3) (q := (RX3, TX3, 4)) (fs := [.null, .null, .null, .int 0]) (a := a) [.inr (2, [.ref (n0 + (a + 1)), .null, .null, .int 0, .int 0, .int 0, .int 0]), .inr (1, [.ref (n0 + (a + 2)), .int 0, .int 0, .int 0, .int 0]), .inl (tc 0, 10, .inl (fun _ => 0)), .inr (3, [.null, .null, .null, .int 0])] tyX3 dX2_init_16 rfl kw_cl_2_18 kw_in_3 kw_ii_3 tyX3_ok (fun j hj => by have hj : j < 4 := hj; rcases (show j = 0 ∨ j = 1 ∨ j = 2 ∨ j = 3 by omega) with rfl | rfl | rfl | rfl <;> rfl) (by decide) (by decide) ha rfl rfl ?_
  refine k_dup dX2_init_19 rfl ?_
  refine K_callN (S := [aR 0 (a + 3), aR 0 (a + 0)]) (a := a) (X0 := [.inr (2, [.ref (n0 + (a + 1)), .null, .null, .int 0, .int 0, .int 0, .int 0]), .inr (1, [.ref (n0 + (a + 2)), .int 0, .int 0, .int 0, .int 0]), .inl (tc 0, 10, .inl (fun _ => 0))]) (o := .inr (3, [.null, .null, .null, .int 0])) (mc' := 3) (ms' := 72) [] dX2_init_20 kw_mn_2_20 kok_3 rfl (Nat.le_of_ble_eq_true rfl) (by decide) (by decide) rfl ha rfl ?_
  refine c_X3_init (d := d) (P ++ [.inr (2, [.ref (n0 + (a + 1)), .null, .null, .int 0, .int 0, .int 0, .int 0]), .inr (1, [.ref (n0 + (a + 2)), .int 0, .int 0, .int 0, .int 0]), .inl (tc 0, 10, .inl (fun _ => 0))]) (a + 3)  (kln ha rfl) ?_
  rw [List.append_assoc]
  show kWP n0 tc mX2_init (d + 2) 7 151 23 [some (aR 0 (a + 0))] [aR 0 (a + 3), aR 0 (a + 0)] (P ++ [.inr (2, [.ref (n0 + (a + 1)), .null, .null, .int 0, .int 0, .int 0, .int 0]), .inr (1, [.ref (n0 + (a + 2)), .int 0, .int 0, .int 0, .int 0]), .inl (tc 0, 10, .inl (fun _ => 0)), .inr (3, [.ref (n0 + (a + 4)), .ref (n0 + (a + 5)), .ref (n0 + (a + 6)), .int 0]), .inl (tc 0, 56, .inl (fun _ => 0)), .inl (tc 0, 8, .inl (fun _ => 0)), .inl (tc 0, 8, .inl (fun _ => 0))]) 6 91 Q
  refine K_put (f := 1) (ci := 2) (q := (RX2, TX2, 7)) (a := a) (i := 0) [.inr (2, [.ref (n0 + (a + 1)), .ref (n0 + (a + 3)), .null, .int 0, .int 0, .int 0, .int 0]), .inr (1, [.ref (n0 + (a + 2)), .int 0, .int 0, .int 0, .int 0]), .inl (tc 0, 10, .inl (fun _ => 0)), .inr (3, [.ref (n0 + (a + 4)), .ref (n0 + (a + 5)), .ref (n0 + (a + 6)), .int 0]), .inl (tc 0, 56, .inl (fun _ => 0)), .inl (tc 0, 8, .inl (fun _ => 0)), .inl (tc 0, 8, .inl (fun _ => 0))] (tyX2 1) dX2_init_23 rfl rfl (by decide) kw_fl_2_21 (tyX2_ok 1 (by decide)) (Or.inr ⟨rfl, rfl, rfl⟩) rfl rfl (Nat.le_of_ble_eq_true rfl) ha rfl ?_
  refine k_aload dX2_init_26 rfl ?_
  refine k_bipush dX2_init_27 rfl ?_
  refine K_newa (a := a) [.inr (2, [.ref (n0 + (a + 1)), .ref (n0 + (a + 3)), .null, .int 0, .int 0, .int 0, .int 0]), .inr (1, [.ref (n0 + (a + 2)), .int 0, .int 0, .int 0, .int 0]), .inl (tc 0, 10, .inl (fun _ => 0)), .inr (3, [.ref (n0 + (a + 4)), .ref (n0 + (a + 5)), .ref (n0 + (a + 6)), .int 0]), .inl (tc 0, 56, .inl (fun _ => 0)), .inl (tc 0, 8, .inl (fun _ => 0)), .inl (tc 0, 8, .inl (fun _ => 0)), .inl (tc 0, 60, .inl (fun _ => 0))] (t := 0) (N := 60) (a0 := (60, .inl (fun _ => 0))) dX2_init_29 kw_ar_int rfl (fun _ => rfl) (by decide) (by decide) (by decide) (by decide) (by decide) ha rfl rfl ?_
  refine K_put (f := 2) (ci := 2) (q := (RX2, TX2, 7)) (a := a) (i := 0) [.inr (2, [.ref (n0 + (a + 1)), .ref (n0 + (a + 3)), .ref (n0 + (a + 7)), .int 0, .int 0, .int 0, .int 0]), .inr (1, [.ref (n0 + (a + 2)), .int 0, .int 0, .int 0, .int 0]), .inl (tc 0, 10, .inl (fun _ => 0)), .inr (3, [.ref (n0 + (a + 4)), .ref (n0 + (a + 5)), .ref (n0 + (a + 6)), .int 0]), .inl (tc 0, 56, .inl (fun _ => 0)), .inl (tc 0, 8, .inl (fun _ => 0)), .inl (tc 0, 8, .inl (fun _ => 0)), .inl (tc 0, 60, .inl (fun _ => 0))] (tyX2 2) dX2_init_31 rfl rfl (by decide) kw_fl_2_25 (tyX2_ok 2 (by decide)) (Or.inr ⟨rfl, rfl, rfl⟩) rfl rfl (Nat.le_of_ble_eq_true rfl) ha rfl ?_
  exact k_vret dX2_init_34 rfl rfl rfl k
theorem kok_2 : kMok mX2_init 0 := ⟨⟨fwTb_1 (i := 71) rfl rfl, fwTb_1 (i := 4) rfl rfl, ⟨by decide, by decide, by decide +kernel⟩, by decide⟩, rfl, rfl, fwTb_1 (i := 70) rfl rfl⟩
set_option maxRecDepth 100000 in
set_option maxHeartbeats 4000000 in
theorem c_X9_init {d n0 : Nat} {tc : Nat → ClassId} {Q : List va_E → Prop} (P : List va_E) (a : Nat) (ha : P.length = a) (k : Q (P ++ [.inr (9, [.ref (n0 + (a + 1)), .int 0, .ref (n0 + (a + 2)), .ref (n0 + (a + 3)), .ref (n0 + (a + 4)), .int 0]), .inl (tc 1, 900, .inl (fun _ => 0)), .inl (tc 0, 901, .inl (fun _ => 0)), .inl (tc 0, 901, .inl (fun _ => 0)), .inl (tc 0, 901, .inl (fun _ => 0))])) : kCt n0 tc mX9_init (d + 1) 4 3603 [aR 0 (a + 0)] (P ++ [.inr (9, [.null, .int 0, .null, .null, .null, .int 0])]) Q := by
  refine kCt_of [some (aR 0 (a + 0))] rfl rfl rfl ?_
  refine k_aload dX9_init_0 rfl ?_
  refine k_obj dX9_init_1 kw_ol_9 kw_oi kw_oc (Nat.le_of_ble_eq_true rfl) ?_
  refine k_aload dX9_init_4 rfl ?_
  refine k_sipush dX9_init_5 rfl ?_
  refine K_newa (a := a) [.inr (9, [.null, .int 0, .null, .null, .null, .int 0]), .inl (tc 1, 900, .inl (fun _ => 0))] (t := 1) (N := 900) (a0 := (900, .inl (fun _ => 0))) dX9_init_8 kw_ar_byte rfl (fun _ => rfl) (by decide) (by decide) (by decide) (by decide) (by decide) ha rfl rfl ?_
  refine K_put (f := 0) (ci := 9) (q := (RX9, TX9, 6)) (a := a) (i := 0) [.inr (9, [.ref (n0 + (a + 1)), .int 0, .null, .null, .null, .int 0]), .inl (tc 1, 900, .inl (fun _ => 0))] (tyX9 0) dX9_init_10 rfl rfl (by decide) kw_fl_9_9 (tyX9_ok 0 (by decide)) (Or.inr ⟨rfl, rfl, rfl⟩) rfl rfl (Nat.le_of_ble_eq_true rfl) ha rfl ?_
  refine k_aload dX9_init_13 rfl ?_
  refine k_sipush dX9_init_14 rfl ?_
  refine K_newa (a := a) [.inr (9, [.ref (n0 + (a + 1)), .int 0, .null, .null, .null, .int 0]), .inl (tc 1, 900, .inl (fun _ => 0)), .inl (tc 0, 901, .inl (fun _ => 0))] (t := 0) (N := 901) (a0 := (901, .inl (fun _ => 0))) dX9_init_17 kw_ar_int rfl (fun _ => rfl) (by decide) (by decide) (by decide) (by decide) (by decide) ha rfl rfl ?_
  refine K_put (f := 2) (ci := 9) (q := (RX9, TX9, 6)) (a := a) (i := 0) [.inr (9, [.ref (n0 + (a + 1)), .int 0, .ref (n0 + (a + 2)), .null, .null, .int 0]), .inl (tc 1, 900, .inl (fun _ => 0)), .inl (tc 0, 901, .inl (fun _ => 0))] (tyX9 2) dX9_init_19 rfl rfl (by decide) kw_fl_9_15 (tyX9_ok 2 (by decide)) (Or.inr ⟨rfl, rfl, rfl⟩) rfl rfl (Nat.le_of_ble_eq_true rfl) ha rfl ?_
  refine k_aload dX9_init_22 rfl ?_
  refine k_sipush dX9_init_23 rfl ?_
  refine K_newa (a := a) [.inr (9, [.ref (n0 + (a + 1)), .int 0, .ref (n0 + (a + 2)), .null, .null, .int 0]), .inl (tc 1, 900, .inl (fun _ => 0)), .inl (tc 0, 901, .inl (fun _ => 0)), .inl (tc 0, 901, .inl (fun _ => 0))] (t := 0) (N := 901) (a0 := (901, .inl (fun _ => 0))) dX9_init_26 kw_ar_int rfl (fun _ => rfl) (by decide) (by decide) (by decide) (by decide) (by decide) ha rfl rfl ?_
  refine K_put (f := 3) (ci := 9) (q := (RX9, TX9, 6)) (a := a) (i := 0) [.inr (9, [.ref (n0 + (a + 1)), .int 0, .ref (n0 + (a + 2)), .ref (n0 + (a + 3)), .null, .int 0]), .inl (tc 1, 900, .inl (fun _ => 0)), .inl (tc 0, 901, .inl (fun _ => 0)), .inl (tc 0, 901, .inl (fun _ => 0))] (tyX9 3) dX9_init_28 rfl rfl (by decide) kw_fl_9_19 (tyX9_ok 3 (by decide)) (Or.inr ⟨rfl, rfl, rfl⟩) rfl rfl (Nat.le_of_ble_eq_true rfl) ha rfl ?_
  refine k_aload dX9_init_31 rfl ?_
  refine k_sipush dX9_init_32 rfl ?_
  refine K_newa (a := a) [.inr (9, [.ref (n0 + (a + 1)), .int 0, .ref (n0 + (a + 2)), .ref (n0 + (a + 3)), .null, .int 0]), .inl (tc 1, 900, .inl (fun _ => 0)), .inl (tc 0, 901, .inl (fun _ => 0)), .inl (tc 0, 901, .inl (fun _ => 0)), .inl (tc 0, 901, .inl (fun _ => 0))] (t := 0) (N := 901) (a0 := (901, .inl (fun _ => 0))) dX9_init_35 kw_ar_int rfl (fun _ => rfl) (by decide) (by decide) (by decide) (by decide) (by decide) ha rfl rfl ?_
  refine K_put (f := 4) (ci := 9) (q := (RX9, TX9, 6)) (a := a) (i := 0) [.inr (9, [.ref (n0 + (a + 1)), .int 0, .ref (n0 + (a + 2)), .ref (n0 + (a + 3)), .ref (n0 + (a + 4)), .int 0]), .inl (tc 1, 900, .inl (fun _ => 0)), .inl (tc 0, 901, .inl (fun _ => 0)), .inl (tc 0, 901, .inl (fun _ => 0)), .inl (tc 0, 901, .inl (fun _ => 0))] (tyX9 4) dX9_init_37 rfl rfl (by decide) kw_fl_9_22 (tyX9_ok 4 (by decide)) (Or.inr ⟨rfl, rfl, rfl⟩) rfl rfl (Nat.le_of_ble_eq_true rfl) ha rfl ?_
  exact k_vret dX9_init_40 rfl rfl rfl k
theorem kok_9 : kMok mX9_init 0 := ⟨⟨fwTb_1 (i := 33) rfl rfl, fwTb_1 (i := 2) rfl rfl, ⟨by decide, by decide, by decide +kernel⟩, by decide⟩, rfl, rfl, fwTb_1 (i := 32) rfl rfl⟩
set_option maxRecDepth 100000 in
set_option maxHeartbeats 4000000 in
theorem c_X5_init {d n0 : Nat} {tc : Nat → ClassId} {Q : List va_E → Prop} (P : List va_E) (a b1 : Nat) (ha : P.length = a) (k : Q (P ++ [.inr (5, [.ref (n0 + b1), .ref (n0 + (a + 1)), .int 0, .int 0, .int 0, .int 0, .int 0, .int (Int32.ofInt (-1))]), .inr (2, [.ref (n0 + (a + 2)), .ref (n0 + (a + 4)), .ref (n0 + (a + 8)), .int 0, .int 0, .int 0, .int 0]), .inr (1, [.ref (n0 + (a + 3)), .int 0, .int 0, .int 0, .int 0]), .inl (tc 0, 10, .inl (fun _ => 0)), .inr (3, [.ref (n0 + (a + 5)), .ref (n0 + (a + 6)), .ref (n0 + (a + 7)), .int 0]), .inl (tc 0, 56, .inl (fun _ => 0)), .inl (tc 0, 8, .inl (fun _ => 0)), .inl (tc 0, 8, .inl (fun _ => 0)), .inl (tc 0, 60, .inl (fun _ => 0))])) : kCt n0 tc mX5_init (d + 3) 8 158 [aR 0 (a + 0), aR 0 b1] (P ++ [.inr (5, [.null, .null, .int 0, .int 0, .int 0, .int 0, .int 0, .int 0])]) Q := by
  refine kCt_of [some (aR 0 (a + 0)), some (aR 0 b1)] rfl rfl rfl ?_
  refine k_aload dX5_init_0 rfl ?_
  refine k_obj dX5_init_1 kw_ol_5 kw_oi kw_oc (Nat.le_of_ble_eq_true rfl) ?_
  refine k_aload dX5_init_4 rfl ?_
  refine K_new (ci := 2) (q := (RX2, TX2, 7)) (fs := [.null, .null, .null, .int 0, .int 0, .int 0, .int 0]) (a := a) [.inr (5, [.null, .null, .int 0, .int 0, .int 0, .int 0, .int 0, .int 0]), .inr (2, [.null, .null, .null, .int 0, .int 0, .int 0, .int 0])] tyX2 dX5_init_5 rfl kw_cl_5_9 kw_in_2 kw_ii_2 tyX2_ok (fun j hj => by have hj : j < 7 := hj; rcases (show j = 0 ∨ j = 1 ∨ j = 2 ∨ j = 3 ∨ j = 4 ∨ j = 5 ∨ j = 6 by omega) with rfl | rfl | rfl | rfl | rfl | rfl | rfl <;> rfl) (by decide) (by decide) ha rfl rfl ?_
  refine k_dup dX5_init_8 rfl ?_
  refine K_callN (S := [aR 0 (a + 1), aR 0 (a + 0)]) (a := a) (X0 := [.inr (5, [.null, .null, .int 0, .int 0, .int 0, .int 0, .int 0, .int 0])]) (o := .inr (2, [.null, .null, .null, .int 0, .int 0, .int 0, .int 0])) (mc' := 7) (ms' := 151) [] dX5_init_9 kw_mn_5_11 kok_2 rfl (Nat.le_of_ble_eq_true rfl) (by decide) (by decide) rfl ha rfl ?_
  refine c_X2_init (d := d) (P ++ [.inr (5, [.null, .null, .int 0, .int 0, .int 0, .int 0, .int 0, .int 0])]) (a + 1)  (kln ha rfl) ?_
  rw [List.append_assoc]
  show kWP n0 tc mX5_init (d + 3) 8 158 12 [some (aR 0 (a + 0)), some (aR 0 b1)] [aR 0 (a + 1), aR 0 (a + 0)] (P ++ [.inr (5, [.null, .null, .int 0, .int 0, .int 0, .int 0, .int 0, .int 0]), .inr (2, [.ref (n0 + (a + 2)), .ref (n0 + (a + 4)), .ref (n0 + (a + 8)), .int 0, .int 0, .int 0, .int 0]), .inr (1, [.ref (n0 + (a + 3)), .int 0, .int 0, .int 0, .int 0]), .inl (tc 0, 10, .inl (fun _ => 0)), .inr (3, [.ref (n0 + (a + 5)), .ref (n0 + (a + 6)), .ref (n0 + (a + 7)), .int 0]), .inl (tc 0, 56, .inl (fun _ => 0)), .inl (tc 0, 8, .inl (fun _ => 0)), .inl (tc 0, 8, .inl (fun _ => 0)), .inl (tc 0, 60, .inl (fun _ => 0))]) 8 158 Q
  refine K_put (f := 1) (ci := 5) (q := (RX5, TX5, 8)) (a := a) (i := 0) [.inr (5, [.null, .ref (n0 + (a + 1)), .int 0, .int 0, .int 0, .int 0, .int 0, .int 0]), .inr (2, [.ref (n0 + (a + 2)), .ref (n0 + (a + 4)), .ref (n0 + (a + 8)), .int 0, .int 0, .int 0, .int 0]), .inr (1, [.ref (n0 + (a + 3)), .int 0, .int 0, .int 0, .int 0]), .inl (tc 0, 10, .inl (fun _ => 0)), .inr (3, [.ref (n0 + (a + 5)), .ref (n0 + (a + 6)), .ref (n0 + (a + 7)), .int 0]), .inl (tc 0, 56, .inl (fun _ => 0)), .inl (tc 0, 8, .inl (fun _ => 0)), .inl (tc 0, 8, .inl (fun _ => 0)), .inl (tc 0, 60, .inl (fun _ => 0))] (tyX5 1) dX5_init_12 rfl rfl (by decide) kw_fl_5_12 (tyX5_ok 1 (by decide)) (Or.inr ⟨rfl, rfl, rfl⟩) rfl rfl (Nat.le_of_ble_eq_true rfl) ha rfl ?_
  refine k_aload dX5_init_15 rfl ?_
  refine k_iconst dX5_init_16 ?_
  refine K_put (f := 7) (ci := 5) (q := (RX5, TX5, 8)) (a := a) (i := 0) [.inr (5, [.null, .ref (n0 + (a + 1)), .int 0, .int 0, .int 0, .int 0, .int 0, .int (Int32.ofInt (-1))]), .inr (2, [.ref (n0 + (a + 2)), .ref (n0 + (a + 4)), .ref (n0 + (a + 8)), .int 0, .int 0, .int 0, .int 0]), .inr (1, [.ref (n0 + (a + 3)), .int 0, .int 0, .int 0, .int 0]), .inl (tc 0, 10, .inl (fun _ => 0)), .inr (3, [.ref (n0 + (a + 5)), .ref (n0 + (a + 6)), .ref (n0 + (a + 7)), .int 0]), .inl (tc 0, 56, .inl (fun _ => 0)), .inl (tc 0, 8, .inl (fun _ => 0)), .inl (tc 0, 8, .inl (fun _ => 0)), .inl (tc 0, 60, .inl (fun _ => 0))] (tyX5 7) dX5_init_17 rfl rfl (by decide) kw_fl_5_18 (tyX5_ok 7 (by decide)) (Or.inl rfl) rfl rfl (Nat.le_of_ble_eq_true rfl) ha rfl ?_
  refine k_aload dX5_init_20 rfl ?_
  refine k_aload dX5_init_21 rfl ?_
  refine K_put (f := 0) (ci := 5) (q := (RX5, TX5, 8)) (a := a) (i := 0) [.inr (5, [.ref (n0 + b1), .ref (n0 + (a + 1)), .int 0, .int 0, .int 0, .int 0, .int 0, .int (Int32.ofInt (-1))]), .inr (2, [.ref (n0 + (a + 2)), .ref (n0 + (a + 4)), .ref (n0 + (a + 8)), .int 0, .int 0, .int 0, .int 0]), .inr (1, [.ref (n0 + (a + 3)), .int 0, .int 0, .int 0, .int 0]), .inl (tc 0, 10, .inl (fun _ => 0)), .inr (3, [.ref (n0 + (a + 5)), .ref (n0 + (a + 6)), .ref (n0 + (a + 7)), .int 0]), .inl (tc 0, 56, .inl (fun _ => 0)), .inl (tc 0, 8, .inl (fun _ => 0)), .inl (tc 0, 8, .inl (fun _ => 0)), .inl (tc 0, 60, .inl (fun _ => 0))] (tyX5 0) dX5_init_22 rfl rfl (by decide) kw_fl_5_22 (tyX5_ok 0 (by decide)) (Or.inr ⟨rfl, rfl, rfl⟩) rfl rfl (Nat.le_of_ble_eq_true rfl) ha rfl ?_
  exact k_vret dX5_init_25 rfl rfl rfl k
theorem kok_5 : kMok mX5_init 1 := ⟨⟨fwTb_1 (i := 65) rfl rfl, fwTb_1 (i := 3) rfl rfl, ⟨by decide, by decide, by decide +kernel⟩, by decide⟩, rfl, rfl, fwTb_1 (i := 64) rfl rfl⟩
set_option maxRecDepth 100000 in
set_option maxHeartbeats 4000000 in
theorem c_X8_init {d n0 : Nat} {tc : Nat → ClassId} {Q : List va_E → Prop} (P : List va_E) (a : Nat) (ha : P.length = a) (k : Q (P ++ [.inr (8, [.ref (n0 + (a + 1)), .ref (n0 + (a + 6)), .ref (n0 + (a + 7))]), .inl (tc 5, 4, .inr (.inr (.inr (.inr (fun j => if j < 4 then some (n0 + ((a + 1) + 1 + j)) else none))))), .inl (tc 3, 60, .inr (.inl (fun _ => 0))), .inl (tc 3, 60, .inr (.inl (fun _ => 0))), .inl (tc 3, 60, .inr (.inl (fun _ => 0))), .inl (tc 3, 60, .inr (.inl (fun _ => 0))), .inl (tc 0, 4, .inl (fun _ => 0)), .inl (tc 0, 4, .inl (upd (upd (upd (upd (fun _ => 0) 0 (Int32.ofInt (-1))) 1 (Int32.ofInt (-1))) 2 (Int32.ofInt (-1))) 3 (Int32.ofInt (-1))))])) : kCt n0 tc mX8_init (d + 1) 7 252 [aR 0 (a + 0)] (P ++ [.inr (8, [.null, .null, .null])]) Q := by
  refine kCt_of [some (aR 0 (a + 0))] rfl rfl rfl ?_
  refine k_aload dX8_init_0 rfl ?_
  refine k_obj dX8_init_1 kw_ol_8 kw_oi kw_oc (Nat.le_of_ble_eq_true rfl) ?_
  refine k_aload dX8_init_4 rfl ?_
  refine k_iconst dX8_init_5 ?_
  refine k_bipush dX8_init_6 rfl ?_
  refine K_multi (a := a) [.inr (8, [.null, .null, .null]), .inl (tc 5, 4, .inr (.inr (.inr (.inr (fun j => if j < 4 then some (n0 + ((a + 1) + 1 + j)) else none))))), .inl (tc 3, 60, .inr (.inl (fun _ => 0))), .inl (tc 3, 60, .inr (.inl (fun _ => 0))), .inl (tc 3, 60, .inr (.inl (fun _ => 0))), .inl (tc 3, 60, .inr (.inl (fun _ => 0)))] dX8_init_8 kw_mu (by decide) (by decide) ha rfl rfl ?_
  refine K_put (f := 0) (ci := 8) (q := (RX8, TX8, 3)) (a := a) (i := 0) [.inr (8, [.ref (n0 + (a + 1)), .null, .null]), .inl (tc 5, 4, .inr (.inr (.inr (.inr (fun j => if j < 4 then some (n0 + ((a + 1) + 1 + j)) else none))))), .inl (tc 3, 60, .inr (.inl (fun _ => 0))), .inl (tc 3, 60, .inr (.inl (fun _ => 0))), .inl (tc 3, 60, .inr (.inl (fun _ => 0))), .inl (tc 3, 60, .inr (.inl (fun _ => 0)))] (tyX8 0) dX8_init_12 rfl rfl (by decide) kw_fl_8_11 (tyX8_ok 0 (by decide)) (Or.inr ⟨rfl, rfl, rfl⟩) rfl rfl (Nat.le_of_ble_eq_true rfl) ha rfl ?_
  refine k_aload dX8_init_15 rfl ?_
  refine k_iconst dX8_init_16 ?_
  refine K_newa (a := a) [.inr (8, [.ref (n0 + (a + 1)), .null, .null]), .inl (tc 5, 4, .inr (.inr (.inr (.inr (fun j => if j < 4 then some (n0 + ((a + 1) + 1 + j)) else none))))), .inl (tc 3, 60, .inr (.inl (fun _ => 0))), .inl (tc 3, 60, .inr (.inl (fun _ => 0))), .inl (tc 3, 60, .inr (.inl (fun _ => 0))), .inl (tc 3, 60, .inr (.inl (fun _ => 0))), .inl (tc 0, 4, .inl (fun _ => 0))] (t := 0) (N := 4) (a0 := (4, .inl (fun _ => 0))) dX8_init_17 kw_ar_int rfl (fun _ => rfl) (by decide) (by decide) (by decide) (by decide) (by decide) ha rfl rfl ?_
  refine K_put (f := 1) (ci := 8) (q := (RX8, TX8, 3)) (a := a) (i := 0) [.inr (8, [.ref (n0 + (a + 1)), .ref (n0 + (a + 6)), .null]), .inl (tc 5, 4, .inr (.inr (.inr (.inr (fun j => if j < 4 then some (n0 + ((a + 1) + 1 + j)) else none))))), .inl (tc 3, 60, .inr (.inl (fun _ => 0))), .inl (tc 3, 60, .inr (.inl (fun _ => 0))), .inl (tc 3, 60, .inr (.inl (fun _ => 0))), .inl (tc 3, 60, .inr (.inl (fun _ => 0))), .inl (tc 0, 4, .inl (fun _ => 0))] (tyX8 1) dX8_init_19 rfl rfl (by decide) kw_fl_8_16 (tyX8_ok 1 (by decide)) (Or.inr ⟨rfl, rfl, rfl⟩) rfl rfl (Nat.le_of_ble_eq_true rfl) ha rfl ?_
  refine k_aload dX8_init_22 rfl ?_
  refine k_iconst dX8_init_23 ?_
  refine K_newa (a := a) [.inr (8, [.ref (n0 + (a + 1)), .ref (n0 + (a + 6)), .null]), .inl (tc 5, 4, .inr (.inr (.inr (.inr (fun j => if j < 4 then some (n0 + ((a + 1) + 1 + j)) else none))))), .inl (tc 3, 60, .inr (.inl (fun _ => 0))), .inl (tc 3, 60, .inr (.inl (fun _ => 0))), .inl (tc 3, 60, .inr (.inl (fun _ => 0))), .inl (tc 3, 60, .inr (.inl (fun _ => 0))), .inl (tc 0, 4, .inl (fun _ => 0)), .inl (tc 0, 4, .inl (fun _ => 0))] (t := 0) (N := 4) (a0 := (4, .inl (fun _ => 0))) dX8_init_24 kw_ar_int rfl (fun _ => rfl) (by decide) (by decide) (by decide) (by decide) (by decide) ha rfl rfl ?_
  refine k_dup dX8_init_26 rfl ?_
  refine k_iconst dX8_init_27 ?_
  refine k_iconst dX8_init_28 ?_
  refine K_iast (a := a) (i := 7) [.inr (8, [.ref (n0 + (a + 1)), .ref (n0 + (a + 6)), .null]), .inl (tc 5, 4, .inr (.inr (.inr (.inr (fun j => if j < 4 then some (n0 + ((a + 1) + 1 + j)) else none))))), .inl (tc 3, 60, .inr (.inl (fun _ => 0))), .inl (tc 3, 60, .inr (.inl (fun _ => 0))), .inl (tc 3, 60, .inr (.inl (fun _ => 0))), .inl (tc 3, 60, .inr (.inl (fun _ => 0))), .inl (tc 0, 4, .inl (fun _ => 0)), .inl (tc 0, 4, .inl (upd (fun _ => 0) 0 (Int32.ofInt (-1))))] dX8_init_29 rfl (by decide) (by decide) (by decide) ha rfl ?_
  refine k_dup dX8_init_30 rfl ?_
  refine k_iconst dX8_init_31 ?_
  refine k_iconst dX8_init_32 ?_
  refine K_iast (a := a) (i := 7) [.inr (8, [.ref (n0 + (a + 1)), .ref (n0 + (a + 6)), .null]), .inl (tc 5, 4, .inr (.inr (.inr (.inr (fun j => if j < 4 then some (n0 + ((a + 1) + 1 + j)) else none))))), .inl (tc 3, 60, .inr (.inl (fun _ => 0))), .inl (tc 3, 60, .inr (.inl (fun _ => 0))), .inl (tc 3, 60, .inr (.inl (fun _ => 0))), .inl (tc 3, 60, .inr (.inl (fun _ => 0))), .inl (tc 0, 4, .inl (fun _ => 0)), .inl (tc 0, 4, .inl (upd (upd (fun _ => 0) 0 (Int32.ofInt (-1))) 1 (Int32.ofInt (-1))))] dX8_init_33 rfl (by decide) (by decide) (by decide) ha rfl ?_
  refine k_dup dX8_init_34 rfl ?_
  refine k_iconst dX8_init_35 ?_
  refine k_iconst dX8_init_36 ?_
  refine K_iast (a := a) (i := 7) [.inr (8, [.ref (n0 + (a + 1)), .ref (n0 + (a + 6)), .null]), .inl (tc 5, 4, .inr (.inr (.inr (.inr (fun j => if j < 4 then some (n0 + ((a + 1) + 1 + j)) else none))))), .inl (tc 3, 60, .inr (.inl (fun _ => 0))), .inl (tc 3, 60, .inr (.inl (fun _ => 0))), .inl (tc 3, 60, .inr (.inl (fun _ => 0))), .inl (tc 3, 60, .inr (.inl (fun _ => 0))), .inl (tc 0, 4, .inl (fun _ => 0)), .inl (tc 0, 4, .inl (upd (upd (upd (fun _ => 0) 0 (Int32.ofInt (-1))) 1 (Int32.ofInt (-1))) 2 (Int32.ofInt (-1))))] dX8_init_37 rfl (by decide) (by decide) (by decide) ha rfl ?_
  refine k_dup dX8_init_38 rfl ?_
  refine k_iconst dX8_init_39 ?_
  refine k_iconst dX8_init_40 ?_
  refine K_iast (a := a) (i := 7) [.inr (8, [.ref (n0 + (a + 1)), .ref (n0 + (a + 6)), .null]), .inl (tc 5, 4, .inr (.inr (.inr (.inr (fun j => if j < 4 then some (n0 + ((a + 1) + 1 + j)) else none))))), .inl (tc 3, 60, .inr (.inl (fun _ => 0))), .inl (tc 3, 60, .inr (.inl (fun _ => 0))), .inl (tc 3, 60, .inr (.inl (fun _ => 0))), .inl (tc 3, 60, .inr (.inl (fun _ => 0))), .inl (tc 0, 4, .inl (fun _ => 0)), .inl (tc 0, 4, .inl (upd (upd (upd (upd (fun _ => 0) 0 (Int32.ofInt (-1))) 1 (Int32.ofInt (-1))) 2 (Int32.ofInt (-1))) 3 (Int32.ofInt (-1))))] dX8_init_41 rfl (by decide) (by decide) (by decide) ha rfl ?_
  refine K_put (f := 2) (ci := 8) (q := (RX8, TX8, 3)) (a := a) (i := 0) [.inr (8, [.ref (n0 + (a + 1)), .ref (n0 + (a + 6)), .ref (n0 + (a + 7))]), .inl (tc 5, 4, .inr (.inr (.inr (.inr (fun j => if j < 4 then some (n0 + ((a + 1) + 1 + j)) else none))))), .inl (tc 3, 60, .inr (.inl (fun _ => 0))), .inl (tc 3, 60, .inr (.inl (fun _ => 0))), .inl (tc 3, 60, .inr (.inl (fun _ => 0))), .inl (tc 3, 60, .inr (.inl (fun _ => 0))), .inl (tc 0, 4, .inl (fun _ => 0)), .inl (tc 0, 4, .inl (upd (upd (upd (upd (fun _ => 0) 0 (Int32.ofInt (-1))) 1 (Int32.ofInt (-1))) 2 (Int32.ofInt (-1))) 3 (Int32.ofInt (-1))))] (tyX8 2) dX8_init_42 rfl rfl (by decide) kw_fl_8_20 (tyX8_ok 2 (by decide)) (Or.inr ⟨rfl, rfl, rfl⟩) rfl rfl (Nat.le_of_ble_eq_true rfl) ha rfl ?_
  exact k_vret dX8_init_45 rfl rfl rfl k
theorem kok_8 : kMok mX8_init 0 := ⟨⟨fwTb_1 (i := 209) rfl rfl, fwTb_1 (i := 7) rfl rfl, ⟨by decide, by decide, by decide +kernel⟩, by decide⟩, rfl, rfl, fwTb_1 (i := 208) rfl rfl⟩
set_option maxRecDepth 100000 in
set_option maxHeartbeats 4000000 in
theorem c_X4_init {d n0 : Nat} {tc : Nat → ClassId} {Q : List va_E → Prop} (P : List va_E) (a b1 : Nat) (ha : P.length = a) (k : Q (P ++ [.inr (4, [.ref (n0 + b1), .ref (n0 + (a + 1)), .int 0, .int 0, .int 0]), .inl (tc 1, 6561, .inl (fun _ => 0))])) : kCt n0 tc mX4_init (d + 1) 1 6561 [aR 0 (a + 0), aR 0 b1] (P ++ [.inr (4, [.null, .null, .int 0, .int 0, .int 0])]) Q := by
  refine kCt_of [some (aR 0 (a + 0)), some (aR 0 b1)] rfl rfl rfl ?_
  refine k_aload dX4_init_0 rfl ?_
  refine k_obj dX4_init_1 kw_ol_4 kw_oi kw_oc (Nat.le_of_ble_eq_true rfl) ?_
  refine k_aload dX4_init_4 rfl ?_
  refine k_sipush dX4_init_5 rfl ?_
  refine K_newa (a := a) [.inr (4, [.null, .null, .int 0, .int 0, .int 0]), .inl (tc 1, 6561, .inl (fun _ => 0))] (t := 1) (N := 6561) (a0 := (6561, .inl (fun _ => 0))) dX4_init_8 kw_ar_byte rfl (fun _ => rfl) (by decide) (by decide) (by decide) (by decide) (by decide) ha rfl rfl ?_
  refine K_put (f := 1) (ci := 4) (q := (RX4, TX4, 5)) (a := a) (i := 0) [.inr (4, [.null, .ref (n0 + (a + 1)), .int 0, .int 0, .int 0]), .inl (tc 1, 6561, .inl (fun _ => 0))] (tyX4 1) dX4_init_10 rfl rfl (by decide) kw_fl_4_9 (tyX4_ok 1 (by decide)) (Or.inr ⟨rfl, rfl, rfl⟩) rfl rfl (Nat.le_of_ble_eq_true rfl) ha rfl ?_
  refine k_aload dX4_init_13 rfl ?_
  refine k_aload dX4_init_14 rfl ?_
  refine K_put (f := 0) (ci := 4) (q := (RX4, TX4, 5)) (a := a) (i := 0) [.inr (4, [.ref (n0 + b1), .ref (n0 + (a + 1)), .int 0, .int 0, .int 0]), .inl (tc 1, 6561, .inl (fun _ => 0))] (tyX4 0) dX4_init_15 rfl rfl (by decide) kw_fl_4_15 (tyX4_ok 0 (by decide)) (Or.inr ⟨rfl, rfl, rfl⟩) rfl rfl (Nat.le_of_ble_eq_true rfl) ha rfl ?_
  exact k_vret dX4_init_18 rfl rfl rfl k
theorem kok_4 : kMok mX4_init 1 := ⟨⟨fwTb_1 (i := 231) rfl rfl, fwTb_1 (i := 8) rfl rfl, ⟨by decide, by decide, by decide +kernel⟩, by decide⟩, rfl, rfl, fwTb_1 (i := 230) rfl rfl⟩
set_option maxRecDepth 100000 in
set_option maxHeartbeats 4000000 in
theorem c_X10_init {d n0 : Nat} {tc : Nat → ClassId} {Q : List va_E → Prop} (P : List va_E) (a b1 : Nat) (ha : P.length = a) (k : Q (P ++ [.inr (10, [.ref (n0 + b1), .ref (n0 + (a + 1)), .int 0, .int 0]), .inl (tc 0, 11, .inl (fun _ => 0))])) : kCt n0 tc mX10_init (d + 1) 1 11 [aR 0 (a + 0), aR 0 b1] (P ++ [.inr (10, [.null, .null, .int 0, .int 0])]) Q := by
  refine kCt_of [some (aR 0 (a + 0)), some (aR 0 b1)] rfl rfl rfl ?_
  refine k_aload dX10_init_0 rfl ?_
  refine k_obj dX10_init_1 kw_ol_10 kw_oi kw_oc (Nat.le_of_ble_eq_true rfl) ?_
  refine k_aload dX10_init_4 rfl ?_
  refine k_bipush dX10_init_5 rfl ?_
  refine K_newa (a := a) [.inr (10, [.null, .null, .int 0, .int 0]), .inl (tc 0, 11, .inl (fun _ => 0))] (t := 0) (N := 11) (a0 := (11, .inl (fun _ => 0))) dX10_init_7 kw_ar_int rfl (fun _ => rfl) (by decide) (by decide) (by decide) (by decide) (by decide) ha rfl rfl ?_
  refine K_put (f := 1) (ci := 10) (q := (RX10, TX10, 4)) (a := a) (i := 0) [.inr (10, [.null, .ref (n0 + (a + 1)), .int 0, .int 0]), .inl (tc 0, 11, .inl (fun _ => 0))] (tyX10 1) dX10_init_9 rfl rfl (by decide) kw_fl_10_9 (tyX10_ok 1 (by decide)) (Or.inr ⟨rfl, rfl, rfl⟩) rfl rfl (Nat.le_of_ble_eq_true rfl) ha rfl ?_
  refine k_aload dX10_init_12 rfl ?_
  refine k_aload dX10_init_13 rfl ?_
  refine K_put (f := 0) (ci := 10) (q := (RX10, TX10, 4)) (a := a) (i := 0) [.inr (10, [.ref (n0 + b1), .ref (n0 + (a + 1)), .int 0, .int 0]), .inl (tc 0, 11, .inl (fun _ => 0))] (tyX10 0) dX10_init_14 rfl rfl (by decide) kw_fl_10_15 (tyX10_ok 0 (by decide)) (Or.inr ⟨rfl, rfl, rfl⟩) rfl rfl (Nat.le_of_ble_eq_true rfl) ha rfl ?_
  exact k_vret dX10_init_17 rfl rfl rfl k
theorem kok_10 : kMok mX10_init 1 := ⟨⟨fwTb_2 (i := 13) rfl rfl, fwTb_1 (i := 9) rfl rfl, ⟨by decide, by decide, by decide +kernel⟩, by decide⟩, rfl, rfl, fwTb_2 (i := 12) rfl rfl⟩
set_option maxRecDepth 100000 in
set_option maxHeartbeats 4000000 in
theorem c_X7_init {d n0 : Nat} {tc : Nat → ClassId} {Q : List va_E → Prop} (P : List va_E) (a b1 b2 : Nat) (ha : P.length = a) (k : Q (P ++ [.inr (7, [.ref (n0 + b1), .ref (n0 + b2), .ref (n0 + (a + 1)), .ref (n0 + (a + 2)), .ref (n0 + (a + 3)), .int 0, .int 0]), .inl (tc 0, 80, .inl (fun _ => 0)), .inl (tc 0, 3, .inl (fun _ => 0)), .inl (tc 0, 3, .inl (fun _ => 0))])) : kCt n0 tc mX7_init (d + 1) 3 86 [aR 0 (a + 0), aR 0 b1, aR 0 b2] (P ++ [.inr (7, [.null, .null, .null, .null, .null, .int 0, .int 0])]) Q := by
  refine kCt_of [some (aR 0 (a + 0)), some (aR 0 b1), some (aR 0 b2)] rfl rfl rfl ?_
  refine k_aload dX7_init_0 rfl ?_
  refine k_obj dX7_init_1 kw_ol_7 kw_oi kw_oc (Nat.le_of_ble_eq_true rfl) ?_
  refine k_aload dX7_init_4 rfl ?_
  refine k_bipush dX7_init_5 rfl ?_
  refine K_newa (a := a) [.inr (7, [.null, .null, .null, .null, .null, .int 0, .int 0]), .inl (tc 0, 80, .inl (fun _ => 0))] (t := 0) (N := 80) (a0 := (80, .inl (fun _ => 0))) dX7_init_7 kw_ar_int rfl (fun _ => rfl) (by decide) (by decide) (by decide) (by decide) (by decide) ha rfl rfl ?_
  refine K_put (f := 2) (ci := 7) (q := (RX7, TX7, 7)) (a := a) (i := 0) [.inr (7, [.null, .null, .ref (n0 + (a + 1)), .null, .null, .int 0, .int 0]), .inl (tc 0, 80, .inl (fun _ => 0))] (tyX7 2) dX7_init_9 rfl rfl (by decide) kw_fl_7_9 (tyX7_ok 2 (by decide)) (Or.inr ⟨rfl, rfl, rfl⟩) rfl rfl (Nat.le_of_ble_eq_true rfl) ha rfl ?_
  refine k_aload dX7_init_12 rfl ?_
  refine k_iconst dX7_init_13 ?_
  refine K_newa (a := a) [.inr (7, [.null, .null, .ref (n0 + (a + 1)), .null, .null, .int 0, .int 0]), .inl (tc 0, 80, .inl (fun _ => 0)), .inl (tc 0, 3, .inl (fun _ => 0))] (t := 0) (N := 3) (a0 := (3, .inl (fun _ => 0))) dX7_init_14 kw_ar_int rfl (fun _ => rfl) (by decide) (by decide) (by decide) (by decide) (by decide) ha rfl rfl ?_
  refine K_put (f := 3) (ci := 7) (q := (RX7, TX7, 7)) (a := a) (i := 0) [.inr (7, [.null, .null, .ref (n0 + (a + 1)), .ref (n0 + (a + 2)), .null, .int 0, .int 0]), .inl (tc 0, 80, .inl (fun _ => 0)), .inl (tc 0, 3, .inl (fun _ => 0))] (tyX7 3) dX7_init_16 rfl rfl (by decide) kw_fl_7_15 (tyX7_ok 3 (by decide)) (Or.inr ⟨rfl, rfl, rfl⟩) rfl rfl (Nat.le_of_ble_eq_true rfl) ha rfl ?_
  refine k_aload dX7_init_19 rfl ?_
  refine k_iconst dX7_init_20 ?_
  refine K_newa (a := a) [.inr (7, [.null, .null, .ref (n0 + (a + 1)), .ref (n0 + (a + 2)), .null, .int 0, .int 0]), .inl (tc 0, 80, .inl (fun _ => 0)), .inl (tc 0, 3, .inl (fun _ => 0)), .inl (tc 0, 3, .inl (fun _ => 0))] (t := 0) (N := 3) (a0 := (3, .inl (fun _ => 0))) dX7_init_21 kw_ar_int rfl (fun _ => rfl) (by decide) (by decide) (by decide) (by decide) (by decide) ha rfl rfl ?_
  refine K_put (f := 4) (ci := 7) (q := (RX7, TX7, 7)) (a := a) (i := 0) [.inr (7, [.null, .null, .ref (n0 + (a + 1)), .ref (n0 + (a + 2)), .ref (n0 + (a + 3)), .int 0, .int 0]), .inl (tc 0, 80, .inl (fun _ => 0)), .inl (tc 0, 3, .inl (fun _ => 0)), .inl (tc 0, 3, .inl (fun _ => 0))] (tyX7 4) dX7_init_23 rfl rfl (by decide) kw_fl_7_18 (tyX7_ok 4 (by decide)) (Or.inr ⟨rfl, rfl, rfl⟩) rfl rfl (Nat.le_of_ble_eq_true rfl) ha rfl ?_
  refine k_aload dX7_init_26 rfl ?_
  refine k_aload dX7_init_27 rfl ?_
  refine K_put (f := 0) (ci := 7) (q := (RX7, TX7, 7)) (a := a) (i := 0) [.inr (7, [.ref (n0 + b1), .null, .ref (n0 + (a + 1)), .ref (n0 + (a + 2)), .ref (n0 + (a + 3)), .int 0, .int 0]), .inl (tc 0, 80, .inl (fun _ => 0)), .inl (tc 0, 3, .inl (fun _ => 0)), .inl (tc 0, 3, .inl (fun _ => 0))] (tyX7 0) dX7_init_28 rfl rfl (by decide) kw_fl_7_21 (tyX7_ok 0 (by decide)) (Or.inr ⟨rfl, rfl, rfl⟩) rfl rfl (Nat.le_of_ble_eq_true rfl) ha rfl ?_
  refine k_aload dX7_init_31 rfl ?_
  refine k_aload dX7_init_32 rfl ?_
  refine K_put (f := 1) (ci := 7) (q := (RX7, TX7, 7)) (a := a) (i := 0) [.inr (7, [.ref (n0 + b1), .ref (n0 + b2), .ref (n0 + (a + 1)), .ref (n0 + (a + 2)), .ref (n0 + (a + 3)), .int 0, .int 0]), .inl (tc 0, 80, .inl (fun _ => 0)), .inl (tc 0, 3, .inl (fun _ => 0)), .inl (tc 0, 3, .inl (fun _ => 0))] (tyX7 1) dX7_init_33 rfl rfl (by decide) kw_fl_7_25 (tyX7_ok 1 (by decide)) (Or.inr ⟨rfl, rfl, rfl⟩) rfl rfl (Nat.le_of_ble_eq_true rfl) ha rfl ?_
  exact k_vret dX7_init_36 rfl rfl rfl k
theorem kok_7 : kMok mX7_init 2 := ⟨⟨fwTb_2 (i := 34) rfl rfl, fwTb_1 (i := 10) rfl rfl, ⟨by decide, by decide, by decide +kernel⟩, by decide⟩, rfl, rfl, fwTb_2 (i := 33) rfl rfl⟩
set_option maxRecDepth 100000 in
set_option maxHeartbeats 4000000 in
theorem c_X0_init {d n0 : Nat} {tc : Nat → ClassId} {Q : List va_E → Prop} (P : List va_E) (a b1 b2 : Nat) (ha : P.length = a) (k : Q (P ++ [.inr (0, [.ref (n0 + b1), .ref (n0 + b2)])])) : kCt n0 tc mX0_init (d + 1) 0 0 [aR 0 (a + 0), aR 0 b1, aR 0 b2] (P ++ [.inr (0, [.null, .null])]) Q := by
  refine kCt_of [some (aR 0 (a + 0)), some (aR 0 b1), some (aR 0 b2)] rfl rfl rfl ?_
  refine k_aload dX0_init_0 rfl ?_
  refine k_obj dX0_init_1 kw_ol_0 kw_oi kw_oc (Nat.le_of_ble_eq_true rfl) ?_
  refine k_aload dX0_init_4 rfl ?_
  refine k_aload dX0_init_5 rfl ?_
  refine K_put (f := 0) (ci := 0) (q := (RX0, TX0, 2)) (a := a) (i := 0) [.inr (0, [.ref (n0 + b1), .null])] (tyX0 0) dX0_init_6 rfl rfl (by decide) kw_fl_0_9 (tyX0_ok 0 (by decide)) (Or.inr ⟨rfl, rfl, rfl⟩) rfl rfl (Nat.le_of_ble_eq_true rfl) ha rfl ?_
  refine k_aload dX0_init_9 rfl ?_
  refine k_aload dX0_init_10 rfl ?_
  refine K_put (f := 1) (ci := 0) (q := (RX0, TX0, 2)) (a := a) (i := 0) [.inr (0, [.ref (n0 + b1), .ref (n0 + b2)])] (tyX0 1) dX0_init_11 rfl rfl (by decide) kw_fl_0_15 (tyX0_ok 1 (by decide)) (Or.inr ⟨rfl, rfl, rfl⟩) rfl rfl (Nat.le_of_ble_eq_true rfl) ha rfl ?_
  exact k_vret dX0_init_14 rfl rfl rfl k
theorem kok_0 : kMok mX0_init 2 := ⟨⟨fwTb_2 (i := 62) rfl rfl, fwTb_1 (i := 11) rfl rfl, ⟨by decide, by decide, by decide +kernel⟩, by decide⟩, rfl, rfl, fwTb_2 (i := 61) rfl rfl⟩
set_option maxRecDepth 100000 in
set_option maxHeartbeats 4000000 in
theorem c_X6_init {d n0 : Nat} {tc : Nat → ClassId} {Q : List va_E → Prop} (P : List va_E) (a b1 b2 b3 : Nat) (ha : P.length = a) (k : Q (P ++ [.inr (6, [.ref (n0 + b1), .ref (n0 + b2), .ref (n0 + b3), .ref (n0 + (a + 1)), .ref (n0 + (a + 2)), .ref (n0 + (a + 3)), .int 0, .int 0, .int 0]), .inl (tc 0, 21, .inl (fun _ => 0)), .inl (tc 0, 21, .inl (fun _ => 0)), .inl (tc 0, 19, .inl (fun _ => 0))])) : kCt n0 tc mX6_init (d + 1) 3 61 [aR 0 (a + 0), aR 0 b1, aR 0 b2, aR 0 b3] (P ++ [.inr (6, [.null, .null, .null, .null, .null, .null, .int 0, .int 0, .int 0])]) Q := by
  refine kCt_of [some (aR 0 (a + 0)), some (aR 0 b1), some (aR 0 b2), some (aR 0 b3)] rfl rfl rfl ?_
  refine k_aload dX6_init_0 rfl ?_
  refine k_obj dX6_init_1 kw_ol_6 kw_oi kw_oc (Nat.le_of_ble_eq_true rfl) ?_
  refine k_aload dX6_init_4 rfl ?_
  refine k_bipush dX6_init_5 rfl ?_
  refine K_newa (a := a) [.inr (6, [.null, .null, .null, .null, .null, .null, .int 0, .int 0, .int 0]), .inl (tc 0, 21, .inl (fun _ => 0))] (t := 0) (N := 21) (a0 := (21, .inl (fun _ => 0))) dX6_init_7 kw_ar_int rfl (fun _ => rfl) (by decide) (by decide) (by decide) (by decide) (by decide) ha rfl rfl ?_
  refine K_put (f := 3) (ci := 6) (q := (RX6, TX6, 9)) (a := a) (i := 0) [.inr (6, [.null, .null, .null, .ref (n0 + (a + 1)), .null, .null, .int 0, .int 0, .int 0]), .inl (tc 0, 21, .inl (fun _ => 0))] (tyX6 3) dX6_init_9 rfl rfl (by decide) kw_fl_6_9 (tyX6_ok 3 (by decide)) (Or.inr ⟨rfl, rfl, rfl⟩) rfl rfl (Nat.le_of_ble_eq_true rfl) ha rfl ?_
  refine k_aload dX6_init_12 rfl ?_
  refine k_bipush dX6_init_13 rfl ?_
  refine K_newa (a := a) [.inr (6, [.null, .null, .null, .ref (n0 + (a + 1)), .null, .null, .int 0, .int 0, .int 0]), .inl (tc 0, 21, .inl (fun _ => 0)), .inl (tc 0, 21, .inl (fun _ => 0))] (t := 0) (N := 21) (a0 := (21, .inl (fun _ => 0))) dX6_init_15 kw_ar_int rfl (fun _ => rfl) (by decide) (by decide) (by decide) (by decide) (by decide) ha rfl rfl ?_
  refine K_put (f := 4) (ci := 6) (q := (RX6, TX6, 9)) (a := a) (i := 0) [.inr (6, [.null, .null, .null, .ref (n0 + (a + 1)), .ref (n0 + (a + 2)), .null, .int 0, .int 0, .int 0]), .inl (tc 0, 21, .inl (fun _ => 0)), .inl (tc 0, 21, .inl (fun _ => 0))] (tyX6 4) dX6_init_17 rfl rfl (by decide) kw_fl_6_15 (tyX6_ok 4 (by decide)) (Or.inr ⟨rfl, rfl, rfl⟩) rfl rfl (Nat.le_of_ble_eq_true rfl) ha rfl ?_
  refine k_aload dX6_init_20 rfl ?_
  refine k_bipush dX6_init_21 rfl ?_
  refine K_newa (a := a) [.inr (6, [.null, .null, .null, .ref (n0 + (a + 1)), .ref (n0 + (a + 2)), .null, .int 0, .int 0, .int 0]), .inl (tc 0, 21, .inl (fun _ => 0)), .inl (tc 0, 21, .inl (fun _ => 0)), .inl (tc 0, 19, .inl (fun _ => 0))] (t := 0) (N := 19) (a0 := (19, .inl (fun _ => 0))) dX6_init_23 kw_ar_int rfl (fun _ => rfl) (by decide) (by decide) (by decide) (by decide) (by decide) ha rfl rfl ?_
  refine K_put (f := 5) (ci := 6) (q := (RX6, TX6, 9)) (a := a) (i := 0) [.inr (6, [.null, .null, .null, .ref (n0 + (a + 1)), .ref (n0 + (a + 2)), .ref (n0 + (a + 3)), .int 0, .int 0, .int 0]), .inl (tc 0, 21, .inl (fun _ => 0)), .inl (tc 0, 21, .inl (fun _ => 0)), .inl (tc 0, 19, .inl (fun _ => 0))] (tyX6 5) dX6_init_25 rfl rfl (by decide) kw_fl_6_18 (tyX6_ok 5 (by decide)) (Or.inr ⟨rfl, rfl, rfl⟩) rfl rfl (Nat.le_of_ble_eq_true rfl) ha rfl ?_
  refine k_aload dX6_init_28 rfl ?_
  refine k_aload dX6_init_29 rfl ?_
  refine K_put (f := 0) (ci := 6) (q := (RX6, TX6, 9)) (a := a) (i := 0) [.inr (6, [.ref (n0 + b1), .null, .null, .ref (n0 + (a + 1)), .ref (n0 + (a + 2)), .ref (n0 + (a + 3)), .int 0, .int 0, .int 0]), .inl (tc 0, 21, .inl (fun _ => 0)), .inl (tc 0, 21, .inl (fun _ => 0)), .inl (tc 0, 19, .inl (fun _ => 0))] (tyX6 0) dX6_init_30 rfl rfl (by decide) kw_fl_6_21 (tyX6_ok 0 (by decide)) (Or.inr ⟨rfl, rfl, rfl⟩) rfl rfl (Nat.le_of_ble_eq_true rfl) ha rfl ?_
  refine k_aload dX6_init_33 rfl ?_
  refine k_aload dX6_init_34 rfl ?_
  refine K_put (f := 1) (ci := 6) (q := (RX6, TX6, 9)) (a := a) (i := 0) [.inr (6, [.ref (n0 + b1), .ref (n0 + b2), .null, .ref (n0 + (a + 1)), .ref (n0 + (a + 2)), .ref (n0 + (a + 3)), .int 0, .int 0, .int 0]), .inl (tc 0, 21, .inl (fun _ => 0)), .inl (tc 0, 21, .inl (fun _ => 0)), .inl (tc 0, 19, .inl (fun _ => 0))] (tyX6 1) dX6_init_35 rfl rfl (by decide) kw_fl_6_25 (tyX6_ok 1 (by decide)) (Or.inr ⟨rfl, rfl, rfl⟩) rfl rfl (Nat.le_of_ble_eq_true rfl) ha rfl ?_
  refine k_aload dX6_init_38 rfl ?_
  refine k_aload dX6_init_39 rfl ?_
  refine K_put (f := 2) (ci := 6) (q := (RX6, TX6, 9)) (a := a) (i := 0) [.inr (6, [.ref (n0 + b1), .ref (n0 + b2), .ref (n0 + b3), .ref (n0 + (a + 1)), .ref (n0 + (a + 2)), .ref (n0 + (a + 3)), .int 0, .int 0, .int 0]), .inl (tc 0, 21, .inl (fun _ => 0)), .inl (tc 0, 21, .inl (fun _ => 0)), .inl (tc 0, 19, .inl (fun _ => 0))] (tyX6 2) dX6_init_40 rfl rfl (by decide) kw_fl_6_29 (tyX6_ok 2 (by decide)) (Or.inr ⟨rfl, rfl, rfl⟩) rfl rfl (Nat.le_of_ble_eq_true rfl) ha rfl ?_
  exact k_vret dX6_init_43 rfl rfl rfl k
theorem kok_6 : kMok mX6_init 3 := ⟨⟨fwTb_2 (i := 75) rfl rfl, fwTb_1 (i := 12) rfl rfl, ⟨by decide, by decide, by decide +kernel⟩, by decide⟩, rfl, rfl, fwTb_2 (i := 74) rfl rfl⟩
