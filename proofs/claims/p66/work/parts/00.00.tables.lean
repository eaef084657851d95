-- ===== PART A: goes FIRST, ahead of the names: the tables' words, and 'selects' of the private methods out of them =====
theorem tb_1 {w : Cond} {i : Nat} (h : tables_1_1[i]? = some w) : w ∈ tables_1 := List.mem_append_left _ (List.mem_of_getElem? h)
theorem tb_2 {w : Cond} {i : Nat} (h : tables_1_2[i]? = some w) : w ∈ tables_1 := List.mem_append_right _ (List.mem_append_left _ (List.mem_of_getElem? h))
theorem tb_3 {w : Cond} {i : Nat} (h : tables_1_3[i]? = some w) : w ∈ tables_1 := List.mem_append_right _ (List.mem_append_right _ (List.mem_append_left _ (List.mem_of_getElem? h)))
theorem tb_4 {w : Cond} {i : Nat} (h : tables_1_4[i]? = some w) : w ∈ tables_1 := List.mem_append_right _ (List.mem_append_right _ (List.mem_append_right _ (List.mem_append_left _ (List.mem_of_getElem? h))))
theorem tb_5 {w : Cond} {i : Nat} (h : tables_1_5[i]? = some w) : w ∈ tables_1 := List.mem_append_right _ (List.mem_append_right _ (List.mem_append_right _ (List.mem_append_right _ (List.mem_append_left _ (List.mem_of_getElem? h)))))
theorem tb_6 {w : Cond} {i : Nat} (h : tables_1_6[i]? = some w) : w ∈ tables_1 := List.mem_append_right _ (List.mem_append_right _ (List.mem_append_right _ (List.mem_append_right _ (List.mem_append_right _ (List.mem_append_left _ (List.mem_of_getElem? h))))))
theorem tb_7 {w : Cond} {i : Nat} (h : tables_1_7[i]? = some w) : w ∈ tables_1 := List.mem_append_right _ (List.mem_append_right _ (List.mem_append_right _ (List.mem_append_right _ (List.mem_append_right _ (List.mem_append_right _ (List.mem_append_left _ (List.mem_of_getElem? h)))))))
theorem tb_8 {w : Cond} {i : Nat} (h : tables_1_8[i]? = some w) : w ∈ tables_1 := List.mem_append_right _ (List.mem_append_right _ (List.mem_append_right _ (List.mem_append_right _ (List.mem_append_right _ (List.mem_append_right _ (List.mem_append_right _ (List.mem_append_left _ (List.mem_of_getElem? h))))))))
theorem tb_9 {w : Cond} {i : Nat} (h : tables_1_9[i]? = some w) : w ∈ tables_1 := List.mem_append_right _ (List.mem_append_right _ (List.mem_append_right _ (List.mem_append_right _ (List.mem_append_right _ (List.mem_append_right _ (List.mem_append_right _ (List.mem_append_right _ (List.mem_of_getElem? h))))))))
/-- a private method of a class that the tables say can be made, by its rows of tables_1 -/
def lw_okq (q : MethodName × Nat) : Prop := (q.1.cls ≠ "java/lang/invoke/MethodHandle" ∧ q.1.cls ≠ "java/lang/invoke/VarHandle") ∧ Cond.instantiable q.1.cls q.2 ∈ tables_1 ∧ Cond.privateMethod q.1 ∈ tables_1 ∧ Cond.instanceMethod q.1 ∈ tables_1
theorem cm_0 : "FootLower$Tape" ≠ "java/lang/invoke/MethodHandle" ∧ "FootLower$Tape" ≠ "java/lang/invoke/VarHandle" := ⟨by decide +kernel, by decide +kernel⟩
theorem cq_0 : Cond.instantiable "FootLower$Tape" 6 ∈ tables_1 := tb_1 (i := 30) rfl
theorem lw_p0 : lw_okq (⟨"FootLower$Tape", "byteAt", "(I)I"⟩, 6) := ⟨cm_0, cq_0, tb_2 (i := 173) rfl, tb_2 (i := 174) rfl⟩
theorem lw_p1 : lw_okq (⟨"FootLower$Tape", "wordEnd", "(I)I"⟩, 6) := ⟨cm_0, cq_0, tb_2 (i := 180) rfl, tb_2 (i := 181) rfl⟩
theorem lw_p2 : lw_okq (⟨"FootLower$Tape", "wordKind", "(II)I"⟩, 6) := ⟨cm_0, cq_0, tb_2 (i := 184) rfl, tb_2 (i := 185) rfl⟩
theorem lw_p3 : lw_okq (⟨"FootLower$Tape", "isText", "(IILjava/lang/String;)Z"⟩, 6) := ⟨cm_0, cq_0, tb_2 (i := 204) rfl, tb_2 (i := 205) rfl⟩
theorem lw_p4 : lw_okq (⟨"FootLower$Tape", "addToken", "(III)V"⟩, 6) := ⟨cm_0, cq_0, tb_3 (i := 16) rfl, tb_3 (i := 17) rfl⟩
theorem lw_p5 : lw_okq (⟨"FootLower$Tape", "numberEnd", "(I)I"⟩, 6) := ⟨cm_0, cq_0, tb_3 (i := 23) rfl, tb_3 (i := 24) rfl⟩
theorem lw_p6 : lw_okq (⟨"FootLower$Tape", "numberOf", "(II)I"⟩, 6) := ⟨cm_0, cq_0, tb_3 (i := 27) rfl, tb_3 (i := 28) rfl⟩
theorem cm_1 : "FootLower$Reader" ≠ "java/lang/invoke/MethodHandle" ∧ "FootLower$Reader" ≠ "java/lang/invoke/VarHandle" := ⟨by decide +kernel, by decide +kernel⟩
theorem cq_1 : Cond.instantiable "FootLower$Reader" 8 ∈ tables_1 := tb_1 (i := 62) rfl
theorem lw_p7 : lw_okq (⟨"FootLower$Reader", "advance", "()V"⟩, 8) := ⟨cm_1, cq_1, tb_3 (i := 44) rfl, tb_3 (i := 45) rfl⟩
theorem lw_p8 : lw_okq (⟨"FootLower$Reader", "readLine", "()Z"⟩, 8) := ⟨cm_1, cq_1, tb_3 (i := 48) rfl, tb_3 (i := 49) rfl⟩
theorem lw_p9 : lw_okq (⟨"FootLower$Reader", "readMountain", "()Z"⟩, 8) := ⟨cm_1, cq_1, tb_3 (i := 52) rfl, tb_3 (i := 53) rfl⟩
theorem lw_p10 : lw_okq (⟨"FootLower$Reader", "pass", "(I)Z"⟩, 8) := ⟨cm_1, cq_1, tb_3 (i := 56) rfl, tb_3 (i := 57) rfl⟩
theorem lw_p11 : lw_okq (⟨"FootLower$Reader", "refuse", "(I)Z"⟩, 8) := ⟨cm_1, cq_1, tb_3 (i := 60) rfl, tb_3 (i := 61) rfl⟩
theorem lw_p12 : lw_okq (⟨"FootLower$Reader", "readHeights", "(LFootLower$Ground;)Z"⟩, 8) := ⟨cm_1, cq_1, tb_3 (i := 64) rfl, tb_3 (i := 65) rfl⟩
theorem lw_p13 : lw_okq (⟨"FootLower$Reader", "isNumber", "(II)Z"⟩, 8) := ⟨cm_1, cq_1, tb_3 (i := 68) rfl, tb_3 (i := 69) rfl⟩
theorem lw_p14 : lw_okq (⟨"FootLower$Reader", "passNumber", "()I"⟩, 8) := ⟨cm_1, cq_1, tb_3 (i := 72) rfl, tb_3 (i := 73) rfl⟩
theorem lw_p15 : lw_okq (⟨"FootLower$Reader", "readFolk", "()Z"⟩, 8) := ⟨cm_1, cq_1, tb_3 (i := 80) rfl, tb_3 (i := 81) rfl⟩
def lw_privs_1 : List (MethodName × Nat) := [(⟨"FootLower$Tape", "byteAt", "(I)I"⟩, 6), (⟨"FootLower$Tape", "wordEnd", "(I)I"⟩, 6), (⟨"FootLower$Tape", "wordKind", "(II)I"⟩, 6), (⟨"FootLower$Tape", "isText", "(IILjava/lang/String;)Z"⟩, 6), (⟨"FootLower$Tape", "addToken", "(III)V"⟩, 6), (⟨"FootLower$Tape", "numberEnd", "(I)I"⟩, 6), (⟨"FootLower$Tape", "numberOf", "(II)I"⟩, 6), (⟨"FootLower$Reader", "advance", "()V"⟩, 8), (⟨"FootLower$Reader", "readLine", "()Z"⟩, 8), (⟨"FootLower$Reader", "readMountain", "()Z"⟩, 8), (⟨"FootLower$Reader", "pass", "(I)Z"⟩, 8), (⟨"FootLower$Reader", "refuse", "(I)Z"⟩, 8), (⟨"FootLower$Reader", "readHeights", "(LFootLower$Ground;)Z"⟩, 8), (⟨"FootLower$Reader", "isNumber", "(II)Z"⟩, 8), (⟨"FootLower$Reader", "passNumber", "()I"⟩, 8), (⟨"FootLower$Reader", "readFolk", "()Z"⟩, 8)]
theorem lw_r1 : ∀ q ∈ lw_privs_1, lw_okq q := List.forall_mem_cons.mpr ⟨lw_p0, List.forall_mem_cons.mpr ⟨lw_p1, List.forall_mem_cons.mpr ⟨lw_p2, List.forall_mem_cons.mpr ⟨lw_p3, List.forall_mem_cons.mpr ⟨lw_p4, List.forall_mem_cons.mpr ⟨lw_p5, List.forall_mem_cons.mpr ⟨lw_p6, List.forall_mem_cons.mpr ⟨lw_p7, List.forall_mem_cons.mpr ⟨lw_p8, List.forall_mem_cons.mpr ⟨lw_p9, List.forall_mem_cons.mpr ⟨lw_p10, List.forall_mem_cons.mpr ⟨lw_p11, List.forall_mem_cons.mpr ⟨lw_p12, List.forall_mem_cons.mpr ⟨lw_p13, List.forall_mem_cons.mpr ⟨lw_p14, List.forall_mem_cons.mpr ⟨lw_p15, fun _ h => absurd h List.not_mem_nil⟩⟩⟩⟩⟩⟩⟩⟩⟩⟩⟩⟩⟩⟩⟩⟩
theorem lw_p16 : lw_okq (⟨"FootLower$Reader", "readFact", "(IIIII)Z"⟩, 8) := ⟨cm_1, cq_1, tb_3 (i := 84) rfl, tb_3 (i := 85) rfl⟩
theorem lw_p17 : lw_okq (⟨"FootLower$Reader", "readTalk", "(I)Z"⟩, 8) := ⟨cm_1, cq_1, tb_3 (i := 92) rfl, tb_3 (i := 93) rfl⟩
theorem lw_p18 : lw_okq (⟨"FootLower$Reader", "readHeap", "()Z"⟩, 8) := ⟨cm_1, cq_1, tb_3 (i := 105) rfl, tb_3 (i := 106) rfl⟩
theorem cm_2 : "FootLower$Ground" ≠ "java/lang/invoke/MethodHandle" ∧ "FootLower$Ground" ≠ "java/lang/invoke/VarHandle" := ⟨by decide +kernel, by decide +kernel⟩
theorem cq_2 : Cond.instantiable "FootLower$Ground" 5 ∈ tables_1 := tb_1 (i := 74) rfl
theorem lw_p19 : lw_okq (⟨"FootLower$Ground", "descend", "(II)I"⟩, 5) := ⟨cm_2, cq_2, tb_4 (i := 42) rfl, tb_4 (i := 43) rfl⟩
theorem lw_p20 : lw_okq (⟨"FootLower$Ground", "wayDown", "(II)I"⟩, 5) := ⟨cm_2, cq_2, tb_4 (i := 46) rfl, tb_4 (i := 47) rfl⟩
theorem cm_3 : "FootLower" ≠ "java/lang/invoke/MethodHandle" ∧ "FootLower" ≠ "java/lang/invoke/VarHandle" := ⟨by decide +kernel, by decide +kernel⟩
theorem cq_3 : Cond.instantiable "FootLower" 12 ∈ tables_1 := tb_1 (i := 22) rfl
theorem lw_p21 : lw_okq (⟨"FootLower", "isPlay", "(II)Z"⟩, 12) := ⟨cm_3, cq_3, tb_4 (i := 144) rfl, tb_4 (i := 145) rfl⟩
theorem cm_4 : "FootLower$Petition" ≠ "java/lang/invoke/MethodHandle" ∧ "FootLower$Petition" ≠ "java/lang/invoke/VarHandle" := ⟨by decide +kernel, by decide +kernel⟩
theorem cq_4 : Cond.instantiable "FootLower$Petition" 5 ∈ tables_1 := tb_1 (i := 228) rfl
theorem lw_p22 : lw_okq (⟨"FootLower$Petition", "begin", "(II)V"⟩, 5) := ⟨cm_4, cq_4, tb_4 (i := 152) rfl, tb_4 (i := 153) rfl⟩
theorem lw_p23 : lw_okq (⟨"FootLower$Petition", "comesOut", "(IIII)Z"⟩, 5) := ⟨cm_4, cq_4, tb_4 (i := 156) rfl, tb_4 (i := 157) rfl⟩
theorem lw_p24 : lw_okq (⟨"FootLower$Petition", "winsNow", "(I)Z"⟩, 5) := ⟨cm_4, cq_4, tb_4 (i := 160) rfl, tb_4 (i := 161) rfl⟩
theorem lw_p25 : lw_okq (⟨"FootLower$Petition", "canReach", "(ZIIII)Z"⟩, 5) := ⟨cm_4, cq_4, tb_4 (i := 164) rfl, tb_4 (i := 165) rfl⟩
theorem lw_p26 : lw_okq (⟨"FootLower$Petition", "comesOutBy", "(IIIII)Z"⟩, 5) := ⟨cm_4, cq_4, tb_4 (i := 168) rfl, tb_4 (i := 169) rfl⟩
theorem lw_p27 : lw_okq (⟨"FootLower", "isWalk", "(II)Z"⟩, 12) := ⟨cm_3, cq_3, tb_4 (i := 186) rfl, tb_4 (i := 187) rfl⟩
theorem cm_5 : "FootLower$Walks" ≠ "java/lang/invoke/MethodHandle" ∧ "FootLower$Walks" ≠ "java/lang/invoke/VarHandle" := ⟨by decide +kernel, by decide +kernel⟩
theorem cq_5 : Cond.instantiable "FootLower$Walks" 4 ∈ tables_1 := tb_2 (i := 10) rfl
theorem lw_p28 : lw_okq (⟨"FootLower$Walks", "gatherNames", "()V"⟩, 4) := ⟨cm_5, cq_5, tb_4 (i := 194) rfl, tb_4 (i := 195) rfl⟩
theorem lw_p29 : lw_okq (⟨"FootLower$Walks", "namesWithin", "(II)I"⟩, 4) := ⟨cm_5, cq_5, tb_4 (i := 206) rfl, tb_4 (i := 207) rfl⟩
theorem lw_p30 : lw_okq (⟨"FootLower$Walks", "besides", "(IIII)I"⟩, 4) := ⟨cm_5, cq_5, tb_4 (i := 222) rfl, tb_4 (i := 223) rfl⟩
theorem lw_p31 : lw_okq (⟨"FootLower$Walks", "namesOfBoth", "(IIII)I"⟩, 4) := ⟨cm_5, cq_5, tb_4 (i := 226) rfl, tb_4 (i := 227) rfl⟩
def lw_privs_2 : List (MethodName × Nat) := [(⟨"FootLower$Reader", "readFact", "(IIIII)Z"⟩, 8), (⟨"FootLower$Reader", "readTalk", "(I)Z"⟩, 8), (⟨"FootLower$Reader", "readHeap", "()Z"⟩, 8), (⟨"FootLower$Ground", "descend", "(II)I"⟩, 5), (⟨"FootLower$Ground", "wayDown", "(II)I"⟩, 5), (⟨"FootLower", "isPlay", "(II)Z"⟩, 12), (⟨"FootLower$Petition", "begin", "(II)V"⟩, 5), (⟨"FootLower$Petition", "comesOut", "(IIII)Z"⟩, 5), (⟨"FootLower$Petition", "winsNow", "(I)Z"⟩, 5), (⟨"FootLower$Petition", "canReach", "(ZIIII)Z"⟩, 5), (⟨"FootLower$Petition", "comesOutBy", "(IIIII)Z"⟩, 5), (⟨"FootLower", "isWalk", "(II)Z"⟩, 12), (⟨"FootLower$Walks", "gatherNames", "()V"⟩, 4), (⟨"FootLower$Walks", "namesWithin", "(II)I"⟩, 4), (⟨"FootLower$Walks", "besides", "(IIII)I"⟩, 4), (⟨"FootLower$Walks", "namesOfBoth", "(IIII)I"⟩, 4)]
theorem lw_r2 : ∀ q ∈ lw_privs_2, lw_okq q := List.forall_mem_cons.mpr ⟨lw_p16, List.forall_mem_cons.mpr ⟨lw_p17, List.forall_mem_cons.mpr ⟨lw_p18, List.forall_mem_cons.mpr ⟨lw_p19, List.forall_mem_cons.mpr ⟨lw_p20, List.forall_mem_cons.mpr ⟨lw_p21, List.forall_mem_cons.mpr ⟨lw_p22, List.forall_mem_cons.mpr ⟨lw_p23, List.forall_mem_cons.mpr ⟨lw_p24, List.forall_mem_cons.mpr ⟨lw_p25, List.forall_mem_cons.mpr ⟨lw_p26, List.forall_mem_cons.mpr ⟨lw_p27, List.forall_mem_cons.mpr ⟨lw_p28, List.forall_mem_cons.mpr ⟨lw_p29, List.forall_mem_cons.mpr ⟨lw_p30, List.forall_mem_cons.mpr ⟨lw_p31, fun _ h => absurd h List.not_mem_nil⟩⟩⟩⟩⟩⟩⟩⟩⟩⟩⟩⟩⟩⟩⟩⟩
theorem lw_p32 : lw_okq (⟨"FootLower$Ground", "isOpen", "(II)Z"⟩, 5) := ⟨cm_2, cq_2, tb_5 (i := 34) rfl, tb_5 (i := 35) rfl⟩
theorem cm_6 : "FootLower$Shaper" ≠ "java/lang/invoke/MethodHandle" ∧ "FootLower$Shaper" ≠ "java/lang/invoke/VarHandle" := ⟨by decide +kernel, by decide +kernel⟩
theorem cq_6 : Cond.instantiable "FootLower$Shaper" 7 ∈ tables_1 := tb_2 (i := 31) rfl
theorem lw_p33 : lw_okq (⟨"FootLower$Shaper", "weightOf", "(II)I"⟩, 7) := ⟨cm_6, cq_6, tb_5 (i := 64) rfl, tb_5 (i := 65) rfl⟩
theorem lw_p34 : lw_okq (⟨"FootLower$Shaper", "isUnbeaten", "(I)Z"⟩, 7) := ⟨cm_6, cq_6, tb_5 (i := 77) rfl, tb_5 (i := 78) rfl⟩
theorem lw_p35 : lw_okq (⟨"FootLower$Shaper", "search", "(III)V"⟩, 7) := ⟨cm_6, cq_6, tb_5 (i := 100) rfl, tb_5 (i := 101) rfl⟩
theorem lw_p36 : lw_okq (⟨"FootLower$Shaper", "keepIfBetter", "()V"⟩, 7) := ⟨cm_6, cq_6, tb_5 (i := 104) rfl, tb_5 (i := 105) rfl⟩
theorem lw_p37 : lw_okq (⟨"FootLower", "isLaw", "(I)Z"⟩, 12) := ⟨cm_3, cq_3, tb_5 (i := 134) rfl, tb_5 (i := 135) rfl⟩
theorem cm_7 : "FootLower$Course" ≠ "java/lang/invoke/MethodHandle" ∧ "FootLower$Course" ≠ "java/lang/invoke/VarHandle" := ⟨by decide +kernel, by decide +kernel⟩
theorem cq_7 : Cond.instantiable "FootLower$Course" 2 ∈ tables_1 := tb_2 (i := 59) rfl
theorem lw_p38 : lw_okq (⟨"FootLower$Course", "namesOnTrial", "()I"⟩, 2) := ⟨cm_7, cq_7, tb_5 (i := 142) rfl, tb_5 (i := 143) rfl⟩
theorem cm_8 : "FootLower$Shadows" ≠ "java/lang/invoke/MethodHandle" ∧ "FootLower$Shadows" ≠ "java/lang/invoke/VarHandle" := ⟨by decide +kernel, by decide +kernel⟩
theorem cq_8 : Cond.instantiable "FootLower$Shadows" 9 ∈ tables_1 := tb_2 (i := 72) rfl
theorem lw_p39 : lw_okq (⟨"FootLower$Shadows", "isSighting", "(I)Z"⟩, 9) := ⟨cm_8, cq_8, tb_5 (i := 191) rfl, tb_5 (i := 192) rfl⟩
theorem lw_p40 : lw_okq (⟨"FootLower$Shadows", "countMisses", "(II)V"⟩, 9) := ⟨cm_8, cq_8, tb_5 (i := 205) rfl, tb_5 (i := 206) rfl⟩
theorem lw_p41 : lw_okq (⟨"FootLower$Shadows", "countShaded", "(I)V"⟩, 9) := ⟨cm_8, cq_8, tb_5 (i := 219) rfl, tb_5 (i := 220) rfl⟩
theorem lw_p42 : lw_okq (⟨"FootLower$Shadows", "addShaded", "(II)V"⟩, 9) := ⟨cm_8, cq_8, tb_5 (i := 224) rfl, tb_5 (i := 225) rfl⟩
theorem lw_p43 : lw_okq (⟨"FootLower$Shadows", "isOnlyMiss", "(I)Z"⟩, 9) := ⟨cm_8, cq_8, tb_6 (i := 2) rfl, tb_6 (i := 3) rfl⟩
theorem lw_p44 : lw_okq (⟨"FootLower", "rollRefusal", "(I)I"⟩, 12) := ⟨cm_3, cq_3, tb_6 (i := 10) rfl, tb_6 (i := 11) rfl⟩
theorem cm_9 : "FootLower$People" ≠ "java/lang/invoke/MethodHandle" ∧ "FootLower$People" ≠ "java/lang/invoke/VarHandle" := ⟨by decide +kernel, by decide +kernel⟩
theorem cq_9 : Cond.instantiable "FootLower$People" 4 ∈ tables_1 := tb_1 (i := 106) rfl
theorem lw_p45 : lw_okq (⟨"FootLower$People", "howStands", "(LFootLower$Slots;II)I"⟩, 4) := ⟨cm_9, cq_9, tb_6 (i := 27) rfl, tb_6 (i := 28) rfl⟩
theorem lw_p46 : lw_okq (⟨"FootLower", "isDraw", "(II)Z"⟩, 12) := ⟨cm_3, cq_3, tb_6 (i := 39) rfl, tb_6 (i := 40) rfl⟩
theorem cm_10 : "FootLowerModel" ≠ "java/lang/invoke/MethodHandle" ∧ "FootLowerModel" ≠ "java/lang/invoke/VarHandle" := ⟨by decide +kernel, by decide +kernel⟩
theorem cq_10 : Cond.instantiable "FootLowerModel" 26 ∈ tables_1 := tb_6 (i := 125) rfl
theorem lw_p47 : lw_okq (⟨"FootLowerModel", "advance", "()V"⟩, 26) := ⟨cm_10, cq_10, tb_6 (i := 238) rfl, tb_6 (i := 239) rfl⟩
def lw_privs_3 : List (MethodName × Nat) := [(⟨"FootLower$Ground", "isOpen", "(II)Z"⟩, 5), (⟨"FootLower$Shaper", "weightOf", "(II)I"⟩, 7), (⟨"FootLower$Shaper", "isUnbeaten", "(I)Z"⟩, 7), (⟨"FootLower$Shaper", "search", "(III)V"⟩, 7), (⟨"FootLower$Shaper", "keepIfBetter", "()V"⟩, 7), (⟨"FootLower", "isLaw", "(I)Z"⟩, 12), (⟨"FootLower$Course", "namesOnTrial", "()I"⟩, 2), (⟨"FootLower$Shadows", "isSighting", "(I)Z"⟩, 9), (⟨"FootLower$Shadows", "countMisses", "(II)V"⟩, 9), (⟨"FootLower$Shadows", "countShaded", "(I)V"⟩, 9), (⟨"FootLower$Shadows", "addShaded", "(II)V"⟩, 9), (⟨"FootLower$Shadows", "isOnlyMiss", "(I)Z"⟩, 9), (⟨"FootLower", "rollRefusal", "(I)I"⟩, 12), (⟨"FootLower$People", "howStands", "(LFootLower$Slots;II)I"⟩, 4), (⟨"FootLower", "isDraw", "(II)Z"⟩, 12), (⟨"FootLowerModel", "advance", "()V"⟩, 26)]
theorem lw_r3 : ∀ q ∈ lw_privs_3, lw_okq q := List.forall_mem_cons.mpr ⟨lw_p32, List.forall_mem_cons.mpr ⟨lw_p33, List.forall_mem_cons.mpr ⟨lw_p34, List.forall_mem_cons.mpr ⟨lw_p35, List.forall_mem_cons.mpr ⟨lw_p36, List.forall_mem_cons.mpr ⟨lw_p37, List.forall_mem_cons.mpr ⟨lw_p38, List.forall_mem_cons.mpr ⟨lw_p39, List.forall_mem_cons.mpr ⟨lw_p40, List.forall_mem_cons.mpr ⟨lw_p41, List.forall_mem_cons.mpr ⟨lw_p42, List.forall_mem_cons.mpr ⟨lw_p43, List.forall_mem_cons.mpr ⟨lw_p44, List.forall_mem_cons.mpr ⟨lw_p45, List.forall_mem_cons.mpr ⟨lw_p46, List.forall_mem_cons.mpr ⟨lw_p47, fun _ h => absurd h List.not_mem_nil⟩⟩⟩⟩⟩⟩⟩⟩⟩⟩⟩⟩⟩⟩⟩⟩
theorem lw_p48 : lw_okq (⟨"FootLowerModel", "see", "(I)I"⟩, 26) := ⟨cm_10, cq_10, tb_7 (i := 2) rfl, tb_7 (i := 3) rfl⟩
theorem lw_p49 : lw_okq (⟨"FootLowerModel", "good", "()Z"⟩, 26) := ⟨cm_10, cq_10, tb_7 (i := 12) rfl, tb_7 (i := 13) rfl⟩
theorem lw_p50 : lw_okq (⟨"FootLowerModel", "readFirst", "()V"⟩, 26) := ⟨cm_10, cq_10, tb_7 (i := 16) rfl, tb_7 (i := 17) rfl⟩
theorem lw_p51 : lw_okq (⟨"FootLowerModel", "needs", "(Ljava/lang/String;)V"⟩, 26) := ⟨cm_10, cq_10, tb_7 (i := 21) rfl, tb_7 (i := 22) rfl⟩
theorem lw_p52 : lw_okq (⟨"FootLowerModel", "takes", "(Ljava/lang/String;)Z"⟩, 26) := ⟨cm_10, cq_10, tb_7 (i := 25) rfl, tb_7 (i := 26) rfl⟩
theorem lw_p53 : lw_okq (⟨"FootLowerModel", "is", "(Ljava/lang/String;)Z"⟩, 26) := ⟨cm_10, cq_10, tb_7 (i := 29) rfl, tb_7 (i := 30) rfl⟩
theorem lw_p54 : lw_okq (⟨"FootLowerModel", "errs", "(I)V"⟩, 26) := ⟨cm_10, cq_10, tb_7 (i := 35) rfl, tb_7 (i := 36) rfl⟩
theorem lw_p55 : lw_okq (⟨"FootLowerModel", "number", "(II)I"⟩, 26) := ⟨cm_10, cq_10, tb_7 (i := 40) rfl, tb_7 (i := 41) rfl⟩
theorem lw_p56 : lw_okq (⟨"FootLowerModel", "told", "(Ljava/lang/String;II)I"⟩, 26) := ⟨cm_10, cq_10, tb_7 (i := 45) rfl, tb_7 (i := 46) rfl⟩
theorem lw_p57 : lw_okq (⟨"FootLowerModel", "readNext", "()V"⟩, 26) := ⟨cm_10, cq_10, tb_7 (i := 53) rfl, tb_7 (i := 54) rfl⟩
theorem lw_p58 : lw_okq (⟨"FootLowerModel", "readFolk", "()V"⟩, 26) := ⟨cm_10, cq_10, tb_7 (i := 59) rfl, tb_7 (i := 60) rfl⟩
theorem lw_p59 : lw_okq (⟨"FootLowerModel", "isFolk", "(J)Z"⟩, 26) := ⟨cm_10, cq_10, tb_7 (i := 72) rfl, tb_7 (i := 73) rfl⟩
theorem lw_p60 : lw_okq (⟨"FootLowerModel", "of", "(II)I"⟩, 26) := ⟨cm_10, cq_10, tb_7 (i := 77) rfl, tb_7 (i := 78) rfl⟩
theorem lw_p61 : lw_okq (⟨"FootLowerModel", "isCell", "(J)Z"⟩, 26) := ⟨cm_10, cq_10, tb_7 (i := 85) rfl, tb_7 (i := 86) rfl⟩
theorem lw_p62 : lw_okq (⟨"FootLowerModel", "asItIs", "()V"⟩, 26) := ⟨cm_10, cq_10, tb_7 (i := 89) rfl, tb_7 (i := 90) rfl⟩
theorem lw_p63 : lw_okq (⟨"FootLowerModel", "take0", "()Z"⟩, 26) := ⟨cm_10, cq_10, tb_7 (i := 93) rfl, tb_7 (i := 94) rfl⟩
def lw_privs_4 : List (MethodName × Nat) := [(⟨"FootLowerModel", "see", "(I)I"⟩, 26), (⟨"FootLowerModel", "good", "()Z"⟩, 26), (⟨"FootLowerModel", "readFirst", "()V"⟩, 26), (⟨"FootLowerModel", "needs", "(Ljava/lang/String;)V"⟩, 26), (⟨"FootLowerModel", "takes", "(Ljava/lang/String;)Z"⟩, 26), (⟨"FootLowerModel", "is", "(Ljava/lang/String;)Z"⟩, 26), (⟨"FootLowerModel", "errs", "(I)V"⟩, 26), (⟨"FootLowerModel", "number", "(II)I"⟩, 26), (⟨"FootLowerModel", "told", "(Ljava/lang/String;II)I"⟩, 26), (⟨"FootLowerModel", "readNext", "()V"⟩, 26), (⟨"FootLowerModel", "readFolk", "()V"⟩, 26), (⟨"FootLowerModel", "isFolk", "(J)Z"⟩, 26), (⟨"FootLowerModel", "of", "(II)I"⟩, 26), (⟨"FootLowerModel", "isCell", "(J)Z"⟩, 26), (⟨"FootLowerModel", "asItIs", "()V"⟩, 26), (⟨"FootLowerModel", "take0", "()Z"⟩, 26)]
theorem lw_r4 : ∀ q ∈ lw_privs_4, lw_okq q := List.forall_mem_cons.mpr ⟨lw_p48, List.forall_mem_cons.mpr ⟨lw_p49, List.forall_mem_cons.mpr ⟨lw_p50, List.forall_mem_cons.mpr ⟨lw_p51, List.forall_mem_cons.mpr ⟨lw_p52, List.forall_mem_cons.mpr ⟨lw_p53, List.forall_mem_cons.mpr ⟨lw_p54, List.forall_mem_cons.mpr ⟨lw_p55, List.forall_mem_cons.mpr ⟨lw_p56, List.forall_mem_cons.mpr ⟨lw_p57, List.forall_mem_cons.mpr ⟨lw_p58, List.forall_mem_cons.mpr ⟨lw_p59, List.forall_mem_cons.mpr ⟨lw_p60, List.forall_mem_cons.mpr ⟨lw_p61, List.forall_mem_cons.mpr ⟨lw_p62, List.forall_mem_cons.mpr ⟨lw_p63, fun _ h => absurd h List.not_mem_nil⟩⟩⟩⟩⟩⟩⟩⟩⟩⟩⟩⟩⟩⟩⟩⟩
theorem lw_p64 : lw_okq (⟨"FootLowerModel", "topCell", "()I"⟩, 26) := ⟨cm_10, cq_10, tb_7 (i := 97) rfl, tb_7 (i := 98) rfl⟩
theorem lw_p65 : lw_okq (⟨"FootLowerModel", "heap0", "(I)I"⟩, 26) := ⟨cm_10, cq_10, tb_7 (i := 101) rfl, tb_7 (i := 102) rfl⟩
theorem lw_p66 : lw_okq (⟨"FootLowerModel", "slideOf", "(I)I"⟩, 26) := ⟨cm_10, cq_10, tb_7 (i := 105) rfl, tb_7 (i := 106) rfl⟩
theorem lw_p67 : lw_okq (⟨"FootLowerModel", "falls", "(II)Z"⟩, 26) := ⟨cm_10, cq_10, tb_7 (i := 109) rfl, tb_7 (i := 110) rfl⟩
theorem lw_p68 : lw_okq (⟨"FootLowerModel", "isDark", "(II)Z"⟩, 26) := ⟨cm_10, cq_10, tb_7 (i := 122) rfl, tb_7 (i := 123) rfl⟩
theorem lw_p69 : lw_okq (⟨"FootLowerModel", "lightOf", "(I)I"⟩, 26) := ⟨cm_10, cq_10, tb_7 (i := 133) rfl, tb_7 (i := 134) rfl⟩
theorem lw_p70 : lw_okq (⟨"FootLowerModel", "isMount", "()Z"⟩, 26) := ⟨cm_10, cq_10, tb_7 (i := 141) rfl, tb_7 (i := 142) rfl⟩
theorem lw_p71 : lw_okq (⟨"FootLowerModel", "snowSet", "()I"⟩, 26) := ⟨cm_10, cq_10, tb_7 (i := 149) rfl, tb_7 (i := 150) rfl⟩
theorem lw_p72 : lw_okq (⟨"FootLowerModel", "gainOf", "(I)I"⟩, 26) := ⟨cm_10, cq_10, tb_7 (i := 161) rfl, tb_7 (i := 162) rfl⟩
theorem lw_p73 : lw_okq (⟨"FootLowerModel", "hopesOf", "(II)I"⟩, 26) := ⟨cm_10, cq_10, tb_7 (i := 173) rfl, tb_7 (i := 174) rfl⟩
theorem lw_p74 : lw_okq (⟨"FootLowerModel", "gainOfAll", "()I"⟩, 26) := ⟨cm_10, cq_10, tb_7 (i := 185) rfl, tb_7 (i := 186) rfl⟩
theorem lw_p75 : lw_okq (⟨"FootLowerModel", "keepAct", "(I)V"⟩, 26) := ⟨cm_10, cq_10, tb_7 (i := 193) rfl, tb_7 (i := 194) rfl⟩
theorem lw_p76 : lw_okq (⟨"FootLowerModel", "willingSet", "()I"⟩, 26) := ⟨cm_10, cq_10, tb_7 (i := 217) rfl, tb_7 (i := 218) rfl⟩
theorem lw_p77 : lw_okq (⟨"FootLowerModel", "isSet", "(I)Z"⟩, 26) := ⟨cm_10, cq_10, tb_7 (i := 225) rfl, tb_7 (i := 226) rfl⟩
theorem lw_p78 : lw_okq (⟨"FootLowerModel", "all", "()I"⟩, 26) := ⟨cm_10, cq_10, tb_7 (i := 229) rfl, tb_7 (i := 230) rfl⟩
theorem lw_p79 : lw_okq (⟨"FootLowerModel", "signing", "(II)I"⟩, 26) := ⟨cm_10, cq_10, tb_7 (i := 233) rfl, tb_7 (i := 234) rfl⟩
def lw_privs_5 : List (MethodName × Nat) := [(⟨"FootLowerModel", "topCell", "()I"⟩, 26), (⟨"FootLowerModel", "heap0", "(I)I"⟩, 26), (⟨"FootLowerModel", "slideOf", "(I)I"⟩, 26), (⟨"FootLowerModel", "falls", "(II)Z"⟩, 26), (⟨"FootLowerModel", "isDark", "(II)Z"⟩, 26), (⟨"FootLowerModel", "lightOf", "(I)I"⟩, 26), (⟨"FootLowerModel", "isMount", "()Z"⟩, 26), (⟨"FootLowerModel", "snowSet", "()I"⟩, 26), (⟨"FootLowerModel", "gainOf", "(I)I"⟩, 26), (⟨"FootLowerModel", "hopesOf", "(II)I"⟩, 26), (⟨"FootLowerModel", "gainOfAll", "()I"⟩, 26), (⟨"FootLowerModel", "keepAct", "(I)V"⟩, 26), (⟨"FootLowerModel", "willingSet", "()I"⟩, 26), (⟨"FootLowerModel", "isSet", "(I)Z"⟩, 26), (⟨"FootLowerModel", "all", "()I"⟩, 26), (⟨"FootLowerModel", "signing", "(II)I"⟩, 26)]
theorem lw_r5 : ∀ q ∈ lw_privs_5, lw_okq q := List.forall_mem_cons.mpr ⟨lw_p64, List.forall_mem_cons.mpr ⟨lw_p65, List.forall_mem_cons.mpr ⟨lw_p66, List.forall_mem_cons.mpr ⟨lw_p67, List.forall_mem_cons.mpr ⟨lw_p68, List.forall_mem_cons.mpr ⟨lw_p69, List.forall_mem_cons.mpr ⟨lw_p70, List.forall_mem_cons.mpr ⟨lw_p71, List.forall_mem_cons.mpr ⟨lw_p72, List.forall_mem_cons.mpr ⟨lw_p73, List.forall_mem_cons.mpr ⟨lw_p74, List.forall_mem_cons.mpr ⟨lw_p75, List.forall_mem_cons.mpr ⟨lw_p76, List.forall_mem_cons.mpr ⟨lw_p77, List.forall_mem_cons.mpr ⟨lw_p78, List.forall_mem_cons.mpr ⟨lw_p79, fun _ h => absurd h List.not_mem_nil⟩⟩⟩⟩⟩⟩⟩⟩⟩⟩⟩⟩⟩⟩⟩⟩
theorem lw_p80 : lw_okq (⟨"FootLowerModel", "namesOf", "(I)I"⟩, 26) := ⟨cm_10, cq_10, tb_8 (i := 4) rfl, tb_8 (i := 5) rfl⟩
theorem lw_p81 : lw_okq (⟨"FootLowerModel", "firstSet", "()I"⟩, 26) := ⟨cm_10, cq_10, tb_8 (i := 12) rfl, tb_8 (i := 13) rfl⟩
theorem lw_p82 : lw_okq (⟨"FootLowerModel", "isEnough", "(I)Z"⟩, 26) := ⟨cm_10, cq_10, tb_8 (i := 16) rfl, tb_8 (i := 17) rfl⟩
theorem lw_p83 : lw_okq (⟨"FootLowerModel", "playBy", "(II)Z"⟩, 26) := ⟨cm_10, cq_10, tb_8 (i := 37) rfl, tb_8 (i := 38) rfl⟩
theorem lw_p84 : lw_okq (⟨"FootLowerModel", "endBy", "(IIIII)Z"⟩, 26) := ⟨cm_10, cq_10, tb_8 (i := 44) rfl, tb_8 (i := 45) rfl⟩
theorem lw_p85 : lw_okq (⟨"FootLowerModel", "isRound", "(II)Z"⟩, 26) := ⟨cm_10, cq_10, tb_8 (i := 59) rfl, tb_8 (i := 60) rfl⟩
theorem lw_p86 : lw_okq (⟨"FootLowerModel", "roundOf", "(II)I"⟩, 26) := ⟨cm_10, cq_10, tb_8 (i := 64) rfl, tb_8 (i := 65) rfl⟩
theorem lw_p87 : lw_okq (⟨"FootLowerModel", "namesOn", "(IIIII)I"⟩, 26) := ⟨cm_10, cq_10, tb_8 (i := 72) rfl, tb_8 (i := 73) rfl⟩
theorem lw_p88 : lw_okq (⟨"FootLowerModel", "flowOf", "(I)I"⟩, 26) := ⟨cm_10, cq_10, tb_8 (i := 89) rfl, tb_8 (i := 90) rfl⟩
theorem lw_p89 : lw_okq (⟨"FootLowerModel", "isLower", "(II)Z"⟩, 26) := ⟨cm_10, cq_10, tb_8 (i := 93) rfl, tb_8 (i := 94) rfl⟩
theorem lw_p90 : lw_okq (⟨"FootLowerModel", "seenFrom", "(I)I"⟩, 26) := ⟨cm_10, cq_10, tb_8 (i := 113) rfl, tb_8 (i := 114) rfl⟩
theorem lw_p91 : lw_okq (⟨"FootLowerModel", "isSeen", "(II)Z"⟩, 26) := ⟨cm_10, cq_10, tb_8 (i := 117) rfl, tb_8 (i := 118) rfl⟩
theorem lw_p92 : lw_okq (⟨"FootLowerModel", "votesFor", "(II)I"⟩, 26) := ⟨cm_10, cq_10, tb_8 (i := 129) rfl, tb_8 (i := 130) rfl⟩
theorem lw_p93 : lw_okq (⟨"FootLowerModel", "shapeOf", "(I)I"⟩, 26) := ⟨cm_10, cq_10, tb_8 (i := 147) rfl, tb_8 (i := 148) rfl⟩
theorem lw_p94 : lw_okq (⟨"FootLowerModel", "takeRow", "(I)I"⟩, 26) := ⟨cm_10, cq_10, tb_8 (i := 151) rfl, tb_8 (i := 152) rfl⟩
theorem lw_p95 : lw_okq (⟨"FootLowerModel", "nextRow", "(I)Z"⟩, 26) := ⟨cm_10, cq_10, tb_8 (i := 155) rfl, tb_8 (i := 156) rfl⟩
def lw_privs_6 : List (MethodName × Nat) := [(⟨"FootLowerModel", "namesOf", "(I)I"⟩, 26), (⟨"FootLowerModel", "firstSet", "()I"⟩, 26), (⟨"FootLowerModel", "isEnough", "(I)Z"⟩, 26), (⟨"FootLowerModel", "playBy", "(II)Z"⟩, 26), (⟨"FootLowerModel", "endBy", "(IIIII)Z"⟩, 26), (⟨"FootLowerModel", "isRound", "(II)Z"⟩, 26), (⟨"FootLowerModel", "roundOf", "(II)I"⟩, 26), (⟨"FootLowerModel", "namesOn", "(IIIII)I"⟩, 26), (⟨"FootLowerModel", "flowOf", "(I)I"⟩, 26), (⟨"FootLowerModel", "isLower", "(II)Z"⟩, 26), (⟨"FootLowerModel", "seenFrom", "(I)I"⟩, 26), (⟨"FootLowerModel", "isSeen", "(II)Z"⟩, 26), (⟨"FootLowerModel", "votesFor", "(II)I"⟩, 26), (⟨"FootLowerModel", "shapeOf", "(I)I"⟩, 26), (⟨"FootLowerModel", "takeRow", "(I)I"⟩, 26), (⟨"FootLowerModel", "nextRow", "(I)Z"⟩, 26)]
theorem lw_r6 : ∀ q ∈ lw_privs_6, lw_okq q := List.forall_mem_cons.mpr ⟨lw_p80, List.forall_mem_cons.mpr ⟨lw_p81, List.forall_mem_cons.mpr ⟨lw_p82, List.forall_mem_cons.mpr ⟨lw_p83, List.forall_mem_cons.mpr ⟨lw_p84, List.forall_mem_cons.mpr ⟨lw_p85, List.forall_mem_cons.mpr ⟨lw_p86, List.forall_mem_cons.mpr ⟨lw_p87, List.forall_mem_cons.mpr ⟨lw_p88, List.forall_mem_cons.mpr ⟨lw_p89, List.forall_mem_cons.mpr ⟨lw_p90, List.forall_mem_cons.mpr ⟨lw_p91, List.forall_mem_cons.mpr ⟨lw_p92, List.forall_mem_cons.mpr ⟨lw_p93, List.forall_mem_cons.mpr ⟨lw_p94, List.forall_mem_cons.mpr ⟨lw_p95, fun _ h => absurd h List.not_mem_nil⟩⟩⟩⟩⟩⟩⟩⟩⟩⟩⟩⟩⟩⟩⟩⟩
theorem lw_p96 : lw_okq (⟨"FootLowerModel", "isLaw", "(I)Z"⟩, 26) := ⟨cm_10, cq_10, tb_8 (i := 175) rfl, tb_8 (i := 176) rfl⟩
theorem lw_p97 : lw_okq (⟨"FootLowerModel", "goCourse", "(I)I"⟩, 26) := ⟨cm_10, cq_10, tb_8 (i := 180) rfl, tb_8 (i := 181) rfl⟩
theorem lw_p98 : lw_okq (⟨"FootLowerModel", "asksOld", "(I)I"⟩, 26) := ⟨cm_10, cq_10, tb_8 (i := 201) rfl, tb_8 (i := 202) rfl⟩
theorem lw_p99 : lw_okq (⟨"FootLowerModel", "numberAt", "(II)J"⟩, 26) := ⟨cm_10, cq_10, tb_8 (i := 208) rfl, tb_8 (i := 209) rfl⟩
theorem lw_p100 : lw_okq (⟨"FootLowerModel", "oldBy", "(II)I"⟩, 26) := ⟨cm_10, cq_10, tb_8 (i := 212) rfl, tb_8 (i := 213) rfl⟩
theorem lw_p101 : lw_okq (⟨"FootLowerModel", "wasDark", "(III)Z"⟩, 26) := ⟨cm_10, cq_10, tb_8 (i := 216) rfl, tb_8 (i := 217) rfl⟩
theorem lw_p102 : lw_okq (⟨"FootLowerModel", "askOf", "(II)I"⟩, 26) := ⟨cm_10, cq_10, tb_8 (i := 224) rfl, tb_8 (i := 225) rfl⟩
theorem lw_p103 : lw_okq (⟨"FootLowerModel", "asksNames", "(IZ)I"⟩, 26) := ⟨cm_10, cq_10, tb_9 (i := 0) rfl, tb_9 (i := 1) rfl⟩
theorem lw_p104 : lw_okq (⟨"FootLowerModel", "hasName", "(II)Z"⟩, 26) := ⟨cm_10, cq_10, tb_9 (i := 4) rfl, tb_9 (i := 5) rfl⟩
theorem lw_p105 : lw_okq (⟨"FootLowerModel", "isThere", "(II)Z"⟩, 26) := ⟨cm_10, cq_10, tb_9 (i := 8) rfl, tb_9 (i := 9) rfl⟩
theorem lw_p106 : lw_okq (⟨"FootLowerModel", "areMonths", "(II)Z"⟩, 26) := ⟨cm_10, cq_10, tb_9 (i := 20) rfl, tb_9 (i := 21) rfl⟩
theorem lw_p107 : lw_okq (⟨"FootLowerModel", "goMonths", "(JI)I"⟩, 26) := ⟨cm_10, cq_10, tb_9 (i := 25) rfl, tb_9 (i := 26) rfl⟩
def lw_privs_7 : List (MethodName × Nat) := [(⟨"FootLowerModel", "isLaw", "(I)Z"⟩, 26), (⟨"FootLowerModel", "goCourse", "(I)I"⟩, 26), (⟨"FootLowerModel", "asksOld", "(I)I"⟩, 26), (⟨"FootLowerModel", "numberAt", "(II)J"⟩, 26), (⟨"FootLowerModel", "oldBy", "(II)I"⟩, 26), (⟨"FootLowerModel", "wasDark", "(III)Z"⟩, 26), (⟨"FootLowerModel", "askOf", "(II)I"⟩, 26), (⟨"FootLowerModel", "asksNames", "(IZ)I"⟩, 26), (⟨"FootLowerModel", "hasName", "(II)Z"⟩, 26), (⟨"FootLowerModel", "isThere", "(II)Z"⟩, 26), (⟨"FootLowerModel", "areMonths", "(II)Z"⟩, 26), (⟨"FootLowerModel", "goMonths", "(JI)I"⟩, 26)]
theorem lw_r7 : ∀ q ∈ lw_privs_7, lw_okq q := List.forall_mem_cons.mpr ⟨lw_p96, List.forall_mem_cons.mpr ⟨lw_p97, List.forall_mem_cons.mpr ⟨lw_p98, List.forall_mem_cons.mpr ⟨lw_p99, List.forall_mem_cons.mpr ⟨lw_p100, List.forall_mem_cons.mpr ⟨lw_p101, List.forall_mem_cons.mpr ⟨lw_p102, List.forall_mem_cons.mpr ⟨lw_p103, List.forall_mem_cons.mpr ⟨lw_p104, List.forall_mem_cons.mpr ⟨lw_p105, List.forall_mem_cons.mpr ⟨lw_p106, List.forall_mem_cons.mpr ⟨lw_p107, fun _ h => absurd h List.not_mem_nil⟩⟩⟩⟩⟩⟩⟩⟩⟩⟩⟩⟩
def lw_privs : List (MethodName × Nat) := lw_privs_1 ++ (lw_privs_2 ++ (lw_privs_3 ++ (lw_privs_4 ++ (lw_privs_5 ++ (lw_privs_6 ++ (lw_privs_7))))))
def lw_tbl : List Cond := k2_sels lw_privs ++ tables_1
theorem lw_privs_ok : ∀ q ∈ lw_privs, lw_okq q := by
  show ∀ q ∈ lw_privs_1 ++ (lw_privs_2 ++ (lw_privs_3 ++ (lw_privs_4 ++ (lw_privs_5 ++ (lw_privs_6 ++ (lw_privs_7)))))), lw_okq q
  exact List.forall_mem_append.mpr ⟨lw_r1, List.forall_mem_append.mpr ⟨lw_r2, List.forall_mem_append.mpr ⟨lw_r3, List.forall_mem_append.mpr ⟨lw_r4, List.forall_mem_append.mpr ⟨lw_r5, List.forall_mem_append.mpr ⟨lw_r6, lw_r7⟩⟩⟩⟩⟩⟩
