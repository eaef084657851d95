section
-- ===== PART A: goes FIRST, ahead of the names: the tables' words, and 'selects' of the private methods out of them =====
theorem tb_1 {w : Cond} {i : Nat} (h : tables_1_1[i]? = some w) : w ∈ tables_1 := List.mem_append_left _ (List.mem_of_getElem? h)
theorem tb_2 {w : Cond} {i : Nat} (h : tables_1_2[i]? = some w) : w ∈ tables_1 := List.mem_append_right _ (List.mem_append_left _ (List.mem_of_getElem? h))
theorem tb_3 {w : Cond} {i : Nat} (h : tables_1_3[i]? = some w) : w ∈ tables_1 := List.mem_append_right _ (List.mem_append_right _ (List.mem_append_left _ (List.mem_of_getElem? h)))
theorem tb_4 {w : Cond} {i : Nat} (h : tables_1_4[i]? = some w) : w ∈ tables_1 := List.mem_append_right _ (List.mem_append_right _ (List.mem_append_right _ (List.mem_append_left _ (List.mem_of_getElem? h))))
theorem tb_5 {w : Cond} {i : Nat} (h : tables_1_5[i]? = some w) : w ∈ tables_1 := List.mem_append_right _ (List.mem_append_right _ (List.mem_append_right _ (List.mem_append_right _ (List.mem_append_left _ (List.mem_of_getElem? h)))))
theorem tb_6 {w : Cond} {i : Nat} (h : tables_1_6[i]? = some w) : w ∈ tables_1 := List.mem_append_right _ (List.mem_append_right _ (List.mem_append_right _ (List.mem_append_right _ (List.mem_append_right _ (List.mem_append_left _ (List.mem_of_getElem? h))))))
theorem tb_7 {w : Cond} {i : Nat} (h : tables_1_7[i]? = some w) : w ∈ tables_1 := List.mem_append_right _ (List.mem_append_right _ (List.mem_append_right _ (List.mem_append_right _ (List.mem_append_right _ (List.mem_append_right _ (List.mem_append_left _ (List.mem_of_getElem? h)))))))
theorem tb_8 {w : Cond} {i : Nat} (h : tables_1_8[i]? = some w) : w ∈ tables_1 := List.mem_append_right _ (List.mem_append_right _ (List.mem_append_right _ (List.mem_append_right _ (List.mem_append_right _ (List.mem_append_right _ (List.mem_append_right _ (List.mem_append_left _ (List.mem_of_getElem? h))))))))
theorem tb_9 {w : Cond} {i : Nat} (h : tables_1_9[i]? = some w) : w ∈ tables_1 := List.mem_append_right _ (List.mem_append_right _ (List.mem_append_right _ (List.mem_append_right _ (List.mem_append_right _ (List.mem_append_right _ (List.mem_append_right _ (List.mem_append_right _ (List.mem_of_getElem? h))))))))
/-- a private method of a class that the tables say can be made, by its rows of tables_1 -/
def lw_okq (q : MethodName × Nat) : Prop := (q.1.cls ≠ "java/lang/invoke/MethodHandle" ∧ q.1.cls ≠ "java/lang/invoke/VarHandle") ∧ Cond.instantiable q.1.cls q.2 ∈ tables_1 ∧ Cond.privateMethod q.1 ∈ tables_1 ∧ Cond.instanceMethod q.1 ∈ tables_1
theorem cm_0 : "FootLower$Tape" ≠ "java/lang/invoke/MethodHandle" ∧ "FootLower$Tape" ≠ "java/lang/invoke/VarHandle" := ⟨by decide +kernel, by decide +kernel⟩
theorem cq_0 : Cond.instantiable "FootLower$Tape" 6 ∈ tables_1 := tb_1 (i := 30) rfl
theorem lw_p0 : lw_okq (⟨"FootLower$Tape", "byteAt", "(I)I"⟩, 6) := ⟨cm_0, cq_0, tb_2 (i := 173) rfl, tb_2 (i := 174) rfl⟩
theorem lw_p1 : lw_okq (⟨"FootLower$Tape", "wordEnd", "(I)I"⟩, 6) := ⟨cm_0, cq_0, tb_2 (i := 180) rfl, tb_2 (i := 181) rfl⟩
theorem lw_p2 : lw_okq (⟨"FootLower$Tape", "wordKind", "(II)I"⟩, 6) := ⟨cm_0, cq_0, tb_2 (i := 184) rfl, tb_2 (i := 185) rfl⟩
theorem lw_p3 : lw_okq (⟨"FootLower$Tape", "isText", "(IILjava/lang/String;)Z"⟩, 6) := ⟨cm_0, cq_0, tb_2 (i := 204) rfl, tb_2 (i := 205) rfl⟩
theorem lw_p4 : lw_okq (⟨"FootLower$Tape", "addToken", "(III)V"⟩, 6) := ⟨cm_0, cq_0, tb_3 (i := 16) rfl, tb_3 (i := 17) rfl⟩
theorem lw_p5 : lw_okq (⟨"FootLower$Tape", "numberEnd", "(I)I"⟩, 6) := ⟨cm_0, cq_0, tb_3 (i := 23) rfl, tb_3 (i := 24) rfl⟩
theorem lw_p6 : lw_okq (⟨"FootLower$Tape", "numberOf", "(II)I"⟩, 6) := ⟨cm_0, cq_0, tb_3 (i := 27) rfl, tb_3 (i := 28) rfl⟩
theorem cm_1 : "FootLower$Reader" ≠ "java/lang/invoke/MethodHandle" ∧ "FootLower$Reader" ≠ "java/lang/invoke/VarHandle" := ⟨by decide +kernel, by decide +kernel⟩
theorem cq_1 : Cond.instantiable "FootLower$Reader" 8 ∈ tables_1 := tb_1 (i := 62) rfl
theorem lw_p7 : lw_okq (⟨"FootLower$Reader", "advance", "()V"⟩, 8) := ⟨cm_1, cq_1, tb_3 (i := 44) rfl, tb_3 (i := 45) rfl⟩
theorem lw_p8 : lw_okq (⟨"FootLower$Reader", "readLine", "()Z"⟩, 8) := ⟨cm_1, cq_1, tb_3 (i := 48) rfl, tb_3 (i := 49) rfl⟩
theorem lw_p9 : lw_okq (⟨"FootLower$Reader", "readMountain", "()Z"⟩, 8) := ⟨cm_1, cq_1, tb_3 (i := 52) rfl, tb_3 (i := 53) rfl⟩
theorem lw_p10 : lw_okq (⟨"FootLower$Reader", "pass", "(I)Z"⟩, 8) := ⟨cm_1, cq_1, tb_3 (i := 56) rfl, tb_3 (i := 57) rfl⟩
theorem lw_p11 : lw_okq (⟨"FootLower$Reader", "refuse", "(I)Z"⟩, 8) := ⟨cm_1, cq_1, tb_3 (i := 60) rfl, tb_3 (i := 61) rfl⟩
theorem lw_p12 : lw_okq (⟨"FootLower$Reader", "readHeights", "(LFootLower$Ground;)Z"⟩, 8) := ⟨cm_1, cq_1, tb_3 (i := 64) rfl, tb_3 (i := 65) rfl⟩
theorem lw_p13 : lw_okq (⟨"FootLower$Reader", "isNumber", "(II)Z"⟩, 8) := ⟨cm_1, cq_1, tb_3 (i := 68) rfl, tb_3 (i := 69) rfl⟩
theorem lw_p14 : lw_okq (⟨"FootLower$Reader", "passNumber", "()I"⟩, 8) := ⟨cm_1, cq_1, tb_3 (i := 72) rfl, tb_3 (i := 73) rfl⟩
theorem lw_p15 : lw_okq (⟨"FootLower$Reader", "readFolk", "()Z"⟩, 8) := ⟨cm_1, cq_1, tb_3 (i := 80) rfl, tb_3 (i := 81) rfl⟩
def lw_privs_1 : List (MethodName × Nat) := [(⟨"FootLower$Tape", "byteAt", "(I)I"⟩, 6), (⟨"FootLower$Tape", "wordEnd", "(I)I"⟩, 6), (⟨"FootLower$Tape", "wordKind", "(II)I"⟩, 6), (⟨"FootLower$Tape", "isText", "(IILjava/lang/String;)Z"⟩, 6), (⟨"FootLower$Tape", "addToken", "(III)V"⟩, 6), (⟨"FootLower$Tape", "numberEnd", "(I)I"⟩, 6), (⟨"FootLower$Tape", "numberOf", "(II)I"⟩, 6), (⟨"FootLower$Reader", "advance", "()V"⟩, 8), (⟨"FootLower$Reader", "readLine", "()Z"⟩, 8), (⟨"FootLower$Reader", "readMountain", "()Z"⟩, 8), (⟨"FootLower$Reader", "pass", "(I)Z"⟩, 8), (⟨"FootLower$Reader", "refuse", "(I)Z"⟩, 8), (⟨"FootLower$Reader", "readHeights", "(LFootLower$Ground;)Z"⟩, 8), (⟨"FootLower$Reader", "isNumber", "(II)Z"⟩, 8), (⟨"FootLower$Reader", "passNumber", "()I"⟩, 8), (⟨"FootLower$Reader", "readFolk", "()Z"⟩, 8)]
theorem lw_r1 : ∀ q ∈ lw_privs_1, lw_okq q := List.forall_mem_cons.mpr ⟨lw_p0, List.forall_mem_cons.mpr ⟨lw_p1, List.forall_mem_cons.mpr ⟨lw_p2, List.forall_mem_cons.mpr ⟨lw_p3, List.forall_mem_cons.mpr ⟨lw_p4, List.forall_mem_cons.mpr ⟨lw_p5, List.forall_mem_cons.mpr ⟨lw_p6, List.forall_mem_cons.mpr ⟨lw_p7, List.forall_mem_cons.mpr ⟨lw_p8, List.forall_mem_cons.mpr ⟨lw_p9, List.forall_mem_cons.mpr ⟨lw_p10, List.forall_mem_cons.mpr ⟨lw_p11, List.forall_mem_cons.mpr ⟨lw_p12, List.forall_mem_cons.mpr ⟨lw_p13, List.forall_mem_cons.mpr ⟨lw_p14, List.forall_mem_cons.mpr ⟨lw_p15, fun _ h => absurd h List.not_mem_nil⟩⟩⟩⟩⟩⟩⟩⟩⟩⟩⟩⟩⟩⟩⟩⟩
theorem lw_p16 : lw_okq (⟨"FootLower$Reader", "readFact", "(IIIII)Z"⟩, 8) := ⟨cm_1, cq_1, tb_3 (i := 84) rfl, tb_3 (i := 85) rfl⟩
theorem lw_p17 : lw_okq (⟨"FootLower$Reader", "readTalk", "(I)Z"⟩, 8) := ⟨cm_1, cq_1, tb_3 (i := 92) rfl, tb_3 (i := 93) rfl⟩
theorem lw_p18 : lw_okq (⟨"FootLower$Reader", "readHeap", "()Z"⟩, 8) := ⟨cm_1, cq_1, tb_3 (i := 105) rfl, tb_3 (i := 106) rfl⟩
theorem cm_2 : "FootLower$Ground" ≠ "java/lang/invoke/MethodHandle" ∧ "FootLower$Ground" ≠ "java/lang/invoke/VarHandle" := ⟨by decide +kernel, by decide +kernel⟩
theorem cq_2 : Cond.instantiable "FootLower$Ground" 5 ∈ tables_1 := tb_1 (i := 74) rfl
theorem lw_p19 : lw_okq (⟨"FootLower$Ground", "descend", "(II)I"⟩, 5) := ⟨cm_2, cq_2, tb_4 (i := 42) rfl, tb_4 (i := 43) rfl⟩
theorem lw_p20 : lw_okq (⟨"FootLower$Ground", "wayDown", "(II)I"⟩, 5) := ⟨cm_2, cq_2, tb_4 (i := 46) rfl, tb_4 (i := 47) rfl⟩
theorem cm_3 : "FootLower" ≠ "java/lang/invoke/MethodHandle" ∧ "FootLower" ≠ "java/lang/invoke/VarHandle" := ⟨by decide +kernel, by decide +kernel⟩
theorem cq_3 : Cond.instantiable "FootLower" 12 ∈ tables_1 := tb_1 (i := 22) rfl
theorem lw_p21 : lw_okq (⟨"FootLower", "isPlay", "(II)Z"⟩, 12) := ⟨cm_3, cq_3, tb_4 (i := 144) rfl, tb_4 (i := 145) rfl⟩
theorem cm_4 : "FootLower$Petition" ≠ "java/lang/invoke/MethodHandle" ∧ "FootLower$Petition" ≠ "java/lang/invoke/VarHandle" := ⟨by decide +kernel, by decide +kernel⟩
theorem cq_4 : Cond.instantiable "FootLower$Petition" 5 ∈ tables_1 := tb_1 (i := 228) rfl
theorem lw_p22 : lw_okq (⟨"FootLower$Petition", "begin", "(II)V"⟩, 5) := ⟨cm_4, cq_4, tb_4 (i := 152) rfl, tb_4 (i := 153) rfl⟩
theorem lw_p23 : lw_okq (⟨"FootLower$Petition", "comesOut", "(IIII)Z"⟩, 5) := ⟨cm_4, cq_4, tb_4 (i := 156) rfl, tb_4 (i := 157) rfl⟩
theorem lw_p24 : lw_okq (⟨"FootLower$Petition", "winsNow", "(I)Z"⟩, 5) := ⟨cm_4, cq_4, tb_4 (i := 160) rfl, tb_4 (i := 161) rfl⟩
theorem lw_p25 : lw_okq (⟨"FootLower$Petition", "canReach", "(ZIIII)Z"⟩, 5) := ⟨cm_4, cq_4, tb_4 (i := 164) rfl, tb_4 (i := 165) rfl⟩
theorem lw_p26 : lw_okq (⟨"FootLower$Petition", "comesOutBy", "(IIIII)Z"⟩, 5) := ⟨cm_4, cq_4, tb_4 (i := 168) rfl, tb_4 (i := 169) rfl⟩
theorem lw_p27 : lw_okq (⟨"FootLower", "isWalk", "(II)Z"⟩, 12) := ⟨cm_3, cq_3, tb_4 (i := 186) rfl, tb_4 (i := 187) rfl⟩
theorem cm_5 : "FootLower$Walks" ≠ "java/lang/invoke/MethodHandle" ∧ "FootLower$Walks" ≠ "java/lang/invoke/VarHandle" := ⟨by decide +kernel, by decide +kernel⟩
theorem cq_5 : Cond.instantiable "FootLower$Walks" 4 ∈ tables_1 := tb_2 (i := 10) rfl
theorem lw_p28 : lw_okq (⟨"FootLower$Walks", "gatherNames", "()V"⟩, 4) := ⟨cm_5, cq_5, tb_4 (i := 194) rfl, tb_4 (i := 195) rfl⟩
theorem lw_p29 : lw_okq (⟨"FootLower$Walks", "namesWithin", "(II)I"⟩, 4) := ⟨cm_5, cq_5, tb_4 (i := 206) rfl, tb_4 (i := 207) rfl⟩
theorem lw_p30 : lw_okq (⟨"FootLower$Walks", "besides", "(IIII)I"⟩, 4) := ⟨cm_5, cq_5, tb_4 (i := 222) rfl, tb_4 (i := 223) rfl⟩
theorem lw_p31 : lw_okq (⟨"FootLower$Walks", "namesOfBoth", "(IIII)I"⟩, 4) := ⟨cm_5, cq_5, tb_4 (i := 226) rfl, tb_4 (i := 227) rfl⟩
def lw_privs_2 : List (MethodName × Nat) := [(⟨"FootLower$Reader", "readFact", "(IIIII)Z"⟩, 8), (⟨"FootLower$Reader", "readTalk", "(I)Z"⟩, 8), (⟨"FootLower$Reader", "readHeap", "()Z"⟩, 8), (⟨"FootLower$Ground", "descend", "(II)I"⟩, 5), (⟨"FootLower$Ground", "wayDown", "(II)I"⟩, 5), (⟨"FootLower", "isPlay", "(II)Z"⟩, 12), (⟨"FootLower$Petition", "begin", "(II)V"⟩, 5), (⟨"FootLower$Petition", "comesOut", "(IIII)Z"⟩, 5), (⟨"FootLower$Petition", "winsNow", "(I)Z"⟩, 5), (⟨"FootLower$Petition", "canReach", "(ZIIII)Z"⟩, 5), (⟨"FootLower$Petition", "comesOutBy", "(IIIII)Z"⟩, 5), (⟨"FootLower", "isWalk", "(II)Z"⟩, 12), (⟨"FootLower$Walks", "gatherNames", "()V"⟩, 4), (⟨"FootLower$Walks", "namesWithin", "(II)I"⟩, 4), (⟨"FootLower$Walks", "besides", "(IIII)I"⟩, 4), (⟨"FootLower$Walks", "namesOfBoth", "(IIII)I"⟩, 4)]
theorem lw_r2 : ∀ q ∈ lw_privs_2, lw_okq q := List.forall_mem_cons.mpr ⟨lw_p16, List.forall_mem_cons.mpr ⟨lw_p17, List.forall_mem_cons.mpr ⟨lw_p18, List.forall_mem_cons.mpr ⟨lw_p19, List.forall_mem_cons.mpr ⟨lw_p20, List.forall_mem_cons.mpr ⟨lw_p21, List.forall_mem_cons.mpr ⟨lw_p22, List.forall_mem_cons.mpr ⟨lw_p23, List.forall_mem_cons.mpr ⟨lw_p24, List.forall_mem_cons.mpr ⟨lw_p25, List.forall_mem_cons.mpr ⟨lw_p26, List.forall_mem_cons.mpr ⟨lw_p27, List.forall_mem_cons.mpr ⟨lw_p28, List.forall_mem_cons.mpr ⟨lw_p29, List.forall_mem_cons.mpr ⟨lw_p30, List.forall_mem_cons.mpr ⟨lw_p31, fun _ h => absurd h List.not_mem_nil⟩⟩⟩⟩⟩⟩⟩⟩⟩⟩⟩⟩⟩⟩⟩⟩
theorem lw_p32 : lw_okq (⟨"FootLower$Ground", "isOpen", "(II)Z"⟩, 5) := ⟨cm_2, cq_2, tb_5 (i := 34) rfl, tb_5 (i := 35) rfl⟩
theorem cm_6 : "FootLower$Shaper" ≠ "java/lang/invoke/MethodHandle" ∧ "FootLower$Shaper" ≠ "java/lang/invoke/VarHandle" := ⟨by decide +kernel, by decide +kernel⟩
theorem cq_6 : Cond.instantiable "FootLower$Shaper" 7 ∈ tables_1 := tb_2 (i := 31) rfl
theorem lw_p33 : lw_okq (⟨"FootLower$Shaper", "weightOf", "(II)I"⟩, 7) := ⟨cm_6, cq_6, tb_5 (i := 64) rfl, tb_5 (i := 65) rfl⟩
theorem lw_p34 : lw_okq (⟨"FootLower$Shaper", "isUnbeaten", "(I)Z"⟩, 7) := ⟨cm_6, cq_6, tb_5 (i := 77) rfl, tb_5 (i := 78) rfl⟩
theorem lw_p35 : lw_okq (⟨"FootLower$Shaper", "search", "(III)V"⟩, 7) := ⟨cm_6, cq_6, tb_5 (i := 100) rfl, tb_5 (i := 101) rfl⟩
theorem lw_p36 : lw_okq (⟨"FootLower$Shaper", "keepIfBetter", "()V"⟩, 7) := ⟨cm_6, cq_6, tb_5 (i := 104) rfl, tb_5 (i := 105) rfl⟩
theorem lw_p37 : lw_okq (⟨"FootLower", "isLaw", "(I)Z"⟩, 12) := ⟨cm_3, cq_3, tb_5 (i := 134) rfl, tb_5 (i := 135) rfl⟩
theorem cm_7 : "FootLower$Course" ≠ "java/lang/invoke/MethodHandle" ∧ "FootLower$Course" ≠ "java/lang/invoke/VarHandle" := ⟨by decide +kernel, by decide +kernel⟩
theorem cq_7 : Cond.instantiable "FootLower$Course" 2 ∈ tables_1 := tb_2 (i := 59) rfl
theorem lw_p38 : lw_okq (⟨"FootLower$Course", "namesOnTrial", "()I"⟩, 2) := ⟨cm_7, cq_7, tb_5 (i := 142) rfl, tb_5 (i := 143) rfl⟩
theorem cm_8 : "FootLower$Shadows" ≠ "java/lang/invoke/MethodHandle" ∧ "FootLower$Shadows" ≠ "java/lang/invoke/VarHandle" := ⟨by decide +kernel, by decide +kernel⟩
theorem cq_8 : Cond.instantiable "FootLower$Shadows" 9 ∈ tables_1 := tb_2 (i := 72) rfl
theorem lw_p39 : lw_okq (⟨"FootLower$Shadows", "isSighting", "(I)Z"⟩, 9) := ⟨cm_8, cq_8, tb_5 (i := 191) rfl, tb_5 (i := 192) rfl⟩
theorem lw_p40 : lw_okq (⟨"FootLower$Shadows", "countMisses", "(II)V"⟩, 9) := ⟨cm_8, cq_8, tb_5 (i := 205) rfl, tb_5 (i := 206) rfl⟩
theorem lw_p41 : lw_okq (⟨"FootLower$Shadows", "countShaded", "(I)V"⟩, 9) := ⟨cm_8, cq_8, tb_5 (i := 219) rfl, tb_5 (i := 220) rfl⟩
theorem lw_p42 : lw_okq (⟨"FootLower$Shadows", "addShaded", "(II)V"⟩, 9) := ⟨cm_8, cq_8, tb_5 (i := 224) rfl, tb_5 (i := 225) rfl⟩
theorem lw_p43 : lw_okq (⟨"FootLower$Shadows", "isOnlyMiss", "(I)Z"⟩, 9) := ⟨cm_8, cq_8, tb_6 (i := 2) rfl, tb_6 (i := 3) rfl⟩
theorem lw_p44 : lw_okq (⟨"FootLower", "rollRefusal", "(I)I"⟩, 12) := ⟨cm_3, cq_3, tb_6 (i := 10) rfl, tb_6 (i := 11) rfl⟩
theorem cm_9 : "FootLower$People" ≠ "java/lang/invoke/MethodHandle" ∧ "FootLower$People" ≠ "java/lang/invoke/VarHandle" := ⟨by decide +kernel, by decide +kernel⟩
theorem cq_9 : Cond.instantiable "FootLower$People" 4 ∈ tables_1 := tb_1 (i := 106) rfl
theorem lw_p45 : lw_okq (⟨"FootLower$People", "howStands", "(LFootLower$Slots;II)I"⟩, 4) := ⟨cm_9, cq_9, tb_6 (i := 27) rfl, tb_6 (i := 28) rfl⟩
theorem lw_p46 : lw_okq (⟨"FootLower", "isDraw", "(II)Z"⟩, 12) := ⟨cm_3, cq_3, tb_6 (i := 39) rfl, tb_6 (i := 40) rfl⟩
theorem cm_10 : "FootLowerModel" ≠ "java/lang/invoke/MethodHandle" ∧ "FootLowerModel" ≠ "java/lang/invoke/VarHandle" := ⟨by decide +kernel, by decide +kernel⟩
theorem cq_10 : Cond.instantiable "FootLowerModel" 26 ∈ tables_1 := tb_6 (i := 125) rfl
theorem lw_p47 : lw_okq (⟨"FootLowerModel", "advance", "()V"⟩, 26) := ⟨cm_10, cq_10, tb_6 (i := 238) rfl, tb_6 (i := 239) rfl⟩
def lw_privs_3 : List (MethodName × Nat) := [(⟨"FootLower$Ground", "isOpen", "(II)Z"⟩, 5), (⟨"FootLower$Shaper", "weightOf", "(II)I"⟩, 7), (⟨"FootLower$Shaper", "isUnbeaten", "(I)Z"⟩, 7), (⟨"FootLower$Shaper", "search", "(III)V"⟩, 7), (⟨"FootLower$Shaper", "keepIfBetter", "()V"⟩, 7), (⟨"FootLower", "isLaw", "(I)Z"⟩, 12), (⟨"FootLower$Course", "namesOnTrial", "()I"⟩, 2), (⟨"FootLower$Shadows", "isSighting", "(I)Z"⟩, 9), (⟨"FootLower$Shadows", "countMisses", "(II)V"⟩, 9), (⟨"FootLower$Shadows", "countShaded", "(I)V"⟩, 9), (⟨"FootLower$Shadows", "addShaded", "(II)V"⟩, 9), (⟨"FootLower$Shadows", "isOnlyMiss", "(I)Z"⟩, 9), (⟨"FootLower", "rollRefusal", "(I)I"⟩, 12), (⟨"FootLower$People", "howStands", "(LFootLower$Slots;II)I"⟩, 4), (⟨"FootLower", "isDraw", "(II)Z"⟩, 12), (⟨"FootLowerModel", "advance", "()V"⟩, 26)]
theorem lw_r3 : ∀ q ∈ lw_privs_3, lw_okq q := List.forall_mem_cons.mpr ⟨lw_p32, List.forall_mem_cons.mpr ⟨lw_p33, List.forall_mem_cons.mpr ⟨lw_p34, List.forall_mem_cons.mpr ⟨lw_p35, List.forall_mem_cons.mpr ⟨lw_p36, List.forall_mem_cons.mpr ⟨lw_p37, List.forall_mem_cons.mpr ⟨lw_p38, List.forall_mem_cons.mpr ⟨lw_p39, List.forall_mem_cons.mpr ⟨lw_p40, List.forall_mem_cons.mpr ⟨lw_p41, List.forall_mem_cons.mpr ⟨lw_p42, List.forall_mem_cons.mpr ⟨lw_p43, List.forall_mem_cons.mpr ⟨lw_p44, List.forall_mem_cons.mpr ⟨lw_p45, List.forall_mem_cons.mpr ⟨lw_p46, List.forall_mem_cons.mpr ⟨lw_p47, fun _ h => absurd h List.not_mem_nil⟩⟩⟩⟩⟩⟩⟩⟩⟩⟩⟩⟩⟩⟩⟩⟩
theorem lw_p48 : lw_okq (⟨"FootLowerModel", "see", "(I)I"⟩, 26) := ⟨cm_10, cq_10, tb_7 (i := 2) rfl, tb_7 (i := 3) rfl⟩
theorem lw_p49 : lw_okq (⟨"FootLowerModel", "good", "()Z"⟩, 26) := ⟨cm_10, cq_10, tb_7 (i := 12) rfl, tb_7 (i := 13) rfl⟩
theorem lw_p50 : lw_okq (⟨"FootLowerModel", "readFirst", "()V"⟩, 26) := ⟨cm_10, cq_10, tb_7 (i := 16) rfl, tb_7 (i := 17) rfl⟩
theorem lw_p51 : lw_okq (⟨"FootLowerModel", "needs", "(Ljava/lang/String;)V"⟩, 26) := ⟨cm_10, cq_10, tb_7 (i := 21) rfl, tb_7 (i := 22) rfl⟩
theorem lw_p52 : lw_okq (⟨"FootLowerModel", "takes", "(Ljava/lang/String;)Z"⟩, 26) := ⟨cm_10, cq_10, tb_7 (i := 25) rfl, tb_7 (i := 26) rfl⟩
theorem lw_p53 : lw_okq (⟨"FootLowerModel", "is", "(Ljava/lang/String;)Z"⟩, 26) := ⟨cm_10, cq_10, tb_7 (i := 29) rfl, tb_7 (i := 30) rfl⟩
theorem lw_p54 : lw_okq (⟨"FootLowerModel", "errs", "(I)V"⟩, 26) := ⟨cm_10, cq_10, tb_7 (i := 35) rfl, tb_7 (i := 36) rfl⟩
theorem lw_p55 : lw_okq (⟨"FootLowerModel", "number", "(II)I"⟩, 26) := ⟨cm_10, cq_10, tb_7 (i := 40) rfl, tb_7 (i := 41) rfl⟩
theorem lw_p56 : lw_okq (⟨"FootLowerModel", "told", "(Ljava/lang/String;II)I"⟩, 26) := ⟨cm_10, cq_10, tb_7 (i := 45) rfl, tb_7 (i := 46) rfl⟩
theorem lw_p57 : lw_okq (⟨"FootLowerModel", "readNext", "()V"⟩, 26) := ⟨cm_10, cq_10, tb_7 (i := 53) rfl, tb_7 (i := 54) rfl⟩
theorem lw_p58 : lw_okq (⟨"FootLowerModel", "readFolk", "()V"⟩, 26) := ⟨cm_10, cq_10, tb_7 (i := 59) rfl, tb_7 (i := 60) rfl⟩
theorem lw_p59 : lw_okq (⟨"FootLowerModel", "isFolk", "(J)Z"⟩, 26) := ⟨cm_10, cq_10, tb_7 (i := 72) rfl, tb_7 (i := 73) rfl⟩
theorem lw_p60 : lw_okq (⟨"FootLowerModel", "of", "(II)I"⟩, 26) := ⟨cm_10, cq_10, tb_7 (i := 77) rfl, tb_7 (i := 78) rfl⟩
theorem lw_p61 : lw_okq (⟨"FootLowerModel", "isCell", "(J)Z"⟩, 26) := ⟨cm_10, cq_10, tb_7 (i := 85) rfl, tb_7 (i := 86) rfl⟩
theorem lw_p62 : lw_okq (⟨"FootLowerModel", "asItIs", "()V"⟩, 26) := ⟨cm_10, cq_10, tb_7 (i := 89) rfl, tb_7 (i := 90) rfl⟩
theorem lw_p63 : lw_okq (⟨"FootLowerModel", "take0", "()Z"⟩, 26) := ⟨cm_10, cq_10, tb_7 (i := 93) rfl, tb_7 (i := 94) rfl⟩
def lw_privs_4 : List (MethodName × Nat) := [(⟨"FootLowerModel", "see", "(I)I"⟩, 26), (⟨"FootLowerModel", "good", "()Z"⟩, 26), (⟨"FootLowerModel", "readFirst", "()V"⟩, 26), (⟨"FootLowerModel", "needs", "(Ljava/lang/String;)V"⟩, 26), (⟨"FootLowerModel", "takes", "(Ljava/lang/String;)Z"⟩, 26), (⟨"FootLowerModel", "is", "(Ljava/lang/String;)Z"⟩, 26), (⟨"FootLowerModel", "errs", "(I)V"⟩, 26), (⟨"FootLowerModel", "number", "(II)I"⟩, 26), (⟨"FootLowerModel", "told", "(Ljava/lang/String;II)I"⟩, 26), (⟨"FootLowerModel", "readNext", "()V"⟩, 26), (⟨"FootLowerModel", "readFolk", "()V"⟩, 26), (⟨"FootLowerModel", "isFolk", "(J)Z"⟩, 26), (⟨"FootLowerModel", "of", "(II)I"⟩, 26), (⟨"FootLowerModel", "isCell", "(J)Z"⟩, 26), (⟨"FootLowerModel", "asItIs", "()V"⟩, 26), (⟨"FootLowerModel", "take0", "()Z"⟩, 26)]
theorem lw_r4 : ∀ q ∈ lw_privs_4, lw_okq q := List.forall_mem_cons.mpr ⟨lw_p48, List.forall_mem_cons.mpr ⟨lw_p49, List.forall_mem_cons.mpr ⟨lw_p50, List.forall_mem_cons.mpr ⟨lw_p51, List.forall_mem_cons.mpr ⟨lw_p52, List.forall_mem_cons.mpr ⟨lw_p53, List.forall_mem_cons.mpr ⟨lw_p54, List.forall_mem_cons.mpr ⟨lw_p55, List.forall_mem_cons.mpr ⟨lw_p56, List.forall_mem_cons.mpr ⟨lw_p57, List.forall_mem_cons.mpr ⟨lw_p58, List.forall_mem_cons.mpr ⟨lw_p59, List.forall_mem_cons.mpr ⟨lw_p60, List.forall_mem_cons.mpr ⟨lw_p61, List.forall_mem_cons.mpr ⟨lw_p62, List.forall_mem_cons.mpr ⟨lw_p63, fun _ h => absurd h List.not_mem_nil⟩⟩⟩⟩⟩⟩⟩⟩⟩⟩⟩⟩⟩⟩⟩⟩
theorem lw_p64 : lw_okq (⟨"FootLowerModel", "topCell", "()I"⟩, 26) := ⟨cm_10, cq_10, tb_7 (i := 97) rfl, tb_7 (i := 98) rfl⟩
theorem lw_p65 : lw_okq (⟨"FootLowerModel", "heap0", "(I)I"⟩, 26) := ⟨cm_10, cq_10, tb_7 (i := 101) rfl, tb_7 (i := 102) rfl⟩
theorem lw_p66 : lw_okq (⟨"FootLowerModel", "slideOf", "(I)I"⟩, 26) := ⟨cm_10, cq_10, tb_7 (i := 105) rfl, tb_7 (i := 106) rfl⟩
theorem lw_p67 : lw_okq (⟨"FootLowerModel", "falls", "(II)Z"⟩, 26) := ⟨cm_10, cq_10, tb_7 (i := 109) rfl, tb_7 (i := 110) rfl⟩
theorem lw_p68 : lw_okq (⟨"FootLowerModel", "isDark", "(II)Z"⟩, 26) := ⟨cm_10, cq_10, tb_7 (i := 122) rfl, tb_7 (i := 123) rfl⟩
theorem lw_p69 : lw_okq (⟨"FootLowerModel", "lightOf", "(I)I"⟩, 26) := ⟨cm_10, cq_10, tb_7 (i := 133) rfl, tb_7 (i := 134) rfl⟩
theorem lw_p70 : lw_okq (⟨"FootLowerModel", "isMount", "()Z"⟩, 26) := ⟨cm_10, cq_10, tb_7 (i := 141) rfl, tb_7 (i := 142) rfl⟩
theorem lw_p71 : lw_okq (⟨"FootLowerModel", "snowSet", "()I"⟩, 26) := ⟨cm_10, cq_10, tb_7 (i := 149) rfl, tb_7 (i := 150) rfl⟩
theorem lw_p72 : lw_okq (⟨"FootLowerModel", "gainOf", "(I)I"⟩, 26) := ⟨cm_10, cq_10, tb_7 (i := 161) rfl, tb_7 (i := 162) rfl⟩
theorem lw_p73 : lw_okq (⟨"FootLowerModel", "hopesOf", "(II)I"⟩, 26) := ⟨cm_10, cq_10, tb_7 (i := 173) rfl, tb_7 (i := 174) rfl⟩
theorem lw_p74 : lw_okq (⟨"FootLowerModel", "gainOfAll", "()I"⟩, 26) := ⟨cm_10, cq_10, tb_7 (i := 185) rfl, tb_7 (i := 186) rfl⟩
theorem lw_p75 : lw_okq (⟨"FootLowerModel", "keepAct", "(I)V"⟩, 26) := ⟨cm_10, cq_10, tb_7 (i := 193) rfl, tb_7 (i := 194) rfl⟩
theorem lw_p76 : lw_okq (⟨"FootLowerModel", "willingSet", "()I"⟩, 26) := ⟨cm_10, cq_10, tb_7 (i := 217) rfl, tb_7 (i := 218) rfl⟩
theorem lw_p77 : lw_okq (⟨"FootLowerModel", "isSet", "(I)Z"⟩, 26) := ⟨cm_10, cq_10, tb_7 (i := 225) rfl, tb_7 (i := 226) rfl⟩
theorem lw_p78 : lw_okq (⟨"FootLowerModel", "all", "()I"⟩, 26) := ⟨cm_10, cq_10, tb_7 (i := 229) rfl, tb_7 (i := 230) rfl⟩
theorem lw_p79 : lw_okq (⟨"FootLowerModel", "signing", "(II)I"⟩, 26) := ⟨cm_10, cq_10, tb_7 (i := 233) rfl, tb_7 (i := 234) rfl⟩
def lw_privs_5 : List (MethodName × Nat) := [(⟨"FootLowerModel", "topCell", "()I"⟩, 26), (⟨"FootLowerModel", "heap0", "(I)I"⟩, 26), (⟨"FootLowerModel", "slideOf", "(I)I"⟩, 26), (⟨"FootLowerModel", "falls", "(II)Z"⟩, 26), (⟨"FootLowerModel", "isDark", "(II)Z"⟩, 26), (⟨"FootLowerModel", "lightOf", "(I)I"⟩, 26), (⟨"FootLowerModel", "isMount", "()Z"⟩, 26), (⟨"FootLowerModel", "snowSet", "()I"⟩, 26), (⟨"FootLowerModel", "gainOf", "(I)I"⟩, 26), (⟨"FootLowerModel", "hopesOf", "(II)I"⟩, 26), (⟨"FootLowerModel", "gainOfAll", "()I"⟩, 26), (⟨"FootLowerModel", "keepAct", "(I)V"⟩, 26), (⟨"FootLowerModel", "willingSet", "()I"⟩, 26), (⟨"FootLowerModel", "isSet", "(I)Z"⟩, 26), (⟨"FootLowerModel", "all", "()I"⟩, 26), (⟨"FootLowerModel", "signing", "(II)I"⟩, 26)]
theorem lw_r5 : ∀ q ∈ lw_privs_5, lw_okq q := List.forall_mem_cons.mpr ⟨lw_p64, List.forall_mem_cons.mpr ⟨lw_p65, List.forall_mem_cons.mpr ⟨lw_p66, List.forall_mem_cons.mpr ⟨lw_p67, List.forall_mem_cons.mpr ⟨lw_p68, List.forall_mem_cons.mpr ⟨lw_p69, List.forall_mem_cons.mpr ⟨lw_p70, List.forall_mem_cons.mpr ⟨lw_p71, List.forall_mem_cons.mpr ⟨lw_p72, List.forall_mem_cons.mpr ⟨lw_p73, List.forall_mem_cons.mpr ⟨lw_p74, List.forall_mem_cons.mpr ⟨lw_p75, List.forall_mem_cons.mpr ⟨lw_p76, List.forall_mem_cons.mpr ⟨lw_p77, List.forall_mem_cons.mpr ⟨lw_p78, List.forall_mem_cons.mpr ⟨lw_p79, fun _ h => absurd h List.not_mem_nil⟩⟩⟩⟩⟩⟩⟩⟩⟩⟩⟩⟩⟩⟩⟩⟩
theorem lw_p80 : lw_okq (⟨"FootLowerModel", "namesOf", "(I)I"⟩, 26) := ⟨cm_10, cq_10, tb_8 (i := 4) rfl, tb_8 (i := 5) rfl⟩
theorem lw_p81 : lw_okq (⟨"FootLowerModel", "firstSet", "()I"⟩, 26) := ⟨cm_10, cq_10, tb_8 (i := 12) rfl, tb_8 (i := 13) rfl⟩
theorem lw_p82 : lw_okq (⟨"FootLowerModel", "isEnough", "(I)Z"⟩, 26) := ⟨cm_10, cq_10, tb_8 (i := 16) rfl, tb_8 (i := 17) rfl⟩
theorem lw_p83 : lw_okq (⟨"FootLowerModel", "playBy", "(II)Z"⟩, 26) := ⟨cm_10, cq_10, tb_8 (i := 37) rfl, tb_8 (i := 38) rfl⟩
theorem lw_p84 : lw_okq (⟨"FootLowerModel", "endBy", "(IIIII)Z"⟩, 26) := ⟨cm_10, cq_10, tb_8 (i := 44) rfl, tb_8 (i := 45) rfl⟩
theorem lw_p85 : lw_okq (⟨"FootLowerModel", "isRound", "(II)Z"⟩, 26) := ⟨cm_10, cq_10, tb_8 (i := 59) rfl, tb_8 (i := 60) rfl⟩
theorem lw_p86 : lw_okq (⟨"FootLowerModel", "roundOf", "(II)I"⟩, 26) := ⟨cm_10, cq_10, tb_8 (i := 64) rfl, tb_8 (i := 65) rfl⟩
theorem lw_p87 : lw_okq (⟨"FootLowerModel", "namesOn", "(IIIII)I"⟩, 26) := ⟨cm_10, cq_10, tb_8 (i := 72) rfl, tb_8 (i := 73) rfl⟩
theorem lw_p88 : lw_okq (⟨"FootLowerModel", "flowOf", "(I)I"⟩, 26) := ⟨cm_10, cq_10, tb_8 (i := 89) rfl, tb_8 (i := 90) rfl⟩
theorem lw_p89 : lw_okq (⟨"FootLowerModel", "isLower", "(II)Z"⟩, 26) := ⟨cm_10, cq_10, tb_8 (i := 93) rfl, tb_8 (i := 94) rfl⟩
theorem lw_p90 : lw_okq (⟨"FootLowerModel", "seenFrom", "(I)I"⟩, 26) := ⟨cm_10, cq_10, tb_8 (i := 113) rfl, tb_8 (i := 114) rfl⟩
theorem lw_p91 : lw_okq (⟨"FootLowerModel", "isSeen", "(II)Z"⟩, 26) := ⟨cm_10, cq_10, tb_8 (i := 117) rfl, tb_8 (i := 118) rfl⟩
theorem lw_p92 : lw_okq (⟨"FootLowerModel", "votesFor", "(II)I"⟩, 26) := ⟨cm_10, cq_10, tb_8 (i := 129) rfl, tb_8 (i := 130) rfl⟩
theorem lw_p93 : lw_okq (⟨"FootLowerModel", "shapeOf", "(I)I"⟩, 26) := ⟨cm_10, cq_10, tb_8 (i := 147) rfl, tb_8 (i := 148) rfl⟩
theorem lw_p94 : lw_okq (⟨"FootLowerModel", "takeRow", "(I)I"⟩, 26) := ⟨cm_10, cq_10, tb_8 (i := 151) rfl, tb_8 (i := 152) rfl⟩
theorem lw_p95 : lw_okq (⟨"FootLowerModel", "nextRow", "(I)Z"⟩, 26) := ⟨cm_10, cq_10, tb_8 (i := 155) rfl, tb_8 (i := 156) rfl⟩
def lw_privs_6 : List (MethodName × Nat) := [(⟨"FootLowerModel", "namesOf", "(I)I"⟩, 26), (⟨"FootLowerModel", "firstSet", "()I"⟩, 26), (⟨"FootLowerModel", "isEnough", "(I)Z"⟩, 26), (⟨"FootLowerModel", "playBy", "(II)Z"⟩, 26), (⟨"FootLowerModel", "endBy", "(IIIII)Z"⟩, 26), (⟨"FootLowerModel", "isRound", "(II)Z"⟩, 26), (⟨"FootLowerModel", "roundOf", "(II)I"⟩, 26), (⟨"FootLowerModel", "namesOn", "(IIIII)I"⟩, 26), (⟨"FootLowerModel", "flowOf", "(I)I"⟩, 26), (⟨"FootLowerModel", "isLower", "(II)Z"⟩, 26), (⟨"FootLowerModel", "seenFrom", "(I)I"⟩, 26), (⟨"FootLowerModel", "isSeen", "(II)Z"⟩, 26), (⟨"FootLowerModel", "votesFor", "(II)I"⟩, 26), (⟨"FootLowerModel", "shapeOf", "(I)I"⟩, 26), (⟨"FootLowerModel", "takeRow", "(I)I"⟩, 26), (⟨"FootLowerModel", "nextRow", "(I)Z"⟩, 26)]
theorem lw_r6 : ∀ q ∈ lw_privs_6, lw_okq q := List.forall_mem_cons.mpr ⟨lw_p80, List.forall_mem_cons.mpr ⟨lw_p81, List.forall_mem_cons.mpr ⟨lw_p82, List.forall_mem_cons.mpr ⟨lw_p83, List.forall_mem_cons.mpr ⟨lw_p84, List.forall_mem_cons.mpr ⟨lw_p85, List.forall_mem_cons.mpr ⟨lw_p86, List.forall_mem_cons.mpr ⟨lw_p87, List.forall_mem_cons.mpr ⟨lw_p88, List.forall_mem_cons.mpr ⟨lw_p89, List.forall_mem_cons.mpr ⟨lw_p90, List.forall_mem_cons.mpr ⟨lw_p91, List.forall_mem_cons.mpr ⟨lw_p92, List.forall_mem_cons.mpr ⟨lw_p93, List.forall_mem_cons.mpr ⟨lw_p94, List.forall_mem_cons.mpr ⟨lw_p95, fun _ h => absurd h List.not_mem_nil⟩⟩⟩⟩⟩⟩⟩⟩⟩⟩⟩⟩⟩⟩⟩⟩
theorem lw_p96 : lw_okq (⟨"FootLowerModel", "isLaw", "(I)Z"⟩, 26) := ⟨cm_10, cq_10, tb_8 (i := 175) rfl, tb_8 (i := 176) rfl⟩
theorem lw_p97 : lw_okq (⟨"FootLowerModel", "goCourse", "(I)I"⟩, 26) := ⟨cm_10, cq_10, tb_8 (i := 180) rfl, tb_8 (i := 181) rfl⟩
theorem lw_p98 : lw_okq (⟨"FootLowerModel", "asksOld", "(I)I"⟩, 26) := ⟨cm_10, cq_10, tb_8 (i := 201) rfl, tb_8 (i := 202) rfl⟩
theorem lw_p99 : lw_okq (⟨"FootLowerModel", "numberAt", "(II)J"⟩, 26) := ⟨cm_10, cq_10, tb_8 (i := 208) rfl, tb_8 (i := 209) rfl⟩
theorem lw_p100 : lw_okq (⟨"FootLowerModel", "oldBy", "(II)I"⟩, 26) := ⟨cm_10, cq_10, tb_8 (i := 212) rfl, tb_8 (i := 213) rfl⟩
theorem lw_p101 : lw_okq (⟨"FootLowerModel", "wasDark", "(III)Z"⟩, 26) := ⟨cm_10, cq_10, tb_8 (i := 216) rfl, tb_8 (i := 217) rfl⟩
theorem lw_p102 : lw_okq (⟨"FootLowerModel", "askOf", "(II)I"⟩, 26) := ⟨cm_10, cq_10, tb_8 (i := 224) rfl, tb_8 (i := 225) rfl⟩
theorem lw_p103 : lw_okq (⟨"FootLowerModel", "asksNames", "(IZ)I"⟩, 26) := ⟨cm_10, cq_10, tb_9 (i := 0) rfl, tb_9 (i := 1) rfl⟩
theorem lw_p104 : lw_okq (⟨"FootLowerModel", "hasName", "(II)Z"⟩, 26) := ⟨cm_10, cq_10, tb_9 (i := 4) rfl, tb_9 (i := 5) rfl⟩
theorem lw_p105 : lw_okq (⟨"FootLowerModel", "isThere", "(II)Z"⟩, 26) := ⟨cm_10, cq_10, tb_9 (i := 8) rfl, tb_9 (i := 9) rfl⟩
theorem lw_p106 : lw_okq (⟨"FootLowerModel", "areMonths", "(II)Z"⟩, 26) := ⟨cm_10, cq_10, tb_9 (i := 20) rfl, tb_9 (i := 21) rfl⟩
theorem lw_p107 : lw_okq (⟨"FootLowerModel", "goMonths", "(JI)I"⟩, 26) := ⟨cm_10, cq_10, tb_9 (i := 25) rfl, tb_9 (i := 26) rfl⟩
def lw_privs_7 : List (MethodName × Nat) := [(⟨"FootLowerModel", "isLaw", "(I)Z"⟩, 26), (⟨"FootLowerModel", "goCourse", "(I)I"⟩, 26), (⟨"FootLowerModel", "asksOld", "(I)I"⟩, 26), (⟨"FootLowerModel", "numberAt", "(II)J"⟩, 26), (⟨"FootLowerModel", "oldBy", "(II)I"⟩, 26), (⟨"FootLowerModel", "wasDark", "(III)Z"⟩, 26), (⟨"FootLowerModel", "askOf", "(II)I"⟩, 26), (⟨"FootLowerModel", "asksNames", "(IZ)I"⟩, 26), (⟨"FootLowerModel", "hasName", "(II)Z"⟩, 26), (⟨"FootLowerModel", "isThere", "(II)Z"⟩, 26), (⟨"FootLowerModel", "areMonths", "(II)Z"⟩, 26), (⟨"FootLowerModel", "goMonths", "(JI)I"⟩, 26)]
theorem lw_r7 : ∀ q ∈ lw_privs_7, lw_okq q := List.forall_mem_cons.mpr ⟨lw_p96, List.forall_mem_cons.mpr ⟨lw_p97, List.forall_mem_cons.mpr ⟨lw_p98, List.forall_mem_cons.mpr ⟨lw_p99, List.forall_mem_cons.mpr ⟨lw_p100, List.forall_mem_cons.mpr ⟨lw_p101, List.forall_mem_cons.mpr ⟨lw_p102, List.forall_mem_cons.mpr ⟨lw_p103, List.forall_mem_cons.mpr ⟨lw_p104, List.forall_mem_cons.mpr ⟨lw_p105, List.forall_mem_cons.mpr ⟨lw_p106, List.forall_mem_cons.mpr ⟨lw_p107, fun _ h => absurd h List.not_mem_nil⟩⟩⟩⟩⟩⟩⟩⟩⟩⟩⟩⟩
def lw_privs : List (MethodName × Nat) := lw_privs_1 ++ (lw_privs_2 ++ (lw_privs_3 ++ (lw_privs_4 ++ (lw_privs_5 ++ (lw_privs_6 ++ (lw_privs_7))))))
def lw_tbl : List Cond := k2_sels lw_privs ++ tables_1
theorem lw_privs_ok : ∀ q ∈ lw_privs, lw_okq q := by
  show ∀ q ∈ lw_privs_1 ++ (lw_privs_2 ++ (lw_privs_3 ++ (lw_privs_4 ++ (lw_privs_5 ++ (lw_privs_6 ++ (lw_privs_7)))))), lw_okq q
  exact List.forall_mem_append.mpr ⟨lw_r1, List.forall_mem_append.mpr ⟨lw_r2, List.forall_mem_append.mpr ⟨lw_r3, List.forall_mem_append.mpr ⟨lw_r4, List.forall_mem_append.mpr ⟨lw_r5, List.forall_mem_append.mpr ⟨lw_r6, lw_r7⟩⟩⟩⟩⟩⟩
end
section
def RX0 : String := "FootLower$Course"
def TX0 : u_T := fun k => match k with
  | 0 => ("FootLower$Course", "mountain", "LFootLower$Mountain;", true)
  | _ => ("FootLower$Course", "trial", "LFootLower$Ground;", true)
def tyX0 : Nat → FieldType := fun k => match k with
  | 0 => .object "FootLower$Mountain"
  | _ => .object "FootLower$Ground"
theorem nmX0 : ∀ a, a < 2 → ∀ b, b < 2 → a ≠ b → (TX0 a).2.1 ≠ (TX0 b).2.1 := by decide +kernel
theorem tyX0_ok : ∀ k, k < 2 → parseFieldDescriptor (TX0 k).2.2.1 = some (tyX0 k) := by decide +kernel
abbrev cX0_init : ByteArray := prog_2_method_1_code
def yX0_init : MethodName := ⟨RX0, "<init>", "(LFootLower$Mountain;LFootLower$Ground;)V"⟩
abbrev cX0_gainAfter : ByteArray := prog_2_method_2_code
def yX0_gainAfter : MethodName := ⟨RX0, "gainAfter", "(II)I"⟩
abbrev cX0_wishedFeet : ByteArray := prog_2_method_3_code
def yX0_wishedFeet : MethodName := ⟨RX0, "wishedFeet", "(I)I"⟩
abbrev cX0_namesOnTrial : ByteArray := prog_2_method_4_code
def yX0_namesOnTrial : MethodName := ⟨RX0, "namesOnTrial", "()I"⟩
abbrev cX0_followLaw : ByteArray := prog_2_method_5_code
def yX0_followLaw : MethodName := ⟨RX0, "followLaw", "(I)I"⟩
abbrev cX0_greatestLaw : ByteArray := prog_2_method_6_code
def yX0_greatestLaw : MethodName := ⟨RX0, "greatestLaw", "(I)I"⟩
abbrev cX0_drawMonths : ByteArray := prog_2_method_7_code
def yX0_drawMonths : MethodName := ⟨RX0, "drawMonths", "(III)I"⟩
def RX1 : String := "FootLower$Ground"
def TX1 : u_T := fun k => match k with
  | 0 => ("FootLower$Ground", "heights", "[I", true)
  | 1 => ("FootLower$Ground", "cells", "I", false)
  | 2 => ("FootLower$Ground", "snowLine", "I", false)
  | 3 => ("FootLower$Ground", "rest", "I", false)
  | _ => ("FootLower$Ground", "lastSide", "Z", false)
def tyX1 : Nat → FieldType := fun k => match k with
  | 0 => .array .int
  | 1 => .int
  | 2 => .int
  | 3 => .int
  | _ => .boolean
theorem nmX1 : ∀ a, a < 5 → ∀ b, b < 5 → a ≠ b → (TX1 a).2.1 ≠ (TX1 b).2.1 := by decide +kernel
theorem tyX1_ok : ∀ k, k < 5 → parseFieldDescriptor (TX1 k).2.2.1 = some (tyX1 k) := by decide +kernel
abbrev cX1_init : ByteArray := prog_3_method_1_code
def yX1_init : MethodName := ⟨RX1, "<init>", "()V"⟩
abbrev cX1_clear : ByteArray := prog_3_method_2_code
def yX1_clear : MethodName := ⟨RX1, "clear", "()V"⟩
abbrev cX1_copyFrom : ByteArray := prog_3_method_3_code
def yX1_copyFrom : MethodName := ⟨RX1, "copyFrom", "(LFootLower$Ground;)V"⟩
abbrev cX1_addCell : ByteArray := prog_3_method_4_code
def yX1_addCell : MethodName := ⟨RX1, "addCell", "(I)V"⟩
abbrev cX1_has : ByteArray := prog_3_method_5_code
def yX1_has : MethodName := ⟨RX1, "has", "(I)Z"⟩
abbrev cX1_heightOf : ByteArray := prog_3_method_6_code
def yX1_heightOf : MethodName := ⟨RX1, "heightOf", "(I)I"⟩
abbrev cX1_change : ByteArray := prog_3_method_7_code
def yX1_change : MethodName := ⟨RX1, "change", "(II)V"⟩
abbrev cX1_topCell : ByteArray := prog_3_method_8_code
def yX1_topCell : MethodName := ⟨RX1, "topCell", "()I"⟩
abbrev cX1_topHeight : ByteArray := prog_3_method_9_code
def yX1_topHeight : MethodName := ⟨RX1, "topHeight", "()I"⟩
abbrev cX1_feetInAll : ByteArray := prog_3_method_10_code
def yX1_feetInAll : MethodName := ⟨RX1, "feetInAll", "()I"⟩
abbrev cX1_shadedHours : ByteArray := prog_3_method_11_code
def yX1_shadedHours : MethodName := ⟨RX1, "shadedHours", "(II)I"⟩
abbrev cX1_isShaded : ByteArray := prog_3_method_12_code
def yX1_isShaded : MethodName := ⟨RX1, "isShaded", "(II)Z"⟩
abbrev cX1_lightOf : ByteArray := prog_3_method_13_code
def yX1_lightOf : MethodName := ⟨RX1, "lightOf", "(I)I"⟩
abbrev cX1_shadedCells : ByteArray := prog_3_method_14_code
def yX1_shadedCells : MethodName := ⟨RX1, "shadedCells", "(I)I"⟩
abbrev cX1_snowyCells : ByteArray := prog_3_method_15_code
def yX1_snowyCells : MethodName := ⟨RX1, "snowyCells", "()I"⟩
abbrev cX1_lower : ByteArray := prog_3_method_16_code
def yX1_lower : MethodName := ⟨RX1, "lower", "()Z"⟩
abbrev cX1_wayDown : ByteArray := prog_3_method_17_code
def yX1_wayDown : MethodName := ⟨RX1, "wayDown", "(II)I"⟩
abbrev cX1_descend : ByteArray := prog_3_method_18_code
def yX1_descend : MethodName := ⟨RX1, "descend", "(II)I"⟩
abbrev cX1_waterEnd : ByteArray := prog_3_method_19_code
def yX1_waterEnd : MethodName := ⟨RX1, "waterEnd", "(I)I"⟩
abbrev cX1_stayOf : ByteArray := prog_3_method_20_code
def yX1_stayOf : MethodName := ⟨RX1, "stayOf", "(I)I"⟩
abbrev cX1_drainedTo : ByteArray := prog_3_method_21_code
def yX1_drainedTo : MethodName := ⟨RX1, "drainedTo", "(I)I"⟩
abbrev cX1_waterEnds : ByteArray := prog_3_method_22_code
def yX1_waterEnds : MethodName := ⟨RX1, "waterEnds", "()I"⟩
abbrev cX1_cliffPairs : ByteArray := prog_3_method_23_code
def yX1_cliffPairs : MethodName := ⟨RX1, "cliffPairs", "()I"⟩
abbrev cX1_seenFrom : ByteArray := prog_3_method_24_code
def yX1_seenFrom : MethodName := ⟨RX1, "seenFrom", "(I)I"⟩
abbrev cX1_isOpen : ByteArray := prog_3_method_25_code
def yX1_isOpen : MethodName := ⟨RX1, "isOpen", "(II)Z"⟩
abbrev cX1_bestLookout : ByteArray := prog_3_method_26_code
def yX1_bestLookout : MethodName := ⟨RX1, "bestLookout", "()I"⟩
def RX2 : String := "FootLower$Mountain"
def TX2 : u_T := fun k => match k with
  | 0 => ("FootLower$Mountain", "ground", "LFootLower$Ground;", true)
  | 1 => ("FootLower$Mountain", "people", "LFootLower$People;", true)
  | 2 => ("FootLower$Mountain", "acts", "[I", true)
  | 3 => ("FootLower$Mountain", "actCount", "I", false)
  | 4 => ("FootLower$Mountain", "lawNames", "I", false)
  | 5 => ("FootLower$Mountain", "heapCell", "I", false)
  | _ => ("FootLower$Mountain", "lines", "I", false)
def tyX2 : Nat → FieldType := fun k => match k with
  | 0 => .object "FootLower$Ground"
  | 1 => .object "FootLower$People"
  | 2 => .array .int
  | 3 => .int
  | 4 => .int
  | 5 => .int
  | _ => .int
theorem nmX2 : ∀ a, a < 7 → ∀ b, b < 7 → a ≠ b → (TX2 a).2.1 ≠ (TX2 b).2.1 := by decide +kernel
theorem tyX2_ok : ∀ k, k < 7 → parseFieldDescriptor (TX2 k).2.2.1 = some (tyX2 k) := by decide +kernel
abbrev cX2_init : ByteArray := prog_4_method_1_code
def yX2_init : MethodName := ⟨RX2, "<init>", "()V"⟩
abbrev cX2_clear : ByteArray := prog_4_method_2_code
def yX2_clear : MethodName := ⟨RX2, "clear", "()V"⟩
abbrev cX2_copyFrom : ByteArray := prog_4_method_3_code
def yX2_copyFrom : MethodName := ⟨RX2, "copyFrom", "(LFootLower$Mountain;)V"⟩
abbrev cX2_isTold : ByteArray := prog_4_method_4_code
def yX2_isTold : MethodName := ⟨RX2, "isTold", "()Z"⟩
abbrev cX2_hasSet : ByteArray := prog_4_method_5_code
def yX2_hasSet : MethodName := ⟨RX2, "hasSet", "(I)Z"⟩
abbrev cX2_hasRoomForAct : ByteArray := prog_4_method_6_code
def yX2_hasRoomForAct : MethodName := ⟨RX2, "hasRoomForAct", "()Z"⟩
abbrev cX2_act : ByteArray := prog_4_method_7_code
def yX2_act : MethodName := ⟨RX2, "act", "(II)V"⟩
abbrev cX2_takeBack : ByteArray := prog_4_method_8_code
def yX2_takeBack : MethodName := ⟨RX2, "takeBack", "()Z"⟩
abbrev cX2_isEnough : ByteArray := prog_4_method_9_code
def yX2_isEnough : MethodName := ⟨RX2, "isEnough", "(II)Z"⟩
def RX3 : String := "FootLower$People"
def TX3 : u_T := fun k => match k with
  | 0 => ("FootLower$People", "facts", "[I", true)
  | 1 => ("FootLower$People", "gainsBefore", "[I", true)
  | 2 => ("FootLower$People", "gainsAfter", "[I", true)
  | _ => ("FootLower$People", "size", "I", false)
def tyX3 : Nat → FieldType := fun k => match k with
  | 0 => .array .int
  | 1 => .array .int
  | 2 => .array .int
  | _ => .int
theorem nmX3 : ∀ a, a < 4 → ∀ b, b < 4 → a ≠ b → (TX3 a).2.1 ≠ (TX3 b).2.1 := by decide +kernel
theorem tyX3_ok : ∀ k, k < 4 → parseFieldDescriptor (TX3 k).2.2.1 = some (tyX3 k) := by decide +kernel
abbrev cX3_init : ByteArray := prog_5_method_1_code
def yX3_init : MethodName := ⟨RX3, "<init>", "()V"⟩
abbrev cX3_clear : ByteArray := prog_5_method_2_code
def yX3_clear : MethodName := ⟨RX3, "clear", "()V"⟩
abbrev cX3_copyFrom : ByteArray := prog_5_method_3_code
def yX3_copyFrom : MethodName := ⟨RX3, "copyFrom", "(LFootLower$People;)V"⟩
abbrev cX3_has : ByteArray := prog_5_method_4_code
def yX3_has : MethodName := ⟨RX3, "has", "(I)Z"⟩
abbrev cX3_fact : ByteArray := prog_5_method_5_code
def yX3_fact : MethodName := ⟨RX3, "fact", "(II)I"⟩
abbrev cX3_setFact : ByteArray := prog_5_method_6_code
def yX3_setFact : MethodName := ⟨RX3, "setFact", "(III)V"⟩
abbrev cX3_befriend : ByteArray := prog_5_method_7_code
def yX3_befriend : MethodName := ⟨RX3, "befriend", "(II)V"⟩
abbrev cX3_gainOn : ByteArray := prog_5_method_8_code
def yX3_gainOn : MethodName := ⟨RX3, "gainOn", "(LFootLower$Ground;I)I"⟩
abbrev cX3_gainsOn : ByteArray := prog_5_method_9_code
def yX3_gainsOn : MethodName := ⟨RX3, "gainsOn", "(LFootLower$Ground;)I"⟩
abbrev cX3_fillGains : ByteArray := prog_5_method_10_code
def yX3_fillGains : MethodName := ⟨RX3, "fillGains", "(LFootLower$Ground;[II)V"⟩
abbrev cX3_gainersBy : ByteArray := prog_5_method_11_code
def yX3_gainersBy : MethodName := ⟨RX3, "gainersBy", "(LFootLower$Ground;I)I"⟩
abbrev cX3_signersOf : ByteArray := prog_5_method_12_code
def yX3_signersOf : MethodName := ⟨RX3, "signersOf", "(II)I"⟩
abbrev cX3_namesOf : ByteArray := prog_5_method_13_code
def yX3_namesOf : MethodName := ⟨RX3, "namesOf", "(I)I"⟩
abbrev cX3_isRoll : ByteArray := prog_5_method_14_code
def yX3_isRoll : MethodName := ⟨RX3, "isRoll", "(LFootLower$Slots;I)Z"⟩
abbrev cX3_standing : ByteArray := prog_5_method_15_code
def yX3_standing : MethodName := ⟨RX3, "standing", "(LFootLower$Slots;II)I"⟩
abbrev cX3_howStands : ByteArray := prog_5_method_16_code
def yX3_howStands : MethodName := ⟨RX3, "howStands", "(LFootLower$Slots;II)I"⟩
def RX4 : String := "FootLower$Petition"
def TX4 : u_T := fun k => match k with
  | 0 => ("FootLower$Petition", "mountain", "LFootLower$Mountain;", true)
  | 1 => ("FootLower$Petition", "outcomes", "[B", true)
  | 2 => ("FootLower$Petition", "willing", "I", false)
  | 3 => ("FootLower$Petition", "turns", "I", false)
  | _ => ("FootLower$Petition", "starter", "I", false)
def tyX4 : Nat → FieldType := fun k => match k with
  | 0 => .object "FootLower$Mountain"
  | 1 => .array .byte
  | 2 => .int
  | 3 => .int
  | _ => .int
theorem nmX4 : ∀ a, a < 5 → ∀ b, b < 5 → a ≠ b → (TX4 a).2.1 ≠ (TX4 b).2.1 := by decide +kernel
theorem tyX4_ok : ∀ k, k < 5 → parseFieldDescriptor (TX4 k).2.2.1 = some (tyX4 k) := by decide +kernel
abbrev cX4_init : ByteArray := prog_6_method_1_code
def yX4_init : MethodName := ⟨RX4, "<init>", "(LFootLower$Mountain;)V"⟩
abbrev cX4_signersOfWon : ByteArray := prog_6_method_2_code
def yX4_signersOfWon : MethodName := ⟨RX4, "signersOfWon", "(I)I"⟩
abbrev cX4_fewestSet : ByteArray := prog_6_method_3_code
def yX4_fewestSet : MethodName := ⟨RX4, "fewestSet", "()I"⟩
abbrev cX4_bestBeside : ByteArray := prog_6_method_4_code
def yX4_bestBeside : MethodName := ⟨RX4, "bestBeside", "(I)I"⟩
abbrev cX4_neededFolk : ByteArray := prog_6_method_5_code
def yX4_neededFolk : MethodName := ⟨RX4, "neededFolk", "()I"⟩
abbrev cX4_playOut : ByteArray := prog_6_method_6_code
def yX4_playOut : MethodName := ⟨RX4, "playOut", "(II)Z"⟩
abbrev cX4_firstMove : ByteArray := prog_6_method_7_code
def yX4_firstMove : MethodName := ⟨RX4, "firstMove", "(II)I"⟩
abbrev cX4_begin : ByteArray := prog_6_method_8_code
def yX4_begin : MethodName := ⟨RX4, "begin", "(II)V"⟩
abbrev cX4_winsNow : ByteArray := prog_6_method_9_code
def yX4_winsNow : MethodName := ⟨RX4, "winsNow", "(I)Z"⟩
abbrev cX4_comesOut : ByteArray := prog_6_method_10_code
def yX4_comesOut : MethodName := ⟨RX4, "comesOut", "(IIII)Z"⟩
abbrev cX4_canReach : ByteArray := prog_6_method_11_code
def yX4_canReach : MethodName := ⟨RX4, "canReach", "(ZIIII)Z"⟩
abbrev cX4_comesOutBy : ByteArray := prog_6_method_12_code
def yX4_comesOutBy : MethodName := ⟨RX4, "comesOutBy", "(IIIII)Z"⟩
def RX5 : String := "FootLower$Reader"
def TX5 : u_T := fun k => match k with
  | 0 => ("FootLower$Reader", "tape", "LFootLower$Tape;", true)
  | 1 => ("FootLower$Reader", "told", "LFootLower$Mountain;", true)
  | 2 => ("FootLower$Reader", "upcoming", "I", false)
  | 3 => ("FootLower$Reader", "kind", "I", false)
  | 4 => ("FootLower$Reader", "place", "I", false)
  | 5 => ("FootLower$Reader", "value", "I", false)
  | 6 => ("FootLower$Reader", "faultKind", "I", false)
  | _ => ("FootLower$Reader", "faultPlace", "I", false)
def tyX5 : Nat → FieldType := fun k => match k with
  | 0 => .object "FootLower$Tape"
  | 1 => .object "FootLower$Mountain"
  | 2 => .int
  | 3 => .int
  | 4 => .int
  | 5 => .int
  | 6 => .int
  | _ => .int
theorem nmX5 : ∀ a, a < 8 → ∀ b, b < 8 → a ≠ b → (TX5 a).2.1 ≠ (TX5 b).2.1 := by decide +kernel
theorem tyX5_ok : ∀ k, k < 8 → parseFieldDescriptor (TX5 k).2.2.1 = some (tyX5 k) := by decide +kernel
abbrev cX5_init : ByteArray := prog_7_method_1_code
def yX5_init : MethodName := ⟨RX5, "<init>", "(LFootLower$Tape;)V"⟩
abbrev cX5_readAll : ByteArray := prog_7_method_2_code
def yX5_readAll : MethodName := ⟨RX5, "readAll", "()Z"⟩
abbrev cX5_advance : ByteArray := prog_7_method_3_code
def yX5_advance : MethodName := ⟨RX5, "advance", "()V"⟩
abbrev cX5_refuse : ByteArray := prog_7_method_4_code
def yX5_refuse : MethodName := ⟨RX5, "refuse", "(I)Z"⟩
abbrev cX5_pass : ByteArray := prog_7_method_5_code
def yX5_pass : MethodName := ⟨RX5, "pass", "(I)Z"⟩
abbrev cX5_isNumber : ByteArray := prog_7_method_6_code
def yX5_isNumber : MethodName := ⟨RX5, "isNumber", "(II)Z"⟩
abbrev cX5_passNumber : ByteArray := prog_7_method_7_code
def yX5_passNumber : MethodName := ⟨RX5, "passNumber", "()I"⟩
abbrev cX5_readLine : ByteArray := prog_7_method_8_code
def yX5_readLine : MethodName := ⟨RX5, "readLine", "()Z"⟩
abbrev cX5_readMountain : ByteArray := prog_7_method_9_code
def yX5_readMountain : MethodName := ⟨RX5, "readMountain", "()Z"⟩
abbrev cX5_readHeights : ByteArray := prog_7_method_10_code
def yX5_readHeights : MethodName := ⟨RX5, "readHeights", "(LFootLower$Ground;)Z"⟩
abbrev cX5_readFolk : ByteArray := prog_7_method_11_code
def yX5_readFolk : MethodName := ⟨RX5, "readFolk", "()Z"⟩
abbrev cX5_readFact : ByteArray := prog_7_method_12_code
def yX5_readFact : MethodName := ⟨RX5, "readFact", "(IIIII)Z"⟩
abbrev cX5_readTalk : ByteArray := prog_7_method_13_code
def yX5_readTalk : MethodName := ⟨RX5, "readTalk", "(I)Z"⟩
abbrev cX5_readHeap : ByteArray := prog_7_method_14_code
def yX5_readHeap : MethodName := ⟨RX5, "readHeap", "()Z"⟩
def RX6 : String := "FootLower$Shadows"
def TX6 : u_T := fun k => match k with
  | 0 => ("FootLower$Shadows", "mountain", "LFootLower$Mountain;", true)
  | 1 => ("FootLower$Shadows", "slots", "LFootLower$Slots;", true)
  | 2 => ("FootLower$Shadows", "trial", "LFootLower$Ground;", true)
  | 3 => ("FootLower$Shadows", "misses", "[I", true)
  | 4 => ("FootLower$Shadows", "missed", "[I", true)
  | 5 => ("FootLower$Shadows", "shadedOnes", "[I", true)
  | 6 => ("FootLower$Shadows", "rows", "I", false)
  | 7 => ("FootLower$Shadows", "possible", "I", false)
  | _ => ("FootLower$Shadows", "leftAtWorst", "I", false)
def tyX6 : Nat → FieldType := fun k => match k with
  | 0 => .object "FootLower$Mountain"
  | 1 => .object "FootLower$Slots"
  | 2 => .object "FootLower$Ground"
  | 3 => .array .int
  | 4 => .array .int
  | 5 => .array .int
  | 6 => .int
  | 7 => .int
  | _ => .int
theorem nmX6 : ∀ a, a < 9 → ∀ b, b < 9 → a ≠ b → (TX6 a).2.1 ≠ (TX6 b).2.1 := by decide +kernel
theorem tyX6_ok : ∀ k, k < 9 → parseFieldDescriptor (TX6 k).2.2.1 = some (tyX6 k) := by decide +kernel
abbrev cX6_init : ByteArray := prog_8_method_1_code
def yX6_init : MethodName := ⟨RX6, "<init>", "(LFootLower$Mountain;LFootLower$Slots;LFootLower$Ground;)V"⟩
abbrev cX6_load : ByteArray := prog_8_method_2_code
def yX6_load : MethodName := ⟨RX6, "load", "(I)I"⟩
abbrev cX6_isSighting : ByteArray := prog_8_method_3_code
def yX6_isSighting : MethodName := ⟨RX6, "isSighting", "(I)Z"⟩
abbrev cX6_countMisses : ByteArray := prog_8_method_4_code
def yX6_countMisses : MethodName := ⟨RX6, "countMisses", "(II)V"⟩
abbrev cX6_hourToMeasure : ByteArray := prog_8_method_5_code
def yX6_hourToMeasure : MethodName := ⟨RX6, "hourToMeasure", "(I)I"⟩
abbrev cX6_countShaded : ByteArray := prog_8_method_6_code
def yX6_countShaded : MethodName := ⟨RX6, "countShaded", "(I)V"⟩
abbrev cX6_addShaded : ByteArray := prog_8_method_7_code
def yX6_addShaded : MethodName := ⟨RX6, "addShaded", "(II)V"⟩
abbrev cX6_doubtful : ByteArray := prog_8_method_8_code
def yX6_doubtful : MethodName := ⟨RX6, "doubtful", "()I"⟩
abbrev cX6_isOnlyMiss : ByteArray := prog_8_method_9_code
def yX6_isOnlyMiss : MethodName := ⟨RX6, "isOnlyMiss", "(I)Z"⟩
def RX7 : String := "FootLower$Shaper"
def TX7 : u_T := fun k => match k with
  | 0 => ("FootLower$Shaper", "mountain", "LFootLower$Mountain;", true)
  | 1 => ("FootLower$Shaper", "trial", "LFootLower$Ground;", true)
  | 2 => ("FootLower$Shaper", "weights", "[I", true)
  | 3 => ("FootLower$Shaper", "way", "[I", true)
  | 4 => ("FootLower$Shaper", "bestWay", "[I", true)
  | 5 => ("FootLower$Shaper", "bestGains", "I", false)
  | _ => ("FootLower$Shaper", "found", "Z", false)
def tyX7 : Nat → FieldType := fun k => match k with
  | 0 => .object "FootLower$Mountain"
  | 1 => .object "FootLower$Ground"
  | 2 => .array .int
  | 3 => .array .int
  | 4 => .array .int
  | 5 => .int
  | _ => .boolean
theorem nmX7 : ∀ a, a < 7 → ∀ b, b < 7 → a ≠ b → (TX7 a).2.1 ≠ (TX7 b).2.1 := by decide +kernel
theorem tyX7_ok : ∀ k, k < 7 → parseFieldDescriptor (TX7 k).2.2.1 = some (tyX7 k) := by decide +kernel
abbrev cX7_init : ByteArray := prog_9_method_1_code
def yX7_init : MethodName := ⟨RX7, "<init>", "(LFootLower$Mountain;LFootLower$Ground;)V"⟩
abbrev cX7_weighCells : ByteArray := prog_9_method_2_code
def yX7_weighCells : MethodName := ⟨RX7, "weighCells", "()V"⟩
abbrev cX7_weightOf : ByteArray := prog_9_method_3_code
def yX7_weightOf : MethodName := ⟨RX7, "weightOf", "(II)I"⟩
abbrev cX7_votersFor : ByteArray := prog_9_method_4_code
def yX7_votersFor : MethodName := ⟨RX7, "votersFor", "(II)I"⟩
abbrev cX7_electedCell : ByteArray := prog_9_method_5_code
def yX7_electedCell : MethodName := ⟨RX7, "electedCell", "()I"⟩
abbrev cX7_isUnbeaten : ByteArray := prog_9_method_6_code
def yX7_isUnbeaten : MethodName := ⟨RX7, "isUnbeaten", "(I)Z"⟩
abbrev cX7_canShape : ByteArray := prog_9_method_7_code
def yX7_canShape : MethodName := ⟨RX7, "canShape", "(I)Z"⟩
abbrev cX7_shapeBy : ByteArray := prog_9_method_8_code
def yX7_shapeBy : MethodName := ⟨RX7, "shapeBy", "(I)I"⟩
abbrev cX7_shapedCell : ByteArray := prog_9_method_9_code
def yX7_shapedCell : MethodName := ⟨RX7, "shapedCell", "(I)I"⟩
abbrev cX7_search : ByteArray := prog_9_method_10_code
def yX7_search : MethodName := ⟨RX7, "search", "(III)V"⟩
abbrev cX7_keepIfBetter : ByteArray := prog_9_method_11_code
def yX7_keepIfBetter : MethodName := ⟨RX7, "keepIfBetter", "()V"⟩
abbrev cX7_spoilCell : ByteArray := prog_9_method_12_code
def yX7_spoilCell : MethodName := ⟨RX7, "spoilCell", "()I"⟩
def RX8 : String := "FootLower$Slots"
def TX8 : u_T := fun k => match k with
  | 0 => ("FootLower$Slots", "numbers", "[[J", true)
  | 1 => ("FootLower$Slots", "widths", "[I", true)
  | _ => ("FootLower$Slots", "sizes", "[I", true)
def tyX8 : Nat → FieldType := fun k => match k with
  | 0 => .array (.array .long)
  | 1 => .array .int
  | _ => .array .int
theorem nmX8 : ∀ a, a < 3 → ∀ b, b < 3 → a ≠ b → (TX8 a).2.1 ≠ (TX8 b).2.1 := by decide +kernel
theorem tyX8_ok : ∀ k, k < 3 → parseFieldDescriptor (TX8 k).2.2.1 = some (tyX8 k) := by decide +kernel
abbrev cX8_init : ByteArray := prog_10_method_1_code
def yX8_init : MethodName := ⟨RX8, "<init>", "()V"⟩
abbrev cX8_has : ByteArray := prog_10_method_2_code
def yX8_has : MethodName := ⟨RX8, "has", "(I)Z"⟩
abbrev cX8_sizeOf : ByteArray := prog_10_method_3_code
def yX8_sizeOf : MethodName := ⟨RX8, "sizeOf", "(I)I"⟩
abbrev cX8_isLaid : ByteArray := prog_10_method_4_code
def yX8_isLaid : MethodName := ⟨RX8, "isLaid", "(I)Z"⟩
abbrev cX8_widthOf : ByteArray := prog_10_method_5_code
def yX8_widthOf : MethodName := ⟨RX8, "widthOf", "(I)I"⟩
abbrev cX8_rows : ByteArray := prog_10_method_6_code
def yX8_rows : MethodName := ⟨RX8, "rows", "()I"⟩
abbrev cX8_spans : ByteArray := prog_10_method_7_code
def yX8_spans : MethodName := ⟨RX8, "spans", "(III)Z"⟩
abbrev cX8_numberAt : ByteArray := prog_10_method_8_code
def yX8_numberAt : MethodName := ⟨RX8, "numberAt", "(II)J"⟩
abbrev cX8_lay : ByteArray := prog_10_method_9_code
def yX8_lay : MethodName := ⟨RX8, "lay", "(III)V"⟩
abbrev cX8_put : ByteArray := prog_10_method_10_code
def yX8_put : MethodName := ⟨RX8, "put", "(IIJ)V"⟩
abbrev cX8_cut : ByteArray := prog_10_method_11_code
def yX8_cut : MethodName := ⟨RX8, "cut", "(JI)J"⟩
abbrev cX8_move : ByteArray := prog_10_method_12_code
def yX8_move : MethodName := ⟨RX8, "move", "(IIIII)V"⟩
def RX9 : String := "FootLower$Tape"
def TX9 : u_T := fun k => match k with
  | 0 => ("FootLower$Tape", "bytes", "[B", true)
  | 1 => ("FootLower$Tape", "size", "I", false)
  | 2 => ("FootLower$Tape", "kinds", "[I", true)
  | 3 => ("FootLower$Tape", "places", "[I", true)
  | 4 => ("FootLower$Tape", "values", "[I", true)
  | _ => ("FootLower$Tape", "tokens", "I", false)
def tyX9 : Nat → FieldType := fun k => match k with
  | 0 => .array .byte
  | 1 => .int
  | 2 => .array .int
  | 3 => .array .int
  | 4 => .array .int
  | _ => .int
theorem nmX9 : ∀ a, a < 6 → ∀ b, b < 6 → a ≠ b → (TX9 a).2.1 ≠ (TX9 b).2.1 := by decide +kernel
theorem tyX9_ok : ∀ k, k < 6 → parseFieldDescriptor (TX9 k).2.2.1 = some (tyX9 k) := by decide +kernel
abbrev cX9_init : ByteArray := prog_11_method_1_code
def yX9_init : MethodName := ⟨RX9, "<init>", "()V"⟩
abbrev cX9_hasRoomFor : ByteArray := prog_11_method_2_code
def yX9_hasRoomFor : MethodName := ⟨RX9, "hasRoomFor", "(I)Z"⟩
abbrev cX9_addNumber : ByteArray := prog_11_method_3_code
def yX9_addNumber : MethodName := ⟨RX9, "addNumber", "(I)V"⟩
abbrev cX9_byteAt : ByteArray := prog_11_method_4_code
def yX9_byteAt : MethodName := ⟨RX9, "byteAt", "(I)I"⟩
abbrev cX9_cutTokens : ByteArray := prog_11_method_5_code
def yX9_cutTokens : MethodName := ⟨RX9, "cutTokens", "()V"⟩
abbrev cX9_addToken : ByteArray := prog_11_method_6_code
def yX9_addToken : MethodName := ⟨RX9, "addToken", "(III)V"⟩
abbrev cX9_wordEnd : ByteArray := prog_11_method_7_code
def yX9_wordEnd : MethodName := ⟨RX9, "wordEnd", "(I)I"⟩
abbrev cX9_numberEnd : ByteArray := prog_11_method_8_code
def yX9_numberEnd : MethodName := ⟨RX9, "numberEnd", "(I)I"⟩
abbrev cX9_numberOf : ByteArray := prog_11_method_9_code
def yX9_numberOf : MethodName := ⟨RX9, "numberOf", "(II)I"⟩
abbrev cX9_wordKind : ByteArray := prog_11_method_10_code
def yX9_wordKind : MethodName := ⟨RX9, "wordKind", "(II)I"⟩
abbrev cX9_isText : ByteArray := prog_11_method_11_code
def yX9_isText : MethodName := ⟨RX9, "isText", "(IILjava/lang/String;)Z"⟩
abbrev cX9_textOf : ByteArray := prog_11_method_12_code
def yX9_textOf : MethodName := ⟨RX9, "textOf", "(I)Ljava/lang/String;"⟩
abbrev cX9_isLetter : ByteArray := prog_11_method_13_code
def yX9_isLetter : MethodName := ⟨RX9, "isLetter", "(I)Z"⟩
abbrev cX9_isDigit : ByteArray := prog_11_method_14_code
def yX9_isDigit : MethodName := ⟨RX9, "isDigit", "(I)Z"⟩
def RX10 : String := "FootLower$Walks"
def TX10 : u_T := fun k => match k with
  | 0 => ("FootLower$Walks", "mountain", "LFootLower$Mountain;", true)
  | 1 => ("FootLower$Walks", "namesAhead", "[I", true)
  | 2 => ("FootLower$Walks", "leftmost", "I", false)
  | _ => ("FootLower$Walks", "rightmost", "I", false)
def tyX10 : Nat → FieldType := fun k => match k with
  | 0 => .object "FootLower$Mountain"
  | 1 => .array .int
  | 2 => .int
  | _ => .int
theorem nmX10 : ∀ a, a < 4 → ∀ b, b < 4 → a ≠ b → (TX10 a).2.1 ≠ (TX10 b).2.1 := by decide +kernel
theorem tyX10_ok : ∀ k, k < 4 → parseFieldDescriptor (TX10 k).2.2.1 = some (tyX10 k) := by decide +kernel
abbrev cX10_init : ByteArray := prog_12_method_1_code
def yX10_init : MethodName := ⟨RX10, "<init>", "(LFootLower$Mountain;)V"⟩
abbrev cX10_gatherNames : ByteArray := prog_12_method_2_code
def yX10_gatherNames : MethodName := ⟨RX10, "gatherNames", "()V"⟩
abbrev cX10_namesWithin : ByteArray := prog_12_method_3_code
def yX10_namesWithin : MethodName := ⟨RX10, "namesWithin", "(II)I"⟩
abbrev cX10_namesOfBoth : ByteArray := prog_12_method_4_code
def yX10_namesOfBoth : MethodName := ⟨RX10, "namesOfBoth", "(IIII)I"⟩
abbrev cX10_stepsOf : ByteArray := prog_12_method_5_code
def yX10_stepsOf : MethodName := ⟨RX10, "stepsOf", "(III)I"⟩
abbrev cX10_walkOne : ByteArray := prog_12_method_6_code
def yX10_walkOne : MethodName := ⟨RX10, "walkOne", "(II)I"⟩
abbrev cX10_walkTwo : ByteArray := prog_12_method_7_code
def yX10_walkTwo : MethodName := ⟨RX10, "walkTwo", "(III)I"⟩
abbrev cX10_besides : ByteArray := prog_12_method_8_code
def yX10_besides : MethodName := ⟨RX10, "besides", "(IIII)I"⟩
def RX11 : String := "FootLower"
def TX11 : u_T := fun k => match k with
  | 0 => ("FootLower", "tape", "LFootLower$Tape;", true)
  | 1 => ("FootLower", "reader", "LFootLower$Reader;", true)
  | 2 => ("FootLower", "mountain", "LFootLower$Mountain;", true)
  | 3 => ("FootLower", "images", "[LFootLower$Mountain;", true)
  | 4 => ("FootLower", "imaged", "[Z", true)
  | 5 => ("FootLower", "slots", "LFootLower$Slots;", true)
  | 6 => ("FootLower", "trial", "LFootLower$Ground;", true)
  | 7 => ("FootLower", "petition", "LFootLower$Petition;", true)
  | 8 => ("FootLower", "walks", "LFootLower$Walks;", true)
  | 9 => ("FootLower", "shaper", "LFootLower$Shaper;", true)
  | 10 => ("FootLower", "future", "LFootLower$Course;", true)
  | _ => ("FootLower", "shadows", "LFootLower$Shadows;", true)
def tyX11 : Nat → FieldType := fun k => match k with
  | 0 => .object "FootLower$Tape"
  | 1 => .object "FootLower$Reader"
  | 2 => .object "FootLower$Mountain"
  | 3 => .array (.object "FootLower$Mountain")
  | 4 => .array .boolean
  | 5 => .object "FootLower$Slots"
  | 6 => .object "FootLower$Ground"
  | 7 => .object "FootLower$Petition"
  | 8 => .object "FootLower$Walks"
  | 9 => .object "FootLower$Shaper"
  | 10 => .object "FootLower$Course"
  | _ => .object "FootLower$Shadows"
theorem nmX11 : ∀ a, a < 12 → ∀ b, b < 12 → a ≠ b → (TX11 a).2.1 ≠ (TX11 b).2.1 := by decide +kernel
theorem tyX11_ok : ∀ k, k < 12 → parseFieldDescriptor (TX11 k).2.2.1 = some (tyX11 k) := by decide +kernel
abbrev cX11_init : ByteArray := prog_1_method_1_code
def yX11_init : MethodName := ⟨RX11, "<init>", "()V"⟩
abbrev cX11_feed : ByteArray := prog_1_method_2_code
def yX11_feed : MethodName := ⟨RX11, "feed", "(IIIII)I"⟩
abbrev cX11_end : ByteArray := prog_1_method_3_code
def yX11_end : MethodName := ⟨RX11, "end", "(I)I"⟩
abbrev cX11_mount : ByteArray := prog_1_method_4_code
def yX11_mount : MethodName := ⟨RX11, "mount", "()I"⟩
abbrev cX11_fault : ByteArray := prog_1_method_5_code
def yX11_fault : MethodName := ⟨RX11, "fault", "(I)I"⟩
abbrev cX11_folk : ByteArray := prog_1_method_6_code
def yX11_folk : MethodName := ⟨RX11, "folk", "(II)I"⟩
abbrev cX11_height : ByteArray := prog_1_method_7_code
def yX11_height : MethodName := ⟨RX11, "height", "(I)I"⟩
abbrev cX11_shade : ByteArray := prog_1_method_8_code
def yX11_shade : MethodName := ⟨RX11, "shade", "(II)I"⟩
abbrev cX11_light : ByteArray := prog_1_method_9_code
def yX11_light : MethodName := ⟨RX11, "light", "(I)I"⟩
abbrev cX11_dark : ByteArray := prog_1_method_10_code
def yX11_dark : MethodName := ⟨RX11, "dark", "(I)I"⟩
abbrev cX11_snow : ByteArray := prog_1_method_11_code
def yX11_snow : MethodName := ⟨RX11, "snow", "()I"⟩
abbrev cX11_top : ByteArray := prog_1_method_12_code
def yX11_top : MethodName := ⟨RX11, "top", "()I"⟩
abbrev cX11_gain : ByteArray := prog_1_method_13_code
def yX11_gain : MethodName := ⟨RX11, "gain", "(I)I"⟩
abbrev cX11_hopes : ByteArray := prog_1_method_14_code
def yX11_hopes : MethodName := ⟨RX11, "hopes", "(II)I"⟩
abbrev cX11_wishes : ByteArray := prog_1_method_15_code
def yX11_wishes : MethodName := ⟨RX11, "wishes", "(I)I"⟩
abbrev cX11_gains : ByteArray := prog_1_method_16_code
def yX11_gains : MethodName := ⟨RX11, "gains", "()I"⟩
abbrev cX11_take : ByteArray := prog_1_method_17_code
def yX11_take : MethodName := ⟨RX11, "take", "()I"⟩
abbrev cX11_heap : ByteArray := prog_1_method_18_code
def yX11_heap : MethodName := ⟨RX11, "heap", "(I)I"⟩
abbrev cX11_slides : ByteArray := prog_1_method_19_code
def yX11_slides : MethodName := ⟨RX11, "slides", "(I)I"⟩
abbrev cX11_undo : ByteArray := prog_1_method_20_code
def yX11_undo : MethodName := ⟨RX11, "undo", "()I"⟩
abbrev cX11_anew : ByteArray := prog_1_method_21_code
def yX11_anew : MethodName := ⟨RX11, "anew", "()I"⟩
abbrev cX11_willing : ByteArray := prog_1_method_22_code
def yX11_willing : MethodName := ⟨RX11, "willing", "()I"⟩
abbrev cX11_signers : ByteArray := prog_1_method_23_code
def yX11_signers : MethodName := ⟨RX11, "signers", "(I)I"⟩
abbrev cX11_names : ByteArray := prog_1_method_24_code
def yX11_names : MethodName := ⟨RX11, "names", "(I)I"⟩
abbrev cX11_first : ByteArray := prog_1_method_25_code
def yX11_first : MethodName := ⟨RX11, "first", "()I"⟩
abbrev cX11_firsts : ByteArray := prog_1_method_26_code
def yX11_firsts : MethodName := ⟨RX11, "firsts", "()I"⟩
abbrev cX11_next : ByteArray := prog_1_method_27_code
def yX11_next : MethodName := ⟨RX11, "next", "(I)I"⟩
abbrev cX11_needed : ByteArray := prog_1_method_28_code
def yX11_needed : MethodName := ⟨RX11, "needed", "()I"⟩
abbrev cX11_play : ByteArray := prog_1_method_29_code
def yX11_play : MethodName := ⟨RX11, "play", "(II)I"⟩
abbrev cX11_moves : ByteArray := prog_1_method_30_code
def yX11_moves : MethodName := ⟨RX11, "moves", "(II)I"⟩
abbrev cX11_round : ByteArray := prog_1_method_31_code
def yX11_round : MethodName := ⟨RX11, "round", "(II)I"⟩
abbrev cX11_goes : ByteArray := prog_1_method_32_code
def yX11_goes : MethodName := ⟨RX11, "goes", "(III)I"⟩
abbrev cX11_two : ByteArray := prog_1_method_33_code
def yX11_two : MethodName := ⟨RX11, "two", "(III)I"⟩
abbrev cX11_flows : ByteArray := prog_1_method_34_code
def yX11_flows : MethodName := ⟨RX11, "flows", "(I)I"⟩
abbrev cX11_basin : ByteArray := prog_1_method_35_code
def yX11_basin : MethodName := ⟨RX11, "basin", "(I)I"⟩
abbrev cX11_cliffs : ByteArray := prog_1_method_36_code
def yX11_cliffs : MethodName := ⟨RX11, "cliffs", "()I"⟩
abbrev cX11_springs : ByteArray := prog_1_method_37_code
def yX11_springs : MethodName := ⟨RX11, "springs", "()I"⟩
abbrev cX11_sees : ByteArray := prog_1_method_38_code
def yX11_sees : MethodName := ⟨RX11, "sees", "(I)I"⟩
abbrev cX11_lookout : ByteArray := prog_1_method_39_code
def yX11_lookout : MethodName := ⟨RX11, "lookout", "()I"⟩
abbrev cX11_votes : ByteArray := prog_1_method_40_code
def yX11_votes : MethodName := ⟨RX11, "votes", "(II)I"⟩
abbrev cX11_elected : ByteArray := prog_1_method_41_code
def yX11_elected : MethodName := ⟨RX11, "elected", "()I"⟩
abbrev cX11_best : ByteArray := prog_1_method_42_code
def yX11_best : MethodName := ⟨RX11, "best", "()I"⟩
abbrev cX11_shape : ByteArray := prog_1_method_43_code
def yX11_shape : MethodName := ⟨RX11, "shape", "(I)I"⟩
abbrev cX11_shaped : ByteArray := prog_1_method_44_code
def yX11_shaped : MethodName := ⟨RX11, "shaped", "(II)I"⟩
abbrev cX11_spoil : ByteArray := prog_1_method_45_code
def yX11_spoil : MethodName := ⟨RX11, "spoil", "()I"⟩
abbrev cX11_course : ByteArray := prog_1_method_46_code
def yX11_course : MethodName := ⟨RX11, "course", "(I)I"⟩
abbrev cX11_ends : ByteArray := prog_1_method_47_code
def yX11_ends : MethodName := ⟨RX11, "ends", "(I)I"⟩
abbrev cX11_left : ByteArray := prog_1_method_48_code
def yX11_left : MethodName := ⟨RX11, "left", "(II)I"⟩
abbrev cX11_law : ByteArray := prog_1_method_49_code
def yX11_law : MethodName := ⟨RX11, "law", "(I)I"⟩
abbrev cX11_raisers : ByteArray := prog_1_method_50_code
def yX11_raisers : MethodName := ⟨RX11, "raisers", "()I"⟩
abbrev cX11_old : ByteArray := prog_1_method_51_code
def yX11_old : MethodName := ⟨RX11, "old", "(I)I"⟩
abbrev cX11_ask : ByteArray := prog_1_method_52_code
def yX11_ask : MethodName := ⟨RX11, "ask", "(II)I"⟩
abbrev cX11_leaves : ByteArray := prog_1_method_53_code
def yX11_leaves : MethodName := ⟨RX11, "leaves", "(II)I"⟩
abbrev cX11_doubts : ByteArray := prog_1_method_54_code
def yX11_doubts : MethodName := ⟨RX11, "doubts", "(I)I"⟩
abbrev cX11_stands : ByteArray := prog_1_method_55_code
def yX11_stands : MethodName := ⟨RX11, "stands", "(I)I"⟩
abbrev cX11_struck : ByteArray := prog_1_method_56_code
def yX11_struck : MethodName := ⟨RX11, "struck", "(II)I"⟩
abbrev cX11_drawn : ByteArray := prog_1_method_57_code
def yX11_drawn : MethodName := ⟨RX11, "drawn", "(III)I"⟩
abbrev cX11_luck : ByteArray := prog_1_method_58_code
def yX11_luck : MethodName := ⟨RX11, "luck", "(III)I"⟩
abbrev cX11_tell : ByteArray := prog_1_method_59_code
def yX11_tell : MethodName := ⟨RX11, "tell", "(I)I"⟩
abbrev cX11_likes : ByteArray := prog_1_method_60_code
def yX11_likes : MethodName := ⟨RX11, "likes", "(III)I"⟩
abbrev cX11_count : ByteArray := prog_1_method_61_code
def yX11_count : MethodName := ⟨RX11, "count", "(I)I"⟩
abbrev cX11_image : ByteArray := prog_1_method_62_code
def yX11_image : MethodName := ⟨RX11, "image", "(I)I"⟩
abbrev cX11_back : ByteArray := prog_1_method_63_code
def yX11_back : MethodName := ⟨RX11, "back", "(I)I"⟩
abbrev cX11_row : ByteArray := prog_1_method_64_code
def yX11_row : MethodName := ⟨RX11, "row", "(III)I"⟩
abbrev cX11_write : ByteArray := prog_1_method_65_code
def yX11_write : MethodName := ⟨RX11, "write", "(IIJ)I"⟩
abbrev cX11_paste : ByteArray := prog_1_method_66_code
def yX11_paste : MethodName := ⟨RX11, "paste", "(IIIII)I"⟩
abbrev cX11_isHour : ByteArray := prog_1_method_67_code
def yX11_isHour : MethodName := ⟨RX11, "isHour", "(I)Z"⟩
abbrev cX11_isPlay : ByteArray := prog_1_method_68_code
def yX11_isPlay : MethodName := ⟨RX11, "isPlay", "(II)Z"⟩
abbrev cX11_isWalk : ByteArray := prog_1_method_69_code
def yX11_isWalk : MethodName := ⟨RX11, "isWalk", "(II)Z"⟩
abbrev cX11_isLaw : ByteArray := prog_1_method_70_code
def yX11_isLaw : MethodName := ⟨RX11, "isLaw", "(I)Z"⟩
abbrev cX11_isDraw : ByteArray := prog_1_method_71_code
def yX11_isDraw : MethodName := ⟨RX11, "isDraw", "(II)Z"⟩
abbrev cX11_rollRefusal : ByteArray := prog_1_method_72_code
def yX11_rollRefusal : MethodName := ⟨RX11, "rollRefusal", "(I)I"⟩
def RX12 : String := "FootLowerModel"
def TX12 : u_T := fun k => match k with
  | 0 => ("FootLowerModel", "thrown", "I", false)
  | 1 => ("FootLowerModel", "world", "[I", true)
  | 2 => ("FootLowerModel", "images", "[I", true)
  | 3 => ("FootLowerModel", "hasImage", "[Z", true)
  | 4 => ("FootLowerModel", "tape", "[B", true)
  | 5 => ("FootLowerModel", "taped", "I", false)
  | 6 => ("FootLowerModel", "five", "[I", true)
  | 7 => ("FootLowerModel", "size", "I", false)
  | 8 => ("FootLowerModel", "at", "I", false)
  | 9 => ("FootLowerModel", "from", "I", false)
  | 10 => ("FootLowerModel", "token", "I", false)
  | 11 => ("FootLowerModel", "value", "I", false)
  | 12 => ("FootLowerModel", "faultKind", "I", false)
  | 13 => ("FootLowerModel", "faultPlace", "I", false)
  | 14 => ("FootLowerModel", "fresh", "[I", true)
  | 15 => ("FootLowerModel", "high", "[I", true)
  | 16 => ("FootLowerModel", "ends", "[Z", true)
  | 17 => ("FootLowerModel", "roundLeft", "I", false)
  | 18 => ("FootLowerModel", "roundRight", "I", false)
  | 19 => ("FootLowerModel", "shapeRow", "[I", true)
  | 20 => ("FootLowerModel", "bestRow", "[I", true)
  | 21 => ("FootLowerModel", "askWorst", "I", false)
  | 22 => ("FootLowerModel", "many", "[I", true)
  | 23 => ("FootLowerModel", "width", "[I", true)
  | 24 => ("FootLowerModel", "numbers", "[J", true)
  | _ => ("FootLowerModel", "moving", "[J", true)
def tyX12 : Nat → FieldType := fun k => match k with
  | 0 => .int
  | 1 => .array .int
  | 2 => .array .int
  | 3 => .array .boolean
  | 4 => .array .byte
  | 5 => .int
  | 6 => .array .int
  | 7 => .int
  | 8 => .int
  | 9 => .int
  | 10 => .int
  | 11 => .int
  | 12 => .int
  | 13 => .int
  | 14 => .array .int
  | 15 => .array .int
  | 16 => .array .boolean
  | 17 => .int
  | 18 => .int
  | 19 => .array .int
  | 20 => .array .int
  | 21 => .int
  | 22 => .array .int
  | 23 => .array .int
  | 24 => .array .long
  | _ => .array .long
theorem nmX12 : ∀ a, a < 26 → ∀ b, b < 26 → a ≠ b → (TX12 a).2.1 ≠ (TX12 b).2.1 := by decide +kernel
theorem tyX12_ok : ∀ k, k < 26 → parseFieldDescriptor (TX12 k).2.2.1 = some (tyX12 k) := by decide +kernel
abbrev cX12_init : ByteArray := prog_14_method_1_code
def yX12_init : MethodName := ⟨RX12, "<init>", "()V"⟩
abbrev cX12_in : ByteArray := prog_14_method_3_code
def yX12_in : MethodName := ⟨RX12, "in", "(JJJ)Z"⟩
abbrev cX12_bits : ByteArray := prog_14_method_4_code
def yX12_bits : MethodName := ⟨RX12, "bits", "(I)I"⟩
abbrev cX12_bit : ByteArray := prog_14_method_5_code
def yX12_bit : MethodName := ⟨RX12, "bit", "(II)I"⟩
abbrev cX12_image : ByteArray := prog_14_method_6_code
def yX12_image : MethodName := ⟨RX12, "image", "(I)I"⟩
abbrev cX12_back : ByteArray := prog_14_method_7_code
def yX12_back : MethodName := ⟨RX12, "back", "(I)I"⟩
abbrev cX12_isMount : ByteArray := prog_14_method_8_code
def yX12_isMount : MethodName := ⟨RX12, "isMount", "()Z"⟩
abbrev cX12_isCell : ByteArray := prog_14_method_9_code
def yX12_isCell : MethodName := ⟨RX12, "isCell", "(J)Z"⟩
abbrev cX12_isFolk : ByteArray := prog_14_method_10_code
def yX12_isFolk : MethodName := ⟨RX12, "isFolk", "(J)Z"⟩
abbrev cX12_isHour : ByteArray := prog_14_method_11_code
def yX12_isHour : MethodName := ⟨RX12, "isHour", "(J)Z"⟩
abbrev cX12_all : ByteArray := prog_14_method_12_code
def yX12_all : MethodName := ⟨RX12, "all", "()I"⟩
abbrev cX12_isSet : ByteArray := prog_14_method_13_code
def yX12_isSet : MethodName := ⟨RX12, "isSet", "(I)Z"⟩
abbrev cX12_of : ByteArray := prog_14_method_14_code
def yX12_of : MethodName := ⟨RX12, "of", "(II)I"⟩
abbrev cX12_feed : ByteArray := prog_14_method_15_code
def yX12_feed : MethodName := ⟨RX12, "feed", "(IIIII)I"⟩
abbrev cX12_end : ByteArray := prog_14_method_16_code
def yX12_end : MethodName := ⟨RX12, "end", "(I)I"⟩
abbrev cX12_see : ByteArray := prog_14_method_17_code
def yX12_see : MethodName := ⟨RX12, "see", "(I)I"⟩
abbrev cX12_advance : ByteArray := prog_14_method_18_code
def yX12_advance : MethodName := ⟨RX12, "advance", "()V"⟩
abbrev cX12_good : ByteArray := prog_14_method_19_code
def yX12_good : MethodName := ⟨RX12, "good", "()Z"⟩
abbrev cX12_errs : ByteArray := prog_14_method_20_code
def yX12_errs : MethodName := ⟨RX12, "errs", "(I)V"⟩
abbrev cX12_is : ByteArray := prog_14_method_21_code
def yX12_is : MethodName := ⟨RX12, "is", "(Ljava/lang/String;)Z"⟩
abbrev cX12_takes : ByteArray := prog_14_method_22_code
def yX12_takes : MethodName := ⟨RX12, "takes", "(Ljava/lang/String;)Z"⟩
abbrev cX12_needs : ByteArray := prog_14_method_23_code
def yX12_needs : MethodName := ⟨RX12, "needs", "(Ljava/lang/String;)V"⟩
abbrev cX12_number : ByteArray := prog_14_method_24_code
def yX12_number : MethodName := ⟨RX12, "number", "(II)I"⟩
abbrev cX12_told : ByteArray := prog_14_method_25_code
def yX12_told : MethodName := ⟨RX12, "told", "(Ljava/lang/String;II)I"⟩
abbrev cX12_fault : ByteArray := prog_14_method_26_code
def yX12_fault : MethodName := ⟨RX12, "fault", "(I)I"⟩
abbrev cX12_readFirst : ByteArray := prog_14_method_27_code
def yX12_readFirst : MethodName := ⟨RX12, "readFirst", "()V"⟩
abbrev cX12_readFolk : ByteArray := prog_14_method_28_code
def yX12_readFolk : MethodName := ⟨RX12, "readFolk", "()V"⟩
abbrev cX12_readNext : ByteArray := prog_14_method_29_code
def yX12_readNext : MethodName := ⟨RX12, "readNext", "()V"⟩
abbrev cX12_mount : ByteArray := prog_14_method_30_code
def yX12_mount : MethodName := ⟨RX12, "mount", "()I"⟩
abbrev cX12_asItIs : ByteArray := prog_14_method_31_code
def yX12_asItIs : MethodName := ⟨RX12, "asItIs", "()V"⟩
abbrev cX12_topCell : ByteArray := prog_14_method_32_code
def yX12_topCell : MethodName := ⟨RX12, "topCell", "()I"⟩
abbrev cX12_take0 : ByteArray := prog_14_method_33_code
def yX12_take0 : MethodName := ⟨RX12, "take0", "()Z"⟩
abbrev cX12_falls : ByteArray := prog_14_method_34_code
def yX12_falls : MethodName := ⟨RX12, "falls", "(II)Z"⟩
abbrev cX12_slideOf : ByteArray := prog_14_method_35_code
def yX12_slideOf : MethodName := ⟨RX12, "slideOf", "(I)I"⟩
abbrev cX12_heap0 : ByteArray := prog_14_method_36_code
def yX12_heap0 : MethodName := ⟨RX12, "heap0", "(I)I"⟩
abbrev cX12_isDark : ByteArray := prog_14_method_37_code
def yX12_isDark : MethodName := ⟨RX12, "isDark", "(II)Z"⟩
abbrev cX12_lightOf : ByteArray := prog_14_method_38_code
def yX12_lightOf : MethodName := ⟨RX12, "lightOf", "(I)I"⟩
abbrev cX12_snowSet : ByteArray := prog_14_method_39_code
def yX12_snowSet : MethodName := ⟨RX12, "snowSet", "()I"⟩
abbrev cX12_gainOf : ByteArray := prog_14_method_40_code
def yX12_gainOf : MethodName := ⟨RX12, "gainOf", "(I)I"⟩
abbrev cX12_gainOfAll : ByteArray := prog_14_method_41_code
def yX12_gainOfAll : MethodName := ⟨RX12, "gainOfAll", "()I"⟩
abbrev cX12_folk : ByteArray := prog_14_method_42_code
def yX12_folk : MethodName := ⟨RX12, "folk", "(II)I"⟩
abbrev cX12_height : ByteArray := prog_14_method_43_code
def yX12_height : MethodName := ⟨RX12, "height", "(I)I"⟩
abbrev cX12_shade : ByteArray := prog_14_method_44_code
def yX12_shade : MethodName := ⟨RX12, "shade", "(II)I"⟩
abbrev cX12_light : ByteArray := prog_14_method_45_code
def yX12_light : MethodName := ⟨RX12, "light", "(I)I"⟩
abbrev cX12_dark : ByteArray := prog_14_method_46_code
def yX12_dark : MethodName := ⟨RX12, "dark", "(I)I"⟩
abbrev cX12_snow : ByteArray := prog_14_method_47_code
def yX12_snow : MethodName := ⟨RX12, "snow", "()I"⟩
abbrev cX12_top : ByteArray := prog_14_method_48_code
def yX12_top : MethodName := ⟨RX12, "top", "()I"⟩
abbrev cX12_gain : ByteArray := prog_14_method_49_code
def yX12_gain : MethodName := ⟨RX12, "gain", "(I)I"⟩
abbrev cX12_hopesOf : ByteArray := prog_14_method_50_code
def yX12_hopesOf : MethodName := ⟨RX12, "hopesOf", "(II)I"⟩
abbrev cX12_hopes : ByteArray := prog_14_method_51_code
def yX12_hopes : MethodName := ⟨RX12, "hopes", "(II)I"⟩
abbrev cX12_wishes : ByteArray := prog_14_method_52_code
def yX12_wishes : MethodName := ⟨RX12, "wishes", "(I)I"⟩
abbrev cX12_gains : ByteArray := prog_14_method_53_code
def yX12_gains : MethodName := ⟨RX12, "gains", "()I"⟩
abbrev cX12_keepAct : ByteArray := prog_14_method_54_code
def yX12_keepAct : MethodName := ⟨RX12, "keepAct", "(I)V"⟩
abbrev cX12_take : ByteArray := prog_14_method_55_code
def yX12_take : MethodName := ⟨RX12, "take", "()I"⟩
abbrev cX12_heap : ByteArray := prog_14_method_56_code
def yX12_heap : MethodName := ⟨RX12, "heap", "(I)I"⟩
abbrev cX12_slides : ByteArray := prog_14_method_57_code
def yX12_slides : MethodName := ⟨RX12, "slides", "(I)I"⟩
abbrev cX12_undo : ByteArray := prog_14_method_58_code
def yX12_undo : MethodName := ⟨RX12, "undo", "()I"⟩
abbrev cX12_anew : ByteArray := prog_14_method_59_code
def yX12_anew : MethodName := ⟨RX12, "anew", "()I"⟩
abbrev cX12_willingSet : ByteArray := prog_14_method_60_code
def yX12_willingSet : MethodName := ⟨RX12, "willingSet", "()I"⟩
abbrev cX12_signing : ByteArray := prog_14_method_61_code
def yX12_signing : MethodName := ⟨RX12, "signing", "(II)I"⟩
abbrev cX12_namesOf : ByteArray := prog_14_method_62_code
def yX12_namesOf : MethodName := ⟨RX12, "namesOf", "(I)I"⟩
abbrev cX12_isEnough : ByteArray := prog_14_method_63_code
def yX12_isEnough : MethodName := ⟨RX12, "isEnough", "(I)Z"⟩
abbrev cX12_willing : ByteArray := prog_14_method_64_code
def yX12_willing : MethodName := ⟨RX12, "willing", "()I"⟩
abbrev cX12_signers : ByteArray := prog_14_method_65_code
def yX12_signers : MethodName := ⟨RX12, "signers", "(I)I"⟩
abbrev cX12_names : ByteArray := prog_14_method_66_code
def yX12_names : MethodName := ⟨RX12, "names", "(I)I"⟩
abbrev cX12_firstSet : ByteArray := prog_14_method_67_code
def yX12_firstSet : MethodName := ⟨RX12, "firstSet", "()I"⟩
abbrev cX12_first : ByteArray := prog_14_method_68_code
def yX12_first : MethodName := ⟨RX12, "first", "()I"⟩
abbrev cX12_firsts : ByteArray := prog_14_method_69_code
def yX12_firsts : MethodName := ⟨RX12, "firsts", "()I"⟩
abbrev cX12_next : ByteArray := prog_14_method_70_code
def yX12_next : MethodName := ⟨RX12, "next", "(I)I"⟩
abbrev cX12_needed : ByteArray := prog_14_method_71_code
def yX12_needed : MethodName := ⟨RX12, "needed", "()I"⟩
abbrev cX12_pair : ByteArray := prog_14_method_72_code
def yX12_pair : MethodName := ⟨RX12, "pair", "(II)I"⟩
abbrev cX12_isWinners : ByteArray := prog_14_method_73_code
def yX12_isWinners : MethodName := ⟨RX12, "isWinners", "(II)Z"⟩
abbrev cX12_endBy : ByteArray := prog_14_method_74_code
def yX12_endBy : MethodName := ⟨RX12, "endBy", "(IIIII)Z"⟩
abbrev cX12_playBy : ByteArray := prog_14_method_75_code
def yX12_playBy : MethodName := ⟨RX12, "playBy", "(II)Z"⟩
abbrev cX12_play : ByteArray := prog_14_method_76_code
def yX12_play : MethodName := ⟨RX12, "play", "(II)I"⟩
abbrev cX12_moves : ByteArray := prog_14_method_77_code
def yX12_moves : MethodName := ⟨RX12, "moves", "(II)I"⟩
abbrev cX12_steps : ByteArray := prog_14_method_78_code
def yX12_steps : MethodName := ⟨RX12, "steps", "(III)I"⟩
abbrev cX12_namesOn : ByteArray := prog_14_method_79_code
def yX12_namesOn : MethodName := ⟨RX12, "namesOn", "(IIIII)I"⟩
abbrev cX12_roundOf : ByteArray := prog_14_method_80_code
def yX12_roundOf : MethodName := ⟨RX12, "roundOf", "(II)I"⟩
abbrev cX12_isRound : ByteArray := prog_14_method_81_code
def yX12_isRound : MethodName := ⟨RX12, "isRound", "(II)Z"⟩
abbrev cX12_round : ByteArray := prog_14_method_82_code
def yX12_round : MethodName := ⟨RX12, "round", "(II)I"⟩
abbrev cX12_goes : ByteArray := prog_14_method_83_code
def yX12_goes : MethodName := ⟨RX12, "goes", "(III)I"⟩
abbrev cX12_two : ByteArray := prog_14_method_84_code
def yX12_two : MethodName := ⟨RX12, "two", "(III)I"⟩
abbrev cX12_isLower : ByteArray := prog_14_method_85_code
def yX12_isLower : MethodName := ⟨RX12, "isLower", "(II)Z"⟩
abbrev cX12_flowOf : ByteArray := prog_14_method_86_code
def yX12_flowOf : MethodName := ⟨RX12, "flowOf", "(I)I"⟩
abbrev cX12_flows : ByteArray := prog_14_method_87_code
def yX12_flows : MethodName := ⟨RX12, "flows", "(I)I"⟩
abbrev cX12_basin : ByteArray := prog_14_method_88_code
def yX12_basin : MethodName := ⟨RX12, "basin", "(I)I"⟩
abbrev cX12_cliffs : ByteArray := prog_14_method_89_code
def yX12_cliffs : MethodName := ⟨RX12, "cliffs", "()I"⟩
abbrev cX12_springs : ByteArray := prog_14_method_90_code
def yX12_springs : MethodName := ⟨RX12, "springs", "()I"⟩
abbrev cX12_isSeen : ByteArray := prog_14_method_91_code
def yX12_isSeen : MethodName := ⟨RX12, "isSeen", "(II)Z"⟩
abbrev cX12_seenFrom : ByteArray := prog_14_method_92_code
def yX12_seenFrom : MethodName := ⟨RX12, "seenFrom", "(I)I"⟩
abbrev cX12_sees : ByteArray := prog_14_method_93_code
def yX12_sees : MethodName := ⟨RX12, "sees", "(I)I"⟩
abbrev cX12_lookout : ByteArray := prog_14_method_94_code
def yX12_lookout : MethodName := ⟨RX12, "lookout", "()I"⟩
abbrev cX12_votesFor : ByteArray := prog_14_method_95_code
def yX12_votesFor : MethodName := ⟨RX12, "votesFor", "(II)I"⟩
abbrev cX12_votes : ByteArray := prog_14_method_96_code
def yX12_votes : MethodName := ⟨RX12, "votes", "(II)I"⟩
abbrev cX12_elected : ByteArray := prog_14_method_97_code
def yX12_elected : MethodName := ⟨RX12, "elected", "()I"⟩
abbrev cX12_best : ByteArray := prog_14_method_98_code
def yX12_best : MethodName := ⟨RX12, "best", "()I"⟩
abbrev cX12_takeRow : ByteArray := prog_14_method_99_code
def yX12_takeRow : MethodName := ⟨RX12, "takeRow", "(I)I"⟩
abbrev cX12_nextRow : ByteArray := prog_14_method_100_code
def yX12_nextRow : MethodName := ⟨RX12, "nextRow", "(I)Z"⟩
abbrev cX12_shapeOf : ByteArray := prog_14_method_101_code
def yX12_shapeOf : MethodName := ⟨RX12, "shapeOf", "(I)I"⟩
abbrev cX12_shape : ByteArray := prog_14_method_102_code
def yX12_shape : MethodName := ⟨RX12, "shape", "(I)I"⟩
abbrev cX12_shaped : ByteArray := prog_14_method_103_code
def yX12_shaped : MethodName := ⟨RX12, "shaped", "(II)I"⟩
abbrev cX12_spoil : ByteArray := prog_14_method_104_code
def yX12_spoil : MethodName := ⟨RX12, "spoil", "()I"⟩
abbrev cX12_raisers : ByteArray := prog_14_method_105_code
def yX12_raisers : MethodName := ⟨RX12, "raisers", "()I"⟩
abbrev cX12_goCourse : ByteArray := prog_14_method_106_code
def yX12_goCourse : MethodName := ⟨RX12, "goCourse", "(I)I"⟩
abbrev cX12_isLaw : ByteArray := prog_14_method_107_code
def yX12_isLaw : MethodName := ⟨RX12, "isLaw", "(I)Z"⟩
abbrev cX12_course : ByteArray := prog_14_method_108_code
def yX12_course : MethodName := ⟨RX12, "course", "(I)I"⟩
abbrev cX12_ends : ByteArray := prog_14_method_109_code
def yX12_ends : MethodName := ⟨RX12, "ends", "(I)I"⟩
abbrev cX12_left : ByteArray := prog_14_method_110_code
def yX12_left : MethodName := ⟨RX12, "left", "(II)I"⟩
abbrev cX12_law : ByteArray := prog_14_method_111_code
def yX12_law : MethodName := ⟨RX12, "law", "(I)I"⟩
abbrev cX12_numberAt : ByteArray := prog_14_method_112_code
def yX12_numberAt : MethodName := ⟨RX12, "numberAt", "(II)J"⟩
abbrev cX12_asksOld : ByteArray := prog_14_method_113_code
def yX12_asksOld : MethodName := ⟨RX12, "asksOld", "(I)I"⟩
abbrev cX12_wasDark : ByteArray := prog_14_method_114_code
def yX12_wasDark : MethodName := ⟨RX12, "wasDark", "(III)Z"⟩
abbrev cX12_oldBy : ByteArray := prog_14_method_115_code
def yX12_oldBy : MethodName := ⟨RX12, "oldBy", "(II)I"⟩
abbrev cX12_old : ByteArray := prog_14_method_116_code
def yX12_old : MethodName := ⟨RX12, "old", "(I)I"⟩
abbrev cX12_askOf : ByteArray := prog_14_method_117_code
def yX12_askOf : MethodName := ⟨RX12, "askOf", "(II)I"⟩
abbrev cX12_ask : ByteArray := prog_14_method_118_code
def yX12_ask : MethodName := ⟨RX12, "ask", "(II)I"⟩
abbrev cX12_leaves : ByteArray := prog_14_method_119_code
def yX12_leaves : MethodName := ⟨RX12, "leaves", "(II)I"⟩
abbrev cX12_doubts : ByteArray := prog_14_method_120_code
def yX12_doubts : MethodName := ⟨RX12, "doubts", "(I)I"⟩
abbrev cX12_asksNames : ByteArray := prog_14_method_121_code
def yX12_asksNames : MethodName := ⟨RX12, "asksNames", "(IZ)I"⟩
abbrev cX12_hasName : ByteArray := prog_14_method_122_code
def yX12_hasName : MethodName := ⟨RX12, "hasName", "(II)Z"⟩
abbrev cX12_isThere : ByteArray := prog_14_method_123_code
def yX12_isThere : MethodName := ⟨RX12, "isThere", "(II)Z"⟩
abbrev cX12_stands : ByteArray := prog_14_method_124_code
def yX12_stands : MethodName := ⟨RX12, "stands", "(I)I"⟩
abbrev cX12_struck : ByteArray := prog_14_method_125_code
def yX12_struck : MethodName := ⟨RX12, "struck", "(II)I"⟩
abbrev cX12_goMonths : ByteArray := prog_14_method_126_code
def yX12_goMonths : MethodName := ⟨RX12, "goMonths", "(JI)I"⟩
abbrev cX12_areMonths : ByteArray := prog_14_method_127_code
def yX12_areMonths : MethodName := ⟨RX12, "areMonths", "(II)Z"⟩
abbrev cX12_drawn : ByteArray := prog_14_method_128_code
def yX12_drawn : MethodName := ⟨RX12, "drawn", "(III)I"⟩
abbrev cX12_luck : ByteArray := prog_14_method_129_code
def yX12_luck : MethodName := ⟨RX12, "luck", "(III)I"⟩
abbrev cX12_tell : ByteArray := prog_14_method_130_code
def yX12_tell : MethodName := ⟨RX12, "tell", "(I)I"⟩
abbrev cX12_likes : ByteArray := prog_14_method_131_code
def yX12_likes : MethodName := ⟨RX12, "likes", "(III)I"⟩
abbrev cX12_count : ByteArray := prog_14_method_132_code
def yX12_count : MethodName := ⟨RX12, "count", "(I)I"⟩
abbrev cX12_isSlot : ByteArray := prog_14_method_133_code
def yX12_isSlot : MethodName := ⟨RX12, "isSlot", "(I)Z"⟩
abbrev cX12_cut : ByteArray := prog_14_method_134_code
def yX12_cut : MethodName := ⟨RX12, "cut", "(JI)J"⟩
abbrev cX12_row : ByteArray := prog_14_method_135_code
def yX12_row : MethodName := ⟨RX12, "row", "(III)I"⟩
abbrev cX12_write : ByteArray := prog_14_method_136_code
def yX12_write : MethodName := ⟨RX12, "write", "(IIJ)I"⟩
abbrev cX12_paste : ByteArray := prog_14_method_137_code
def yX12_paste : MethodName := ⟨RX12, "paste", "(IIIII)I"⟩
def RJ6 : String := "java/lang/Integer"
def TJ6 : u_T := fun k => match k with
  | _ => ("", "", "", false)
def tyJ6 : Nat → FieldType := fun k => match k with
  | _ => .int
theorem nmJ6 : ∀ a, a < 0 → ∀ b, b < 0 → a ≠ b → (TJ6 a).2.1 ≠ (TJ6 b).2.1 := by decide +kernel
theorem tyJ6_ok : ∀ k, k < 0 → parseFieldDescriptor (TJ6 k).2.2.1 = some (tyJ6 k) := by decide +kernel
abbrev cJ6_bitCount_0f7a4 : ByteArray := prog_15_method_49_code
def yJ6_bitCount_0f7a4 : MethodName := ⟨RJ6, "bitCount", "(I)I"⟩
def RJ9 : String := "java/lang/Math"
def TJ9 : u_T := fun k => match k with
  | _ => ("", "", "", false)
def tyJ9 : Nat → FieldType := fun k => match k with
  | _ => .int
theorem nmJ9 : ∀ a, a < 0 → ∀ b, b < 0 → a ≠ b → (TJ9 a).2.1 ≠ (TJ9 b).2.1 := by decide +kernel
theorem tyJ9_ok : ∀ k, k < 0 → parseFieldDescriptor (TJ9 k).2.2.1 = some (tyJ9 k) := by decide +kernel
abbrev cJ9_abs_0f7a4 : ByteArray := prog_16_method_59_code
def yJ9_abs_0f7a4 : MethodName := ⟨RJ9, "abs", "(I)I"⟩
abbrev cJ9_max_7cf53 : ByteArray := prog_16_method_65_code
def yJ9_max_7cf53 : MethodName := ⟨RJ9, "max", "(II)I"⟩
abbrev cJ9_min_7cf53 : ByteArray := prog_16_method_69_code
def yJ9_min_7cf53 : MethodName := ⟨RJ9, "min", "(II)I"⟩
def RJ0 : String := "java/lang/String"
def TJ0 : u_T := fun k => match k with
  | _ => ("", "", "", false)
def tyJ0 : Nat → FieldType := fun k => match k with
  | _ => .int
theorem nmJ0 : ∀ a, a < 0 → ∀ b, b < 0 → a ≠ b → (TJ0 a).2.1 ≠ (TJ0 b).2.1 := by decide +kernel
theorem tyJ0_ok : ∀ k, k < 0 → parseFieldDescriptor (TJ0 k).2.2.1 = some (tyJ0 k) := by decide +kernel
abbrev cJ0_length_8abf5 : ByteArray := prog_17_method_54_code
def yJ0_length_8abf5 : MethodName := ⟨RJ0, "length", "()I"⟩
abbrev cJ0_charAt_5068e : ByteArray := prog_17_method_56_code
def yJ0_charAt_5068e : MethodName := ⟨RJ0, "charAt", "(I)C"⟩
abbrev cJ0_coder_7d493 : ByteArray := prog_17_method_152_code
def yJ0_coder_7d493 : MethodName := ⟨RJ0, "coder", "()B"⟩
abbrev cJ0_isLatin1_aae02 : ByteArray := prog_17_method_154_code
def yJ0_isLatin1_aae02 : MethodName := ⟨RJ0, "isLatin1", "()Z"⟩
abbrev cJ0_checkIndex_df160 : ByteArray := prog_17_method_155_code
def yJ0_checkIndex_df160 : MethodName := ⟨RJ0, "checkIndex", "(II)V"⟩
def RJ1 : String := "java/lang/StringLatin1"
def TJ1 : u_T := fun k => match k with
  | _ => ("", "", "", false)
def tyJ1 : Nat → FieldType := fun k => match k with
  | _ => .int
theorem nmJ1 : ∀ a, a < 0 → ∀ b, b < 0 → a ≠ b → (TJ1 a).2.1 ≠ (TJ1 b).2.1 := by decide +kernel
theorem tyJ1_ok : ∀ k, k < 0 → parseFieldDescriptor (TJ1 k).2.2.1 = some (tyJ1 k) := by decide +kernel
abbrev cJ1_charAt_3b067 : ByteArray := prog_18_method_2_code
def yJ1_charAt_3b067 : MethodName := ⟨RJ1, "charAt", "([BI)C"⟩
def RJ2 : String := "java/lang/StringUTF16"
def TJ2 : u_T := fun k => match k with
  | _ => ("", "", "", false)
def tyJ2 : Nat → FieldType := fun k => match k with
  | _ => .int
theorem nmJ2 : ∀ a, a < 0 → ∀ b, b < 0 → a ≠ b → (TJ2 a).2.1 ≠ (TJ2 b).2.1 := by decide +kernel
theorem tyJ2_ok : ∀ k, k < 0 → parseFieldDescriptor (TJ2 k).2.2.1 = some (tyJ2 k) := by decide +kernel
abbrev cJ2_getChar_3b067 : ByteArray := prog_19_method_5_code
def yJ2_getChar_3b067 : MethodName := ⟨RJ2, "getChar", "([BI)C"⟩
abbrev cJ2_length_9d52b : ByteArray := prog_19_method_6_code
def yJ2_length_9d52b : MethodName := ⟨RJ2, "length", "([B)I"⟩
abbrev cJ2_charAt_3b067 : ByteArray := prog_19_method_83_code
def yJ2_charAt_3b067 : MethodName := ⟨RJ2, "charAt", "([BI)C"⟩
abbrev cJ2_checkIndex_2214a : ByteArray := prog_19_method_91_code
def yJ2_checkIndex_2214a : MethodName := ⟨RJ2, "checkIndex", "(I[B)V"⟩
def RJ10 : String := "java/lang/System"
def TJ10 : u_T := fun k => match k with
  | _ => ("", "", "", false)
def tyJ10 : Nat → FieldType := fun k => match k with
  | _ => .int
theorem nmJ10 : ∀ a, a < 0 → ∀ b, b < 0 → a ≠ b → (TJ10 a).2.1 ≠ (TJ10 b).2.1 := by decide +kernel
theorem tyJ10_ok : ∀ k, k < 0 → parseFieldDescriptor (TJ10 k).2.2.1 = some (tyJ10 k) := by decide +kernel
def RJ3 : String := "jdk/internal/util/Preconditions"
def TJ3 : u_T := fun k => match k with
  | _ => ("", "", "", false)
def tyJ3 : Nat → FieldType := fun k => match k with
  | _ => .int
theorem nmJ3 : ∀ a, a < 0 → ∀ b, b < 0 → a ≠ b → (TJ3 a).2.1 ≠ (TJ3 b).2.1 := by decide +kernel
theorem tyJ3_ok : ∀ k, k < 0 → parseFieldDescriptor (TJ3 k).2.2.1 = some (tyJ3 k) := by decide +kernel
abbrev cJ3_checkIndex_8e157 : ByteArray := prog_21_method_11_code
def yJ3_checkIndex_8e157 : MethodName := ⟨RJ3, "checkIndex", "(IILjava/util/function/BiFunction;)I"⟩
def RL : String := "FootLowerLaw"
abbrev cL_law : ByteArray := code
def yL_law : MethodName := ⟨RL, "law", "([I)Z"⟩
abbrev vwCl : List vw_C := [(RX0, TX0, 2), (RX1, TX1, 5), (RX2, TX2, 7), (RX3, TX3, 4), (RX4, TX4, 5), (RX5, TX5, 8), (RX6, TX6, 9), (RX7, TX7, 7), (RX8, TX8, 3), (RX9, TX9, 6), (RX10, TX10, 4), (RX11, TX11, 12), (RX12, TX12, 26)]
end
