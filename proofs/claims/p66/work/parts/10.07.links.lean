theorem dr8 {L r : List Cond} {a b c d e f g h : Cond} (s : Nat) (q : L.drop s = a :: b :: c :: d :: e :: f :: g :: h :: r) : a ∈ L ∧ b ∈ L ∧ c ∈ L ∧ d ∈ L ∧ e ∈ L ∧ f ∈ L ∧ g ∈ L ∧ h ∈ L := by
  have z : ∀ w, w ∈ a :: b :: c :: d :: e :: f :: g :: h :: r → w ∈ L := fun w hw => List.mem_of_mem_drop (i := s) (by rw [q]; exact hw)
  exact ⟨z _ (by simp), z _ (by simp), z _ (by simp), z _ (by simp), z _ (by simp), z _ (by simp), z _ (by simp), z _ (by simp)⟩
theorem tw_1 {w : Cond} (h : w ∈ tables_1_1) (hg : goodWord w = true) : w ∈ fwTb := List.mem_filter.mpr ⟨fw_in_1 h, hg⟩
theorem tw_2 {w : Cond} (h : w ∈ tables_1_2) (hg : goodWord w = true) : w ∈ fwTb := List.mem_filter.mpr ⟨fw_in_2 h, hg⟩
theorem tw_3 {w : Cond} (h : w ∈ tables_1_3) (hg : goodWord w = true) : w ∈ fwTb := List.mem_filter.mpr ⟨fw_in_3 h, hg⟩
theorem tw_4 {w : Cond} (h : w ∈ tables_1_4) (hg : goodWord w = true) : w ∈ fwTb := List.mem_filter.mpr ⟨fw_in_4 h, hg⟩
theorem tw_5 {w : Cond} (h : w ∈ tables_1_5) (hg : goodWord w = true) : w ∈ fwTb := List.mem_filter.mpr ⟨fw_in_5 h, hg⟩
theorem tw_6 {w : Cond} (h : w ∈ tables_1_6) (hg : goodWord w = true) : w ∈ fwTb := List.mem_filter.mpr ⟨fw_in_6 h, hg⟩
theorem tw_7 {w : Cond} (h : w ∈ tables_1_7) (hg : goodWord w = true) : w ∈ fwTb := List.mem_filter.mpr ⟨fw_in_7 h, hg⟩
theorem tw_8 {w : Cond} (h : w ∈ tables_1_8) (hg : goodWord w = true) : w ∈ fwTb := List.mem_filter.mpr ⟨fw_in_8 h, hg⟩
theorem tw_9 {w : Cond} (h : w ∈ tables_1_9) (hg : goodWord w = true) : w ∈ fwTb := List.mem_filter.mpr ⟨fw_in_9 h, hg⟩
def tq_1_0 := dr8 (L := tables_1_1) 0 rfl
def tq_1_1 := dr8 (L := tables_1_1) 8 rfl
def tq_1_2 := dr8 (L := tables_1_1) 16 rfl
def tq_1_4 := dr8 (L := tables_1_1) 32 rfl
def tq_1_5 := dr8 (L := tables_1_1) 40 rfl
def tq_1_9 := dr8 (L := tables_1_1) 72 rfl
def tq_1_10 := dr8 (L := tables_1_1) 80 rfl
def tq_1_11 := dr8 (L := tables_1_1) 88 rfl
def tq_1_13 := dr8 (L := tables_1_1) 104 rfl
def tq_1_14 := dr8 (L := tables_1_1) 112 rfl
def tq_1_15 := dr8 (L := tables_1_1) 120 rfl
def tq_1_16 := dr8 (L := tables_1_1) 128 rfl
def tq_1_17 := dr8 (L := tables_1_1) 136 rfl
def tq_1_18 := dr8 (L := tables_1_1) 144 rfl
def tq_1_19 := dr8 (L := tables_1_1) 152 rfl
def tq_1_21 := dr8 (L := tables_1_1) 168 rfl
def tq_1_22 := dr8 (L := tables_1_1) 176 rfl
def tq_1_23 := dr8 (L := tables_1_1) 184 rfl
def tq_1_26 := dr8 (L := tables_1_1) 208 rfl
def tq_1_29 := dr8 (L := tables_1_1) 232 rfl
def tq_2_1 := dr8 (L := tables_1_2) 8 rfl
def tq_2_2 := dr8 (L := tables_1_2) 16 rfl
def tq_2_4 := dr8 (L := tables_1_2) 32 rfl
def tq_2_5 := dr8 (L := tables_1_2) 40 rfl
def tq_2_8 := dr8 (L := tables_1_2) 64 rfl
def tq_2_9 := dr8 (L := tables_1_2) 72 rfl
def tq_2_10 := dr8 (L := tables_1_2) 80 rfl
def tq_2_13 := dr8 (L := tables_1_2) 104 rfl
def tq_2_14 := dr8 (L := tables_1_2) 112 rfl
def tq_2_18 := dr8 (L := tables_1_2) 144 rfl
def tq_2_19 := dr8 (L := tables_1_2) 152 rfl
def tq_2_20 := dr8 (L := tables_1_2) 160 rfl
def tq_2_21 := dr8 (L := tables_1_2) 168 rfl
def tq_2_22 := dr8 (L := tables_1_2) 176 rfl
def tq_2_23 := dr8 (L := tables_1_2) 184 rfl
def tq_2_25 := dr8 (L := tables_1_2) 200 rfl
def tq_2_26 := dr8 (L := tables_1_2) 208 rfl
def tq_2_27 := dr8 (L := tables_1_2) 216 rfl
def tq_2_28 := dr8 (L := tables_1_2) 224 rfl
def tq_2_29 := dr8 (L := tables_1_2) 232 rfl
def tq_3_0 := dr8 (L := tables_1_3) 0 rfl
def tq_3_1 := dr8 (L := tables_1_3) 8 rfl
def tq_3_2 := dr8 (L := tables_1_3) 16 rfl
def tq_3_3 := dr8 (L := tables_1_3) 24 rfl
def tq_3_4 := dr8 (L := tables_1_3) 32 rfl
def tq_3_5 := dr8 (L := tables_1_3) 40 rfl
def tq_3_6 := dr8 (L := tables_1_3) 48 rfl
def tq_3_7 := dr8 (L := tables_1_3) 56 rfl
def tq_3_8 := dr8 (L := tables_1_3) 64 rfl
def tq_3_9 := dr8 (L := tables_1_3) 72 rfl
def tq_3_10 := dr8 (L := tables_1_3) 80 rfl
def tq_3_11 := dr8 (L := tables_1_3) 88 rfl
def tq_3_12 := dr8 (L := tables_1_3) 96 rfl
def tq_3_13 := dr8 (L := tables_1_3) 104 rfl
def tq_3_14 := dr8 (L := tables_1_3) 112 rfl
def tq_3_15 := dr8 (L := tables_1_3) 120 rfl
def tq_3_16 := dr8 (L := tables_1_3) 128 rfl
def tq_3_17 := dr8 (L := tables_1_3) 136 rfl
def tq_3_18 := dr8 (L := tables_1_3) 144 rfl
def tq_3_19 := dr8 (L := tables_1_3) 152 rfl
def tq_3_20 := dr8 (L := tables_1_3) 160 rfl
def tq_3_21 := dr8 (L := tables_1_3) 168 rfl
def tq_3_22 := dr8 (L := tables_1_3) 176 rfl
def tq_3_23 := dr8 (L := tables_1_3) 184 rfl
def tq_3_24 := dr8 (L := tables_1_3) 192 rfl
def tq_3_25 := dr8 (L := tables_1_3) 200 rfl
def tq_3_26 := dr8 (L := tables_1_3) 208 rfl
def tq_3_27 := dr8 (L := tables_1_3) 216 rfl
def tq_3_28 := dr8 (L := tables_1_3) 224 rfl
def tq_3_29 := dr8 (L := tables_1_3) 232 rfl
def tq_4_0 := dr8 (L := tables_1_4) 0 rfl
def tq_4_1 := dr8 (L := tables_1_4) 8 rfl
def tq_4_2 := dr8 (L := tables_1_4) 16 rfl
def tq_4_3 := dr8 (L := tables_1_4) 24 rfl
def tq_4_4 := dr8 (L := tables_1_4) 32 rfl
def tq_4_5 := dr8 (L := tables_1_4) 40 rfl
def tq_4_6 := dr8 (L := tables_1_4) 48 rfl
def tq_4_7 := dr8 (L := tables_1_4) 56 rfl
def tq_4_8 := dr8 (L := tables_1_4) 64 rfl
def tq_4_9 := dr8 (L := tables_1_4) 72 rfl
def tq_4_10 := dr8 (L := tables_1_4) 80 rfl
def tq_4_11 := dr8 (L := tables_1_4) 88 rfl
def tq_4_12 := dr8 (L := tables_1_4) 96 rfl
def tq_4_13 := dr8 (L := tables_1_4) 104 rfl
def tq_4_14 := dr8 (L := tables_1_4) 112 rfl
def tq_4_15 := dr8 (L := tables_1_4) 120 rfl
def tq_4_16 := dr8 (L := tables_1_4) 128 rfl
def tq_4_17 := dr8 (L := tables_1_4) 136 rfl
def tq_4_18 := dr8 (L := tables_1_4) 144 rfl
def tq_4_19 := dr8 (L := tables_1_4) 152 rfl
def tq_4_20 := dr8 (L := tables_1_4) 160 rfl
def tq_4_21 := dr8 (L := tables_1_4) 168 rfl
def tq_4_22 := dr8 (L := tables_1_4) 176 rfl
def tq_4_23 := dr8 (L := tables_1_4) 184 rfl
def tq_4_24 := dr8 (L := tables_1_4) 192 rfl
def tq_4_25 := dr8 (L := tables_1_4) 200 rfl
def tq_4_26 := dr8 (L := tables_1_4) 208 rfl
def tq_4_27 := dr8 (L := tables_1_4) 216 rfl
def tq_4_28 := dr8 (L := tables_1_4) 224 rfl
def tq_4_29 := dr8 (L := tables_1_4) 232 rfl
def tq_5_0 := dr8 (L := tables_1_5) 0 rfl
def tq_5_1 := dr8 (L := tables_1_5) 8 rfl
def tq_5_2 := dr8 (L := tables_1_5) 16 rfl
def tq_5_3 := dr8 (L := tables_1_5) 24 rfl
def tq_5_4 := dr8 (L := tables_1_5) 32 rfl
def tq_5_5 := dr8 (L := tables_1_5) 40 rfl
def tq_5_6 := dr8 (L := tables_1_5) 48 rfl
def tq_5_7 := dr8 (L := tables_1_5) 56 rfl
def tq_5_8 := dr8 (L := tables_1_5) 64 rfl
def tq_5_9 := dr8 (L := tables_1_5) 72 rfl
def tq_5_10 := dr8 (L := tables_1_5) 80 rfl
def tq_5_11 := dr8 (L := tables_1_5) 88 rfl
def tq_5_12 := dr8 (L := tables_1_5) 96 rfl
def tq_5_13 := dr8 (L := tables_1_5) 104 rfl
def tq_5_14 := dr8 (L := tables_1_5) 112 rfl
def tq_5_15 := dr8 (L := tables_1_5) 120 rfl
def tq_5_16 := dr8 (L := tables_1_5) 128 rfl
def tq_5_17 := dr8 (L := tables_1_5) 136 rfl
def tq_5_18 := dr8 (L := tables_1_5) 144 rfl
def tq_5_19 := dr8 (L := tables_1_5) 152 rfl
def tq_5_20 := dr8 (L := tables_1_5) 160 rfl
def tq_5_21 := dr8 (L := tables_1_5) 168 rfl
def tq_5_22 := dr8 (L := tables_1_5) 176 rfl
def tq_5_23 := dr8 (L := tables_1_5) 184 rfl
def tq_5_24 := dr8 (L := tables_1_5) 192 rfl
def tq_5_25 := dr8 (L := tables_1_5) 200 rfl
def tq_5_26 := dr8 (L := tables_1_5) 208 rfl
def tq_5_27 := dr8 (L := tables_1_5) 216 rfl
def tq_5_28 := dr8 (L := tables_1_5) 224 rfl
def tq_5_29 := dr8 (L := tables_1_5) 232 rfl
def tq_6_0 := dr8 (L := tables_1_6) 0 rfl
def tq_6_1 := dr8 (L := tables_1_6) 8 rfl
def tq_6_2 := dr8 (L := tables_1_6) 16 rfl
def tq_6_3 := dr8 (L := tables_1_6) 24 rfl
def tq_6_4 := dr8 (L := tables_1_6) 32 rfl
def tq_6_5 := dr8 (L := tables_1_6) 40 rfl
def tq_6_6 := dr8 (L := tables_1_6) 48 rfl
def tq_6_7 := dr8 (L := tables_1_6) 56 rfl
def tq_6_8 := dr8 (L := tables_1_6) 64 rfl
def tq_6_9 := dr8 (L := tables_1_6) 72 rfl
def tq_6_10 := dr8 (L := tables_1_6) 80 rfl
def tq_6_11 := dr8 (L := tables_1_6) 88 rfl
def tq_6_12 := dr8 (L := tables_1_6) 96 rfl
def tq_6_13 := dr8 (L := tables_1_6) 104 rfl
def tq_6_14 := dr8 (L := tables_1_6) 112 rfl
def tq_6_15 := dr8 (L := tables_1_6) 120 rfl
def tq_6_16 := dr8 (L := tables_1_6) 128 rfl
def tq_6_17 := dr8 (L := tables_1_6) 136 rfl
def tq_6_18 := dr8 (L := tables_1_6) 144 rfl
def tq_6_19 := dr8 (L := tables_1_6) 152 rfl
def tq_6_26 := dr8 (L := tables_1_6) 208 rfl
def tq_6_27 := dr8 (L := tables_1_6) 216 rfl
def tq_6_28 := dr8 (L := tables_1_6) 224 rfl
def tq_6_29 := dr8 (L := tables_1_6) 232 rfl
def tq_7_0 := dr8 (L := tables_1_7) 0 rfl
def tq_7_1 := dr8 (L := tables_1_7) 8 rfl
def tq_7_2 := dr8 (L := tables_1_7) 16 rfl
def tq_7_3 := dr8 (L := tables_1_7) 24 rfl
def tq_7_4 := dr8 (L := tables_1_7) 32 rfl
def tq_7_5 := dr8 (L := tables_1_7) 40 rfl
def tq_7_6 := dr8 (L := tables_1_7) 48 rfl
def tq_7_7 := dr8 (L := tables_1_7) 56 rfl
def tq_7_8 := dr8 (L := tables_1_7) 64 rfl
def tq_7_9 := dr8 (L := tables_1_7) 72 rfl
def tq_7_10 := dr8 (L := tables_1_7) 80 rfl
def tq_7_11 := dr8 (L := tables_1_7) 88 rfl
def tq_7_12 := dr8 (L := tables_1_7) 96 rfl
def tq_7_13 := dr8 (L := tables_1_7) 104 rfl
def tq_7_14 := dr8 (L := tables_1_7) 112 rfl
def tq_7_15 := dr8 (L := tables_1_7) 120 rfl
def tq_7_16 := dr8 (L := tables_1_7) 128 rfl
def tq_7_17 := dr8 (L := tables_1_7) 136 rfl
def tq_7_18 := dr8 (L := tables_1_7) 144 rfl
def tq_7_19 := dr8 (L := tables_1_7) 152 rfl
def tq_7_20 := dr8 (L := tables_1_7) 160 rfl
def tq_7_21 := dr8 (L := tables_1_7) 168 rfl
def tq_7_22 := dr8 (L := tables_1_7) 176 rfl
def tq_7_23 := dr8 (L := tables_1_7) 184 rfl
def tq_7_24 := dr8 (L := tables_1_7) 192 rfl
def tq_7_25 := dr8 (L := tables_1_7) 200 rfl
def tq_7_26 := dr8 (L := tables_1_7) 208 rfl
def tq_7_27 := dr8 (L := tables_1_7) 216 rfl
def tq_7_28 := dr8 (L := tables_1_7) 224 rfl
def tq_7_29 := dr8 (L := tables_1_7) 232 rfl
def tq_8_0 := dr8 (L := tables_1_8) 0 rfl
def tq_8_1 := dr8 (L := tables_1_8) 8 rfl
def tq_8_2 := dr8 (L := tables_1_8) 16 rfl
def tq_8_3 := dr8 (L := tables_1_8) 24 rfl
def tq_8_4 := dr8 (L := tables_1_8) 32 rfl
def tq_8_5 := dr8 (L := tables_1_8) 40 rfl
def tq_8_6 := dr8 (L := tables_1_8) 48 rfl
def tq_8_7 := dr8 (L := tables_1_8) 56 rfl
def tq_8_8 := dr8 (L := tables_1_8) 64 rfl
def tq_8_9 := dr8 (L := tables_1_8) 72 rfl
def tq_8_10 := dr8 (L := tables_1_8) 80 rfl
def tq_8_11 := dr8 (L := tables_1_8) 88 rfl
def tq_8_12 := dr8 (L := tables_1_8) 96 rfl
def tq_8_13 := dr8 (L := tables_1_8) 104 rfl
def tq_8_14 := dr8 (L := tables_1_8) 112 rfl
def tq_8_15 := dr8 (L := tables_1_8) 120 rfl
def tq_8_16 := dr8 (L := tables_1_8) 128 rfl
def tq_8_17 := dr8 (L := tables_1_8) 136 rfl
def tq_8_18 := dr8 (L := tables_1_8) 144 rfl
def tq_8_19 := dr8 (L := tables_1_8) 152 rfl
def tq_8_20 := dr8 (L := tables_1_8) 160 rfl
def tq_8_21 := dr8 (L := tables_1_8) 168 rfl
def tq_8_22 := dr8 (L := tables_1_8) 176 rfl
def tq_8_23 := dr8 (L := tables_1_8) 184 rfl
def tq_8_24 := dr8 (L := tables_1_8) 192 rfl
def tq_8_25 := dr8 (L := tables_1_8) 200 rfl
def tq_8_26 := dr8 (L := tables_1_8) 208 rfl
def tq_8_27 := dr8 (L := tables_1_8) 216 rfl
def tq_8_28 := dr8 (L := tables_1_8) 224 rfl
def tq_8_29 := dr8 (L := tables_1_8) 232 rfl
def tq_9_0 := dr8 (L := tables_1_9) 0 rfl
def tq_9_1 := dr8 (L := tables_1_9) 8 rfl
def tq_9_2 := dr8 (L := tables_1_9) 16 rfl
def tq_9_3 := dr8 (L := tables_1_9) 24 rfl
def tq_9_4 := dr8 (L := tables_1_9) 32 rfl
def tq_9_5 := dr8 (L := tables_1_9) 40 rfl
def tq_9_6 := dr8 (L := tables_1_9) 48 rfl
def tq_9_7 := dr8 (L := tables_1_9) 56 rfl
def tq_9_8 := dr8 (L := tables_1_9) 58 rfl
abbrev mX11_init : fwM := (yX11_init, cX11_init, 2, none)
abbrev mX9_init : fwM := (yX9_init, cX9_init, 1, none)
abbrev mX5_init : fwM := (yX5_init, cX5_init, 2, none)
abbrev mX2_init : fwM := (yX2_init, cX2_init, 1, none)
abbrev mX1_init : fwM := (yX1_init, cX1_init, 1, none)
abbrev mX3_init : fwM := (yX3_init, cX3_init, 1, none)
abbrev mX8_init : fwM := (yX8_init, cX8_init, 1, none)
abbrev mX4_init : fwM := (yX4_init, cX4_init, 2, none)
abbrev mX10_init : fwM := (yX10_init, cX10_init, 2, none)
abbrev mX7_init : fwM := (yX7_init, cX7_init, 3, none)
abbrev mX0_init : fwM := (yX0_init, cX0_init, 3, none)
abbrev mX6_init : fwM := (yX6_init, cX6_init, 4, none)
abbrev mX11_feed : fwM := (yX11_feed, cX11_feed, 6, some .int)
theorem ci_0 : Cond.initialized "FootLower" ∈ fwTb := tw_1 tq_1_0.2.1 rfl
theorem cn_0 : "FootLower" ≠ "java/lang/invoke/MethodHandle" ∧ "FootLower" ≠ "java/lang/invoke/VarHandle" := ⟨by decide, by decide⟩
theorem pd_0 : (parseMethodDescriptor "(IIIII)I").map (fun d => d.parameters.length) = some 5 := by decide +kernel
theorem ok_X11_feed : fwMok mX11_feed 5 := ⟨tw_2 tq_2_18.2.2.2.1 rfl, ci_0, ⟨cn_0.1, cn_0.2, pd_0⟩, Nat.le_of_ble_eq_true rfl⟩
theorem vi_X11_feed : fwMvi mX11_feed := ⟨tw_2 tq_2_18.2.1 rfl, tw_2 tq_2_18.2.2.1 rfl⟩
abbrev mX9_hasRoomFor : fwM := (yX9_hasRoomFor, cX9_hasRoomFor, 2, some .boolean)
theorem ci_1 : Cond.initialized "FootLower$Tape" ∈ fwTb := tw_1 tq_1_0.2.2.1 rfl
theorem cn_1 : "FootLower$Tape" ≠ "java/lang/invoke/MethodHandle" ∧ "FootLower$Tape" ≠ "java/lang/invoke/VarHandle" := ⟨by decide, by decide⟩
theorem pd_1 : (parseMethodDescriptor "(I)Z").map (fun d => d.parameters.length) = some 1 := by decide +kernel
theorem ok_X9_hasRoomFor : fwMok mX9_hasRoomFor 1 := ⟨tw_2 tq_2_18.2.2.2.2.2.2.2 rfl, ci_1, ⟨cn_1.1, cn_1.2, pd_1⟩, Nat.le_of_ble_eq_true rfl⟩
theorem vi_X9_hasRoomFor : fwMvi mX9_hasRoomFor := ⟨tw_2 tq_2_18.2.2.2.2.2.1 rfl, tw_2 tq_2_18.2.2.2.2.2.2.1 rfl⟩
abbrev mX9_addNumber : fwM := (yX9_addNumber, cX9_addNumber, 3, none)
theorem pd_2 : (parseMethodDescriptor "(I)V").map (fun d => d.parameters.length) = some 1 := by decide +kernel
theorem ok_X9_addNumber : fwMok mX9_addNumber 1 := ⟨tw_2 tq_2_19.2.2.2.1 rfl, ci_1, ⟨cn_1.1, cn_1.2, pd_2⟩, Nat.le_of_ble_eq_true rfl⟩
theorem vi_X9_addNumber : fwMvi mX9_addNumber := ⟨tw_2 tq_2_19.2.1 rfl, tw_2 tq_2_19.2.2.1 rfl⟩
abbrev mX11_end : fwM := (yX11_end, cX11_end, 2, some .int)
theorem pd_3 : (parseMethodDescriptor "(I)I").map (fun d => d.parameters.length) = some 1 := by decide +kernel
theorem ok_X11_end : fwMok mX11_end 1 := ⟨tw_2 tq_2_19.2.2.2.2.2.2.2 rfl, ci_0, ⟨cn_0.1, cn_0.2, pd_3⟩, Nat.le_of_ble_eq_true rfl⟩
theorem vi_X11_end : fwMvi mX11_end := ⟨tw_2 tq_2_19.2.2.2.2.2.1 rfl, tw_2 tq_2_19.2.2.2.2.2.2.1 rfl⟩
abbrev mX11_mount : fwM := (yX11_mount, cX11_mount, 2, some .int)
theorem pd_4 : (parseMethodDescriptor "()I").map (fun d => d.parameters.length) = some 0 := by decide +kernel
theorem ok_X11_mount : fwMok mX11_mount 0 := ⟨tw_2 tq_2_20.2.2.2.1 rfl, ci_0, ⟨cn_0.1, cn_0.2, pd_4⟩, Nat.le_of_ble_eq_true rfl⟩
theorem vi_X11_mount : fwMvi mX11_mount := ⟨tw_2 tq_2_20.2.1 rfl, tw_2 tq_2_20.2.2.1 rfl⟩
abbrev mX5_readAll : fwM := (yX5_readAll, cX5_readAll, 2, some .boolean)
theorem ci_2 : Cond.initialized "FootLower$Reader" ∈ fwTb := tw_1 tq_1_0.2.2.2.1 rfl
theorem cn_2 : "FootLower$Reader" ≠ "java/lang/invoke/MethodHandle" ∧ "FootLower$Reader" ≠ "java/lang/invoke/VarHandle" := ⟨by decide, by decide⟩
theorem pd_5 : (parseMethodDescriptor "()Z").map (fun d => d.parameters.length) = some 0 := by decide +kernel
theorem ok_X5_readAll : fwMok mX5_readAll 0 := ⟨tw_2 tq_2_20.2.2.2.2.2.2.2 rfl, ci_2, ⟨cn_2.1, cn_2.2, pd_5⟩, Nat.le_of_ble_eq_true rfl⟩
theorem vi_X5_readAll : fwMvi mX5_readAll := ⟨tw_2 tq_2_20.2.2.2.2.2.1 rfl, tw_2 tq_2_20.2.2.2.2.2.2.1 rfl⟩
abbrev mX9_cutTokens : fwM := (yX9_cutTokens, cX9_cutTokens, 5, none)
theorem pd_6 : (parseMethodDescriptor "()V").map (fun d => d.parameters.length) = some 0 := by decide +kernel
theorem ok_X9_cutTokens : fwMok mX9_cutTokens 0 := ⟨tw_2 tq_2_21.2.2.2.1 rfl, ci_1, ⟨cn_1.1, cn_1.2, pd_6⟩, Nat.le_of_ble_eq_true rfl⟩
theorem vi_X9_cutTokens : fwMvi mX9_cutTokens := ⟨tw_2 tq_2_21.2.1 rfl, tw_2 tq_2_21.2.2.1 rfl⟩
abbrev mX9_byteAt : fwM := (yX9_byteAt, cX9_byteAt, 2, some .int)
theorem ok_X9_byteAt : fwMok mX9_byteAt 1 := ⟨tw_2 tq_2_21.2.2.2.2.2.2.2 rfl, ci_1, ⟨cn_1.1, cn_1.2, pd_3⟩, Nat.le_of_ble_eq_true rfl⟩
theorem vi_X9_byteAt : fwMvi mX9_byteAt := ⟨tw_2 tq_2_21.2.2.2.2.2.2.1 rfl, fwTb_s (i := 0) rfl rfl⟩
abbrev mX9_isLetter : fwM := (yX9_isLetter, cX9_isLetter, 1, some .boolean)
theorem ok_X9_isLetter : fwMok mX9_isLetter 1 := ⟨tw_2 tq_2_22.2.2.1 rfl, ci_1, ⟨cn_1.1, cn_1.2, pd_1⟩, Nat.le_of_ble_eq_true rfl⟩
theorem st_X9_isLetter : Cond.static (mX9_isLetter).1 ∈ fwTb := tw_2 tq_2_22.2.1 rfl
abbrev mX9_wordEnd : fwM := (yX9_wordEnd, cX9_wordEnd, 4, some .int)
theorem ok_X9_wordEnd : fwMok mX9_wordEnd 1 := ⟨tw_2 tq_2_22.2.2.2.2.2.2.1 rfl, ci_1, ⟨cn_1.1, cn_1.2, pd_3⟩, Nat.le_of_ble_eq_true rfl⟩
theorem vi_X9_wordEnd : fwMvi mX9_wordEnd := ⟨tw_2 tq_2_22.2.2.2.2.2.1 rfl, fwTb_s (i := 1) rfl rfl⟩
abbrev mX9_wordKind : fwM := (yX9_wordKind, cX9_wordKind, 4, some .int)
theorem pd_7 : (parseMethodDescriptor "(II)I").map (fun d => d.parameters.length) = some 2 := by decide +kernel
theorem ok_X9_wordKind : fwMok mX9_wordKind 2 := ⟨tw_2 tq_2_23.2.2.1 rfl, ci_1, ⟨cn_1.1, cn_1.2, pd_7⟩, Nat.le_of_ble_eq_true rfl⟩
theorem vi_X9_wordKind : fwMvi mX9_wordKind := ⟨tw_2 tq_2_23.2.1 rfl, fwTb_s (i := 2) rfl rfl⟩
abbrev mX9_textOf : fwM := (yX9_textOf, cX9_textOf, 1, some (.object "java/lang/String"))
theorem pd_8 : (parseMethodDescriptor "(I)Ljava/lang/String;").map (fun d => d.parameters.length) = some 1 := by decide +kernel
theorem ok_X9_textOf : fwMok mX9_textOf 1 := ⟨tw_2 tq_2_23.2.2.2.2.2.1 rfl, ci_1, ⟨cn_1.1, cn_1.2, pd_8⟩, Nat.le_of_ble_eq_true rfl⟩
theorem st_X9_textOf : Cond.static (mX9_textOf).1 ∈ fwTb := tw_2 tq_2_23.2.2.2.2.1 rfl
abbrev mX9_isText : fwM := (yX9_isText, cX9_isText, 5, some .boolean)
theorem pd_9 : (parseMethodDescriptor "(IILjava/lang/String;)Z").map (fun d => d.parameters.length) = some 3 := by decide +kernel
theorem ok_X9_isText : fwMok mX9_isText 3 := ⟨tw_2 tq_2_25.2.2.2.2.2.2.1 rfl, ci_1, ⟨cn_1.1, cn_1.2, pd_9⟩, Nat.le_of_ble_eq_true rfl⟩
theorem vi_X9_isText : fwMvi mX9_isText := ⟨tw_2 tq_2_25.2.2.2.2.2.1 rfl, fwTb_s (i := 3) rfl rfl⟩
abbrev mJ0_length_8abf5 : fwM := (yJ0_length_8abf5, cJ0_length_8abf5, 1, some .int)
theorem ci_3 : Cond.initialized "java/lang/String" ∈ fwTb := tw_1 tq_1_1.2.2.2.2.2.2.1 rfl
theorem cn_3 : "java/lang/String" ≠ "java/lang/invoke/MethodHandle" ∧ "java/lang/String" ≠ "java/lang/invoke/VarHandle" := ⟨by decide, by decide⟩
theorem ok_J0_length_8abf5 : fwMok mJ0_length_8abf5 0 := ⟨tw_2 tq_2_26.2.2.1 rfl, ci_3, ⟨cn_3.1, cn_3.2, pd_4⟩, Nat.le_of_ble_eq_true rfl⟩
theorem vi_J0_length_8abf5 : fwMvi mJ0_length_8abf5 := ⟨tw_2 tq_2_26.1 rfl, tw_2 tq_2_26.2.1 rfl⟩
abbrev mJ0_coder_7d493 : fwM := (yJ0_coder_7d493, cJ0_coder_7d493, 1, some .byte)
theorem pd_10 : (parseMethodDescriptor "()B").map (fun d => d.parameters.length) = some 0 := by decide +kernel
theorem ok_J0_coder_7d493 : fwMok mJ0_coder_7d493 0 := ⟨tw_2 tq_2_26.2.2.2.2.2.2.1 rfl, ci_3, ⟨cn_3.1, cn_3.2, pd_10⟩, Nat.le_of_ble_eq_true rfl⟩
theorem vi_J0_coder_7d493 : fwMvi mJ0_coder_7d493 := ⟨tw_2 tq_2_26.2.2.2.2.1 rfl, tw_2 tq_2_26.2.2.2.2.2.1 rfl⟩
abbrev mJ0_charAt_5068e : fwM := (yJ0_charAt_5068e, cJ0_charAt_5068e, 2, some .char)
theorem pd_11 : (parseMethodDescriptor "(I)C").map (fun d => d.parameters.length) = some 1 := by decide +kernel
theorem ok_J0_charAt_5068e : fwMok mJ0_charAt_5068e 1 := ⟨tw_2 tq_2_27.2.2.2.2.1 rfl, ci_3, ⟨cn_3.1, cn_3.2, pd_11⟩, Nat.le_of_ble_eq_true rfl⟩
theorem vi_J0_charAt_5068e : fwMvi mJ0_charAt_5068e := ⟨tw_2 tq_2_27.2.2.1 rfl, tw_2 tq_2_27.2.2.2.1 rfl⟩
abbrev mJ0_isLatin1_aae02 : fwM := (yJ0_isLatin1_aae02, cJ0_isLatin1_aae02, 1, some .boolean)
theorem ok_J0_isLatin1_aae02 : fwMok mJ0_isLatin1_aae02 0 := ⟨tw_2 tq_2_28.1 rfl, ci_3, ⟨cn_3.1, cn_3.2, pd_5⟩, Nat.le_of_ble_eq_true rfl⟩
theorem vi_J0_isLatin1_aae02 : fwMvi mJ0_isLatin1_aae02 := ⟨tw_2 tq_2_27.2.2.2.2.2.2.1 rfl, tw_2 tq_2_27.2.2.2.2.2.2.2 rfl⟩
abbrev mJ1_charAt_3b067 : fwM := (yJ1_charAt_3b067, cJ1_charAt_3b067, 2, some .char)
theorem ci_4 : Cond.initialized "java/lang/StringLatin1" ∈ fwTb := tw_1 tq_1_1.2.2.2.2.2.2.2 rfl
theorem cn_4 : "java/lang/StringLatin1" ≠ "java/lang/invoke/MethodHandle" ∧ "java/lang/StringLatin1" ≠ "java/lang/invoke/VarHandle" := ⟨by decide, by decide⟩
theorem pd_12 : (parseMethodDescriptor "([BI)C").map (fun d => d.parameters.length) = some 2 := by decide +kernel
theorem ok_J1_charAt_3b067 : fwMok mJ1_charAt_3b067 2 := ⟨tw_2 tq_2_28.2.2.2.1 rfl, ci_4, ⟨cn_4.1, cn_4.2, pd_12⟩, Nat.le_of_ble_eq_true rfl⟩
theorem st_J1_charAt_3b067 : Cond.static (mJ1_charAt_3b067).1 ∈ fwTb := tw_2 tq_2_28.2.2.1 rfl
abbrev mJ0_checkIndex_df160 : fwM := (yJ0_checkIndex_df160, cJ0_checkIndex_df160, 2, none)
theorem pd_13 : (parseMethodDescriptor "(II)V").map (fun d => d.parameters.length) = some 2 := by decide +kernel
theorem ok_J0_checkIndex_df160 : fwMok mJ0_checkIndex_df160 2 := ⟨tw_2 tq_2_28.2.2.2.2.2.2.1 rfl, ci_3, ⟨cn_3.1, cn_3.2, pd_13⟩, Nat.le_of_ble_eq_true rfl⟩
theorem st_J0_checkIndex_df160 : Cond.static (mJ0_checkIndex_df160).1 ∈ fwTb := tw_2 tq_2_28.2.2.2.2.2.1 rfl
abbrev mJ3_checkIndex_8e157 : fwM := (yJ3_checkIndex_8e157, cJ3_checkIndex_8e157, 3, some .int)
theorem ci_5 : Cond.initialized "jdk/internal/util/Preconditions" ∈ fwTb := tw_1 tq_1_2.1 rfl
theorem cn_5 : "jdk/internal/util/Preconditions" ≠ "java/lang/invoke/MethodHandle" ∧ "jdk/internal/util/Preconditions" ≠ "java/lang/invoke/VarHandle" := ⟨by decide, by decide⟩
theorem pd_14 : (parseMethodDescriptor "(IILjava/util/function/BiFunction;)I").map (fun d => d.parameters.length) = some 3 := by decide +kernel
theorem ok_J3_checkIndex_8e157 : fwMok mJ3_checkIndex_8e157 3 := ⟨tw_2 tq_2_29.2.2.2.1 rfl, ci_5, ⟨cn_5.1, cn_5.2, pd_14⟩, Nat.le_of_ble_eq_true rfl⟩
theorem st_J3_checkIndex_8e157 : Cond.static (mJ3_checkIndex_8e157).1 ∈ fwTb := tw_2 tq_2_29.2.2.1 rfl
abbrev mJ2_charAt_3b067 : fwM := (yJ2_charAt_3b067, cJ2_charAt_3b067, 2, some .char)
theorem ci_6 : Cond.initialized "java/lang/StringUTF16" ∈ fwTb := tw_1 tq_1_2.2.1 rfl
theorem cn_6 : "java/lang/StringUTF16" ≠ "java/lang/invoke/MethodHandle" ∧ "java/lang/StringUTF16" ≠ "java/lang/invoke/VarHandle" := ⟨by decide, by decide⟩
theorem ok_J2_charAt_3b067 : fwMok mJ2_charAt_3b067 2 := ⟨tw_2 tq_2_29.2.2.2.2.2.2.1 rfl, ci_6, ⟨cn_6.1, cn_6.2, pd_12⟩, Nat.le_of_ble_eq_true rfl⟩
theorem st_J2_charAt_3b067 : Cond.static (mJ2_charAt_3b067).1 ∈ fwTb := tw_2 tq_2_29.2.2.2.2.2.1 rfl
abbrev mJ2_checkIndex_2214a : fwM := (yJ2_checkIndex_2214a, cJ2_checkIndex_2214a, 2, none)
theorem pd_15 : (parseMethodDescriptor "(I[B)V").map (fun d => d.parameters.length) = some 2 := by decide +kernel
theorem ok_J2_checkIndex_2214a : fwMok mJ2_checkIndex_2214a 2 := ⟨tw_3 tq_3_0.2.1 rfl, ci_6, ⟨cn_6.1, cn_6.2, pd_15⟩, Nat.le_of_ble_eq_true rfl⟩
theorem st_J2_checkIndex_2214a : Cond.static (mJ2_checkIndex_2214a).1 ∈ fwTb := tw_3 tq_3_0.1 rfl
abbrev mJ2_length_9d52b : fwM := (yJ2_length_9d52b, cJ2_length_9d52b, 1, some .int)
theorem pd_16 : (parseMethodDescriptor "([B)I").map (fun d => d.parameters.length) = some 1 := by decide +kernel
theorem ok_J2_length_9d52b : fwMok mJ2_length_9d52b 1 := ⟨tw_3 tq_3_0.2.2.2.2.1 rfl, ci_6, ⟨cn_6.1, cn_6.2, pd_16⟩, Nat.le_of_ble_eq_true rfl⟩
theorem st_J2_length_9d52b : Cond.static (mJ2_length_9d52b).1 ∈ fwTb := tw_3 tq_3_0.2.2.2.1 rfl
abbrev mJ2_getChar_3b067 : fwM := (yJ2_getChar_3b067, cJ2_getChar_3b067, 2, some .char)
theorem ok_J2_getChar_3b067 : fwMok mJ2_getChar_3b067 2 := ⟨tw_3 tq_3_1.1 rfl, ci_6, ⟨cn_6.1, cn_6.2, pd_12⟩, Nat.le_of_ble_eq_true rfl⟩
theorem st_J2_getChar_3b067 : Cond.static (mJ2_getChar_3b067).1 ∈ fwTb := tw_3 tq_3_0.2.2.2.2.2.2.2 rfl
abbrev mX9_addToken : fwM := (yX9_addToken, cX9_addToken, 4, none)
theorem pd_17 : (parseMethodDescriptor "(III)V").map (fun d => d.parameters.length) = some 3 := by decide +kernel
theorem ok_X9_addToken : fwMok mX9_addToken 3 := ⟨tw_3 tq_3_2.2.2.1 rfl, ci_1, ⟨cn_1.1, cn_1.2, pd_17⟩, Nat.le_of_ble_eq_true rfl⟩
theorem vi_X9_addToken : fwMvi mX9_addToken := ⟨tw_3 tq_3_2.2.1 rfl, fwTb_s (i := 4) rfl rfl⟩
abbrev mX9_isDigit : fwM := (yX9_isDigit, cX9_isDigit, 1, some .boolean)
theorem ok_X9_isDigit : fwMok mX9_isDigit 1 := ⟨tw_3 tq_3_2.2.2.2.2.2.1 rfl, ci_1, ⟨cn_1.1, cn_1.2, pd_1⟩, Nat.le_of_ble_eq_true rfl⟩
theorem st_X9_isDigit : Cond.static (mX9_isDigit).1 ∈ fwTb := tw_3 tq_3_2.2.2.2.2.1 rfl
abbrev mX9_numberEnd : fwM := (yX9_numberEnd, cX9_numberEnd, 4, some .int)
theorem ok_X9_numberEnd : fwMok mX9_numberEnd 1 := ⟨tw_3 tq_3_3.2.1 rfl, ci_1, ⟨cn_1.1, cn_1.2, pd_3⟩, Nat.le_of_ble_eq_true rfl⟩
theorem vi_X9_numberEnd : fwMvi mX9_numberEnd := ⟨tw_3 tq_3_3.1 rfl, fwTb_s (i := 5) rfl rfl⟩
abbrev mX9_numberOf : fwM := (yX9_numberOf, cX9_numberOf, 5, some .int)
theorem ok_X9_numberOf : fwMok mX9_numberOf 2 := ⟨tw_3 tq_3_3.2.2.2.2.2.1 rfl, ci_1, ⟨cn_1.1, cn_1.2, pd_7⟩, Nat.le_of_ble_eq_true rfl⟩
theorem vi_X9_numberOf : fwMvi mX9_numberOf := ⟨tw_3 tq_3_3.2.2.2.2.1 rfl, fwTb_s (i := 6) rfl rfl⟩
abbrev mX2_clear : fwM := (yX2_clear, cX2_clear, 1, none)
theorem ci_7 : Cond.initialized "FootLower$Mountain" ∈ fwTb := tw_1 tq_1_0.2.2.2.2.1 rfl
theorem cn_7 : "FootLower$Mountain" ≠ "java/lang/invoke/MethodHandle" ∧ "FootLower$Mountain" ≠ "java/lang/invoke/VarHandle" := ⟨by decide, by decide⟩
theorem ok_X2_clear : fwMok mX2_clear 0 := ⟨tw_3 tq_3_4.2.2.1 rfl, ci_7, ⟨cn_7.1, cn_7.2, pd_6⟩, Nat.le_of_ble_eq_true rfl⟩
theorem vi_X2_clear : fwMvi mX2_clear := ⟨tw_3 tq_3_4.1 rfl, tw_3 tq_3_4.2.1 rfl⟩
abbrev mX1_clear : fwM := (yX1_clear, cX1_clear, 1, none)
theorem ci_8 : Cond.initialized "FootLower$Ground" ∈ fwTb := tw_1 tq_1_0.2.2.2.2.2.1 rfl
theorem cn_8 : "FootLower$Ground" ≠ "java/lang/invoke/MethodHandle" ∧ "FootLower$Ground" ≠ "java/lang/invoke/VarHandle" := ⟨by decide, by decide⟩
theorem ok_X1_clear : fwMok mX1_clear 0 := ⟨tw_3 tq_3_4.2.2.2.2.2.2.1 rfl, ci_8, ⟨cn_8.1, cn_8.2, pd_6⟩, Nat.le_of_ble_eq_true rfl⟩
theorem vi_X1_clear : fwMvi mX1_clear := ⟨tw_3 tq_3_4.2.2.2.2.1 rfl, tw_3 tq_3_4.2.2.2.2.2.1 rfl⟩
abbrev mX3_clear : fwM := (yX3_clear, cX3_clear, 2, none)
theorem ci_9 : Cond.initialized "FootLower$People" ∈ fwTb := tw_1 tq_1_0.2.2.2.2.2.2.1 rfl
theorem cn_9 : "FootLower$People" ≠ "java/lang/invoke/MethodHandle" ∧ "FootLower$People" ≠ "java/lang/invoke/VarHandle" := ⟨by decide, by decide⟩
theorem ok_X3_clear : fwMok mX3_clear 0 := ⟨tw_3 tq_3_5.2.2.1 rfl, ci_9, ⟨cn_9.1, cn_9.2, pd_6⟩, Nat.le_of_ble_eq_true rfl⟩
theorem vi_X3_clear : fwMvi mX3_clear := ⟨tw_3 tq_3_5.1 rfl, tw_3 tq_3_5.2.1 rfl⟩
abbrev mX5_advance : fwM := (yX5_advance, cX5_advance, 1, none)
theorem ok_X5_advance : fwMok mX5_advance 0 := ⟨tw_3 tq_3_5.2.2.2.2.2.2.1 rfl, ci_2, ⟨cn_2.1, cn_2.2, pd_6⟩, Nat.le_of_ble_eq_true rfl⟩
theorem vi_X5_advance : fwMvi mX5_advance := ⟨tw_3 tq_3_5.2.2.2.2.2.1 rfl, fwTb_s (i := 7) rfl rfl⟩
abbrev mX5_readLine : fwM := (yX5_readLine, cX5_readLine, 2, some .boolean)
theorem ok_X5_readLine : fwMok mX5_readLine 0 := ⟨tw_3 tq_3_6.2.2.1 rfl, ci_2, ⟨cn_2.1, cn_2.2, pd_5⟩, Nat.le_of_ble_eq_true rfl⟩
theorem vi_X5_readLine : fwMvi mX5_readLine := ⟨tw_3 tq_3_6.2.1 rfl, fwTb_s (i := 8) rfl rfl⟩
abbrev mX5_readMountain : fwM := (yX5_readMountain, cX5_readMountain, 2, some .boolean)
theorem ok_X5_readMountain : fwMok mX5_readMountain 0 := ⟨tw_3 tq_3_6.2.2.2.2.2.2.1 rfl, ci_2, ⟨cn_2.1, cn_2.2, pd_5⟩, Nat.le_of_ble_eq_true rfl⟩
theorem vi_X5_readMountain : fwMvi mX5_readMountain := ⟨tw_3 tq_3_6.2.2.2.2.2.1 rfl, fwTb_s (i := 9) rfl rfl⟩
abbrev mX5_pass : fwM := (yX5_pass, cX5_pass, 2, some .boolean)
theorem ok_X5_pass : fwMok mX5_pass 1 := ⟨tw_3 tq_3_7.2.2.1 rfl, ci_2, ⟨cn_2.1, cn_2.2, pd_1⟩, Nat.le_of_ble_eq_true rfl⟩
theorem vi_X5_pass : fwMvi mX5_pass := ⟨tw_3 tq_3_7.2.1 rfl, fwTb_s (i := 10) rfl rfl⟩
abbrev mX5_refuse : fwM := (yX5_refuse, cX5_refuse, 2, some .boolean)
theorem ok_X5_refuse : fwMok mX5_refuse 1 := ⟨tw_3 tq_3_7.2.2.2.2.2.2.1 rfl, ci_2, ⟨cn_2.1, cn_2.2, pd_1⟩, Nat.le_of_ble_eq_true rfl⟩
theorem vi_X5_refuse : fwMvi mX5_refuse := ⟨tw_3 tq_3_7.2.2.2.2.2.1 rfl, fwTb_s (i := 11) rfl rfl⟩
abbrev mX5_readHeights : fwM := (yX5_readHeights, cX5_readHeights, 3, some .boolean)
theorem pd_18 : (parseMethodDescriptor "(LFootLower$Ground;)Z").map (fun d => d.parameters.length) = some 1 := by decide +kernel
theorem ok_X5_readHeights : fwMok mX5_readHeights 1 := ⟨tw_3 tq_3_8.2.2.1 rfl, ci_2, ⟨cn_2.1, cn_2.2, pd_18⟩, Nat.le_of_ble_eq_true rfl⟩
theorem vi_X5_readHeights : fwMvi mX5_readHeights := ⟨tw_3 tq_3_8.2.1 rfl, fwTb_s (i := 12) rfl rfl⟩
abbrev mX5_isNumber : fwM := (yX5_isNumber, cX5_isNumber, 3, some .boolean)
theorem pd_19 : (parseMethodDescriptor "(II)Z").map (fun d => d.parameters.length) = some 2 := by decide +kernel
theorem ok_X5_isNumber : fwMok mX5_isNumber 2 := ⟨tw_3 tq_3_8.2.2.2.2.2.2.1 rfl, ci_2, ⟨cn_2.1, cn_2.2, pd_19⟩, Nat.le_of_ble_eq_true rfl⟩
theorem vi_X5_isNumber : fwMvi mX5_isNumber := ⟨tw_3 tq_3_8.2.2.2.2.2.1 rfl, fwTb_s (i := 13) rfl rfl⟩
abbrev mX5_passNumber : fwM := (yX5_passNumber, cX5_passNumber, 2, some .int)
theorem ok_X5_passNumber : fwMok mX5_passNumber 0 := ⟨tw_3 tq_3_9.2.2.1 rfl, ci_2, ⟨cn_2.1, cn_2.2, pd_4⟩, Nat.le_of_ble_eq_true rfl⟩
theorem vi_X5_passNumber : fwMvi mX5_passNumber := ⟨tw_3 tq_3_9.2.1 rfl, fwTb_s (i := 14) rfl rfl⟩
abbrev mX1_addCell : fwM := (yX1_addCell, cX1_addCell, 2, none)
theorem ok_X1_addCell : fwMok mX1_addCell 1 := ⟨tw_3 tq_3_9.2.2.2.2.2.2.1 rfl, ci_8, ⟨cn_8.1, cn_8.2, pd_2⟩, Nat.le_of_ble_eq_true rfl⟩
theorem vi_X1_addCell : fwMvi mX1_addCell := ⟨tw_3 tq_3_9.2.2.2.2.1 rfl, tw_3 tq_3_9.2.2.2.2.2.1 rfl⟩
abbrev mX5_readFolk : fwM := (yX5_readFolk, cX5_readFolk, 2, some .boolean)
theorem ok_X5_readFolk : fwMok mX5_readFolk 0 := ⟨tw_3 tq_3_10.2.2.1 rfl, ci_2, ⟨cn_2.1, cn_2.2, pd_5⟩, Nat.le_of_ble_eq_true rfl⟩
theorem vi_X5_readFolk : fwMvi mX5_readFolk := ⟨tw_3 tq_3_10.2.1 rfl, fwTb_s (i := 15) rfl rfl⟩
abbrev mX5_readFact : fwM := (yX5_readFact, cX5_readFact, 6, some .boolean)
theorem pd_20 : (parseMethodDescriptor "(IIIII)Z").map (fun d => d.parameters.length) = some 5 := by decide +kernel
theorem ok_X5_readFact : fwMok mX5_readFact 5 := ⟨tw_3 tq_3_10.2.2.2.2.2.2.1 rfl, ci_2, ⟨cn_2.1, cn_2.2, pd_20⟩, Nat.le_of_ble_eq_true rfl⟩
theorem vi_X5_readFact : fwMvi mX5_readFact := ⟨tw_3 tq_3_10.2.2.2.2.2.1 rfl, fwTb_s (i := 16) rfl rfl⟩
abbrev mX3_setFact : fwM := (yX3_setFact, cX3_setFact, 4, none)
theorem ok_X3_setFact : fwMok mX3_setFact 3 := ⟨tw_3 tq_3_11.2.2.1 rfl, ci_9, ⟨cn_9.1, cn_9.2, pd_17⟩, Nat.le_of_ble_eq_true rfl⟩
theorem vi_X3_setFact : fwMvi mX3_setFact := ⟨tw_3 tq_3_11.1 rfl, tw_3 tq_3_11.2.1 rfl⟩
abbrev mX5_readTalk : fwM := (yX5_readTalk, cX5_readTalk, 3, some .boolean)
theorem ok_X5_readTalk : fwMok mX5_readTalk 1 := ⟨tw_3 tq_3_11.2.2.2.2.2.2.1 rfl, ci_2, ⟨cn_2.1, cn_2.2, pd_1⟩, Nat.le_of_ble_eq_true rfl⟩
theorem vi_X5_readTalk : fwMvi mX5_readTalk := ⟨tw_3 tq_3_11.2.2.2.2.2.1 rfl, fwTb_s (i := 17) rfl rfl⟩
abbrev mX3_befriend : fwM := (yX3_befriend, cX3_befriend, 3, none)
theorem ok_X3_befriend : fwMok mX3_befriend 2 := ⟨tw_3 tq_3_12.2.2.1 rfl, ci_9, ⟨cn_9.1, cn_9.2, pd_13⟩, Nat.le_of_ble_eq_true rfl⟩
theorem vi_X3_befriend : fwMvi mX3_befriend := ⟨tw_3 tq_3_12.1 rfl, tw_3 tq_3_12.2.1 rfl⟩
abbrev mX3_fact : fwM := (yX3_fact, cX3_fact, 4, some .int)
theorem ok_X3_fact : fwMok mX3_fact 2 := ⟨tw_3 tq_3_12.2.2.2.2.2.2.1 rfl, ci_9, ⟨cn_9.1, cn_9.2, pd_7⟩, Nat.le_of_ble_eq_true rfl⟩
theorem vi_X3_fact : fwMvi mX3_fact := ⟨tw_3 tq_3_12.2.2.2.2.1 rfl, tw_3 tq_3_12.2.2.2.2.2.1 rfl⟩
abbrev mX5_readHeap : fwM := (yX5_readHeap, cX5_readHeap, 1, some .boolean)
theorem ok_X5_readHeap : fwMok mX5_readHeap 0 := ⟨tw_3 tq_3_13.2.2.2.1 rfl, ci_2, ⟨cn_2.1, cn_2.2, pd_5⟩, Nat.le_of_ble_eq_true rfl⟩
theorem vi_X5_readHeap : fwMvi mX5_readHeap := ⟨tw_3 tq_3_13.2.2.1 rfl, fwTb_s (i := 18) rfl rfl⟩
abbrev mX2_copyFrom : fwM := (yX2_copyFrom, cX2_copyFrom, 3, none)
theorem pd_21 : (parseMethodDescriptor "(LFootLower$Mountain;)V").map (fun d => d.parameters.length) = some 1 := by decide +kernel
theorem ok_X2_copyFrom : fwMok mX2_copyFrom 1 := ⟨tw_3 tq_3_13.2.2.2.2.2.2.2 rfl, ci_7, ⟨cn_7.1, cn_7.2, pd_21⟩, Nat.le_of_ble_eq_true rfl⟩
theorem vi_X2_copyFrom : fwMvi mX2_copyFrom := ⟨tw_3 tq_3_13.2.2.2.2.2.1 rfl, tw_3 tq_3_13.2.2.2.2.2.2.1 rfl⟩
abbrev mX1_copyFrom : fwM := (yX1_copyFrom, cX1_copyFrom, 3, none)
theorem pd_22 : (parseMethodDescriptor "(LFootLower$Ground;)V").map (fun d => d.parameters.length) = some 1 := by decide +kernel
theorem ok_X1_copyFrom : fwMok mX1_copyFrom 1 := ⟨tw_3 tq_3_14.2.2.2.1 rfl, ci_8, ⟨cn_8.1, cn_8.2, pd_22⟩, Nat.le_of_ble_eq_true rfl⟩
theorem vi_X1_copyFrom : fwMvi mX1_copyFrom := ⟨tw_3 tq_3_14.2.1 rfl, tw_3 tq_3_14.2.2.1 rfl⟩
abbrev mX3_copyFrom : fwM := (yX3_copyFrom, cX3_copyFrom, 3, none)
theorem pd_23 : (parseMethodDescriptor "(LFootLower$People;)V").map (fun d => d.parameters.length) = some 1 := by decide +kernel
theorem ok_X3_copyFrom : fwMok mX3_copyFrom 1 := ⟨tw_3 tq_3_14.2.2.2.2.2.2.2 rfl, ci_9, ⟨cn_9.1, cn_9.2, pd_23⟩, Nat.le_of_ble_eq_true rfl⟩
theorem vi_X3_copyFrom : fwMvi mX3_copyFrom := ⟨tw_3 tq_3_14.2.2.2.2.2.1 rfl, tw_3 tq_3_14.2.2.2.2.2.2.1 rfl⟩
abbrev mX11_fault : fwM := (yX11_fault, cX11_fault, 2, some .int)
theorem ok_X11_fault : fwMok mX11_fault 1 := ⟨tw_3 tq_3_15.2.2.2.1 rfl, ci_0, ⟨cn_0.1, cn_0.2, pd_3⟩, Nat.le_of_ble_eq_true rfl⟩
theorem vi_X11_fault : fwMvi mX11_fault := ⟨tw_3 tq_3_15.2.1 rfl, tw_3 tq_3_15.2.2.1 rfl⟩
abbrev mX11_folk : fwM := (yX11_folk, cX11_folk, 3, some .int)
theorem ok_X11_folk : fwMok mX11_folk 2 := ⟨tw_3 tq_3_15.2.2.2.2.2.2.2 rfl, ci_0, ⟨cn_0.1, cn_0.2, pd_7⟩, Nat.le_of_ble_eq_true rfl⟩
theorem vi_X11_folk : fwMvi mX11_folk := ⟨tw_3 tq_3_15.2.2.2.2.2.1 rfl, tw_3 tq_3_15.2.2.2.2.2.2.1 rfl⟩
abbrev mX3_has : fwM := (yX3_has, cX3_has, 2, some .boolean)
theorem ok_X3_has : fwMok mX3_has 1 := ⟨tw_3 tq_3_16.2.2.2.1 rfl, ci_9, ⟨cn_9.1, cn_9.2, pd_1⟩, Nat.le_of_ble_eq_true rfl⟩
theorem vi_X3_has : fwMvi mX3_has := ⟨tw_3 tq_3_16.2.1 rfl, tw_3 tq_3_16.2.2.1 rfl⟩
abbrev mX11_height : fwM := (yX11_height, cX11_height, 2, some .int)
theorem ok_X11_height : fwMok mX11_height 1 := ⟨tw_3 tq_3_17.1 rfl, ci_0, ⟨cn_0.1, cn_0.2, pd_3⟩, Nat.le_of_ble_eq_true rfl⟩
theorem vi_X11_height : fwMvi mX11_height := ⟨tw_3 tq_3_16.2.2.2.2.2.2.1 rfl, tw_3 tq_3_16.2.2.2.2.2.2.2 rfl⟩
abbrev mX1_has : fwM := (yX1_has, cX1_has, 2, some .boolean)
theorem ok_X1_has : fwMok mX1_has 1 := ⟨tw_3 tq_3_17.2.2.2.2.1 rfl, ci_8, ⟨cn_8.1, cn_8.2, pd_1⟩, Nat.le_of_ble_eq_true rfl⟩
theorem vi_X1_has : fwMvi mX1_has := ⟨tw_3 tq_3_17.2.2.1 rfl, tw_3 tq_3_17.2.2.2.1 rfl⟩
abbrev mX1_heightOf : fwM := (yX1_heightOf, cX1_heightOf, 2, some .int)
theorem ok_X1_heightOf : fwMok mX1_heightOf 1 := ⟨tw_3 tq_3_18.1 rfl, ci_8, ⟨cn_8.1, cn_8.2, pd_3⟩, Nat.le_of_ble_eq_true rfl⟩
theorem vi_X1_heightOf : fwMvi mX1_heightOf := ⟨tw_3 tq_3_17.2.2.2.2.2.2.1 rfl, tw_3 tq_3_17.2.2.2.2.2.2.2 rfl⟩
abbrev mX11_shade : fwM := (yX11_shade, cX11_shade, 3, some .int)
theorem ok_X11_shade : fwMok mX11_shade 2 := ⟨tw_3 tq_3_18.2.2.2.2.1 rfl, ci_0, ⟨cn_0.1, cn_0.2, pd_7⟩, Nat.le_of_ble_eq_true rfl⟩
theorem vi_X11_shade : fwMvi mX11_shade := ⟨tw_3 tq_3_18.2.2.1 rfl, tw_3 tq_3_18.2.2.2.1 rfl⟩
abbrev mX11_isHour : fwM := (yX11_isHour, cX11_isHour, 1, some .boolean)
theorem ok_X11_isHour : fwMok mX11_isHour 1 := ⟨tw_3 tq_3_18.2.2.2.2.2.2.2 rfl, ci_0, ⟨cn_0.1, cn_0.2, pd_1⟩, Nat.le_of_ble_eq_true rfl⟩
theorem st_X11_isHour : Cond.static (mX11_isHour).1 ∈ fwTb := tw_3 tq_3_18.2.2.2.2.2.2.1 rfl
abbrev mX1_isShaded : fwM := (yX1_isShaded, cX1_isShaded, 3, some .boolean)
theorem ok_X1_isShaded : fwMok mX1_isShaded 2 := ⟨tw_3 tq_3_19.2.2.2.1 rfl, ci_8, ⟨cn_8.1, cn_8.2, pd_19⟩, Nat.le_of_ble_eq_true rfl⟩
theorem vi_X1_isShaded : fwMvi mX1_isShaded := ⟨tw_3 tq_3_19.2.1 rfl, tw_3 tq_3_19.2.2.1 rfl⟩
abbrev mX1_shadedHours : fwM := (yX1_shadedHours, cX1_shadedHours, 7, some .int)
theorem ok_X1_shadedHours : fwMok mX1_shadedHours 2 := ⟨tw_3 tq_3_19.2.2.2.2.2.2.2 rfl, ci_8, ⟨cn_8.1, cn_8.2, pd_7⟩, Nat.le_of_ble_eq_true rfl⟩
theorem vi_X1_shadedHours : fwMvi mX1_shadedHours := ⟨tw_3 tq_3_19.2.2.2.2.2.1 rfl, tw_3 tq_3_19.2.2.2.2.2.2.1 rfl⟩
abbrev mX11_light : fwM := (yX11_light, cX11_light, 2, some .int)
theorem ok_X11_light : fwMok mX11_light 1 := ⟨tw_3 tq_3_20.2.2.2.1 rfl, ci_0, ⟨cn_0.1, cn_0.2, pd_3⟩, Nat.le_of_ble_eq_true rfl⟩
theorem vi_X11_light : fwMvi mX11_light := ⟨tw_3 tq_3_20.2.1 rfl, tw_3 tq_3_20.2.2.1 rfl⟩
abbrev mX1_lightOf : fwM := (yX1_lightOf, cX1_lightOf, 2, some .int)
theorem ok_X1_lightOf : fwMok mX1_lightOf 1 := ⟨tw_3 tq_3_20.2.2.2.2.2.2.2 rfl, ci_8, ⟨cn_8.1, cn_8.2, pd_3⟩, Nat.le_of_ble_eq_true rfl⟩
theorem vi_X1_lightOf : fwMvi mX1_lightOf := ⟨tw_3 tq_3_20.2.2.2.2.2.1 rfl, tw_3 tq_3_20.2.2.2.2.2.2.1 rfl⟩
abbrev mX11_dark : fwM := (yX11_dark, cX11_dark, 2, some .int)
theorem ok_X11_dark : fwMok mX11_dark 1 := ⟨tw_3 tq_3_21.2.2.2.1 rfl, ci_0, ⟨cn_0.1, cn_0.2, pd_3⟩, Nat.le_of_ble_eq_true rfl⟩
theorem vi_X11_dark : fwMvi mX11_dark := ⟨tw_3 tq_3_21.2.1 rfl, tw_3 tq_3_21.2.2.1 rfl⟩
abbrev mX2_isTold : fwM := (yX2_isTold, cX2_isTold, 1, some .boolean)
theorem ok_X2_isTold : fwMok mX2_isTold 0 := ⟨tw_3 tq_3_21.2.2.2.2.2.2.2 rfl, ci_7, ⟨cn_7.1, cn_7.2, pd_5⟩, Nat.le_of_ble_eq_true rfl⟩
theorem vi_X2_isTold : fwMvi mX2_isTold := ⟨tw_3 tq_3_21.2.2.2.2.2.1 rfl, tw_3 tq_3_21.2.2.2.2.2.2.1 rfl⟩
abbrev mX1_shadedCells : fwM := (yX1_shadedCells, cX1_shadedCells, 4, some .int)
theorem ok_X1_shadedCells : fwMok mX1_shadedCells 1 := ⟨tw_3 tq_3_22.2.2.2.1 rfl, ci_8, ⟨cn_8.1, cn_8.2, pd_3⟩, Nat.le_of_ble_eq_true rfl⟩
theorem vi_X1_shadedCells : fwMvi mX1_shadedCells := ⟨tw_3 tq_3_22.2.1 rfl, tw_3 tq_3_22.2.2.1 rfl⟩
abbrev mX11_snow : fwM := (yX11_snow, cX11_snow, 1, some .int)
theorem ok_X11_snow : fwMok mX11_snow 0 := ⟨tw_3 tq_3_23.1 rfl, ci_0, ⟨cn_0.1, cn_0.2, pd_4⟩, Nat.le_of_ble_eq_true rfl⟩
theorem vi_X11_snow : fwMvi mX11_snow := ⟨tw_3 tq_3_22.2.2.2.2.2.2.1 rfl, tw_3 tq_3_22.2.2.2.2.2.2.2 rfl⟩
abbrev mX1_snowyCells : fwM := (yX1_snowyCells, cX1_snowyCells, 3, some .int)
theorem ok_X1_snowyCells : fwMok mX1_snowyCells 0 := ⟨tw_3 tq_3_23.2.2.2.2.1 rfl, ci_8, ⟨cn_8.1, cn_8.2, pd_4⟩, Nat.le_of_ble_eq_true rfl⟩
theorem vi_X1_snowyCells : fwMvi mX1_snowyCells := ⟨tw_3 tq_3_23.2.2.1 rfl, tw_3 tq_3_23.2.2.2.1 rfl⟩
abbrev mX11_top : fwM := (yX11_top, cX11_top, 1, some .int)
theorem ok_X11_top : fwMok mX11_top 0 := ⟨tw_3 tq_3_24.2.1 rfl, ci_0, ⟨cn_0.1, cn_0.2, pd_4⟩, Nat.le_of_ble_eq_true rfl⟩
theorem vi_X11_top : fwMvi mX11_top := ⟨tw_3 tq_3_23.2.2.2.2.2.2.2 rfl, tw_3 tq_3_24.1 rfl⟩
abbrev mX1_topCell : fwM := (yX1_topCell, cX1_topCell, 4, some .int)
theorem ok_X1_topCell : fwMok mX1_topCell 0 := ⟨tw_3 tq_3_24.2.2.2.2.2.1 rfl, ci_8, ⟨cn_8.1, cn_8.2, pd_4⟩, Nat.le_of_ble_eq_true rfl⟩
theorem vi_X1_topCell : fwMvi mX1_topCell := ⟨tw_3 tq_3_24.2.2.2.1 rfl, tw_3 tq_3_24.2.2.2.2.1 rfl⟩
abbrev mX11_gain : fwM := (yX11_gain, cX11_gain, 2, some .int)
theorem ok_X11_gain : fwMok mX11_gain 1 := ⟨tw_3 tq_3_25.2.1 rfl, ci_0, ⟨cn_0.1, cn_0.2, pd_3⟩, Nat.le_of_ble_eq_true rfl⟩
theorem vi_X11_gain : fwMvi mX11_gain := ⟨tw_3 tq_3_24.2.2.2.2.2.2.2 rfl, tw_3 tq_3_25.1 rfl⟩
abbrev mX3_gainOn : fwM := (yX3_gainOn, cX3_gainOn, 3, some .int)
theorem pd_24 : (parseMethodDescriptor "(LFootLower$Ground;I)I").map (fun d => d.parameters.length) = some 2 := by decide +kernel
theorem ok_X3_gainOn : fwMok mX3_gainOn 2 := ⟨tw_3 tq_3_25.2.2.2.2.2.1 rfl, ci_9, ⟨cn_9.1, cn_9.2, pd_24⟩, Nat.le_of_ble_eq_true rfl⟩
theorem vi_X3_gainOn : fwMvi mX3_gainOn := ⟨tw_3 tq_3_25.2.2.2.1 rfl, tw_3 tq_3_25.2.2.2.2.1 rfl⟩
abbrev mX3_fillGains : fwM := (yX3_fillGains, cX3_fillGains, 10, none)
theorem pd_25 : (parseMethodDescriptor "(LFootLower$Ground;[II)V").map (fun d => d.parameters.length) = some 3 := by decide +kernel
theorem ok_X3_fillGains : fwMok mX3_fillGains 3 := ⟨tw_3 tq_3_26.2.1 rfl, ci_9, ⟨cn_9.1, cn_9.2, pd_25⟩, Nat.le_of_ble_eq_true rfl⟩
theorem vi_X3_fillGains : fwMvi mX3_fillGains := ⟨tw_3 tq_3_25.2.2.2.2.2.2.2 rfl, tw_3 tq_3_26.1 rfl⟩
abbrev mJ6_bitCount_0f7a4 : fwM := (yJ6_bitCount_0f7a4, cJ6_bitCount_0f7a4, 1, some .int)
theorem ci_10 : Cond.initialized "java/lang/Integer" ∈ fwTb := tw_1 tq_1_2.2.2.2.1 rfl
theorem cn_10 : "java/lang/Integer" ≠ "java/lang/invoke/MethodHandle" ∧ "java/lang/Integer" ≠ "java/lang/invoke/VarHandle" := ⟨by decide, by decide⟩
theorem ok_J6_bitCount_0f7a4 : fwMok mJ6_bitCount_0f7a4 1 := ⟨tw_3 tq_3_26.2.2.2.2.2.1 rfl, ci_10, ⟨cn_10.1, cn_10.2, pd_3⟩, Nat.le_of_ble_eq_true rfl⟩
theorem st_J6_bitCount_0f7a4 : Cond.static (mJ6_bitCount_0f7a4).1 ∈ fwTb := tw_3 tq_3_26.2.2.2.2.1 rfl
abbrev mX1_topHeight : fwM := (yX1_topHeight, cX1_topHeight, 4, some .int)
theorem ok_X1_topHeight : fwMok mX1_topHeight 0 := ⟨tw_3 tq_3_27.2.2.2.2.1 rfl, ci_8, ⟨cn_8.1, cn_8.2, pd_4⟩, Nat.le_of_ble_eq_true rfl⟩
theorem vi_X1_topHeight : fwMvi mX1_topHeight := ⟨tw_3 tq_3_27.2.2.1 rfl, tw_3 tq_3_27.2.2.2.1 rfl⟩
abbrev mX11_hopes : fwM := (yX11_hopes, cX11_hopes, 3, some .int)
theorem ok_X11_hopes : fwMok mX11_hopes 2 := ⟨tw_3 tq_3_28.2.1 rfl, ci_0, ⟨cn_0.1, cn_0.2, pd_7⟩, Nat.le_of_ble_eq_true rfl⟩
theorem vi_X11_hopes : fwMvi mX11_hopes := ⟨tw_3 tq_3_27.2.2.2.2.2.2.2 rfl, tw_3 tq_3_28.1 rfl⟩
abbrev mX0_gainAfter : fwM := (yX0_gainAfter, cX0_gainAfter, 4, some .int)
theorem ci_11 : Cond.initialized "FootLower$Course" ∈ fwTb := tw_1 tq_1_1.2.2.2.1 rfl
theorem cn_11 : "FootLower$Course" ≠ "java/lang/invoke/MethodHandle" ∧ "FootLower$Course" ≠ "java/lang/invoke/VarHandle" := ⟨by decide, by decide⟩
theorem ok_X0_gainAfter : fwMok mX0_gainAfter 2 := ⟨tw_3 tq_3_28.2.2.2.2.2.1 rfl, ci_11, ⟨cn_11.1, cn_11.2, pd_7⟩, Nat.le_of_ble_eq_true rfl⟩
theorem vi_X0_gainAfter : fwMvi mX0_gainAfter := ⟨tw_3 tq_3_28.2.2.2.1 rfl, tw_3 tq_3_28.2.2.2.2.1 rfl⟩
abbrev mX1_lower : fwM := (yX1_lower, cX1_lower, 2, some .boolean)
theorem ok_X1_lower : fwMok mX1_lower 0 := ⟨tw_3 tq_3_29.2.2.1 rfl, ci_8, ⟨cn_8.1, cn_8.2, pd_5⟩, Nat.le_of_ble_eq_true rfl⟩
theorem vi_X1_lower : fwMvi mX1_lower := ⟨tw_3 tq_3_29.1 rfl, tw_3 tq_3_29.2.1 rfl⟩
abbrev mX1_change : fwM := (yX1_change, cX1_change, 3, none)
theorem ok_X1_change : fwMok mX1_change 2 := ⟨tw_3 tq_3_29.2.2.2.2.2.2.2 rfl, ci_8, ⟨cn_8.1, cn_8.2, pd_13⟩, Nat.le_of_ble_eq_true rfl⟩
theorem vi_X1_change : fwMvi mX1_change := ⟨tw_3 tq_3_29.2.2.2.2.2.1 rfl, tw_3 tq_3_29.2.2.2.2.2.2.1 rfl⟩
abbrev mX11_wishes : fwM := (yX11_wishes, cX11_wishes, 2, some .int)
theorem ok_X11_wishes : fwMok mX11_wishes 1 := ⟨tw_4 tq_4_0.2.2.2.2.2.1 rfl, ci_0, ⟨cn_0.1, cn_0.2, pd_3⟩, Nat.le_of_ble_eq_true rfl⟩
theorem vi_X11_wishes : fwMvi mX11_wishes := ⟨tw_4 tq_4_0.2.2.2.1 rfl, tw_4 tq_4_0.2.2.2.2.1 rfl⟩
abbrev mX0_wishedFeet : fwM := (yX0_wishedFeet, cX0_wishedFeet, 6, some .int)
theorem ok_X0_wishedFeet : fwMok mX0_wishedFeet 1 := ⟨tw_4 tq_4_1.2.1 rfl, ci_11, ⟨cn_11.1, cn_11.2, pd_3⟩, Nat.le_of_ble_eq_true rfl⟩
theorem vi_X0_wishedFeet : fwMvi mX0_wishedFeet := ⟨tw_4 tq_4_0.2.2.2.2.2.2.2 rfl, tw_4 tq_4_1.1 rfl⟩
abbrev mX11_gains : fwM := (yX11_gains, cX11_gains, 1, some .int)
theorem ok_X11_gains : fwMok mX11_gains 0 := ⟨tw_4 tq_4_1.2.2.2.2.2.1 rfl, ci_0, ⟨cn_0.1, cn_0.2, pd_4⟩, Nat.le_of_ble_eq_true rfl⟩
theorem vi_X11_gains : fwMvi mX11_gains := ⟨tw_4 tq_4_1.2.2.2.1 rfl, tw_4 tq_4_1.2.2.2.2.1 rfl⟩
abbrev mX3_gainsOn : fwM := (yX3_gainsOn, cX3_gainsOn, 4, some .int)
theorem pd_26 : (parseMethodDescriptor "(LFootLower$Ground;)I").map (fun d => d.parameters.length) = some 1 := by decide +kernel
theorem ok_X3_gainsOn : fwMok mX3_gainsOn 1 := ⟨tw_4 tq_4_2.2.1 rfl, ci_9, ⟨cn_9.1, cn_9.2, pd_26⟩, Nat.le_of_ble_eq_true rfl⟩
theorem vi_X3_gainsOn : fwMvi mX3_gainsOn := ⟨tw_4 tq_4_1.2.2.2.2.2.2.2 rfl, tw_4 tq_4_2.1 rfl⟩
abbrev mX11_take : fwM := (yX11_take, cX11_take, 2, some .int)
theorem ok_X11_take : fwMok mX11_take 0 := ⟨tw_4 tq_4_2.2.2.2.2.2.1 rfl, ci_0, ⟨cn_0.1, cn_0.2, pd_4⟩, Nat.le_of_ble_eq_true rfl⟩
theorem vi_X11_take : fwMvi mX11_take := ⟨tw_4 tq_4_2.2.2.2.1 rfl, tw_4 tq_4_2.2.2.2.2.1 rfl⟩
abbrev mX2_hasRoomForAct : fwM := (yX2_hasRoomForAct, cX2_hasRoomForAct, 1, some .boolean)
theorem ok_X2_hasRoomForAct : fwMok mX2_hasRoomForAct 0 := ⟨tw_4 tq_4_3.2.1 rfl, ci_7, ⟨cn_7.1, cn_7.2, pd_5⟩, Nat.le_of_ble_eq_true rfl⟩
theorem vi_X2_hasRoomForAct : fwMvi mX2_hasRoomForAct := ⟨tw_4 tq_4_2.2.2.2.2.2.2.2 rfl, tw_4 tq_4_3.1 rfl⟩
abbrev mX2_act : fwM := (yX2_act, cX2_act, 3, none)
theorem ok_X2_act : fwMok mX2_act 2 := ⟨tw_4 tq_4_3.2.2.2.2.2.2.1 rfl, ci_7, ⟨cn_7.1, cn_7.2, pd_13⟩, Nat.le_of_ble_eq_true rfl⟩
theorem vi_X2_act : fwMvi mX2_act := ⟨tw_4 tq_4_3.2.2.2.2.1 rfl, tw_4 tq_4_3.2.2.2.2.2.1 rfl⟩
abbrev mX11_heap : fwM := (yX11_heap, cX11_heap, 3, some .int)
theorem ok_X11_heap : fwMok mX11_heap 1 := ⟨tw_4 tq_4_4.2.2.2.2.1 rfl, ci_0, ⟨cn_0.1, cn_0.2, pd_3⟩, Nat.le_of_ble_eq_true rfl⟩
theorem vi_X11_heap : fwMvi mX11_heap := ⟨tw_4 tq_4_4.2.2.1 rfl, tw_4 tq_4_4.2.2.2.1 rfl⟩
abbrev mX1_stayOf : fwM := (yX1_stayOf, cX1_stayOf, 3, some .int)
theorem ok_X1_stayOf : fwMok mX1_stayOf 1 := ⟨tw_4 tq_4_5.1 rfl, ci_8, ⟨cn_8.1, cn_8.2, pd_3⟩, Nat.le_of_ble_eq_true rfl⟩
theorem vi_X1_stayOf : fwMvi mX1_stayOf := ⟨tw_4 tq_4_4.2.2.2.2.2.2.1 rfl, tw_4 tq_4_4.2.2.2.2.2.2.2 rfl⟩
abbrev mX1_descend : fwM := (yX1_descend, cX1_descend, 6, some .int)
theorem ok_X1_descend : fwMok mX1_descend 2 := ⟨tw_4 tq_4_5.2.2.2.2.1 rfl, ci_8, ⟨cn_8.1, cn_8.2, pd_7⟩, Nat.le_of_ble_eq_true rfl⟩
theorem vi_X1_descend : fwMvi mX1_descend := ⟨tw_4 tq_4_5.2.2.2.1 rfl, fwTb_s (i := 19) rfl rfl⟩
abbrev mX1_wayDown : fwM := (yX1_wayDown, cX1_wayDown, 6, some .int)
theorem ok_X1_wayDown : fwMok mX1_wayDown 2 := ⟨tw_4 tq_4_6.1 rfl, ci_8, ⟨cn_8.1, cn_8.2, pd_7⟩, Nat.le_of_ble_eq_true rfl⟩
theorem vi_X1_wayDown : fwMvi mX1_wayDown := ⟨tw_4 tq_4_5.2.2.2.2.2.2.2 rfl, fwTb_s (i := 20) rfl rfl⟩
abbrev mX11_slides : fwM := (yX11_slides, cX11_slides, 2, some .int)
theorem ok_X11_slides : fwMok mX11_slides 1 := ⟨tw_4 tq_4_6.2.2.2.2.1 rfl, ci_0, ⟨cn_0.1, cn_0.2, pd_3⟩, Nat.le_of_ble_eq_true rfl⟩
theorem vi_X11_slides : fwMvi mX11_slides := ⟨tw_4 tq_4_6.2.2.1 rfl, tw_4 tq_4_6.2.2.2.1 rfl⟩
abbrev mX11_undo : fwM := (yX11_undo, cX11_undo, 1, some .int)
theorem ok_X11_undo : fwMok mX11_undo 0 := ⟨tw_4 tq_4_7.1 rfl, ci_0, ⟨cn_0.1, cn_0.2, pd_4⟩, Nat.le_of_ble_eq_true rfl⟩
theorem vi_X11_undo : fwMvi mX11_undo := ⟨tw_4 tq_4_6.2.2.2.2.2.2.1 rfl, tw_4 tq_4_6.2.2.2.2.2.2.2 rfl⟩
abbrev mX2_takeBack : fwM := (yX2_takeBack, cX2_takeBack, 2, some .boolean)
theorem ok_X2_takeBack : fwMok mX2_takeBack 0 := ⟨tw_4 tq_4_7.2.2.2.2.1 rfl, ci_7, ⟨cn_7.1, cn_7.2, pd_5⟩, Nat.le_of_ble_eq_true rfl⟩
theorem vi_X2_takeBack : fwMvi mX2_takeBack := ⟨tw_4 tq_4_7.2.2.1 rfl, tw_4 tq_4_7.2.2.2.1 rfl⟩
abbrev mX11_anew : fwM := (yX11_anew, cX11_anew, 3, some .int)
theorem ok_X11_anew : fwMok mX11_anew 0 := ⟨tw_4 tq_4_8.1 rfl, ci_0, ⟨cn_0.1, cn_0.2, pd_4⟩, Nat.le_of_ble_eq_true rfl⟩
theorem vi_X11_anew : fwMvi mX11_anew := ⟨tw_4 tq_4_7.2.2.2.2.2.2.1 rfl, tw_4 tq_4_7.2.2.2.2.2.2.2 rfl⟩
abbrev mX11_willing : fwM := (yX11_willing, cX11_willing, 1, some .int)
theorem ok_X11_willing : fwMok mX11_willing 0 := ⟨tw_4 tq_4_8.2.2.2.2.1 rfl, ci_0, ⟨cn_0.1, cn_0.2, pd_4⟩, Nat.le_of_ble_eq_true rfl⟩
theorem vi_X11_willing : fwMvi mX11_willing := ⟨tw_4 tq_4_8.2.2.1 rfl, tw_4 tq_4_8.2.2.2.1 rfl⟩
abbrev mX3_gainersBy : fwM := (yX3_gainersBy, cX3_gainersBy, 6, some .int)
theorem ok_X3_gainersBy : fwMok mX3_gainersBy 2 := ⟨tw_4 tq_4_9.1 rfl, ci_9, ⟨cn_9.1, cn_9.2, pd_24⟩, Nat.le_of_ble_eq_true rfl⟩
theorem vi_X3_gainersBy : fwMvi mX3_gainersBy := ⟨tw_4 tq_4_8.2.2.2.2.2.2.1 rfl, tw_4 tq_4_8.2.2.2.2.2.2.2 rfl⟩
abbrev mX11_signers : fwM := (yX11_signers, cX11_signers, 2, some .int)
theorem ok_X11_signers : fwMok mX11_signers 1 := ⟨tw_4 tq_4_9.2.2.2.2.2.2.2 rfl, ci_0, ⟨cn_0.1, cn_0.2, pd_3⟩, Nat.le_of_ble_eq_true rfl⟩
theorem vi_X11_signers : fwMvi mX11_signers := ⟨tw_4 tq_4_9.2.2.2.2.2.1 rfl, tw_4 tq_4_9.2.2.2.2.2.2.1 rfl⟩
abbrev mX2_hasSet : fwM := (yX2_hasSet, cX2_hasSet, 2, some .boolean)
theorem ok_X2_hasSet : fwMok mX2_hasSet 1 := ⟨tw_4 tq_4_10.2.2.2.1 rfl, ci_7, ⟨cn_7.1, cn_7.2, pd_1⟩, Nat.le_of_ble_eq_true rfl⟩
theorem vi_X2_hasSet : fwMvi mX2_hasSet := ⟨tw_4 tq_4_10.2.1 rfl, tw_4 tq_4_10.2.2.1 rfl⟩
abbrev mX4_signersOfWon : fwM := (yX4_signersOfWon, cX4_signersOfWon, 2, some .int)
theorem ci_12 : Cond.initialized "FootLower$Petition" ∈ fwTb := tw_1 tq_1_1.1 rfl
theorem cn_12 : "FootLower$Petition" ≠ "java/lang/invoke/MethodHandle" ∧ "FootLower$Petition" ≠ "java/lang/invoke/VarHandle" := ⟨by decide, by decide⟩
theorem ok_X4_signersOfWon : fwMok mX4_signersOfWon 1 := ⟨tw_4 tq_4_11.1 rfl, ci_12, ⟨cn_12.1, cn_12.2, pd_3⟩, Nat.le_of_ble_eq_true rfl⟩
theorem vi_X4_signersOfWon : fwMvi mX4_signersOfWon := ⟨tw_4 tq_4_10.2.2.2.2.2.2.1 rfl, tw_4 tq_4_10.2.2.2.2.2.2.2 rfl⟩
abbrev mX3_signersOf : fwM := (yX3_signersOf, cX3_signersOf, 9, some .int)
theorem ok_X3_signersOf : fwMok mX3_signersOf 2 := ⟨tw_4 tq_4_11.2.2.2.2.2.1 rfl, ci_9, ⟨cn_9.1, cn_9.2, pd_7⟩, Nat.le_of_ble_eq_true rfl⟩
theorem vi_X3_signersOf : fwMvi mX3_signersOf := ⟨tw_4 tq_4_11.2.2.2.1 rfl, tw_4 tq_4_11.2.2.2.2.1 rfl⟩
abbrev mX11_names : fwM := (yX11_names, cX11_names, 2, some .int)
theorem ok_X11_names : fwMok mX11_names 1 := ⟨tw_4 tq_4_12.2.1 rfl, ci_0, ⟨cn_0.1, cn_0.2, pd_3⟩, Nat.le_of_ble_eq_true rfl⟩
theorem vi_X11_names : fwMvi mX11_names := ⟨tw_4 tq_4_11.2.2.2.2.2.2.2 rfl, tw_4 tq_4_12.1 rfl⟩
abbrev mX3_namesOf : fwM := (yX3_namesOf, cX3_namesOf, 4, some .int)
theorem ok_X3_namesOf : fwMok mX3_namesOf 1 := ⟨tw_4 tq_4_12.2.2.2.2.2.1 rfl, ci_9, ⟨cn_9.1, cn_9.2, pd_3⟩, Nat.le_of_ble_eq_true rfl⟩
theorem vi_X3_namesOf : fwMvi mX3_namesOf := ⟨tw_4 tq_4_12.2.2.2.1 rfl, tw_4 tq_4_12.2.2.2.2.1 rfl⟩
abbrev mX11_first : fwM := (yX11_first, cX11_first, 2, some .int)
theorem ok_X11_first : fwMok mX11_first 0 := ⟨tw_4 tq_4_13.2.1 rfl, ci_0, ⟨cn_0.1, cn_0.2, pd_4⟩, Nat.le_of_ble_eq_true rfl⟩
theorem vi_X11_first : fwMvi mX11_first := ⟨tw_4 tq_4_12.2.2.2.2.2.2.2 rfl, tw_4 tq_4_13.1 rfl⟩
abbrev mX4_fewestSet : fwM := (yX4_fewestSet, cX4_fewestSet, 6, some .int)
theorem ok_X4_fewestSet : fwMok mX4_fewestSet 0 := ⟨tw_4 tq_4_13.2.2.2.2.2.1 rfl, ci_12, ⟨cn_12.1, cn_12.2, pd_4⟩, Nat.le_of_ble_eq_true rfl⟩
theorem vi_X4_fewestSet : fwMvi mX4_fewestSet := ⟨tw_4 tq_4_13.2.2.2.1 rfl, tw_4 tq_4_13.2.2.2.2.1 rfl⟩
abbrev mX2_isEnough : fwM := (yX2_isEnough, cX2_isEnough, 3, some .boolean)
theorem ok_X2_isEnough : fwMok mX2_isEnough 2 := ⟨tw_4 tq_4_14.2.2.1 rfl, ci_7, ⟨cn_7.1, cn_7.2, pd_19⟩, Nat.le_of_ble_eq_true rfl⟩
theorem vi_X2_isEnough : fwMvi mX2_isEnough := ⟨tw_4 tq_4_14.1 rfl, tw_4 tq_4_14.2.1 rfl⟩
abbrev mX11_firsts : fwM := (yX11_firsts, cX11_firsts, 1, some .int)
theorem ok_X11_firsts : fwMok mX11_firsts 0 := ⟨tw_4 tq_4_15.2.1 rfl, ci_0, ⟨cn_0.1, cn_0.2, pd_4⟩, Nat.le_of_ble_eq_true rfl⟩
theorem vi_X11_firsts : fwMvi mX11_firsts := ⟨tw_4 tq_4_14.2.2.2.2.2.2.2 rfl, tw_4 tq_4_15.1 rfl⟩
abbrev mX11_next : fwM := (yX11_next, cX11_next, 2, some .int)
theorem ok_X11_next : fwMok mX11_next 1 := ⟨tw_4 tq_4_15.2.2.2.2.2.1 rfl, ci_0, ⟨cn_0.1, cn_0.2, pd_3⟩, Nat.le_of_ble_eq_true rfl⟩
theorem vi_X11_next : fwMvi mX11_next := ⟨tw_4 tq_4_15.2.2.2.1 rfl, tw_4 tq_4_15.2.2.2.2.1 rfl⟩
abbrev mX4_bestBeside : fwM := (yX4_bestBeside, cX4_bestBeside, 7, some .int)
theorem ok_X4_bestBeside : fwMok mX4_bestBeside 1 := ⟨tw_4 tq_4_16.2.1 rfl, ci_12, ⟨cn_12.1, cn_12.2, pd_3⟩, Nat.le_of_ble_eq_true rfl⟩
theorem vi_X4_bestBeside : fwMvi mX4_bestBeside := ⟨tw_4 tq_4_15.2.2.2.2.2.2.2 rfl, tw_4 tq_4_16.1 rfl⟩
abbrev mX11_needed : fwM := (yX11_needed, cX11_needed, 1, some .int)
theorem ok_X11_needed : fwMok mX11_needed 0 := ⟨tw_4 tq_4_16.2.2.2.2.2.2.1 rfl, ci_0, ⟨cn_0.1, cn_0.2, pd_4⟩, Nat.le_of_ble_eq_true rfl⟩
theorem vi_X11_needed : fwMvi mX11_needed := ⟨tw_4 tq_4_16.2.2.2.2.1 rfl, tw_4 tq_4_16.2.2.2.2.2.1 rfl⟩
abbrev mX4_neededFolk : fwM := (yX4_neededFolk, cX4_neededFolk, 4, some .int)
theorem ok_X4_neededFolk : fwMok mX4_neededFolk 0 := ⟨tw_4 tq_4_17.2.2.1 rfl, ci_12, ⟨cn_12.1, cn_12.2, pd_4⟩, Nat.le_of_ble_eq_true rfl⟩
theorem vi_X4_neededFolk : fwMvi mX4_neededFolk := ⟨tw_4 tq_4_17.1 rfl, tw_4 tq_4_17.2.1 rfl⟩
abbrev mX11_play : fwM := (yX11_play, cX11_play, 3, some .int)
theorem ok_X11_play : fwMok mX11_play 2 := ⟨tw_4 tq_4_17.2.2.2.2.2.2.1 rfl, ci_0, ⟨cn_0.1, cn_0.2, pd_7⟩, Nat.le_of_ble_eq_true rfl⟩
theorem vi_X11_play : fwMvi mX11_play := ⟨tw_4 tq_4_17.2.2.2.2.1 rfl, tw_4 tq_4_17.2.2.2.2.2.1 rfl⟩
abbrev mX11_isPlay : fwM := (yX11_isPlay, cX11_isPlay, 3, some .boolean)
theorem ok_X11_isPlay : fwMok mX11_isPlay 2 := ⟨tw_4 tq_4_18.2.2.1 rfl, ci_0, ⟨cn_0.1, cn_0.2, pd_19⟩, Nat.le_of_ble_eq_true rfl⟩
theorem vi_X11_isPlay : fwMvi mX11_isPlay := ⟨tw_4 tq_4_18.2.1 rfl, fwTb_s (i := 21) rfl rfl⟩
abbrev mX4_playOut : fwM := (yX4_playOut, cX4_playOut, 3, some .boolean)
theorem ok_X4_playOut : fwMok mX4_playOut 2 := ⟨tw_4 tq_4_18.2.2.2.2.2.2.1 rfl, ci_12, ⟨cn_12.1, cn_12.2, pd_19⟩, Nat.le_of_ble_eq_true rfl⟩
theorem vi_X4_playOut : fwMvi mX4_playOut := ⟨tw_4 tq_4_18.2.2.2.2.1 rfl, tw_4 tq_4_18.2.2.2.2.2.1 rfl⟩
abbrev mX4_begin : fwM := (yX4_begin, cX4_begin, 4, none)
theorem ok_X4_begin : fwMok mX4_begin 2 := ⟨tw_4 tq_4_19.2.2.1 rfl, ci_12, ⟨cn_12.1, cn_12.2, pd_13⟩, Nat.le_of_ble_eq_true rfl⟩
theorem vi_X4_begin : fwMvi mX4_begin := ⟨tw_4 tq_4_19.2.1 rfl, fwTb_s (i := 22) rfl rfl⟩
abbrev mX4_comesOut : fwM := (yX4_comesOut, cX4_comesOut, 8, some .boolean)
theorem pd_27 : (parseMethodDescriptor "(IIII)Z").map (fun d => d.parameters.length) = some 4 := by decide +kernel
theorem ok_X4_comesOut : fwMok mX4_comesOut 4 := ⟨tw_4 tq_4_19.2.2.2.2.2.2.1 rfl, ci_12, ⟨cn_12.1, cn_12.2, pd_27⟩, Nat.le_of_ble_eq_true rfl⟩
theorem vi_X4_comesOut : fwMvi mX4_comesOut := ⟨tw_4 tq_4_19.2.2.2.2.2.1 rfl, fwTb_s (i := 23) rfl rfl⟩
abbrev mX4_winsNow : fwM := (yX4_winsNow, cX4_winsNow, 2, some .boolean)
theorem ok_X4_winsNow : fwMok mX4_winsNow 1 := ⟨tw_4 tq_4_20.2.2.1 rfl, ci_12, ⟨cn_12.1, cn_12.2, pd_1⟩, Nat.le_of_ble_eq_true rfl⟩
theorem vi_X4_winsNow : fwMvi mX4_winsNow := ⟨tw_4 tq_4_20.2.1 rfl, fwTb_s (i := 24) rfl rfl⟩
abbrev mX4_canReach : fwM := (yX4_canReach, cX4_canReach, 7, some .boolean)
theorem pd_28 : (parseMethodDescriptor "(ZIIII)Z").map (fun d => d.parameters.length) = some 5 := by decide +kernel
theorem ok_X4_canReach : fwMok mX4_canReach 5 := ⟨tw_4 tq_4_20.2.2.2.2.2.2.1 rfl, ci_12, ⟨cn_12.1, cn_12.2, pd_28⟩, Nat.le_of_ble_eq_true rfl⟩
theorem vi_X4_canReach : fwMvi mX4_canReach := ⟨tw_4 tq_4_20.2.2.2.2.2.1 rfl, fwTb_s (i := 25) rfl rfl⟩
abbrev mX4_comesOutBy : fwM := (yX4_comesOutBy, cX4_comesOutBy, 7, some .boolean)
theorem ok_X4_comesOutBy : fwMok mX4_comesOutBy 5 := ⟨tw_4 tq_4_21.2.2.1 rfl, ci_12, ⟨cn_12.1, cn_12.2, pd_20⟩, Nat.le_of_ble_eq_true rfl⟩
theorem vi_X4_comesOutBy : fwMvi mX4_comesOutBy := ⟨tw_4 tq_4_21.2.1 rfl, fwTb_s (i := 26) rfl rfl⟩
abbrev mX11_moves : fwM := (yX11_moves, cX11_moves, 3, some .int)
theorem ok_X11_moves : fwMok mX11_moves 2 := ⟨tw_4 tq_4_22.1 rfl, ci_0, ⟨cn_0.1, cn_0.2, pd_7⟩, Nat.le_of_ble_eq_true rfl⟩
theorem vi_X11_moves : fwMvi mX11_moves := ⟨tw_4 tq_4_21.2.2.2.2.2.2.1 rfl, tw_4 tq_4_21.2.2.2.2.2.2.2 rfl⟩
abbrev mX4_firstMove : fwM := (yX4_firstMove, cX4_firstMove, 5, some .int)
theorem ok_X4_firstMove : fwMok mX4_firstMove 2 := ⟨tw_4 tq_4_22.2.2.2.2.1 rfl, ci_12, ⟨cn_12.1, cn_12.2, pd_7⟩, Nat.le_of_ble_eq_true rfl⟩
theorem vi_X4_firstMove : fwMvi mX4_firstMove := ⟨tw_4 tq_4_22.2.2.1 rfl, tw_4 tq_4_22.2.2.2.1 rfl⟩
abbrev mX11_round : fwM := (yX11_round, cX11_round, 3, some .int)
theorem ok_X11_round : fwMok mX11_round 2 := ⟨tw_4 tq_4_23.1 rfl, ci_0, ⟨cn_0.1, cn_0.2, pd_7⟩, Nat.le_of_ble_eq_true rfl⟩
theorem vi_X11_round : fwMvi mX11_round := ⟨tw_4 tq_4_22.2.2.2.2.2.2.1 rfl, tw_4 tq_4_22.2.2.2.2.2.2.2 rfl⟩
abbrev mX11_isWalk : fwM := (yX11_isWalk, cX11_isWalk, 3, some .boolean)
theorem ok_X11_isWalk : fwMok mX11_isWalk 2 := ⟨tw_4 tq_4_23.2.2.2.2.1 rfl, ci_0, ⟨cn_0.1, cn_0.2, pd_19⟩, Nat.le_of_ble_eq_true rfl⟩
theorem vi_X11_isWalk : fwMvi mX11_isWalk := ⟨tw_4 tq_4_23.2.2.2.1 rfl, fwTb_s (i := 27) rfl rfl⟩
abbrev mX10_walkOne : fwM := (yX10_walkOne, cX10_walkOne, 7, some .int)
theorem ci_13 : Cond.initialized "FootLower$Walks" ∈ fwTb := tw_1 tq_1_1.2.1 rfl
theorem cn_13 : "FootLower$Walks" ≠ "java/lang/invoke/MethodHandle" ∧ "FootLower$Walks" ≠ "java/lang/invoke/VarHandle" := ⟨by decide, by decide⟩
theorem ok_X10_walkOne : fwMok mX10_walkOne 2 := ⟨tw_4 tq_4_24.1 rfl, ci_13, ⟨cn_13.1, cn_13.2, pd_7⟩, Nat.le_of_ble_eq_true rfl⟩
theorem vi_X10_walkOne : fwMvi mX10_walkOne := ⟨tw_4 tq_4_23.2.2.2.2.2.2.1 rfl, tw_4 tq_4_23.2.2.2.2.2.2.2 rfl⟩
abbrev mX10_gatherNames : fwM := (yX10_gatherNames, cX10_gatherNames, 5, none)
theorem ok_X10_gatherNames : fwMok mX10_gatherNames 0 := ⟨tw_4 tq_4_24.2.2.2.2.1 rfl, ci_13, ⟨cn_13.1, cn_13.2, pd_6⟩, Nat.le_of_ble_eq_true rfl⟩
theorem vi_X10_gatherNames : fwMvi mX10_gatherNames := ⟨tw_4 tq_4_24.2.2.2.1 rfl, fwTb_s (i := 28) rfl rfl⟩
abbrev mX10_stepsOf : fwM := (yX10_stepsOf, cX10_stepsOf, 3, some .int)
theorem pd_29 : (parseMethodDescriptor "(III)I").map (fun d => d.parameters.length) = some 3 := by decide +kernel
theorem ok_X10_stepsOf : fwMok mX10_stepsOf 3 := ⟨tw_4 tq_4_25.2.1 rfl, ci_13, ⟨cn_13.1, cn_13.2, pd_29⟩, Nat.le_of_ble_eq_true rfl⟩
theorem st_X10_stepsOf : Cond.static (mX10_stepsOf).1 ∈ fwTb := tw_4 tq_4_25.1 rfl
abbrev mJ9_min_7cf53 : fwM := (yJ9_min_7cf53, cJ9_min_7cf53, 2, some .int)
theorem ci_14 : Cond.initialized "java/lang/Math" ∈ fwTb := tw_1 tq_1_2.2.2.1 rfl
theorem cn_14 : "java/lang/Math" ≠ "java/lang/invoke/MethodHandle" ∧ "java/lang/Math" ≠ "java/lang/invoke/VarHandle" := ⟨by decide, by decide⟩
theorem ok_J9_min_7cf53 : fwMok mJ9_min_7cf53 2 := ⟨tw_4 tq_4_25.2.2.2.2.1 rfl, ci_14, ⟨cn_14.1, cn_14.2, pd_7⟩, Nat.le_of_ble_eq_true rfl⟩
theorem st_J9_min_7cf53 : Cond.static (mJ9_min_7cf53).1 ∈ fwTb := tw_4 tq_4_25.2.2.2.1 rfl
abbrev mX10_namesWithin : fwM := (yX10_namesWithin, cX10_namesWithin, 3, some .int)
theorem ok_X10_namesWithin : fwMok mX10_namesWithin 2 := ⟨tw_4 tq_4_26.1 rfl, ci_13, ⟨cn_13.1, cn_13.2, pd_7⟩, Nat.le_of_ble_eq_true rfl⟩
theorem vi_X10_namesWithin : fwMvi mX10_namesWithin := ⟨tw_4 tq_4_25.2.2.2.2.2.2.2 rfl, fwTb_s (i := 29) rfl rfl⟩
abbrev mX11_goes : fwM := (yX11_goes, cX11_goes, 4, some .int)
theorem ok_X11_goes : fwMok mX11_goes 3 := ⟨tw_4 tq_4_26.2.2.2.2.1 rfl, ci_0, ⟨cn_0.1, cn_0.2, pd_29⟩, Nat.le_of_ble_eq_true rfl⟩
theorem vi_X11_goes : fwMvi mX11_goes := ⟨tw_4 tq_4_26.2.2.1 rfl, tw_4 tq_4_26.2.2.2.1 rfl⟩
abbrev mX11_two : fwM := (yX11_two, cX11_two, 4, some .int)
theorem ok_X11_two : fwMok mX11_two 3 := ⟨tw_4 tq_4_27.1 rfl, ci_0, ⟨cn_0.1, cn_0.2, pd_29⟩, Nat.le_of_ble_eq_true rfl⟩
theorem vi_X11_two : fwMvi mX11_two := ⟨tw_4 tq_4_26.2.2.2.2.2.2.1 rfl, tw_4 tq_4_26.2.2.2.2.2.2.2 rfl⟩
abbrev mX10_walkTwo : fwM := (yX10_walkTwo, cX10_walkTwo, 8, some .int)
theorem ok_X10_walkTwo : fwMok mX10_walkTwo 3 := ⟨tw_4 tq_4_27.2.2.2.2.1 rfl, ci_13, ⟨cn_13.1, cn_13.2, pd_29⟩, Nat.le_of_ble_eq_true rfl⟩
theorem vi_X10_walkTwo : fwMvi mX10_walkTwo := ⟨tw_4 tq_4_27.2.2.1 rfl, tw_4 tq_4_27.2.2.2.1 rfl⟩
abbrev mX10_besides : fwM := (yX10_besides, cX10_besides, 9, some .int)
theorem pd_30 : (parseMethodDescriptor "(IIII)I").map (fun d => d.parameters.length) = some 4 := by decide +kernel
theorem ok_X10_besides : fwMok mX10_besides 4 := ⟨tw_4 tq_4_28.1 rfl, ci_13, ⟨cn_13.1, cn_13.2, pd_30⟩, Nat.le_of_ble_eq_true rfl⟩
theorem vi_X10_besides : fwMvi mX10_besides := ⟨tw_4 tq_4_27.2.2.2.2.2.2.2 rfl, fwTb_s (i := 30) rfl rfl⟩
abbrev mX10_namesOfBoth : fwM := (yX10_namesOfBoth, cX10_namesOfBoth, 6, some .int)
theorem ok_X10_namesOfBoth : fwMok mX10_namesOfBoth 4 := ⟨tw_4 tq_4_28.2.2.2.2.1 rfl, ci_13, ⟨cn_13.1, cn_13.2, pd_30⟩, Nat.le_of_ble_eq_true rfl⟩
theorem vi_X10_namesOfBoth : fwMvi mX10_namesOfBoth := ⟨tw_4 tq_4_28.2.2.2.1 rfl, fwTb_s (i := 31) rfl rfl⟩
abbrev mJ9_max_7cf53 : fwM := (yJ9_max_7cf53, cJ9_max_7cf53, 2, some .int)
theorem ok_J9_max_7cf53 : fwMok mJ9_max_7cf53 2 := ⟨tw_4 tq_4_28.2.2.2.2.2.2.2 rfl, ci_14, ⟨cn_14.1, cn_14.2, pd_7⟩, Nat.le_of_ble_eq_true rfl⟩
theorem st_J9_max_7cf53 : Cond.static (mJ9_max_7cf53).1 ∈ fwTb := tw_4 tq_4_28.2.2.2.2.2.2.1 rfl
abbrev mX11_flows : fwM := (yX11_flows, cX11_flows, 2, some .int)
theorem ok_X11_flows : fwMok mX11_flows 1 := ⟨tw_4 tq_4_29.2.2.2.1 rfl, ci_0, ⟨cn_0.1, cn_0.2, pd_3⟩, Nat.le_of_ble_eq_true rfl⟩
theorem vi_X11_flows : fwMvi mX11_flows := ⟨tw_4 tq_4_29.2.1 rfl, tw_4 tq_4_29.2.2.1 rfl⟩
abbrev mX1_waterEnd : fwM := (yX1_waterEnd, cX1_waterEnd, 2, some .int)
theorem ok_X1_waterEnd : fwMok mX1_waterEnd 1 := ⟨tw_4 tq_4_29.2.2.2.2.2.2.2 rfl, ci_8, ⟨cn_8.1, cn_8.2, pd_3⟩, Nat.le_of_ble_eq_true rfl⟩
theorem vi_X1_waterEnd : fwMvi mX1_waterEnd := ⟨tw_4 tq_4_29.2.2.2.2.2.1 rfl, tw_4 tq_4_29.2.2.2.2.2.2.1 rfl⟩
abbrev mX11_basin : fwM := (yX11_basin, cX11_basin, 2, some .int)
theorem ok_X11_basin : fwMok mX11_basin 1 := ⟨tw_5 tq_5_0.2.2.2.1 rfl, ci_0, ⟨cn_0.1, cn_0.2, pd_3⟩, Nat.le_of_ble_eq_true rfl⟩
theorem vi_X11_basin : fwMvi mX11_basin := ⟨tw_5 tq_5_0.2.1 rfl, tw_5 tq_5_0.2.2.1 rfl⟩
abbrev mX1_drainedTo : fwM := (yX1_drainedTo, cX1_drainedTo, 4, some .int)
theorem ok_X1_drainedTo : fwMok mX1_drainedTo 1 := ⟨tw_5 tq_5_0.2.2.2.2.2.2.2 rfl, ci_8, ⟨cn_8.1, cn_8.2, pd_3⟩, Nat.le_of_ble_eq_true rfl⟩
theorem vi_X1_drainedTo : fwMvi mX1_drainedTo := ⟨tw_5 tq_5_0.2.2.2.2.2.1 rfl, tw_5 tq_5_0.2.2.2.2.2.2.1 rfl⟩
abbrev mX11_cliffs : fwM := (yX11_cliffs, cX11_cliffs, 1, some .int)
theorem ok_X11_cliffs : fwMok mX11_cliffs 0 := ⟨tw_5 tq_5_1.2.2.2.2.1 rfl, ci_0, ⟨cn_0.1, cn_0.2, pd_4⟩, Nat.le_of_ble_eq_true rfl⟩
theorem vi_X11_cliffs : fwMvi mX11_cliffs := ⟨tw_5 tq_5_1.2.2.1 rfl, tw_5 tq_5_1.2.2.2.1 rfl⟩
abbrev mX1_cliffPairs : fwM := (yX1_cliffPairs, cX1_cliffPairs, 4, some .int)
theorem ok_X1_cliffPairs : fwMok mX1_cliffPairs 0 := ⟨tw_5 tq_5_2.1 rfl, ci_8, ⟨cn_8.1, cn_8.2, pd_4⟩, Nat.le_of_ble_eq_true rfl⟩
theorem vi_X1_cliffPairs : fwMvi mX1_cliffPairs := ⟨tw_5 tq_5_1.2.2.2.2.2.2.1 rfl, tw_5 tq_5_1.2.2.2.2.2.2.2 rfl⟩
abbrev mX11_springs : fwM := (yX11_springs, cX11_springs, 1, some .int)
theorem ok_X11_springs : fwMok mX11_springs 0 := ⟨tw_5 tq_5_2.2.2.2.2.1 rfl, ci_0, ⟨cn_0.1, cn_0.2, pd_4⟩, Nat.le_of_ble_eq_true rfl⟩
theorem vi_X11_springs : fwMvi mX11_springs := ⟨tw_5 tq_5_2.2.2.1 rfl, tw_5 tq_5_2.2.2.2.1 rfl⟩
abbrev mX1_waterEnds : fwM := (yX1_waterEnds, cX1_waterEnds, 3, some .int)
theorem ok_X1_waterEnds : fwMok mX1_waterEnds 0 := ⟨tw_5 tq_5_3.1 rfl, ci_8, ⟨cn_8.1, cn_8.2, pd_4⟩, Nat.le_of_ble_eq_true rfl⟩
theorem vi_X1_waterEnds : fwMvi mX1_waterEnds := ⟨tw_5 tq_5_2.2.2.2.2.2.2.1 rfl, tw_5 tq_5_2.2.2.2.2.2.2.2 rfl⟩
abbrev mX11_sees : fwM := (yX11_sees, cX11_sees, 2, some .int)
theorem ok_X11_sees : fwMok mX11_sees 1 := ⟨tw_5 tq_5_3.2.2.2.2.1 rfl, ci_0, ⟨cn_0.1, cn_0.2, pd_3⟩, Nat.le_of_ble_eq_true rfl⟩
theorem vi_X11_sees : fwMvi mX11_sees := ⟨tw_5 tq_5_3.2.2.1 rfl, tw_5 tq_5_3.2.2.2.1 rfl⟩
abbrev mX1_seenFrom : fwM := (yX1_seenFrom, cX1_seenFrom, 4, some .int)
theorem ok_X1_seenFrom : fwMok mX1_seenFrom 1 := ⟨tw_5 tq_5_4.1 rfl, ci_8, ⟨cn_8.1, cn_8.2, pd_3⟩, Nat.le_of_ble_eq_true rfl⟩
theorem vi_X1_seenFrom : fwMvi mX1_seenFrom := ⟨tw_5 tq_5_3.2.2.2.2.2.2.1 rfl, tw_5 tq_5_3.2.2.2.2.2.2.2 rfl⟩
abbrev mX1_isOpen : fwM := (yX1_isOpen, cX1_isOpen, 5, some .boolean)
theorem ok_X1_isOpen : fwMok mX1_isOpen 2 := ⟨tw_5 tq_5_4.2.2.2.2.1 rfl, ci_8, ⟨cn_8.1, cn_8.2, pd_19⟩, Nat.le_of_ble_eq_true rfl⟩
theorem vi_X1_isOpen : fwMvi mX1_isOpen := ⟨tw_5 tq_5_4.2.2.2.1 rfl, fwTb_s (i := 32) rfl rfl⟩
abbrev mX11_lookout : fwM := (yX11_lookout, cX11_lookout, 1, some .int)
theorem ok_X11_lookout : fwMok mX11_lookout 0 := ⟨tw_5 tq_5_5.1 rfl, ci_0, ⟨cn_0.1, cn_0.2, pd_4⟩, Nat.le_of_ble_eq_true rfl⟩
theorem vi_X11_lookout : fwMvi mX11_lookout := ⟨tw_5 tq_5_4.2.2.2.2.2.2.1 rfl, tw_5 tq_5_4.2.2.2.2.2.2.2 rfl⟩
abbrev mX1_bestLookout : fwM := (yX1_bestLookout, cX1_bestLookout, 5, some .int)
theorem ok_X1_bestLookout : fwMok mX1_bestLookout 0 := ⟨tw_5 tq_5_5.2.2.2.2.1 rfl, ci_8, ⟨cn_8.1, cn_8.2, pd_4⟩, Nat.le_of_ble_eq_true rfl⟩
theorem vi_X1_bestLookout : fwMvi mX1_bestLookout := ⟨tw_5 tq_5_5.2.2.1 rfl, tw_5 tq_5_5.2.2.2.1 rfl⟩
abbrev mX11_votes : fwM := (yX11_votes, cX11_votes, 3, some .int)
theorem ok_X11_votes : fwMok mX11_votes 2 := ⟨tw_5 tq_5_6.2.2.1 rfl, ci_0, ⟨cn_0.1, cn_0.2, pd_7⟩, Nat.le_of_ble_eq_true rfl⟩
theorem vi_X11_votes : fwMvi mX11_votes := ⟨tw_5 tq_5_6.1 rfl, tw_5 tq_5_6.2.1 rfl⟩
abbrev mX7_weighCells : fwM := (yX7_weighCells, cX7_weighCells, 2, none)
theorem ci_15 : Cond.initialized "FootLower$Shaper" ∈ fwTb := tw_1 tq_1_1.2.2.1 rfl
theorem cn_15 : "FootLower$Shaper" ≠ "java/lang/invoke/MethodHandle" ∧ "FootLower$Shaper" ≠ "java/lang/invoke/VarHandle" := ⟨by decide, by decide⟩
theorem ok_X7_weighCells : fwMok mX7_weighCells 0 := ⟨tw_5 tq_5_6.2.2.2.2.2.2.1 rfl, ci_15, ⟨cn_15.1, cn_15.2, pd_6⟩, Nat.le_of_ble_eq_true rfl⟩
theorem vi_X7_weighCells : fwMvi mX7_weighCells := ⟨tw_5 tq_5_6.2.2.2.2.1 rfl, tw_5 tq_5_6.2.2.2.2.2.1 rfl⟩
abbrev mX7_votersFor : fwM := (yX7_votersFor, cX7_votersFor, 5, some .int)
theorem ok_X7_votersFor : fwMok mX7_votersFor 2 := ⟨tw_5 tq_5_7.2.2.2.2.2.2.1 rfl, ci_15, ⟨cn_15.1, cn_15.2, pd_7⟩, Nat.le_of_ble_eq_true rfl⟩
theorem vi_X7_votersFor : fwMvi mX7_votersFor := ⟨tw_5 tq_5_7.2.2.2.2.1 rfl, tw_5 tq_5_7.2.2.2.2.2.1 rfl⟩
abbrev mX7_weightOf : fwM := (yX7_weightOf, cX7_weightOf, 4, some .int)
theorem ok_X7_weightOf : fwMok mX7_weightOf 2 := ⟨tw_5 tq_5_8.2.2.1 rfl, ci_15, ⟨cn_15.1, cn_15.2, pd_7⟩, Nat.le_of_ble_eq_true rfl⟩
theorem vi_X7_weightOf : fwMvi mX7_weightOf := ⟨tw_5 tq_5_8.2.1 rfl, fwTb_s (i := 33) rfl rfl⟩
abbrev mX11_elected : fwM := (yX11_elected, cX11_elected, 1, some .int)
theorem ok_X11_elected : fwMok mX11_elected 0 := ⟨tw_5 tq_5_8.2.2.2.2.2.2.1 rfl, ci_0, ⟨cn_0.1, cn_0.2, pd_4⟩, Nat.le_of_ble_eq_true rfl⟩
theorem vi_X11_elected : fwMvi mX11_elected := ⟨tw_5 tq_5_8.2.2.2.2.1 rfl, tw_5 tq_5_8.2.2.2.2.2.1 rfl⟩
abbrev mX7_electedCell : fwM := (yX7_electedCell, cX7_electedCell, 2, some .int)
theorem ok_X7_electedCell : fwMok mX7_electedCell 0 := ⟨tw_5 tq_5_9.2.2.1 rfl, ci_15, ⟨cn_15.1, cn_15.2, pd_4⟩, Nat.le_of_ble_eq_true rfl⟩
theorem vi_X7_electedCell : fwMvi mX7_electedCell := ⟨tw_5 tq_5_9.1 rfl, tw_5 tq_5_9.2.1 rfl⟩
abbrev mX7_isUnbeaten : fwM := (yX7_isUnbeaten, cX7_isUnbeaten, 4, some .boolean)
theorem ok_X7_isUnbeaten : fwMok mX7_isUnbeaten 1 := ⟨tw_5 tq_5_9.2.2.2.2.2.2.2 rfl, ci_15, ⟨cn_15.1, cn_15.2, pd_1⟩, Nat.le_of_ble_eq_true rfl⟩
theorem vi_X7_isUnbeaten : fwMvi mX7_isUnbeaten := ⟨tw_5 tq_5_9.2.2.2.2.2.2.1 rfl, fwTb_s (i := 34) rfl rfl⟩
abbrev mX11_best : fwM := (yX11_best, cX11_best, 1, some .int)
theorem ok_X11_best : fwMok mX11_best 0 := ⟨tw_5 tq_5_10.2.2.2.2.2.1 rfl, ci_0, ⟨cn_0.1, cn_0.2, pd_4⟩, Nat.le_of_ble_eq_true rfl⟩
theorem vi_X11_best : fwMvi mX11_best := ⟨tw_5 tq_5_10.2.2.2.1 rfl, tw_5 tq_5_10.2.2.2.2.1 rfl⟩
abbrev mX7_canShape : fwM := (yX7_canShape, cX7_canShape, 2, some .boolean)
theorem ok_X7_canShape : fwMok mX7_canShape 1 := ⟨tw_5 tq_5_11.2.1 rfl, ci_15, ⟨cn_15.1, cn_15.2, pd_1⟩, Nat.le_of_ble_eq_true rfl⟩
theorem vi_X7_canShape : fwMvi mX7_canShape := ⟨tw_5 tq_5_10.2.2.2.2.2.2.2 rfl, tw_5 tq_5_11.1 rfl⟩
abbrev mX1_feetInAll : fwM := (yX1_feetInAll, cX1_feetInAll, 3, some .int)
theorem ok_X1_feetInAll : fwMok mX1_feetInAll 0 := ⟨tw_5 tq_5_11.2.2.2.2.2.2.1 rfl, ci_8, ⟨cn_8.1, cn_8.2, pd_4⟩, Nat.le_of_ble_eq_true rfl⟩
theorem vi_X1_feetInAll : fwMvi mX1_feetInAll := ⟨tw_5 tq_5_11.2.2.2.2.1 rfl, tw_5 tq_5_11.2.2.2.2.2.1 rfl⟩
abbrev mX7_shapeBy : fwM := (yX7_shapeBy, cX7_shapeBy, 2, some .int)
theorem ok_X7_shapeBy : fwMok mX7_shapeBy 1 := ⟨tw_5 tq_5_12.2.2.1 rfl, ci_15, ⟨cn_15.1, cn_15.2, pd_3⟩, Nat.le_of_ble_eq_true rfl⟩
theorem vi_X7_shapeBy : fwMvi mX7_shapeBy := ⟨tw_5 tq_5_12.1 rfl, tw_5 tq_5_12.2.1 rfl⟩
abbrev mX7_search : fwM := (yX7_search, cX7_search, 5, none)
theorem ok_X7_search : fwMok mX7_search 3 := ⟨tw_5 tq_5_12.2.2.2.2.2.2.1 rfl, ci_15, ⟨cn_15.1, cn_15.2, pd_17⟩, Nat.le_of_ble_eq_true rfl⟩
theorem vi_X7_search : fwMvi mX7_search := ⟨tw_5 tq_5_12.2.2.2.2.2.1 rfl, fwTb_s (i := 35) rfl rfl⟩
abbrev mX7_keepIfBetter : fwM := (yX7_keepIfBetter, cX7_keepIfBetter, 3, none)
theorem ok_X7_keepIfBetter : fwMok mX7_keepIfBetter 0 := ⟨tw_5 tq_5_13.2.2.1 rfl, ci_15, ⟨cn_15.1, cn_15.2, pd_6⟩, Nat.le_of_ble_eq_true rfl⟩
theorem vi_X7_keepIfBetter : fwMvi mX7_keepIfBetter := ⟨tw_5 tq_5_13.2.1 rfl, fwTb_s (i := 36) rfl rfl⟩
abbrev mX7_shapedCell : fwM := (yX7_shapedCell, cX7_shapedCell, 2, some .int)
theorem ok_X7_shapedCell : fwMok mX7_shapedCell 1 := ⟨tw_5 tq_5_13.2.2.2.2.2.2.2 rfl, ci_15, ⟨cn_15.1, cn_15.2, pd_3⟩, Nat.le_of_ble_eq_true rfl⟩
theorem vi_X7_shapedCell : fwMvi mX7_shapedCell := ⟨tw_5 tq_5_13.2.2.2.2.2.1 rfl, tw_5 tq_5_13.2.2.2.2.2.2.1 rfl⟩
abbrev mX11_shape : fwM := (yX11_shape, cX11_shape, 2, some .int)
theorem ok_X11_shape : fwMok mX11_shape 1 := ⟨tw_5 tq_5_14.2.2.2.1 rfl, ci_0, ⟨cn_0.1, cn_0.2, pd_3⟩, Nat.le_of_ble_eq_true rfl⟩
theorem vi_X11_shape : fwMvi mX11_shape := ⟨tw_5 tq_5_14.2.1 rfl, tw_5 tq_5_14.2.2.1 rfl⟩
abbrev mX11_shaped : fwM := (yX11_shaped, cX11_shaped, 3, some .int)
theorem ok_X11_shaped : fwMok mX11_shaped 2 := ⟨tw_5 tq_5_14.2.2.2.2.2.2.2 rfl, ci_0, ⟨cn_0.1, cn_0.2, pd_7⟩, Nat.le_of_ble_eq_true rfl⟩
theorem vi_X11_shaped : fwMvi mX11_shaped := ⟨tw_5 tq_5_14.2.2.2.2.2.1 rfl, tw_5 tq_5_14.2.2.2.2.2.2.1 rfl⟩
abbrev mX11_spoil : fwM := (yX11_spoil, cX11_spoil, 1, some .int)
theorem ok_X11_spoil : fwMok mX11_spoil 0 := ⟨tw_5 tq_5_15.2.2.2.1 rfl, ci_0, ⟨cn_0.1, cn_0.2, pd_4⟩, Nat.le_of_ble_eq_true rfl⟩
theorem vi_X11_spoil : fwMvi mX11_spoil := ⟨tw_5 tq_5_15.2.1 rfl, tw_5 tq_5_15.2.2.1 rfl⟩
abbrev mX7_spoilCell : fwM := (yX7_spoilCell, cX7_spoilCell, 6, some .int)
theorem ok_X7_spoilCell : fwMok mX7_spoilCell 0 := ⟨tw_5 tq_5_15.2.2.2.2.2.2.2 rfl, ci_15, ⟨cn_15.1, cn_15.2, pd_4⟩, Nat.le_of_ble_eq_true rfl⟩
theorem vi_X7_spoilCell : fwMvi mX7_spoilCell := ⟨tw_5 tq_5_15.2.2.2.2.2.1 rfl, tw_5 tq_5_15.2.2.2.2.2.2.1 rfl⟩
abbrev mX11_course : fwM := (yX11_course, cX11_course, 2, some .int)
theorem ok_X11_course : fwMok mX11_course 1 := ⟨tw_5 tq_5_16.2.2.2.2.1 rfl, ci_0, ⟨cn_0.1, cn_0.2, pd_3⟩, Nat.le_of_ble_eq_true rfl⟩
theorem vi_X11_course : fwMvi mX11_course := ⟨tw_5 tq_5_16.2.2.1 rfl, tw_5 tq_5_16.2.2.2.1 rfl⟩
abbrev mX11_isLaw : fwM := (yX11_isLaw, cX11_isLaw, 2, some .boolean)
theorem ok_X11_isLaw : fwMok mX11_isLaw 1 := ⟨tw_5 tq_5_17.1 rfl, ci_0, ⟨cn_0.1, cn_0.2, pd_1⟩, Nat.le_of_ble_eq_true rfl⟩
theorem vi_X11_isLaw : fwMvi mX11_isLaw := ⟨tw_5 tq_5_16.2.2.2.2.2.2.2 rfl, fwTb_s (i := 37) rfl rfl⟩
abbrev mX0_followLaw : fwM := (yX0_followLaw, cX0_followLaw, 3, some .int)
theorem ok_X0_followLaw : fwMok mX0_followLaw 1 := ⟨tw_5 tq_5_17.2.2.2.2.1 rfl, ci_11, ⟨cn_11.1, cn_11.2, pd_3⟩, Nat.le_of_ble_eq_true rfl⟩
theorem vi_X0_followLaw : fwMvi mX0_followLaw := ⟨tw_5 tq_5_17.2.2.1 rfl, tw_5 tq_5_17.2.2.2.1 rfl⟩
abbrev mX0_namesOnTrial : fwM := (yX0_namesOnTrial, cX0_namesOnTrial, 1, some .int)
theorem ok_X0_namesOnTrial : fwMok mX0_namesOnTrial 0 := ⟨tw_5 tq_5_18.1 rfl, ci_11, ⟨cn_11.1, cn_11.2, pd_4⟩, Nat.le_of_ble_eq_true rfl⟩
theorem vi_X0_namesOnTrial : fwMvi mX0_namesOnTrial := ⟨tw_5 tq_5_17.2.2.2.2.2.2.2 rfl, fwTb_s (i := 38) rfl rfl⟩
abbrev mX11_ends : fwM := (yX11_ends, cX11_ends, 2, some .int)
theorem ok_X11_ends : fwMok mX11_ends 1 := ⟨tw_5 tq_5_18.2.2.2.2.2.2.2 rfl, ci_0, ⟨cn_0.1, cn_0.2, pd_3⟩, Nat.le_of_ble_eq_true rfl⟩
theorem vi_X11_ends : fwMvi mX11_ends := ⟨tw_5 tq_5_18.2.2.2.2.2.1 rfl, tw_5 tq_5_18.2.2.2.2.2.2.1 rfl⟩
abbrev mX11_left : fwM := (yX11_left, cX11_left, 3, some .int)
theorem ok_X11_left : fwMok mX11_left 2 := ⟨tw_5 tq_5_19.2.2.2.1 rfl, ci_0, ⟨cn_0.1, cn_0.2, pd_7⟩, Nat.le_of_ble_eq_true rfl⟩
theorem vi_X11_left : fwMvi mX11_left := ⟨tw_5 tq_5_19.2.1 rfl, tw_5 tq_5_19.2.2.1 rfl⟩
abbrev mX11_law : fwM := (yX11_law, cX11_law, 2, some .int)
theorem ok_X11_law : fwMok mX11_law 1 := ⟨tw_5 tq_5_19.2.2.2.2.2.2.2 rfl, ci_0, ⟨cn_0.1, cn_0.2, pd_3⟩, Nat.le_of_ble_eq_true rfl⟩
theorem vi_X11_law : fwMvi mX11_law := ⟨tw_5 tq_5_19.2.2.2.2.2.1 rfl, tw_5 tq_5_19.2.2.2.2.2.2.1 rfl⟩
abbrev mX0_greatestLaw : fwM := (yX0_greatestLaw, cX0_greatestLaw, 5, some .int)
theorem ok_X0_greatestLaw : fwMok mX0_greatestLaw 1 := ⟨tw_5 tq_5_20.2.2.2.1 rfl, ci_11, ⟨cn_11.1, cn_11.2, pd_3⟩, Nat.le_of_ble_eq_true rfl⟩
theorem vi_X0_greatestLaw : fwMvi mX0_greatestLaw := ⟨tw_5 tq_5_20.2.1 rfl, tw_5 tq_5_20.2.2.1 rfl⟩
abbrev mX11_raisers : fwM := (yX11_raisers, cX11_raisers, 1, some .int)
theorem ok_X11_raisers : fwMok mX11_raisers 0 := ⟨tw_5 tq_5_21.1 rfl, ci_0, ⟨cn_0.1, cn_0.2, pd_4⟩, Nat.le_of_ble_eq_true rfl⟩
theorem vi_X11_raisers : fwMvi mX11_raisers := ⟨tw_5 tq_5_20.2.2.2.2.2.2.1 rfl, tw_5 tq_5_20.2.2.2.2.2.2.2 rfl⟩
abbrev mX11_old : fwM := (yX11_old, cX11_old, 3, some .int)
theorem ok_X11_old : fwMok mX11_old 1 := ⟨tw_5 tq_5_21.2.2.2.2.1 rfl, ci_0, ⟨cn_0.1, cn_0.2, pd_3⟩, Nat.le_of_ble_eq_true rfl⟩
theorem vi_X11_old : fwMvi mX11_old := ⟨tw_5 tq_5_21.2.2.1 rfl, tw_5 tq_5_21.2.2.2.1 rfl⟩
abbrev mX6_load : fwM := (yX6_load, cX6_load, 4, some .int)
theorem ci_16 : Cond.initialized "FootLower$Shadows" ∈ fwTb := tw_1 tq_1_1.2.2.2.2.1 rfl
theorem cn_16 : "FootLower$Shadows" ≠ "java/lang/invoke/MethodHandle" ∧ "FootLower$Shadows" ≠ "java/lang/invoke/VarHandle" := ⟨by decide, by decide⟩
theorem ok_X6_load : fwMok mX6_load 1 := ⟨tw_5 tq_5_22.1 rfl, ci_16, ⟨cn_16.1, cn_16.2, pd_3⟩, Nat.le_of_ble_eq_true rfl⟩
theorem vi_X6_load : fwMvi mX6_load := ⟨tw_5 tq_5_21.2.2.2.2.2.2.1 rfl, tw_5 tq_5_21.2.2.2.2.2.2.2 rfl⟩
abbrev mX8_has : fwM := (yX8_has, cX8_has, 2, some .boolean)
theorem ci_17 : Cond.initialized "FootLower$Slots" ∈ fwTb := tw_1 tq_1_0.2.2.2.2.2.2.2 rfl
theorem cn_17 : "FootLower$Slots" ≠ "java/lang/invoke/MethodHandle" ∧ "FootLower$Slots" ≠ "java/lang/invoke/VarHandle" := ⟨by decide, by decide⟩
theorem ok_X8_has : fwMok mX8_has 1 := ⟨tw_5 tq_5_22.2.2.2.2.1 rfl, ci_17, ⟨cn_17.1, cn_17.2, pd_1⟩, Nat.le_of_ble_eq_true rfl⟩
theorem vi_X8_has : fwMvi mX8_has := ⟨tw_5 tq_5_22.2.2.1 rfl, tw_5 tq_5_22.2.2.2.1 rfl⟩
abbrev mX8_isLaid : fwM := (yX8_isLaid, cX8_isLaid, 2, some .boolean)
theorem ok_X8_isLaid : fwMok mX8_isLaid 1 := ⟨tw_5 tq_5_23.2.1 rfl, ci_17, ⟨cn_17.1, cn_17.2, pd_1⟩, Nat.le_of_ble_eq_true rfl⟩
theorem vi_X8_isLaid : fwMvi mX8_isLaid := ⟨tw_5 tq_5_22.2.2.2.2.2.2.2 rfl, tw_5 tq_5_23.1 rfl⟩
abbrev mX8_sizeOf : fwM := (yX8_sizeOf, cX8_sizeOf, 2, some .int)
theorem ok_X8_sizeOf : fwMok mX8_sizeOf 1 := ⟨tw_5 tq_5_23.2.2.2.2.2.1 rfl, ci_17, ⟨cn_17.1, cn_17.2, pd_3⟩, Nat.le_of_ble_eq_true rfl⟩
theorem vi_X8_sizeOf : fwMvi mX8_sizeOf := ⟨tw_5 tq_5_23.2.2.2.1 rfl, tw_5 tq_5_23.2.2.2.2.1 rfl⟩
abbrev mX6_isSighting : fwM := (yX6_isSighting, cX6_isSighting, 12, some .boolean)
theorem ok_X6_isSighting : fwMok mX6_isSighting 1 := ⟨tw_5 tq_5_24.2.1 rfl, ci_16, ⟨cn_16.1, cn_16.2, pd_1⟩, Nat.le_of_ble_eq_true rfl⟩
theorem vi_X6_isSighting : fwMvi mX6_isSighting := ⟨tw_5 tq_5_24.1 rfl, fwTb_s (i := 39) rfl rfl⟩
abbrev mX8_numberAt : fwM := (yX8_numberAt, cX8_numberAt, 3, some .long)
theorem pd_31 : (parseMethodDescriptor "(II)J").map (fun d => d.parameters.length) = some 2 := by decide +kernel
theorem ok_X8_numberAt : fwMok mX8_numberAt 2 := ⟨tw_5 tq_5_24.2.2.2.2.2.2.1 rfl, ci_17, ⟨cn_17.1, cn_17.2, pd_31⟩, Nat.le_of_ble_eq_true rfl⟩
theorem vi_X8_numberAt : fwMvi mX8_numberAt := ⟨tw_5 tq_5_24.2.2.2.2.1 rfl, tw_5 tq_5_24.2.2.2.2.2.1 rfl⟩
abbrev mX6_countMisses : fwM := (yX6_countMisses, cX6_countMisses, 7, none)
theorem ok_X6_countMisses : fwMok mX6_countMisses 2 := ⟨tw_5 tq_5_25.2.2.2.2.2.2.2 rfl, ci_16, ⟨cn_16.1, cn_16.2, pd_13⟩, Nat.le_of_ble_eq_true rfl⟩
theorem vi_X6_countMisses : fwMvi mX6_countMisses := ⟨tw_5 tq_5_25.2.2.2.2.2.2.1 rfl, fwTb_s (i := 40) rfl rfl⟩
abbrev mX11_ask : fwM := (yX11_ask, cX11_ask, 4, some .int)
theorem ok_X11_ask : fwMok mX11_ask 2 := ⟨tw_5 tq_5_26.2.2.2.2.2.1 rfl, ci_0, ⟨cn_0.1, cn_0.2, pd_7⟩, Nat.le_of_ble_eq_true rfl⟩
theorem vi_X11_ask : fwMvi mX11_ask := ⟨tw_5 tq_5_26.2.2.2.1 rfl, tw_5 tq_5_26.2.2.2.2.1 rfl⟩
abbrev mX6_hourToMeasure : fwM := (yX6_hourToMeasure, cX6_hourToMeasure, 6, some .int)
theorem ok_X6_hourToMeasure : fwMok mX6_hourToMeasure 1 := ⟨tw_5 tq_5_27.2.1 rfl, ci_16, ⟨cn_16.1, cn_16.2, pd_3⟩, Nat.le_of_ble_eq_true rfl⟩
theorem vi_X6_hourToMeasure : fwMvi mX6_hourToMeasure := ⟨tw_5 tq_5_26.2.2.2.2.2.2.2 rfl, tw_5 tq_5_27.1 rfl⟩
abbrev mX6_countShaded : fwM := (yX6_countShaded, cX6_countShaded, 4, none)
theorem ok_X6_countShaded : fwMok mX6_countShaded 1 := ⟨tw_5 tq_5_27.2.2.2.2.2.1 rfl, ci_16, ⟨cn_16.1, cn_16.2, pd_2⟩, Nat.le_of_ble_eq_true rfl⟩
theorem vi_X6_countShaded : fwMvi mX6_countShaded := ⟨tw_5 tq_5_27.2.2.2.2.1 rfl, fwTb_s (i := 41) rfl rfl⟩
abbrev mX6_addShaded : fwM := (yX6_addShaded, cX6_addShaded, 4, none)
theorem ok_X6_addShaded : fwMok mX6_addShaded 2 := ⟨tw_5 tq_5_28.2.2.1 rfl, ci_16, ⟨cn_16.1, cn_16.2, pd_13⟩, Nat.le_of_ble_eq_true rfl⟩
theorem vi_X6_addShaded : fwMvi mX6_addShaded := ⟨tw_5 tq_5_28.2.1 rfl, fwTb_s (i := 42) rfl rfl⟩
abbrev mX11_leaves : fwM := (yX11_leaves, cX11_leaves, 4, some .int)
theorem ok_X11_leaves : fwMok mX11_leaves 2 := ⟨tw_5 tq_5_29.1 rfl, ci_0, ⟨cn_0.1, cn_0.2, pd_7⟩, Nat.le_of_ble_eq_true rfl⟩
theorem vi_X11_leaves : fwMvi mX11_leaves := ⟨tw_5 tq_5_28.2.2.2.2.2.2.1 rfl, tw_5 tq_5_28.2.2.2.2.2.2.2 rfl⟩
abbrev mX11_doubts : fwM := (yX11_doubts, cX11_doubts, 3, some .int)
theorem ok_X11_doubts : fwMok mX11_doubts 1 := ⟨tw_5 tq_5_29.2.2.2.2.1 rfl, ci_0, ⟨cn_0.1, cn_0.2, pd_3⟩, Nat.le_of_ble_eq_true rfl⟩
theorem vi_X11_doubts : fwMvi mX11_doubts := ⟨tw_5 tq_5_29.2.2.1 rfl, tw_5 tq_5_29.2.2.2.1 rfl⟩
abbrev mX6_doubtful : fwM := (yX6_doubtful, cX6_doubtful, 3, some .int)
theorem ok_X6_doubtful : fwMok mX6_doubtful 0 := ⟨tw_6 tq_6_0.1 rfl, ci_16, ⟨cn_16.1, cn_16.2, pd_4⟩, Nat.le_of_ble_eq_true rfl⟩
theorem vi_X6_doubtful : fwMvi mX6_doubtful := ⟨tw_5 tq_5_29.2.2.2.2.2.2.1 rfl, tw_5 tq_5_29.2.2.2.2.2.2.2 rfl⟩
abbrev mX6_isOnlyMiss : fwM := (yX6_isOnlyMiss, cX6_isOnlyMiss, 3, some .boolean)
theorem ok_X6_isOnlyMiss : fwMok mX6_isOnlyMiss 1 := ⟨tw_6 tq_6_0.2.2.2.2.1 rfl, ci_16, ⟨cn_16.1, cn_16.2, pd_1⟩, Nat.le_of_ble_eq_true rfl⟩
theorem vi_X6_isOnlyMiss : fwMvi mX6_isOnlyMiss := ⟨tw_6 tq_6_0.2.2.2.1 rfl, fwTb_s (i := 43) rfl rfl⟩
abbrev mX11_stands : fwM := (yX11_stands, cX11_stands, 3, some .int)
theorem ok_X11_stands : fwMok mX11_stands 1 := ⟨tw_6 tq_6_1.1 rfl, ci_0, ⟨cn_0.1, cn_0.2, pd_3⟩, Nat.le_of_ble_eq_true rfl⟩
theorem vi_X11_stands : fwMvi mX11_stands := ⟨tw_6 tq_6_0.2.2.2.2.2.2.1 rfl, tw_6 tq_6_0.2.2.2.2.2.2.2 rfl⟩
abbrev mX11_rollRefusal : fwM := (yX11_rollRefusal, cX11_rollRefusal, 2, some .int)
theorem ok_X11_rollRefusal : fwMok mX11_rollRefusal 1 := ⟨tw_6 tq_6_1.2.2.2.2.1 rfl, ci_0, ⟨cn_0.1, cn_0.2, pd_3⟩, Nat.le_of_ble_eq_true rfl⟩
theorem vi_X11_rollRefusal : fwMvi mX11_rollRefusal := ⟨tw_6 tq_6_1.2.2.2.1 rfl, fwTb_s (i := 44) rfl rfl⟩
abbrev mX3_isRoll : fwM := (yX3_isRoll, cX3_isRoll, 9, some .boolean)
theorem pd_32 : (parseMethodDescriptor "(LFootLower$Slots;I)Z").map (fun d => d.parameters.length) = some 2 := by decide +kernel
theorem ok_X3_isRoll : fwMok mX3_isRoll 2 := ⟨tw_6 tq_6_2.2.2.1 rfl, ci_9, ⟨cn_9.1, cn_9.2, pd_32⟩, Nat.le_of_ble_eq_true rfl⟩
theorem vi_X3_isRoll : fwMvi mX3_isRoll := ⟨tw_6 tq_6_2.1 rfl, tw_6 tq_6_2.2.1 rfl⟩
abbrev mX3_standing : fwM := (yX3_standing, cX3_standing, 6, some .int)
theorem pd_33 : (parseMethodDescriptor "(LFootLower$Slots;II)I").map (fun d => d.parameters.length) = some 3 := by decide +kernel
theorem ok_X3_standing : fwMok mX3_standing 3 := ⟨tw_6 tq_6_3.2.1 rfl, ci_9, ⟨cn_9.1, cn_9.2, pd_33⟩, Nat.le_of_ble_eq_true rfl⟩
theorem vi_X3_standing : fwMvi mX3_standing := ⟨tw_6 tq_6_2.2.2.2.2.2.2.2 rfl, tw_6 tq_6_3.1 rfl⟩
abbrev mX3_howStands : fwM := (yX3_howStands, cX3_howStands, 9, some .int)
theorem ok_X3_howStands : fwMok mX3_howStands 3 := ⟨tw_6 tq_6_3.2.2.2.2.2.1 rfl, ci_9, ⟨cn_9.1, cn_9.2, pd_33⟩, Nat.le_of_ble_eq_true rfl⟩
theorem vi_X3_howStands : fwMvi mX3_howStands := ⟨tw_6 tq_6_3.2.2.2.2.1 rfl, fwTb_s (i := 45) rfl rfl⟩
abbrev mX11_struck : fwM := (yX11_struck, cX11_struck, 4, some .int)
theorem ok_X11_struck : fwMok mX11_struck 2 := ⟨tw_6 tq_6_4.2.1 rfl, ci_0, ⟨cn_0.1, cn_0.2, pd_7⟩, Nat.le_of_ble_eq_true rfl⟩
theorem vi_X11_struck : fwMvi mX11_struck := ⟨tw_6 tq_6_3.2.2.2.2.2.2.2 rfl, tw_6 tq_6_4.1 rfl⟩
abbrev mX11_drawn : fwM := (yX11_drawn, cX11_drawn, 5, some .int)
theorem ok_X11_drawn : fwMok mX11_drawn 3 := ⟨tw_6 tq_6_4.2.2.2.2.2.1 rfl, ci_0, ⟨cn_0.1, cn_0.2, pd_29⟩, Nat.le_of_ble_eq_true rfl⟩
theorem vi_X11_drawn : fwMvi mX11_drawn := ⟨tw_6 tq_6_4.2.2.2.1 rfl, tw_6 tq_6_4.2.2.2.2.1 rfl⟩
abbrev mX11_isDraw : fwM := (yX11_isDraw, cX11_isDraw, 3, some .boolean)
theorem ok_X11_isDraw : fwMok mX11_isDraw 2 := ⟨tw_6 tq_6_5.2.1 rfl, ci_0, ⟨cn_0.1, cn_0.2, pd_19⟩, Nat.le_of_ble_eq_true rfl⟩
theorem vi_X11_isDraw : fwMvi mX11_isDraw := ⟨tw_6 tq_6_5.1 rfl, fwTb_s (i := 46) rfl rfl⟩
abbrev mX0_drawMonths : fwM := (yX0_drawMonths, cX0_drawMonths, 11, some .int)
theorem ok_X0_drawMonths : fwMok mX0_drawMonths 3 := ⟨tw_6 tq_6_5.2.2.2.2.2.2.1 rfl, ci_11, ⟨cn_11.1, cn_11.2, pd_29⟩, Nat.le_of_ble_eq_true rfl⟩
theorem vi_X0_drawMonths : fwMvi mX0_drawMonths := ⟨tw_6 tq_6_5.2.2.2.2.1 rfl, tw_6 tq_6_5.2.2.2.2.2.1 rfl⟩
abbrev mX11_luck : fwM := (yX11_luck, cX11_luck, 6, some .int)
theorem ok_X11_luck : fwMok mX11_luck 3 := ⟨tw_6 tq_6_7.2.1 rfl, ci_0, ⟨cn_0.1, cn_0.2, pd_29⟩, Nat.le_of_ble_eq_true rfl⟩
theorem vi_X11_luck : fwMvi mX11_luck := ⟨tw_6 tq_6_6.2.2.2.2.2.2.2 rfl, tw_6 tq_6_7.1 rfl⟩
abbrev mX11_tell : fwM := (yX11_tell, cX11_tell, 3, some .int)
theorem ok_X11_tell : fwMok mX11_tell 1 := ⟨tw_6 tq_6_7.2.2.2.2.2.1 rfl, ci_0, ⟨cn_0.1, cn_0.2, pd_3⟩, Nat.le_of_ble_eq_true rfl⟩
theorem vi_X11_tell : fwMvi mX11_tell := ⟨tw_6 tq_6_7.2.2.2.1 rfl, tw_6 tq_6_7.2.2.2.2.1 rfl⟩
abbrev mX11_likes : fwM := (yX11_likes, cX11_likes, 5, some .int)
theorem ok_X11_likes : fwMok mX11_likes 3 := ⟨tw_6 tq_6_8.2.1 rfl, ci_0, ⟨cn_0.1, cn_0.2, pd_29⟩, Nat.le_of_ble_eq_true rfl⟩
theorem vi_X11_likes : fwMvi mX11_likes := ⟨tw_6 tq_6_7.2.2.2.2.2.2.2 rfl, tw_6 tq_6_8.1 rfl⟩
abbrev mX11_count : fwM := (yX11_count, cX11_count, 2, some .int)
theorem ok_X11_count : fwMok mX11_count 1 := ⟨tw_6 tq_6_8.2.2.2.2.2.2.1 rfl, ci_0, ⟨cn_0.1, cn_0.2, pd_3⟩, Nat.le_of_ble_eq_true rfl⟩
theorem vi_X11_count : fwMvi mX11_count := ⟨tw_6 tq_6_8.2.2.2.2.1 rfl, tw_6 tq_6_8.2.2.2.2.2.1 rfl⟩
abbrev mX8_rows : fwM := (yX8_rows, cX8_rows, 3, some .int)
theorem ok_X8_rows : fwMok mX8_rows 0 := ⟨tw_6 tq_6_9.2.2.1 rfl, ci_17, ⟨cn_17.1, cn_17.2, pd_4⟩, Nat.le_of_ble_eq_true rfl⟩
theorem vi_X8_rows : fwMvi mX8_rows := ⟨tw_6 tq_6_9.1 rfl, tw_6 tq_6_9.2.1 rfl⟩
abbrev mX11_image : fwM := (yX11_image, cX11_image, 2, some .int)
theorem ok_X11_image : fwMok mX11_image 1 := ⟨tw_6 tq_6_9.2.2.2.2.2.2.2 rfl, ci_0, ⟨cn_0.1, cn_0.2, pd_3⟩, Nat.le_of_ble_eq_true rfl⟩
theorem vi_X11_image : fwMvi mX11_image := ⟨tw_6 tq_6_9.2.2.2.2.2.1 rfl, tw_6 tq_6_9.2.2.2.2.2.2.1 rfl⟩
abbrev mX11_back : fwM := (yX11_back, cX11_back, 2, some .int)
theorem ok_X11_back : fwMok mX11_back 1 := ⟨tw_6 tq_6_10.2.2.2.1 rfl, ci_0, ⟨cn_0.1, cn_0.2, pd_3⟩, Nat.le_of_ble_eq_true rfl⟩
theorem vi_X11_back : fwMvi mX11_back := ⟨tw_6 tq_6_10.2.1 rfl, tw_6 tq_6_10.2.2.1 rfl⟩
abbrev mX11_row : fwM := (yX11_row, cX11_row, 4, some .int)
theorem ok_X11_row : fwMok mX11_row 3 := ⟨tw_6 tq_6_10.2.2.2.2.2.2.2 rfl, ci_0, ⟨cn_0.1, cn_0.2, pd_29⟩, Nat.le_of_ble_eq_true rfl⟩
theorem vi_X11_row : fwMvi mX11_row := ⟨tw_6 tq_6_10.2.2.2.2.2.1 rfl, tw_6 tq_6_10.2.2.2.2.2.2.1 rfl⟩
abbrev mX8_lay : fwM := (yX8_lay, cX8_lay, 5, none)
theorem ok_X8_lay : fwMok mX8_lay 3 := ⟨tw_6 tq_6_11.2.2.2.1 rfl, ci_17, ⟨cn_17.1, cn_17.2, pd_17⟩, Nat.le_of_ble_eq_true rfl⟩
theorem vi_X8_lay : fwMvi mX8_lay := ⟨tw_6 tq_6_11.2.1 rfl, tw_6 tq_6_11.2.2.1 rfl⟩
abbrev mX11_write : fwM := (yX11_write, cX11_write, 5, some .int)
theorem pd_34 : (parseMethodDescriptor "(IIJ)I").map (fun d => d.parameters.length) = some 3 := by decide +kernel
theorem ok_X11_write : fwMok mX11_write 3 := ⟨tw_6 tq_6_11.2.2.2.2.2.2.2 rfl, ci_0, ⟨cn_0.1, cn_0.2, pd_34⟩, Nat.le_of_ble_eq_true rfl⟩
theorem vi_X11_write : fwMvi mX11_write := ⟨tw_6 tq_6_11.2.2.2.2.2.1 rfl, tw_6 tq_6_11.2.2.2.2.2.2.1 rfl⟩
abbrev mX8_put : fwM := (yX8_put, cX8_put, 5, none)
theorem pd_35 : (parseMethodDescriptor "(IIJ)V").map (fun d => d.parameters.length) = some 3 := by decide +kernel
theorem ok_X8_put : fwMok mX8_put 3 := ⟨tw_6 tq_6_12.2.2.2.2.1 rfl, ci_17, ⟨cn_17.1, cn_17.2, pd_35⟩, Nat.le_of_ble_eq_true rfl⟩
theorem vi_X8_put : fwMvi mX8_put := ⟨tw_6 tq_6_12.2.2.1 rfl, tw_6 tq_6_12.2.2.2.1 rfl⟩
abbrev mX8_cut : fwM := (yX8_cut, cX8_cut, 3, some .long)
theorem pd_36 : (parseMethodDescriptor "(JI)J").map (fun d => d.parameters.length) = some 2 := by decide +kernel
theorem ok_X8_cut : fwMok mX8_cut 2 := ⟨tw_6 tq_6_12.2.2.2.2.2.2.2 rfl, ci_17, ⟨cn_17.1, cn_17.2, pd_36⟩, Nat.le_of_ble_eq_true rfl⟩
theorem st_X8_cut : Cond.static (mX8_cut).1 ∈ fwTb := tw_6 tq_6_12.2.2.2.2.2.2.1 rfl
abbrev mX11_paste : fwM := (yX11_paste, cX11_paste, 6, some .int)
theorem ok_X11_paste : fwMok mX11_paste 5 := ⟨tw_6 tq_6_13.2.2.2.1 rfl, ci_0, ⟨cn_0.1, cn_0.2, pd_0⟩, Nat.le_of_ble_eq_true rfl⟩
theorem vi_X11_paste : fwMvi mX11_paste := ⟨tw_6 tq_6_13.2.1 rfl, tw_6 tq_6_13.2.2.1 rfl⟩
abbrev mX8_widthOf : fwM := (yX8_widthOf, cX8_widthOf, 2, some .int)
theorem ok_X8_widthOf : fwMok mX8_widthOf 1 := ⟨tw_6 tq_6_13.2.2.2.2.2.2.2 rfl, ci_17, ⟨cn_17.1, cn_17.2, pd_3⟩, Nat.le_of_ble_eq_true rfl⟩
theorem vi_X8_widthOf : fwMvi mX8_widthOf := ⟨tw_6 tq_6_13.2.2.2.2.2.1 rfl, tw_6 tq_6_13.2.2.2.2.2.2.1 rfl⟩
abbrev mX8_spans : fwM := (yX8_spans, cX8_spans, 4, some .boolean)
theorem pd_37 : (parseMethodDescriptor "(III)Z").map (fun d => d.parameters.length) = some 3 := by decide +kernel
theorem ok_X8_spans : fwMok mX8_spans 3 := ⟨tw_6 tq_6_14.2.2.2.1 rfl, ci_17, ⟨cn_17.1, cn_17.2, pd_37⟩, Nat.le_of_ble_eq_true rfl⟩
theorem vi_X8_spans : fwMvi mX8_spans := ⟨tw_6 tq_6_14.2.1 rfl, tw_6 tq_6_14.2.2.1 rfl⟩
abbrev mX8_move : fwM := (yX8_move, cX8_move, 6, none)
theorem pd_38 : (parseMethodDescriptor "(IIIII)V").map (fun d => d.parameters.length) = some 5 := by decide +kernel
theorem ok_X8_move : fwMok mX8_move 5 := ⟨tw_6 tq_6_14.2.2.2.2.2.2.2 rfl, ci_17, ⟨cn_17.1, cn_17.2, pd_38⟩, Nat.le_of_ble_eq_true rfl⟩
theorem vi_X8_move : fwMvi mX8_move := ⟨tw_6 tq_6_14.2.2.2.2.2.1 rfl, tw_6 tq_6_14.2.2.2.2.2.2.1 rfl⟩
abbrev mX12_init : fwM := (yX12_init, cX12_init, 1, none)
abbrev mX12_image : fwM := (yX12_image, cX12_image, 3, some .int)
theorem ci_18 : Cond.initialized "FootLowerModel" ∈ fwTb := tw_1 tq_1_1.2.2.2.2.2.1 rfl
theorem cn_18 : "FootLowerModel" ≠ "java/lang/invoke/MethodHandle" ∧ "FootLowerModel" ≠ "java/lang/invoke/VarHandle" := ⟨by decide, by decide⟩
theorem ok_X12_image : fwMok mX12_image 1 := ⟨tw_6 tq_6_26.2.2.2.2.1 rfl, ci_18, ⟨cn_18.1, cn_18.2, pd_3⟩, Nat.le_of_ble_eq_true rfl⟩
theorem vi_X12_image : fwMvi mX12_image := ⟨tw_6 tq_6_26.2.2.1 rfl, tw_6 tq_6_26.2.2.2.1 rfl⟩
abbrev mX12_in : fwM := (yX12_in, cX12_in, 6, some .boolean)
theorem pd_39 : (parseMethodDescriptor "(JJJ)Z").map (fun d => d.parameters.length) = some 3 := by decide +kernel
theorem ok_X12_in : fwMok mX12_in 3 := ⟨tw_6 tq_6_27.1 rfl, ci_18, ⟨cn_18.1, cn_18.2, pd_39⟩, Nat.le_of_ble_eq_true rfl⟩
theorem st_X12_in : Cond.static (mX12_in).1 ∈ fwTb := tw_6 tq_6_26.2.2.2.2.2.2.2 rfl
abbrev mX12_back : fwM := (yX12_back, cX12_back, 3, some .int)
theorem ok_X12_back : fwMok mX12_back 1 := ⟨tw_6 tq_6_27.2.2.2.2.1 rfl, ci_18, ⟨cn_18.1, cn_18.2, pd_3⟩, Nat.le_of_ble_eq_true rfl⟩
theorem vi_X12_back : fwMvi mX12_back := ⟨tw_6 tq_6_27.2.2.1 rfl, tw_6 tq_6_27.2.2.2.1 rfl⟩
abbrev mX12_feed : fwM := (yX12_feed, cX12_feed, 7, some .int)
theorem ok_X12_feed : fwMok mX12_feed 5 := ⟨tw_6 tq_6_28.1 rfl, ci_18, ⟨cn_18.1, cn_18.2, pd_0⟩, Nat.le_of_ble_eq_true rfl⟩
theorem vi_X12_feed : fwMvi mX12_feed := ⟨tw_6 tq_6_27.2.2.2.2.2.2.1 rfl, tw_6 tq_6_27.2.2.2.2.2.2.2 rfl⟩
abbrev mX12_end : fwM := (yX12_end, cX12_end, 2, some .int)
theorem ok_X12_end : fwMok mX12_end 1 := ⟨tw_6 tq_6_28.2.2.2.2.1 rfl, ci_18, ⟨cn_18.1, cn_18.2, pd_3⟩, Nat.le_of_ble_eq_true rfl⟩
theorem vi_X12_end : fwMvi mX12_end := ⟨tw_6 tq_6_28.2.2.1 rfl, tw_6 tq_6_28.2.2.2.1 rfl⟩
abbrev mX12_fault : fwM := (yX12_fault, cX12_fault, 2, some .int)
theorem ok_X12_fault : fwMok mX12_fault 1 := ⟨tw_6 tq_6_29.1 rfl, ci_18, ⟨cn_18.1, cn_18.2, pd_3⟩, Nat.le_of_ble_eq_true rfl⟩
theorem vi_X12_fault : fwMvi mX12_fault := ⟨tw_6 tq_6_28.2.2.2.2.2.2.1 rfl, tw_6 tq_6_28.2.2.2.2.2.2.2 rfl⟩
abbrev mX12_mount : fwM := (yX12_mount, cX12_mount, 2, some .int)
theorem ok_X12_mount : fwMok mX12_mount 0 := ⟨tw_6 tq_6_29.2.2.2.2.1 rfl, ci_18, ⟨cn_18.1, cn_18.2, pd_4⟩, Nat.le_of_ble_eq_true rfl⟩
theorem vi_X12_mount : fwMvi mX12_mount := ⟨tw_6 tq_6_29.2.2.1 rfl, tw_6 tq_6_29.2.2.2.1 rfl⟩
abbrev mX12_advance : fwM := (yX12_advance, cX12_advance, 2, none)
theorem ok_X12_advance : fwMok mX12_advance 0 := ⟨tw_7 tq_7_0.1 rfl, ci_18, ⟨cn_18.1, cn_18.2, pd_6⟩, Nat.le_of_ble_eq_true rfl⟩
theorem vi_X12_advance : fwMvi mX12_advance := ⟨tw_6 tq_6_29.2.2.2.2.2.2.2 rfl, fwTb_s (i := 47) rfl rfl⟩
abbrev mX12_see : fwM := (yX12_see, cX12_see, 2, some .int)
theorem ok_X12_see : fwMok mX12_see 1 := ⟨tw_7 tq_7_0.2.2.2.2.1 rfl, ci_18, ⟨cn_18.1, cn_18.2, pd_3⟩, Nat.le_of_ble_eq_true rfl⟩
theorem vi_X12_see : fwMvi mX12_see := ⟨tw_7 tq_7_0.2.2.2.1 rfl, fwTb_s (i := 48) rfl rfl⟩
abbrev mX12_good : fwM := (yX12_good, cX12_good, 1, some .boolean)
theorem ok_X12_good : fwMok mX12_good 0 := ⟨tw_7 tq_7_1.2.2.2.2.2.2.1 rfl, ci_18, ⟨cn_18.1, cn_18.2, pd_5⟩, Nat.le_of_ble_eq_true rfl⟩
theorem vi_X12_good : fwMvi mX12_good := ⟨tw_7 tq_7_1.2.2.2.2.2.1 rfl, fwTb_s (i := 49) rfl rfl⟩
abbrev mX12_readFirst : fwM := (yX12_readFirst, cX12_readFirst, 2, none)
theorem ok_X12_readFirst : fwMok mX12_readFirst 0 := ⟨tw_7 tq_7_2.2.2.1 rfl, ci_18, ⟨cn_18.1, cn_18.2, pd_6⟩, Nat.le_of_ble_eq_true rfl⟩
theorem vi_X12_readFirst : fwMvi mX12_readFirst := ⟨tw_7 tq_7_2.2.1 rfl, fwTb_s (i := 50) rfl rfl⟩
abbrev mX12_needs : fwM := (yX12_needs, cX12_needs, 2, none)
theorem pd_40 : (parseMethodDescriptor "(Ljava/lang/String;)V").map (fun d => d.parameters.length) = some 1 := by decide +kernel
theorem ok_X12_needs : fwMok mX12_needs 1 := ⟨tw_7 tq_7_2.2.2.2.2.2.2.2 rfl, ci_18, ⟨cn_18.1, cn_18.2, pd_40⟩, Nat.le_of_ble_eq_true rfl⟩
theorem vi_X12_needs : fwMvi mX12_needs := ⟨tw_7 tq_7_2.2.2.2.2.2.2.1 rfl, fwTb_s (i := 51) rfl rfl⟩
abbrev mX12_takes : fwM := (yX12_takes, cX12_takes, 3, some .boolean)
theorem pd_41 : (parseMethodDescriptor "(Ljava/lang/String;)Z").map (fun d => d.parameters.length) = some 1 := by decide +kernel
theorem ok_X12_takes : fwMok mX12_takes 1 := ⟨tw_7 tq_7_3.2.2.2.1 rfl, ci_18, ⟨cn_18.1, cn_18.2, pd_41⟩, Nat.le_of_ble_eq_true rfl⟩
theorem vi_X12_takes : fwMvi mX12_takes := ⟨tw_7 tq_7_3.2.2.1 rfl, fwTb_s (i := 52) rfl rfl⟩
abbrev mX12_is : fwM := (yX12_is, cX12_is, 4, some .boolean)
theorem ok_X12_is : fwMok mX12_is 1 := ⟨tw_7 tq_7_3.2.2.2.2.2.2.2 rfl, ci_18, ⟨cn_18.1, cn_18.2, pd_41⟩, Nat.le_of_ble_eq_true rfl⟩
theorem vi_X12_is : fwMvi mX12_is := ⟨tw_7 tq_7_3.2.2.2.2.2.2.1 rfl, fwTb_s (i := 53) rfl rfl⟩
abbrev mX12_errs : fwM := (yX12_errs, cX12_errs, 2, none)
theorem ok_X12_errs : fwMok mX12_errs 1 := ⟨tw_7 tq_7_4.2.2.2.2.2.1 rfl, ci_18, ⟨cn_18.1, cn_18.2, pd_2⟩, Nat.le_of_ble_eq_true rfl⟩
theorem vi_X12_errs : fwMvi mX12_errs := ⟨tw_7 tq_7_4.2.2.2.2.1 rfl, fwTb_s (i := 54) rfl rfl⟩
abbrev mX12_number : fwM := (yX12_number, cX12_number, 4, some .int)
theorem ok_X12_number : fwMok mX12_number 2 := ⟨tw_7 tq_7_5.2.2.1 rfl, ci_18, ⟨cn_18.1, cn_18.2, pd_7⟩, Nat.le_of_ble_eq_true rfl⟩
theorem vi_X12_number : fwMvi mX12_number := ⟨tw_7 tq_7_5.2.1 rfl, fwTb_s (i := 55) rfl rfl⟩
abbrev mX12_told : fwM := (yX12_told, cX12_told, 4, some .int)
theorem pd_42 : (parseMethodDescriptor "(Ljava/lang/String;II)I").map (fun d => d.parameters.length) = some 3 := by decide +kernel
theorem ok_X12_told : fwMok mX12_told 3 := ⟨tw_7 tq_7_5.2.2.2.2.2.2.2 rfl, ci_18, ⟨cn_18.1, cn_18.2, pd_42⟩, Nat.le_of_ble_eq_true rfl⟩
theorem vi_X12_told : fwMvi mX12_told := ⟨tw_7 tq_7_5.2.2.2.2.2.2.1 rfl, fwTb_s (i := 56) rfl rfl⟩
abbrev mX12_readNext : fwM := (yX12_readNext, cX12_readNext, 2, none)
theorem ok_X12_readNext : fwMok mX12_readNext 0 := ⟨tw_7 tq_7_6.2.2.2.2.2.2.2 rfl, ci_18, ⟨cn_18.1, cn_18.2, pd_6⟩, Nat.le_of_ble_eq_true rfl⟩
theorem vi_X12_readNext : fwMvi mX12_readNext := ⟨tw_7 tq_7_6.2.2.2.2.2.2.1 rfl, fwTb_s (i := 57) rfl rfl⟩
abbrev mX12_readFolk : fwM := (yX12_readFolk, cX12_readFolk, 4, none)
theorem ok_X12_readFolk : fwMok mX12_readFolk 0 := ⟨tw_7 tq_7_7.2.2.2.2.2.1 rfl, ci_18, ⟨cn_18.1, cn_18.2, pd_6⟩, Nat.le_of_ble_eq_true rfl⟩
theorem vi_X12_readFolk : fwMvi mX12_readFolk := ⟨tw_7 tq_7_7.2.2.2.2.1 rfl, fwTb_s (i := 58) rfl rfl⟩
abbrev mX12_folk : fwM := (yX12_folk, cX12_folk, 3, some .int)
theorem ok_X12_folk : fwMok mX12_folk 2 := ⟨tw_7 tq_7_8.2.2.2.2.2.2.1 rfl, ci_18, ⟨cn_18.1, cn_18.2, pd_7⟩, Nat.le_of_ble_eq_true rfl⟩
theorem vi_X12_folk : fwMvi mX12_folk := ⟨tw_7 tq_7_8.2.2.2.2.1 rfl, tw_7 tq_7_8.2.2.2.2.2.1 rfl⟩
abbrev mX12_isFolk : fwM := (yX12_isFolk, cX12_isFolk, 3, some .boolean)
theorem pd_43 : (parseMethodDescriptor "(J)Z").map (fun d => d.parameters.length) = some 1 := by decide +kernel
theorem ok_X12_isFolk : fwMok mX12_isFolk 1 := ⟨tw_7 tq_7_9.2.2.1 rfl, ci_18, ⟨cn_18.1, cn_18.2, pd_43⟩, Nat.le_of_ble_eq_true rfl⟩
theorem vi_X12_isFolk : fwMvi mX12_isFolk := ⟨tw_7 tq_7_9.2.1 rfl, fwTb_s (i := 59) rfl rfl⟩
abbrev mX12_of : fwM := (yX12_of, cX12_of, 3, some .int)
theorem ok_X12_of : fwMok mX12_of 2 := ⟨tw_7 tq_7_9.2.2.2.2.2.2.2 rfl, ci_18, ⟨cn_18.1, cn_18.2, pd_7⟩, Nat.le_of_ble_eq_true rfl⟩
theorem vi_X12_of : fwMvi mX12_of := ⟨tw_7 tq_7_9.2.2.2.2.2.2.1 rfl, fwTb_s (i := 60) rfl rfl⟩
abbrev mX12_height : fwM := (yX12_height, cX12_height, 2, some .int)
theorem ok_X12_height : fwMok mX12_height 1 := ⟨tw_7 tq_7_10.2.2.2.1 rfl, ci_18, ⟨cn_18.1, cn_18.2, pd_3⟩, Nat.le_of_ble_eq_true rfl⟩
theorem vi_X12_height : fwMvi mX12_height := ⟨tw_7 tq_7_10.2.1 rfl, tw_7 tq_7_10.2.2.1 rfl⟩
abbrev mX12_isCell : fwM := (yX12_isCell, cX12_isCell, 3, some .boolean)
theorem ok_X12_isCell : fwMok mX12_isCell 1 := ⟨tw_7 tq_7_10.2.2.2.2.2.2.2 rfl, ci_18, ⟨cn_18.1, cn_18.2, pd_43⟩, Nat.le_of_ble_eq_true rfl⟩
theorem vi_X12_isCell : fwMvi mX12_isCell := ⟨tw_7 tq_7_10.2.2.2.2.2.2.1 rfl, fwTb_s (i := 61) rfl rfl⟩
abbrev mX12_asItIs : fwM := (yX12_asItIs, cX12_asItIs, 2, none)
theorem ok_X12_asItIs : fwMok mX12_asItIs 0 := ⟨tw_7 tq_7_11.2.2.2.1 rfl, ci_18, ⟨cn_18.1, cn_18.2, pd_6⟩, Nat.le_of_ble_eq_true rfl⟩
theorem vi_X12_asItIs : fwMvi mX12_asItIs := ⟨tw_7 tq_7_11.2.2.1 rfl, fwTb_s (i := 62) rfl rfl⟩
abbrev mX12_take0 : fwM := (yX12_take0, cX12_take0, 2, some .boolean)
theorem ok_X12_take0 : fwMok mX12_take0 0 := ⟨tw_7 tq_7_11.2.2.2.2.2.2.2 rfl, ci_18, ⟨cn_18.1, cn_18.2, pd_5⟩, Nat.le_of_ble_eq_true rfl⟩
theorem vi_X12_take0 : fwMvi mX12_take0 := ⟨tw_7 tq_7_11.2.2.2.2.2.2.1 rfl, fwTb_s (i := 63) rfl rfl⟩
abbrev mX12_topCell : fwM := (yX12_topCell, cX12_topCell, 3, some .int)
theorem ok_X12_topCell : fwMok mX12_topCell 0 := ⟨tw_7 tq_7_12.2.2.2.1 rfl, ci_18, ⟨cn_18.1, cn_18.2, pd_4⟩, Nat.le_of_ble_eq_true rfl⟩
theorem vi_X12_topCell : fwMvi mX12_topCell := ⟨tw_7 tq_7_12.2.2.1 rfl, fwTb_s (i := 64) rfl rfl⟩
abbrev mX12_heap0 : fwM := (yX12_heap0, cX12_heap0, 3, some .int)
theorem ok_X12_heap0 : fwMok mX12_heap0 1 := ⟨tw_7 tq_7_12.2.2.2.2.2.2.2 rfl, ci_18, ⟨cn_18.1, cn_18.2, pd_3⟩, Nat.le_of_ble_eq_true rfl⟩
theorem vi_X12_heap0 : fwMvi mX12_heap0 := ⟨tw_7 tq_7_12.2.2.2.2.2.2.1 rfl, fwTb_s (i := 65) rfl rfl⟩
abbrev mX12_slideOf : fwM := (yX12_slideOf, cX12_slideOf, 4, some .int)
theorem ok_X12_slideOf : fwMok mX12_slideOf 1 := ⟨tw_7 tq_7_13.2.2.2.1 rfl, ci_18, ⟨cn_18.1, cn_18.2, pd_3⟩, Nat.le_of_ble_eq_true rfl⟩
theorem vi_X12_slideOf : fwMvi mX12_slideOf := ⟨tw_7 tq_7_13.2.2.1 rfl, fwTb_s (i := 66) rfl rfl⟩
abbrev mX12_falls : fwM := (yX12_falls, cX12_falls, 3, some .boolean)
theorem ok_X12_falls : fwMok mX12_falls 2 := ⟨tw_7 tq_7_13.2.2.2.2.2.2.2 rfl, ci_18, ⟨cn_18.1, cn_18.2, pd_19⟩, Nat.le_of_ble_eq_true rfl⟩
theorem vi_X12_falls : fwMvi mX12_falls := ⟨tw_7 tq_7_13.2.2.2.2.2.2.1 rfl, fwTb_s (i := 67) rfl rfl⟩
abbrev mX12_shade : fwM := (yX12_shade, cX12_shade, 3, some .int)
theorem ok_X12_shade : fwMok mX12_shade 2 := ⟨tw_7 tq_7_14.2.2.2.1 rfl, ci_18, ⟨cn_18.1, cn_18.2, pd_7⟩, Nat.le_of_ble_eq_true rfl⟩
theorem vi_X12_shade : fwMvi mX12_shade := ⟨tw_7 tq_7_14.2.1 rfl, tw_7 tq_7_14.2.2.1 rfl⟩
abbrev mX12_isHour : fwM := (yX12_isHour, cX12_isHour, 2, some .boolean)
theorem ok_X12_isHour : fwMok mX12_isHour 1 := ⟨tw_7 tq_7_14.2.2.2.2.2.2.1 rfl, ci_18, ⟨cn_18.1, cn_18.2, pd_43⟩, Nat.le_of_ble_eq_true rfl⟩
theorem st_X12_isHour : Cond.static (mX12_isHour).1 ∈ fwTb := tw_7 tq_7_14.2.2.2.2.2.1 rfl
abbrev mX12_isDark : fwM := (yX12_isDark, cX12_isDark, 7, some .boolean)
theorem ok_X12_isDark : fwMok mX12_isDark 2 := ⟨tw_7 tq_7_15.2.2.2.2.1 rfl, ci_18, ⟨cn_18.1, cn_18.2, pd_19⟩, Nat.le_of_ble_eq_true rfl⟩
theorem vi_X12_isDark : fwMvi mX12_isDark := ⟨tw_7 tq_7_15.2.2.2.1 rfl, fwTb_s (i := 68) rfl rfl⟩
abbrev mJ9_abs_0f7a4 : fwM := (yJ9_abs_0f7a4, cJ9_abs_0f7a4, 1, some .int)
theorem ok_J9_abs_0f7a4 : fwMok mJ9_abs_0f7a4 1 := ⟨tw_7 tq_7_15.2.2.2.2.2.2.2 rfl, ci_14, ⟨cn_14.1, cn_14.2, pd_3⟩, Nat.le_of_ble_eq_true rfl⟩
theorem st_J9_abs_0f7a4 : Cond.static (mJ9_abs_0f7a4).1 ∈ fwTb := tw_7 tq_7_15.2.2.2.2.2.2.1 rfl
abbrev mX12_light : fwM := (yX12_light, cX12_light, 2, some .int)
theorem ok_X12_light : fwMok mX12_light 1 := ⟨tw_7 tq_7_16.2.2.2.1 rfl, ci_18, ⟨cn_18.1, cn_18.2, pd_3⟩, Nat.le_of_ble_eq_true rfl⟩
theorem vi_X12_light : fwMvi mX12_light := ⟨tw_7 tq_7_16.2.1 rfl, tw_7 tq_7_16.2.2.1 rfl⟩
abbrev mX12_lightOf : fwM := (yX12_lightOf, cX12_lightOf, 4, some .int)
theorem ok_X12_lightOf : fwMok mX12_lightOf 1 := ⟨tw_7 tq_7_16.2.2.2.2.2.2.2 rfl, ci_18, ⟨cn_18.1, cn_18.2, pd_3⟩, Nat.le_of_ble_eq_true rfl⟩
theorem vi_X12_lightOf : fwMvi mX12_lightOf := ⟨tw_7 tq_7_16.2.2.2.2.2.2.1 rfl, fwTb_s (i := 69) rfl rfl⟩
abbrev mX12_dark : fwM := (yX12_dark, cX12_dark, 4, some .int)
theorem ok_X12_dark : fwMok mX12_dark 1 := ⟨tw_7 tq_7_17.2.2.2.1 rfl, ci_18, ⟨cn_18.1, cn_18.2, pd_3⟩, Nat.le_of_ble_eq_true rfl⟩
theorem vi_X12_dark : fwMvi mX12_dark := ⟨tw_7 tq_7_17.2.1 rfl, tw_7 tq_7_17.2.2.1 rfl⟩
abbrev mX12_isMount : fwM := (yX12_isMount, cX12_isMount, 1, some .boolean)
theorem ok_X12_isMount : fwMok mX12_isMount 0 := ⟨tw_7 tq_7_17.2.2.2.2.2.2.2 rfl, ci_18, ⟨cn_18.1, cn_18.2, pd_5⟩, Nat.le_of_ble_eq_true rfl⟩
theorem vi_X12_isMount : fwMvi mX12_isMount := ⟨tw_7 tq_7_17.2.2.2.2.2.2.1 rfl, fwTb_s (i := 70) rfl rfl⟩
abbrev mX12_snow : fwM := (yX12_snow, cX12_snow, 1, some .int)
theorem ok_X12_snow : fwMok mX12_snow 0 := ⟨tw_7 tq_7_18.2.2.2.1 rfl, ci_18, ⟨cn_18.1, cn_18.2, pd_4⟩, Nat.le_of_ble_eq_true rfl⟩
theorem vi_X12_snow : fwMvi mX12_snow := ⟨tw_7 tq_7_18.2.1 rfl, tw_7 tq_7_18.2.2.1 rfl⟩
abbrev mX12_snowSet : fwM := (yX12_snowSet, cX12_snowSet, 3, some .int)
theorem ok_X12_snowSet : fwMok mX12_snowSet 0 := ⟨tw_7 tq_7_18.2.2.2.2.2.2.2 rfl, ci_18, ⟨cn_18.1, cn_18.2, pd_4⟩, Nat.le_of_ble_eq_true rfl⟩
theorem vi_X12_snowSet : fwMvi mX12_snowSet := ⟨tw_7 tq_7_18.2.2.2.2.2.2.1 rfl, fwTb_s (i := 71) rfl rfl⟩
abbrev mX12_top : fwM := (yX12_top, cX12_top, 1, some .int)
theorem ok_X12_top : fwMok mX12_top 0 := ⟨tw_7 tq_7_19.2.2.2.1 rfl, ci_18, ⟨cn_18.1, cn_18.2, pd_4⟩, Nat.le_of_ble_eq_true rfl⟩
theorem vi_X12_top : fwMvi mX12_top := ⟨tw_7 tq_7_19.2.1 rfl, tw_7 tq_7_19.2.2.1 rfl⟩
abbrev mX12_gain : fwM := (yX12_gain, cX12_gain, 2, some .int)
theorem ok_X12_gain : fwMok mX12_gain 1 := ⟨tw_7 tq_7_19.2.2.2.2.2.2.2 rfl, ci_18, ⟨cn_18.1, cn_18.2, pd_3⟩, Nat.le_of_ble_eq_true rfl⟩
theorem vi_X12_gain : fwMvi mX12_gain := ⟨tw_7 tq_7_19.2.2.2.2.2.1 rfl, tw_7 tq_7_19.2.2.2.2.2.2.1 rfl⟩
abbrev mX12_gainOf : fwM := (yX12_gainOf, cX12_gainOf, 2, some .int)
theorem ok_X12_gainOf : fwMok mX12_gainOf 1 := ⟨tw_7 tq_7_20.2.2.2.1 rfl, ci_18, ⟨cn_18.1, cn_18.2, pd_3⟩, Nat.le_of_ble_eq_true rfl⟩
theorem vi_X12_gainOf : fwMvi mX12_gainOf := ⟨tw_7 tq_7_20.2.2.1 rfl, fwTb_s (i := 72) rfl rfl⟩
abbrev mX12_bits : fwM := (yX12_bits, cX12_bits, 3, some .int)
theorem ok_X12_bits : fwMok mX12_bits 1 := ⟨tw_7 tq_7_20.2.2.2.2.2.2.1 rfl, ci_18, ⟨cn_18.1, cn_18.2, pd_3⟩, Nat.le_of_ble_eq_true rfl⟩
theorem st_X12_bits : Cond.static (mX12_bits).1 ∈ fwTb := tw_7 tq_7_20.2.2.2.2.2.1 rfl
abbrev mX12_hopes : fwM := (yX12_hopes, cX12_hopes, 3, some .int)
theorem ok_X12_hopes : fwMok mX12_hopes 2 := ⟨tw_7 tq_7_21.2.2.1 rfl, ci_18, ⟨cn_18.1, cn_18.2, pd_7⟩, Nat.le_of_ble_eq_true rfl⟩
theorem vi_X12_hopes : fwMvi mX12_hopes := ⟨tw_7 tq_7_21.1 rfl, tw_7 tq_7_21.2.1 rfl⟩
abbrev mX12_hopesOf : fwM := (yX12_hopesOf, cX12_hopesOf, 5, some .int)
theorem ok_X12_hopesOf : fwMok mX12_hopesOf 2 := ⟨tw_7 tq_7_21.2.2.2.2.2.2.2 rfl, ci_18, ⟨cn_18.1, cn_18.2, pd_7⟩, Nat.le_of_ble_eq_true rfl⟩
theorem vi_X12_hopesOf : fwMvi mX12_hopesOf := ⟨tw_7 tq_7_21.2.2.2.2.2.2.1 rfl, fwTb_s (i := 73) rfl rfl⟩
abbrev mX12_wishes : fwM := (yX12_wishes, cX12_wishes, 4, some .int)
theorem ok_X12_wishes : fwMok mX12_wishes 1 := ⟨tw_7 tq_7_22.2.2.2.1 rfl, ci_18, ⟨cn_18.1, cn_18.2, pd_3⟩, Nat.le_of_ble_eq_true rfl⟩
theorem vi_X12_wishes : fwMvi mX12_wishes := ⟨tw_7 tq_7_22.2.1 rfl, tw_7 tq_7_22.2.2.1 rfl⟩
abbrev mX12_gains : fwM := (yX12_gains, cX12_gains, 1, some .int)
theorem ok_X12_gains : fwMok mX12_gains 0 := ⟨tw_7 tq_7_22.2.2.2.2.2.2.2 rfl, ci_18, ⟨cn_18.1, cn_18.2, pd_4⟩, Nat.le_of_ble_eq_true rfl⟩
theorem vi_X12_gains : fwMvi mX12_gains := ⟨tw_7 tq_7_22.2.2.2.2.2.1 rfl, tw_7 tq_7_22.2.2.2.2.2.2.1 rfl⟩
abbrev mX12_gainOfAll : fwM := (yX12_gainOfAll, cX12_gainOfAll, 3, some .int)
theorem ok_X12_gainOfAll : fwMok mX12_gainOfAll 0 := ⟨tw_7 tq_7_23.2.2.2.1 rfl, ci_18, ⟨cn_18.1, cn_18.2, pd_4⟩, Nat.le_of_ble_eq_true rfl⟩
theorem vi_X12_gainOfAll : fwMvi mX12_gainOfAll := ⟨tw_7 tq_7_23.2.2.1 rfl, fwTb_s (i := 74) rfl rfl⟩
abbrev mX12_take : fwM := (yX12_take, cX12_take, 2, some .int)
theorem ok_X12_take : fwMok mX12_take 0 := ⟨tw_7 tq_7_23.2.2.2.2.2.2.2 rfl, ci_18, ⟨cn_18.1, cn_18.2, pd_4⟩, Nat.le_of_ble_eq_true rfl⟩
theorem vi_X12_take : fwMvi mX12_take := ⟨tw_7 tq_7_23.2.2.2.2.2.1 rfl, tw_7 tq_7_23.2.2.2.2.2.2.1 rfl⟩
abbrev mX12_keepAct : fwM := (yX12_keepAct, cX12_keepAct, 2, none)
theorem ok_X12_keepAct : fwMok mX12_keepAct 1 := ⟨tw_7 tq_7_24.2.2.2.1 rfl, ci_18, ⟨cn_18.1, cn_18.2, pd_2⟩, Nat.le_of_ble_eq_true rfl⟩
theorem vi_X12_keepAct : fwMvi mX12_keepAct := ⟨tw_7 tq_7_24.2.2.1 rfl, fwTb_s (i := 75) rfl rfl⟩
abbrev mX12_heap : fwM := (yX12_heap, cX12_heap, 3, some .int)
theorem ok_X12_heap : fwMok mX12_heap 1 := ⟨tw_7 tq_7_24.2.2.2.2.2.2.2 rfl, ci_18, ⟨cn_18.1, cn_18.2, pd_3⟩, Nat.le_of_ble_eq_true rfl⟩
theorem vi_X12_heap : fwMvi mX12_heap := ⟨tw_7 tq_7_24.2.2.2.2.2.1 rfl, tw_7 tq_7_24.2.2.2.2.2.2.1 rfl⟩
abbrev mX12_slides : fwM := (yX12_slides, cX12_slides, 2, some .int)
theorem ok_X12_slides : fwMok mX12_slides 1 := ⟨tw_7 tq_7_25.2.2.2.1 rfl, ci_18, ⟨cn_18.1, cn_18.2, pd_3⟩, Nat.le_of_ble_eq_true rfl⟩
theorem vi_X12_slides : fwMvi mX12_slides := ⟨tw_7 tq_7_25.2.1 rfl, tw_7 tq_7_25.2.2.1 rfl⟩
abbrev mX12_undo : fwM := (yX12_undo, cX12_undo, 1, some .int)
theorem ok_X12_undo : fwMok mX12_undo 0 := ⟨tw_7 tq_7_25.2.2.2.2.2.2.2 rfl, ci_18, ⟨cn_18.1, cn_18.2, pd_4⟩, Nat.le_of_ble_eq_true rfl⟩
theorem vi_X12_undo : fwMvi mX12_undo := ⟨tw_7 tq_7_25.2.2.2.2.2.1 rfl, tw_7 tq_7_25.2.2.2.2.2.2.1 rfl⟩
abbrev mX12_anew : fwM := (yX12_anew, cX12_anew, 2, some .int)
theorem ok_X12_anew : fwMok mX12_anew 0 := ⟨tw_7 tq_7_26.2.2.2.1 rfl, ci_18, ⟨cn_18.1, cn_18.2, pd_4⟩, Nat.le_of_ble_eq_true rfl⟩
theorem vi_X12_anew : fwMvi mX12_anew := ⟨tw_7 tq_7_26.2.1 rfl, tw_7 tq_7_26.2.2.1 rfl⟩
abbrev mX12_willing : fwM := (yX12_willing, cX12_willing, 1, some .int)
theorem ok_X12_willing : fwMok mX12_willing 0 := ⟨tw_7 tq_7_26.2.2.2.2.2.2.2 rfl, ci_18, ⟨cn_18.1, cn_18.2, pd_4⟩, Nat.le_of_ble_eq_true rfl⟩
theorem vi_X12_willing : fwMvi mX12_willing := ⟨tw_7 tq_7_26.2.2.2.2.2.1 rfl, tw_7 tq_7_26.2.2.2.2.2.2.1 rfl⟩
abbrev mX12_willingSet : fwM := (yX12_willingSet, cX12_willingSet, 5, some .int)
theorem ok_X12_willingSet : fwMok mX12_willingSet 0 := ⟨tw_7 tq_7_27.2.2.2.1 rfl, ci_18, ⟨cn_18.1, cn_18.2, pd_4⟩, Nat.le_of_ble_eq_true rfl⟩
theorem vi_X12_willingSet : fwMvi mX12_willingSet := ⟨tw_7 tq_7_27.2.2.1 rfl, fwTb_s (i := 76) rfl rfl⟩
abbrev mX12_signers : fwM := (yX12_signers, cX12_signers, 2, some .int)
theorem ok_X12_signers : fwMok mX12_signers 1 := ⟨tw_7 tq_7_27.2.2.2.2.2.2.2 rfl, ci_18, ⟨cn_18.1, cn_18.2, pd_3⟩, Nat.le_of_ble_eq_true rfl⟩
theorem vi_X12_signers : fwMvi mX12_signers := ⟨tw_7 tq_7_27.2.2.2.2.2.1 rfl, tw_7 tq_7_27.2.2.2.2.2.2.1 rfl⟩
abbrev mX12_isSet : fwM := (yX12_isSet, cX12_isSet, 2, some .boolean)
theorem ok_X12_isSet : fwMok mX12_isSet 1 := ⟨tw_7 tq_7_28.2.2.2.1 rfl, ci_18, ⟨cn_18.1, cn_18.2, pd_1⟩, Nat.le_of_ble_eq_true rfl⟩
theorem vi_X12_isSet : fwMvi mX12_isSet := ⟨tw_7 tq_7_28.2.2.1 rfl, fwTb_s (i := 77) rfl rfl⟩
abbrev mX12_all : fwM := (yX12_all, cX12_all, 1, some .int)
theorem ok_X12_all : fwMok mX12_all 0 := ⟨tw_7 tq_7_28.2.2.2.2.2.2.2 rfl, ci_18, ⟨cn_18.1, cn_18.2, pd_4⟩, Nat.le_of_ble_eq_true rfl⟩
theorem vi_X12_all : fwMvi mX12_all := ⟨tw_7 tq_7_28.2.2.2.2.2.2.1 rfl, fwTb_s (i := 78) rfl rfl⟩
abbrev mX12_signing : fwM := (yX12_signing, cX12_signing, 6, some .int)
theorem ok_X12_signing : fwMok mX12_signing 2 := ⟨tw_7 tq_7_29.2.2.2.1 rfl, ci_18, ⟨cn_18.1, cn_18.2, pd_7⟩, Nat.le_of_ble_eq_true rfl⟩
theorem vi_X12_signing : fwMvi mX12_signing := ⟨tw_7 tq_7_29.2.2.1 rfl, fwTb_s (i := 79) rfl rfl⟩
abbrev mX12_bit : fwM := (yX12_bit, cX12_bit, 2, some .int)
theorem ok_X12_bit : fwMok mX12_bit 2 := ⟨tw_7 tq_7_29.2.2.2.2.2.2.1 rfl, ci_18, ⟨cn_18.1, cn_18.2, pd_7⟩, Nat.le_of_ble_eq_true rfl⟩
theorem st_X12_bit : Cond.static (mX12_bit).1 ∈ fwTb := tw_7 tq_7_29.2.2.2.2.2.1 rfl
abbrev mX12_names : fwM := (yX12_names, cX12_names, 2, some .int)
theorem ok_X12_names : fwMok mX12_names 1 := ⟨tw_8 tq_8_0.2.2.1 rfl, ci_18, ⟨cn_18.1, cn_18.2, pd_3⟩, Nat.le_of_ble_eq_true rfl⟩
theorem vi_X12_names : fwMvi mX12_names := ⟨tw_8 tq_8_0.1 rfl, tw_8 tq_8_0.2.1 rfl⟩
abbrev mX12_namesOf : fwM := (yX12_namesOf, cX12_namesOf, 4, some .int)
theorem ok_X12_namesOf : fwMok mX12_namesOf 1 := ⟨tw_8 tq_8_0.2.2.2.2.2.2.1 rfl, ci_18, ⟨cn_18.1, cn_18.2, pd_3⟩, Nat.le_of_ble_eq_true rfl⟩
theorem vi_X12_namesOf : fwMvi mX12_namesOf := ⟨tw_8 tq_8_0.2.2.2.2.2.1 rfl, fwTb_s (i := 80) rfl rfl⟩
abbrev mX12_first : fwM := (yX12_first, cX12_first, 2, some .int)
theorem ok_X12_first : fwMok mX12_first 0 := ⟨tw_8 tq_8_1.2.2.1 rfl, ci_18, ⟨cn_18.1, cn_18.2, pd_4⟩, Nat.le_of_ble_eq_true rfl⟩
theorem vi_X12_first : fwMvi mX12_first := ⟨tw_8 tq_8_1.1 rfl, tw_8 tq_8_1.2.1 rfl⟩
abbrev mX12_firstSet : fwM := (yX12_firstSet, cX12_firstSet, 4, some .int)
theorem ok_X12_firstSet : fwMok mX12_firstSet 0 := ⟨tw_8 tq_8_1.2.2.2.2.2.2.1 rfl, ci_18, ⟨cn_18.1, cn_18.2, pd_4⟩, Nat.le_of_ble_eq_true rfl⟩
theorem vi_X12_firstSet : fwMvi mX12_firstSet := ⟨tw_8 tq_8_1.2.2.2.2.2.1 rfl, fwTb_s (i := 81) rfl rfl⟩
abbrev mX12_isEnough : fwM := (yX12_isEnough, cX12_isEnough, 2, some .boolean)
theorem ok_X12_isEnough : fwMok mX12_isEnough 1 := ⟨tw_8 tq_8_2.2.2.1 rfl, ci_18, ⟨cn_18.1, cn_18.2, pd_1⟩, Nat.le_of_ble_eq_true rfl⟩
theorem vi_X12_isEnough : fwMvi mX12_isEnough := ⟨tw_8 tq_8_2.2.1 rfl, fwTb_s (i := 82) rfl rfl⟩
abbrev mX12_firsts : fwM := (yX12_firsts, cX12_firsts, 1, some .int)
theorem ok_X12_firsts : fwMok mX12_firsts 0 := ⟨tw_8 tq_8_2.2.2.2.2.2.2.1 rfl, ci_18, ⟨cn_18.1, cn_18.2, pd_4⟩, Nat.le_of_ble_eq_true rfl⟩
theorem vi_X12_firsts : fwMvi mX12_firsts := ⟨tw_8 tq_8_2.2.2.2.2.1 rfl, tw_8 tq_8_2.2.2.2.2.2.1 rfl⟩
abbrev mX12_next : fwM := (yX12_next, cX12_next, 7, some .int)
theorem ok_X12_next : fwMok mX12_next 1 := ⟨tw_8 tq_8_3.2.2.1 rfl, ci_18, ⟨cn_18.1, cn_18.2, pd_3⟩, Nat.le_of_ble_eq_true rfl⟩
theorem vi_X12_next : fwMvi mX12_next := ⟨tw_8 tq_8_3.1 rfl, tw_8 tq_8_3.2.1 rfl⟩
abbrev mX12_needed : fwM := (yX12_needed, cX12_needed, 4, some .int)
theorem ok_X12_needed : fwMok mX12_needed 0 := ⟨tw_8 tq_8_3.2.2.2.2.2.2.1 rfl, ci_18, ⟨cn_18.1, cn_18.2, pd_4⟩, Nat.le_of_ble_eq_true rfl⟩
theorem vi_X12_needed : fwMvi mX12_needed := ⟨tw_8 tq_8_3.2.2.2.2.1 rfl, tw_8 tq_8_3.2.2.2.2.2.1 rfl⟩
abbrev mX12_play : fwM := (yX12_play, cX12_play, 3, some .int)
theorem ok_X12_play : fwMok mX12_play 2 := ⟨tw_8 tq_8_4.2.2.1 rfl, ci_18, ⟨cn_18.1, cn_18.2, pd_7⟩, Nat.le_of_ble_eq_true rfl⟩
theorem vi_X12_play : fwMvi mX12_play := ⟨tw_8 tq_8_4.1 rfl, tw_8 tq_8_4.2.1 rfl⟩
abbrev mX12_playBy : fwM := (yX12_playBy, cX12_playBy, 6, some .boolean)
theorem ok_X12_playBy : fwMok mX12_playBy 2 := ⟨tw_8 tq_8_4.2.2.2.2.2.2.2 rfl, ci_18, ⟨cn_18.1, cn_18.2, pd_19⟩, Nat.le_of_ble_eq_true rfl⟩
theorem vi_X12_playBy : fwMvi mX12_playBy := ⟨tw_8 tq_8_4.2.2.2.2.2.2.1 rfl, fwTb_s (i := 83) rfl rfl⟩
abbrev mX12_pair : fwM := (yX12_pair, cX12_pair, 2, some .int)
theorem ok_X12_pair : fwMok mX12_pair 2 := ⟨tw_8 tq_8_5.2.2.1 rfl, ci_18, ⟨cn_18.1, cn_18.2, pd_7⟩, Nat.le_of_ble_eq_true rfl⟩
theorem st_X12_pair : Cond.static (mX12_pair).1 ∈ fwTb := tw_8 tq_8_5.2.1 rfl
abbrev mX12_endBy : fwM := (yX12_endBy, cX12_endBy, 10, some .boolean)
theorem ok_X12_endBy : fwMok mX12_endBy 5 := ⟨tw_8 tq_8_5.2.2.2.2.2.2.1 rfl, ci_18, ⟨cn_18.1, cn_18.2, pd_20⟩, Nat.le_of_ble_eq_true rfl⟩
theorem vi_X12_endBy : fwMvi mX12_endBy := ⟨tw_8 tq_8_5.2.2.2.2.2.1 rfl, fwTb_s (i := 84) rfl rfl⟩
abbrev mX12_isWinners : fwM := (yX12_isWinners, cX12_isWinners, 2, some .boolean)
theorem ok_X12_isWinners : fwMok mX12_isWinners 2 := ⟨tw_8 tq_8_6.2.1 rfl, ci_18, ⟨cn_18.1, cn_18.2, pd_19⟩, Nat.le_of_ble_eq_true rfl⟩
theorem st_X12_isWinners : Cond.static (mX12_isWinners).1 ∈ fwTb := tw_8 tq_8_6.1 rfl
abbrev mX12_moves : fwM := (yX12_moves, cX12_moves, 5, some .int)
theorem ok_X12_moves : fwMok mX12_moves 2 := ⟨tw_8 tq_8_6.2.2.2.2.2.1 rfl, ci_18, ⟨cn_18.1, cn_18.2, pd_7⟩, Nat.le_of_ble_eq_true rfl⟩
theorem vi_X12_moves : fwMvi mX12_moves := ⟨tw_8 tq_8_6.2.2.2.1 rfl, tw_8 tq_8_6.2.2.2.2.1 rfl⟩
abbrev mX12_round : fwM := (yX12_round, cX12_round, 4, some .int)
theorem ok_X12_round : fwMok mX12_round 2 := ⟨tw_8 tq_8_7.2.1 rfl, ci_18, ⟨cn_18.1, cn_18.2, pd_7⟩, Nat.le_of_ble_eq_true rfl⟩
theorem vi_X12_round : fwMvi mX12_round := ⟨tw_8 tq_8_6.2.2.2.2.2.2.2 rfl, tw_8 tq_8_7.1 rfl⟩
abbrev mX12_isRound : fwM := (yX12_isRound, cX12_isRound, 3, some .boolean)
theorem ok_X12_isRound : fwMok mX12_isRound 2 := ⟨tw_8 tq_8_7.2.2.2.2.2.1 rfl, ci_18, ⟨cn_18.1, cn_18.2, pd_19⟩, Nat.le_of_ble_eq_true rfl⟩
theorem vi_X12_isRound : fwMvi mX12_isRound := ⟨tw_8 tq_8_7.2.2.2.2.1 rfl, fwTb_s (i := 85) rfl rfl⟩
abbrev mX12_roundOf : fwM := (yX12_roundOf, cX12_roundOf, 7, some .int)
theorem ok_X12_roundOf : fwMok mX12_roundOf 2 := ⟨tw_8 tq_8_8.2.2.1 rfl, ci_18, ⟨cn_18.1, cn_18.2, pd_7⟩, Nat.le_of_ble_eq_true rfl⟩
theorem vi_X12_roundOf : fwMvi mX12_roundOf := ⟨tw_8 tq_8_8.2.1 rfl, fwTb_s (i := 86) rfl rfl⟩
abbrev mX12_steps : fwM := (yX12_steps, cX12_steps, 3, some .int)
theorem ok_X12_steps : fwMok mX12_steps 3 := ⟨tw_8 tq_8_8.2.2.2.2.2.2.1 rfl, ci_18, ⟨cn_18.1, cn_18.2, pd_29⟩, Nat.le_of_ble_eq_true rfl⟩
theorem st_X12_steps : Cond.static (mX12_steps).1 ∈ fwTb := tw_8 tq_8_8.2.2.2.2.2.1 rfl
abbrev mX12_namesOn : fwM := (yX12_namesOn, cX12_namesOn, 8, some .int)
theorem ok_X12_namesOn : fwMok mX12_namesOn 5 := ⟨tw_8 tq_8_9.2.2.1 rfl, ci_18, ⟨cn_18.1, cn_18.2, pd_0⟩, Nat.le_of_ble_eq_true rfl⟩
theorem vi_X12_namesOn : fwMvi mX12_namesOn := ⟨tw_8 tq_8_9.2.1 rfl, fwTb_s (i := 87) rfl rfl⟩
abbrev mX12_goes : fwM := (yX12_goes, cX12_goes, 4, some .int)
theorem ok_X12_goes : fwMok mX12_goes 3 := ⟨tw_8 tq_8_9.2.2.2.2.2.2.1 rfl, ci_18, ⟨cn_18.1, cn_18.2, pd_29⟩, Nat.le_of_ble_eq_true rfl⟩
theorem vi_X12_goes : fwMvi mX12_goes := ⟨tw_8 tq_8_9.2.2.2.2.1 rfl, tw_8 tq_8_9.2.2.2.2.2.1 rfl⟩
abbrev mX12_two : fwM := (yX12_two, cX12_two, 10, some .int)
theorem ok_X12_two : fwMok mX12_two 3 := ⟨tw_8 tq_8_10.2.2.1 rfl, ci_18, ⟨cn_18.1, cn_18.2, pd_29⟩, Nat.le_of_ble_eq_true rfl⟩
theorem vi_X12_two : fwMvi mX12_two := ⟨tw_8 tq_8_10.1 rfl, tw_8 tq_8_10.2.1 rfl⟩
abbrev mX12_flows : fwM := (yX12_flows, cX12_flows, 2, some .int)
theorem ok_X12_flows : fwMok mX12_flows 1 := ⟨tw_8 tq_8_10.2.2.2.2.2.2.2 rfl, ci_18, ⟨cn_18.1, cn_18.2, pd_3⟩, Nat.le_of_ble_eq_true rfl⟩
theorem vi_X12_flows : fwMvi mX12_flows := ⟨tw_8 tq_8_10.2.2.2.2.2.1 rfl, tw_8 tq_8_10.2.2.2.2.2.2.1 rfl⟩
abbrev mX12_flowOf : fwM := (yX12_flowOf, cX12_flowOf, 4, some .int)
theorem ok_X12_flowOf : fwMok mX12_flowOf 1 := ⟨tw_8 tq_8_11.2.2.2.1 rfl, ci_18, ⟨cn_18.1, cn_18.2, pd_3⟩, Nat.le_of_ble_eq_true rfl⟩
theorem vi_X12_flowOf : fwMvi mX12_flowOf := ⟨tw_8 tq_8_11.2.2.1 rfl, fwTb_s (i := 88) rfl rfl⟩
abbrev mX12_isLower : fwM := (yX12_isLower, cX12_isLower, 3, some .boolean)
theorem ok_X12_isLower : fwMok mX12_isLower 2 := ⟨tw_8 tq_8_11.2.2.2.2.2.2.2 rfl, ci_18, ⟨cn_18.1, cn_18.2, pd_19⟩, Nat.le_of_ble_eq_true rfl⟩
theorem vi_X12_isLower : fwMvi mX12_isLower := ⟨tw_8 tq_8_11.2.2.2.2.2.2.1 rfl, fwTb_s (i := 89) rfl rfl⟩
abbrev mX12_basin : fwM := (yX12_basin, cX12_basin, 4, some .int)
theorem ok_X12_basin : fwMok mX12_basin 1 := ⟨tw_8 tq_8_12.2.2.2.1 rfl, ci_18, ⟨cn_18.1, cn_18.2, pd_3⟩, Nat.le_of_ble_eq_true rfl⟩
theorem vi_X12_basin : fwMvi mX12_basin := ⟨tw_8 tq_8_12.2.1 rfl, tw_8 tq_8_12.2.2.1 rfl⟩
abbrev mX12_cliffs : fwM := (yX12_cliffs, cX12_cliffs, 3, some .int)
theorem ok_X12_cliffs : fwMok mX12_cliffs 0 := ⟨tw_8 tq_8_12.2.2.2.2.2.2.2 rfl, ci_18, ⟨cn_18.1, cn_18.2, pd_4⟩, Nat.le_of_ble_eq_true rfl⟩
theorem vi_X12_cliffs : fwMvi mX12_cliffs := ⟨tw_8 tq_8_12.2.2.2.2.2.1 rfl, tw_8 tq_8_12.2.2.2.2.2.2.1 rfl⟩
abbrev mX12_springs : fwM := (yX12_springs, cX12_springs, 3, some .int)
theorem ok_X12_springs : fwMok mX12_springs 0 := ⟨tw_8 tq_8_13.2.2.2.1 rfl, ci_18, ⟨cn_18.1, cn_18.2, pd_4⟩, Nat.le_of_ble_eq_true rfl⟩
theorem vi_X12_springs : fwMvi mX12_springs := ⟨tw_8 tq_8_13.2.1 rfl, tw_8 tq_8_13.2.2.1 rfl⟩
abbrev mX12_sees : fwM := (yX12_sees, cX12_sees, 2, some .int)
theorem ok_X12_sees : fwMok mX12_sees 1 := ⟨tw_8 tq_8_13.2.2.2.2.2.2.2 rfl, ci_18, ⟨cn_18.1, cn_18.2, pd_3⟩, Nat.le_of_ble_eq_true rfl⟩
theorem vi_X12_sees : fwMvi mX12_sees := ⟨tw_8 tq_8_13.2.2.2.2.2.1 rfl, tw_8 tq_8_13.2.2.2.2.2.2.1 rfl⟩
abbrev mX12_seenFrom : fwM := (yX12_seenFrom, cX12_seenFrom, 4, some .int)
theorem ok_X12_seenFrom : fwMok mX12_seenFrom 1 := ⟨tw_8 tq_8_14.2.2.2.1 rfl, ci_18, ⟨cn_18.1, cn_18.2, pd_3⟩, Nat.le_of_ble_eq_true rfl⟩
theorem vi_X12_seenFrom : fwMvi mX12_seenFrom := ⟨tw_8 tq_8_14.2.2.1 rfl, fwTb_s (i := 90) rfl rfl⟩
abbrev mX12_isSeen : fwM := (yX12_isSeen, cX12_isSeen, 5, some .boolean)
theorem ok_X12_isSeen : fwMok mX12_isSeen 2 := ⟨tw_8 tq_8_14.2.2.2.2.2.2.2 rfl, ci_18, ⟨cn_18.1, cn_18.2, pd_19⟩, Nat.le_of_ble_eq_true rfl⟩
theorem vi_X12_isSeen : fwMvi mX12_isSeen := ⟨tw_8 tq_8_14.2.2.2.2.2.2.1 rfl, fwTb_s (i := 91) rfl rfl⟩
abbrev mX12_lookout : fwM := (yX12_lookout, cX12_lookout, 3, some .int)
theorem ok_X12_lookout : fwMok mX12_lookout 0 := ⟨tw_8 tq_8_15.2.2.2.1 rfl, ci_18, ⟨cn_18.1, cn_18.2, pd_4⟩, Nat.le_of_ble_eq_true rfl⟩
theorem vi_X12_lookout : fwMvi mX12_lookout := ⟨tw_8 tq_8_15.2.1 rfl, tw_8 tq_8_15.2.2.1 rfl⟩
abbrev mX12_votes : fwM := (yX12_votes, cX12_votes, 3, some .int)
theorem ok_X12_votes : fwMok mX12_votes 2 := ⟨tw_8 tq_8_15.2.2.2.2.2.2.2 rfl, ci_18, ⟨cn_18.1, cn_18.2, pd_7⟩, Nat.le_of_ble_eq_true rfl⟩
theorem vi_X12_votes : fwMvi mX12_votes := ⟨tw_8 tq_8_15.2.2.2.2.2.1 rfl, tw_8 tq_8_15.2.2.2.2.2.2.1 rfl⟩
abbrev mX12_votesFor : fwM := (yX12_votesFor, cX12_votesFor, 6, some .int)
theorem ok_X12_votesFor : fwMok mX12_votesFor 2 := ⟨tw_8 tq_8_16.2.2.2.1 rfl, ci_18, ⟨cn_18.1, cn_18.2, pd_7⟩, Nat.le_of_ble_eq_true rfl⟩
theorem vi_X12_votesFor : fwMvi mX12_votesFor := ⟨tw_8 tq_8_16.2.2.1 rfl, fwTb_s (i := 92) rfl rfl⟩
abbrev mX12_elected : fwM := (yX12_elected, cX12_elected, 4, some .int)
theorem ok_X12_elected : fwMok mX12_elected 0 := ⟨tw_8 tq_8_16.2.2.2.2.2.2.2 rfl, ci_18, ⟨cn_18.1, cn_18.2, pd_4⟩, Nat.le_of_ble_eq_true rfl⟩
theorem vi_X12_elected : fwMvi mX12_elected := ⟨tw_8 tq_8_16.2.2.2.2.2.1 rfl, tw_8 tq_8_16.2.2.2.2.2.2.1 rfl⟩
abbrev mX12_best : fwM := (yX12_best, cX12_best, 5, some .int)
theorem ok_X12_best : fwMok mX12_best 0 := ⟨tw_8 tq_8_17.2.2.2.1 rfl, ci_18, ⟨cn_18.1, cn_18.2, pd_4⟩, Nat.le_of_ble_eq_true rfl⟩
theorem vi_X12_best : fwMvi mX12_best := ⟨tw_8 tq_8_17.2.1 rfl, tw_8 tq_8_17.2.2.1 rfl⟩
abbrev mX12_shape : fwM := (yX12_shape, cX12_shape, 3, some .int)
theorem ok_X12_shape : fwMok mX12_shape 1 := ⟨tw_8 tq_8_18.1 rfl, ci_18, ⟨cn_18.1, cn_18.2, pd_3⟩, Nat.le_of_ble_eq_true rfl⟩
theorem vi_X12_shape : fwMvi mX12_shape := ⟨tw_8 tq_8_17.2.2.2.2.2.2.1 rfl, tw_8 tq_8_17.2.2.2.2.2.2.2 rfl⟩
abbrev mX12_shapeOf : fwM := (yX12_shapeOf, cX12_shapeOf, 6, some .int)
theorem ok_X12_shapeOf : fwMok mX12_shapeOf 1 := ⟨tw_8 tq_8_18.2.2.2.2.2.1 rfl, ci_18, ⟨cn_18.1, cn_18.2, pd_3⟩, Nat.le_of_ble_eq_true rfl⟩
theorem vi_X12_shapeOf : fwMvi mX12_shapeOf := ⟨tw_8 tq_8_18.2.2.2.2.1 rfl, fwTb_s (i := 93) rfl rfl⟩
abbrev mX12_takeRow : fwM := (yX12_takeRow, cX12_takeRow, 3, some .int)
theorem ok_X12_takeRow : fwMok mX12_takeRow 1 := ⟨tw_8 tq_8_19.2.1 rfl, ci_18, ⟨cn_18.1, cn_18.2, pd_3⟩, Nat.le_of_ble_eq_true rfl⟩
theorem vi_X12_takeRow : fwMvi mX12_takeRow := ⟨tw_8 tq_8_19.1 rfl, fwTb_s (i := 94) rfl rfl⟩
abbrev mX12_nextRow : fwM := (yX12_nextRow, cX12_nextRow, 4, some .boolean)
theorem ok_X12_nextRow : fwMok mX12_nextRow 1 := ⟨tw_8 tq_8_19.2.2.2.2.2.1 rfl, ci_18, ⟨cn_18.1, cn_18.2, pd_1⟩, Nat.le_of_ble_eq_true rfl⟩
theorem vi_X12_nextRow : fwMvi mX12_nextRow := ⟨tw_8 tq_8_19.2.2.2.2.1 rfl, fwTb_s (i := 95) rfl rfl⟩
abbrev mX12_shaped : fwM := (yX12_shaped, cX12_shaped, 3, some .int)
theorem ok_X12_shaped : fwMok mX12_shaped 2 := ⟨tw_8 tq_8_20.2.1 rfl, ci_18, ⟨cn_18.1, cn_18.2, pd_7⟩, Nat.le_of_ble_eq_true rfl⟩
theorem vi_X12_shaped : fwMvi mX12_shaped := ⟨tw_8 tq_8_19.2.2.2.2.2.2.2 rfl, tw_8 tq_8_20.1 rfl⟩
abbrev mX12_spoil : fwM := (yX12_spoil, cX12_spoil, 4, some .int)
theorem ok_X12_spoil : fwMok mX12_spoil 0 := ⟨tw_8 tq_8_20.2.2.2.2.2.1 rfl, ci_18, ⟨cn_18.1, cn_18.2, pd_4⟩, Nat.le_of_ble_eq_true rfl⟩
theorem vi_X12_spoil : fwMvi mX12_spoil := ⟨tw_8 tq_8_20.2.2.2.1 rfl, tw_8 tq_8_20.2.2.2.2.1 rfl⟩
abbrev mX12_raisers : fwM := (yX12_raisers, cX12_raisers, 5, some .int)
theorem ok_X12_raisers : fwMok mX12_raisers 0 := ⟨tw_8 tq_8_21.2.1 rfl, ci_18, ⟨cn_18.1, cn_18.2, pd_4⟩, Nat.le_of_ble_eq_true rfl⟩
theorem vi_X12_raisers : fwMvi mX12_raisers := ⟨tw_8 tq_8_20.2.2.2.2.2.2.2 rfl, tw_8 tq_8_21.1 rfl⟩
abbrev mX12_course : fwM := (yX12_course, cX12_course, 2, some .int)
theorem ok_X12_course : fwMok mX12_course 1 := ⟨tw_8 tq_8_21.2.2.2.2.2.1 rfl, ci_18, ⟨cn_18.1, cn_18.2, pd_3⟩, Nat.le_of_ble_eq_true rfl⟩
theorem vi_X12_course : fwMvi mX12_course := ⟨tw_8 tq_8_21.2.2.2.1 rfl, tw_8 tq_8_21.2.2.2.2.1 rfl⟩
abbrev mX12_isLaw : fwM := (yX12_isLaw, cX12_isLaw, 2, some .boolean)
theorem ok_X12_isLaw : fwMok mX12_isLaw 1 := ⟨tw_8 tq_8_22.2.1 rfl, ci_18, ⟨cn_18.1, cn_18.2, pd_1⟩, Nat.le_of_ble_eq_true rfl⟩
theorem vi_X12_isLaw : fwMvi mX12_isLaw := ⟨tw_8 tq_8_22.1 rfl, fwTb_s (i := 96) rfl rfl⟩
abbrev mX12_goCourse : fwM := (yX12_goCourse, cX12_goCourse, 3, some .int)
theorem ok_X12_goCourse : fwMok mX12_goCourse 1 := ⟨tw_8 tq_8_22.2.2.2.2.2.2.1 rfl, ci_18, ⟨cn_18.1, cn_18.2, pd_3⟩, Nat.le_of_ble_eq_true rfl⟩
theorem vi_X12_goCourse : fwMvi mX12_goCourse := ⟨tw_8 tq_8_22.2.2.2.2.2.1 rfl, fwTb_s (i := 97) rfl rfl⟩
abbrev mX12_ends : fwM := (yX12_ends, cX12_ends, 2, some .int)
theorem ok_X12_ends : fwMok mX12_ends 1 := ⟨tw_8 tq_8_23.2.2.1 rfl, ci_18, ⟨cn_18.1, cn_18.2, pd_3⟩, Nat.le_of_ble_eq_true rfl⟩
theorem vi_X12_ends : fwMvi mX12_ends := ⟨tw_8 tq_8_23.1 rfl, tw_8 tq_8_23.2.1 rfl⟩
abbrev mX12_left : fwM := (yX12_left, cX12_left, 3, some .int)
theorem ok_X12_left : fwMok mX12_left 2 := ⟨tw_8 tq_8_23.2.2.2.2.2.2.1 rfl, ci_18, ⟨cn_18.1, cn_18.2, pd_7⟩, Nat.le_of_ble_eq_true rfl⟩
theorem vi_X12_left : fwMvi mX12_left := ⟨tw_8 tq_8_23.2.2.2.2.1 rfl, tw_8 tq_8_23.2.2.2.2.2.1 rfl⟩
abbrev mX12_law : fwM := (yX12_law, cX12_law, 4, some .int)
theorem ok_X12_law : fwMok mX12_law 1 := ⟨tw_8 tq_8_24.2.2.1 rfl, ci_18, ⟨cn_18.1, cn_18.2, pd_3⟩, Nat.le_of_ble_eq_true rfl⟩
theorem vi_X12_law : fwMvi mX12_law := ⟨tw_8 tq_8_24.1 rfl, tw_8 tq_8_24.2.1 rfl⟩
abbrev mX12_old : fwM := (yX12_old, cX12_old, 3, some .int)
theorem ok_X12_old : fwMok mX12_old 1 := ⟨tw_8 tq_8_24.2.2.2.2.2.2.2 rfl, ci_18, ⟨cn_18.1, cn_18.2, pd_3⟩, Nat.le_of_ble_eq_true rfl⟩
theorem vi_X12_old : fwMvi mX12_old := ⟨tw_8 tq_8_24.2.2.2.2.2.1 rfl, tw_8 tq_8_24.2.2.2.2.2.2.1 rfl⟩
abbrev mX12_asksOld : fwM := (yX12_asksOld, cX12_asksOld, 3, some .int)
theorem ok_X12_asksOld : fwMok mX12_asksOld 1 := ⟨tw_8 tq_8_25.2.2.2.1 rfl, ci_18, ⟨cn_18.1, cn_18.2, pd_3⟩, Nat.le_of_ble_eq_true rfl⟩
theorem vi_X12_asksOld : fwMvi mX12_asksOld := ⟨tw_8 tq_8_25.2.2.1 rfl, fwTb_s (i := 98) rfl rfl⟩
abbrev mX12_isSlot : fwM := (yX12_isSlot, cX12_isSlot, 1, some .boolean)
theorem ok_X12_isSlot : fwMok mX12_isSlot 1 := ⟨tw_8 tq_8_25.2.2.2.2.2.2.1 rfl, ci_18, ⟨cn_18.1, cn_18.2, pd_1⟩, Nat.le_of_ble_eq_true rfl⟩
theorem st_X12_isSlot : Cond.static (mX12_isSlot).1 ∈ fwTb := tw_8 tq_8_25.2.2.2.2.2.1 rfl
abbrev mX12_numberAt : fwM := (yX12_numberAt, cX12_numberAt, 3, some .long)
theorem ok_X12_numberAt : fwMok mX12_numberAt 2 := ⟨tw_8 tq_8_26.2.2.1 rfl, ci_18, ⟨cn_18.1, cn_18.2, pd_31⟩, Nat.le_of_ble_eq_true rfl⟩
theorem vi_X12_numberAt : fwMvi mX12_numberAt := ⟨tw_8 tq_8_26.2.1 rfl, fwTb_s (i := 99) rfl rfl⟩
abbrev mX12_oldBy : fwM := (yX12_oldBy, cX12_oldBy, 7, some .int)
theorem ok_X12_oldBy : fwMok mX12_oldBy 2 := ⟨tw_8 tq_8_26.2.2.2.2.2.2.1 rfl, ci_18, ⟨cn_18.1, cn_18.2, pd_7⟩, Nat.le_of_ble_eq_true rfl⟩
theorem vi_X12_oldBy : fwMvi mX12_oldBy := ⟨tw_8 tq_8_26.2.2.2.2.2.1 rfl, fwTb_s (i := 100) rfl rfl⟩
abbrev mX12_wasDark : fwM := (yX12_wasDark, cX12_wasDark, 6, some .boolean)
theorem ok_X12_wasDark : fwMok mX12_wasDark 3 := ⟨tw_8 tq_8_27.2.2.1 rfl, ci_18, ⟨cn_18.1, cn_18.2, pd_37⟩, Nat.le_of_ble_eq_true rfl⟩
theorem vi_X12_wasDark : fwMvi mX12_wasDark := ⟨tw_8 tq_8_27.2.1 rfl, fwTb_s (i := 101) rfl rfl⟩
abbrev mX12_ask : fwM := (yX12_ask, cX12_ask, 4, some .int)
theorem ok_X12_ask : fwMok mX12_ask 2 := ⟨tw_8 tq_8_27.2.2.2.2.2.2.1 rfl, ci_18, ⟨cn_18.1, cn_18.2, pd_7⟩, Nat.le_of_ble_eq_true rfl⟩
theorem vi_X12_ask : fwMvi mX12_ask := ⟨tw_8 tq_8_27.2.2.2.2.1 rfl, tw_8 tq_8_27.2.2.2.2.2.1 rfl⟩
abbrev mX12_askOf : fwM := (yX12_askOf, cX12_askOf, 8, some .int)
theorem ok_X12_askOf : fwMok mX12_askOf 2 := ⟨tw_8 tq_8_28.2.2.1 rfl, ci_18, ⟨cn_18.1, cn_18.2, pd_7⟩, Nat.le_of_ble_eq_true rfl⟩
theorem vi_X12_askOf : fwMvi mX12_askOf := ⟨tw_8 tq_8_28.2.1 rfl, fwTb_s (i := 102) rfl rfl⟩
abbrev mX12_leaves : fwM := (yX12_leaves, cX12_leaves, 4, some .int)
theorem ok_X12_leaves : fwMok mX12_leaves 2 := ⟨tw_8 tq_8_28.2.2.2.2.2.2.1 rfl, ci_18, ⟨cn_18.1, cn_18.2, pd_7⟩, Nat.le_of_ble_eq_true rfl⟩
theorem vi_X12_leaves : fwMvi mX12_leaves := ⟨tw_8 tq_8_28.2.2.2.2.1 rfl, tw_8 tq_8_28.2.2.2.2.2.1 rfl⟩
abbrev mX12_doubts : fwM := (yX12_doubts, cX12_doubts, 5, some .int)
theorem ok_X12_doubts : fwMok mX12_doubts 1 := ⟨tw_8 tq_8_29.2.2.1 rfl, ci_18, ⟨cn_18.1, cn_18.2, pd_3⟩, Nat.le_of_ble_eq_true rfl⟩
theorem vi_X12_doubts : fwMvi mX12_doubts := ⟨tw_8 tq_8_29.1 rfl, tw_8 tq_8_29.2.1 rfl⟩
abbrev mX12_stands : fwM := (yX12_stands, cX12_stands, 5, some .int)
theorem ok_X12_stands : fwMok mX12_stands 1 := ⟨tw_8 tq_8_29.2.2.2.2.2.2.1 rfl, ci_18, ⟨cn_18.1, cn_18.2, pd_3⟩, Nat.le_of_ble_eq_true rfl⟩
theorem vi_X12_stands : fwMvi mX12_stands := ⟨tw_8 tq_8_29.2.2.2.2.1 rfl, tw_8 tq_8_29.2.2.2.2.2.1 rfl⟩
abbrev mX12_asksNames : fwM := (yX12_asksNames, cX12_asksNames, 4, some .int)
theorem pd_44 : (parseMethodDescriptor "(IZ)I").map (fun d => d.parameters.length) = some 2 := by decide +kernel
theorem ok_X12_asksNames : fwMok mX12_asksNames 2 := ⟨tw_9 tq_9_0.2.2.1 rfl, ci_18, ⟨cn_18.1, cn_18.2, pd_44⟩, Nat.le_of_ble_eq_true rfl⟩
theorem vi_X12_asksNames : fwMvi mX12_asksNames := ⟨tw_9 tq_9_0.2.1 rfl, fwTb_s (i := 103) rfl rfl⟩
abbrev mX12_hasName : fwM := (yX12_hasName, cX12_hasName, 3, some .boolean)
theorem ok_X12_hasName : fwMok mX12_hasName 2 := ⟨tw_9 tq_9_0.2.2.2.2.2.2.1 rfl, ci_18, ⟨cn_18.1, cn_18.2, pd_19⟩, Nat.le_of_ble_eq_true rfl⟩
theorem vi_X12_hasName : fwMvi mX12_hasName := ⟨tw_9 tq_9_0.2.2.2.2.2.1 rfl, fwTb_s (i := 104) rfl rfl⟩
abbrev mX12_isThere : fwM := (yX12_isThere, cX12_isThere, 4, some .boolean)
theorem ok_X12_isThere : fwMok mX12_isThere 2 := ⟨tw_9 tq_9_1.2.2.1 rfl, ci_18, ⟨cn_18.1, cn_18.2, pd_19⟩, Nat.le_of_ble_eq_true rfl⟩
theorem vi_X12_isThere : fwMvi mX12_isThere := ⟨tw_9 tq_9_1.2.1 rfl, fwTb_s (i := 105) rfl rfl⟩
abbrev mX12_struck : fwM := (yX12_struck, cX12_struck, 6, some .int)
theorem ok_X12_struck : fwMok mX12_struck 2 := ⟨tw_9 tq_9_1.2.2.2.2.2.2.1 rfl, ci_18, ⟨cn_18.1, cn_18.2, pd_7⟩, Nat.le_of_ble_eq_true rfl⟩
theorem vi_X12_struck : fwMvi mX12_struck := ⟨tw_9 tq_9_1.2.2.2.2.1 rfl, tw_9 tq_9_1.2.2.2.2.2.1 rfl⟩
abbrev mX12_drawn : fwM := (yX12_drawn, cX12_drawn, 5, some .int)
theorem ok_X12_drawn : fwMok mX12_drawn 3 := ⟨tw_9 tq_9_2.2.2.1 rfl, ci_18, ⟨cn_18.1, cn_18.2, pd_29⟩, Nat.le_of_ble_eq_true rfl⟩
theorem vi_X12_drawn : fwMvi mX12_drawn := ⟨tw_9 tq_9_2.1 rfl, tw_9 tq_9_2.2.1 rfl⟩
abbrev mX12_areMonths : fwM := (yX12_areMonths, cX12_areMonths, 3, some .boolean)
theorem ok_X12_areMonths : fwMok mX12_areMonths 2 := ⟨tw_9 tq_9_2.2.2.2.2.2.2.1 rfl, ci_18, ⟨cn_18.1, cn_18.2, pd_19⟩, Nat.le_of_ble_eq_true rfl⟩
theorem vi_X12_areMonths : fwMvi mX12_areMonths := ⟨tw_9 tq_9_2.2.2.2.2.2.1 rfl, fwTb_s (i := 106) rfl rfl⟩
abbrev mX12_goMonths : fwM := (yX12_goMonths, cX12_goMonths, 9, some .int)
theorem pd_45 : (parseMethodDescriptor "(JI)I").map (fun d => d.parameters.length) = some 2 := by decide +kernel
theorem ok_X12_goMonths : fwMok mX12_goMonths 2 := ⟨tw_9 tq_9_3.2.2.2.1 rfl, ci_18, ⟨cn_18.1, cn_18.2, pd_45⟩, Nat.le_of_ble_eq_true rfl⟩
theorem vi_X12_goMonths : fwMvi mX12_goMonths := ⟨tw_9 tq_9_3.2.2.1 rfl, fwTb_s (i := 107) rfl rfl⟩
abbrev mX12_luck : fwM := (yX12_luck, cX12_luck, 6, some .int)
theorem ok_X12_luck : fwMok mX12_luck 3 := ⟨tw_9 tq_9_4.2.2.2.1 rfl, ci_18, ⟨cn_18.1, cn_18.2, pd_29⟩, Nat.le_of_ble_eq_true rfl⟩
theorem vi_X12_luck : fwMvi mX12_luck := ⟨tw_9 tq_9_4.2.1 rfl, tw_9 tq_9_4.2.2.1 rfl⟩
abbrev mX12_tell : fwM := (yX12_tell, cX12_tell, 3, some .int)
theorem ok_X12_tell : fwMok mX12_tell 1 := ⟨tw_9 tq_9_4.2.2.2.2.2.2.2 rfl, ci_18, ⟨cn_18.1, cn_18.2, pd_3⟩, Nat.le_of_ble_eq_true rfl⟩
theorem vi_X12_tell : fwMvi mX12_tell := ⟨tw_9 tq_9_4.2.2.2.2.2.1 rfl, tw_9 tq_9_4.2.2.2.2.2.2.1 rfl⟩
abbrev mX12_likes : fwM := (yX12_likes, cX12_likes, 6, some .int)
theorem ok_X12_likes : fwMok mX12_likes 3 := ⟨tw_9 tq_9_5.2.2.2.1 rfl, ci_18, ⟨cn_18.1, cn_18.2, pd_29⟩, Nat.le_of_ble_eq_true rfl⟩
theorem vi_X12_likes : fwMvi mX12_likes := ⟨tw_9 tq_9_5.2.1 rfl, tw_9 tq_9_5.2.2.1 rfl⟩
abbrev mX12_count : fwM := (yX12_count, cX12_count, 4, some .int)
theorem ok_X12_count : fwMok mX12_count 1 := ⟨tw_9 tq_9_5.2.2.2.2.2.2.2 rfl, ci_18, ⟨cn_18.1, cn_18.2, pd_3⟩, Nat.le_of_ble_eq_true rfl⟩
theorem vi_X12_count : fwMvi mX12_count := ⟨tw_9 tq_9_5.2.2.2.2.2.1 rfl, tw_9 tq_9_5.2.2.2.2.2.2.1 rfl⟩
abbrev mX12_row : fwM := (yX12_row, cX12_row, 5, some .int)
theorem ok_X12_row : fwMok mX12_row 3 := ⟨tw_9 tq_9_6.2.2.2.1 rfl, ci_18, ⟨cn_18.1, cn_18.2, pd_29⟩, Nat.le_of_ble_eq_true rfl⟩
theorem vi_X12_row : fwMvi mX12_row := ⟨tw_9 tq_9_6.2.1 rfl, tw_9 tq_9_6.2.2.1 rfl⟩
abbrev mX12_write : fwM := (yX12_write, cX12_write, 5, some .int)
theorem ok_X12_write : fwMok mX12_write 3 := ⟨tw_9 tq_9_6.2.2.2.2.2.2.2 rfl, ci_18, ⟨cn_18.1, cn_18.2, pd_34⟩, Nat.le_of_ble_eq_true rfl⟩
theorem vi_X12_write : fwMvi mX12_write := ⟨tw_9 tq_9_6.2.2.2.2.2.1 rfl, tw_9 tq_9_6.2.2.2.2.2.2.1 rfl⟩
abbrev mX12_cut : fwM := (yX12_cut, cX12_cut, 4, some .long)
theorem ok_X12_cut : fwMok mX12_cut 2 := ⟨tw_9 tq_9_7.2.2.1 rfl, ci_18, ⟨cn_18.1, cn_18.2, pd_36⟩, Nat.le_of_ble_eq_true rfl⟩
theorem st_X12_cut : Cond.static (mX12_cut).1 ∈ fwTb := tw_9 tq_9_7.2.1 rfl
abbrev mX12_paste : fwM := (yX12_paste, cX12_paste, 7, some .int)
theorem ok_X12_paste : fwMok mX12_paste 5 := ⟨tw_9 tq_9_7.2.2.2.2.2.2.1 rfl, ci_18, ⟨cn_18.1, cn_18.2, pd_0⟩, Nat.le_of_ble_eq_true rfl⟩
theorem vi_X12_paste : fwMvi mX12_paste := ⟨tw_9 tq_9_7.2.2.2.2.1 rfl, tw_9 tq_9_7.2.2.2.2.2.1 rfl⟩
theorem ml_L_13 : Cond.methodLink RL 13 (mX11_feed).1 ∈ fwTb := tw_2 tq_2_18.1 rfl
theorem ml_X11_95 : Cond.methodLink RX11 95 (mX9_hasRoomFor).1 ∈ fwTb := tw_2 tq_2_18.2.2.2.2.1 rfl
theorem ml_X11_99 : Cond.methodLink RX11 99 (mX9_addNumber).1 ∈ fwTb := tw_2 tq_2_19.1 rfl
theorem ml_L_18 : Cond.methodLink RL 18 (mX11_end).1 ∈ fwTb := tw_2 tq_2_19.2.2.2.2.1 rfl
theorem ml_L_23 : Cond.methodLink RL 23 (mX11_mount).1 ∈ fwTb := tw_2 tq_2_20.1 rfl
theorem ml_X11_107 : Cond.methodLink RX11 107 (mX5_readAll).1 ∈ fwTb := tw_2 tq_2_20.2.2.2.2.1 rfl
theorem ml_X5_26 : Cond.methodLink RX5 26 (mX9_cutTokens).1 ∈ fwTb := tw_2 tq_2_21.1 rfl
theorem ml_X9_32 : Cond.methodLink RX9 32 (mX9_byteAt).1 ∈ fwTb := tw_2 tq_2_21.2.2.2.2.1 rfl
theorem ml_X9_36 : Cond.methodLink RX9 36 (mX9_isLetter).1 ∈ fwTb := tw_2 tq_2_22.1 rfl
theorem ml_X9_40 : Cond.methodLink RX9 40 (mX9_wordEnd).1 ∈ fwTb := tw_2 tq_2_22.2.2.2.1 rfl
theorem ml_X9_43 : Cond.methodLink RX9 43 (mX9_wordKind).1 ∈ fwTb := tw_2 tq_2_22.2.2.2.2.2.2.2 rfl
theorem ml_X9_61 : Cond.methodLink RX9 61 (mX9_textOf).1 ∈ fwTb := tw_2 tq_2_23.2.2.2.1 rfl
theorem ml_X9_65 : Cond.methodLink RX9 65 (mX9_isText).1 ∈ fwTb := tw_2 tq_2_25.2.2.2.1 rfl
theorem ml_X9_69 : Cond.methodLink RX9 69 (mJ0_length_8abf5).1 ∈ fwTb := tw_2 tq_2_25.2.2.2.2.2.2.2 rfl
theorem ml_J0_335 : Cond.methodLink RJ0 335 (mJ0_coder_7d493).1 ∈ fwTb := tw_2 tq_2_26.2.2.2.1 rfl
theorem ml_X9_75 : Cond.methodLink RX9 75 (mJ0_charAt_5068e).1 ∈ fwTb := tw_2 tq_2_27.2.1 rfl
theorem ml_J0_492 : Cond.methodLink RJ0 492 (mJ0_isLatin1_aae02).1 ∈ fwTb := tw_2 tq_2_27.2.2.2.2.2.1 rfl
theorem ml_J0_495 : Cond.methodLink RJ0 495 (mJ1_charAt_3b067).1 ∈ fwTb := tw_2 tq_2_28.2.1 rfl
theorem ml_J1_9 : Cond.methodLink RJ1 9 (mJ0_checkIndex_df160).1 ∈ fwTb := tw_2 tq_2_28.2.2.2.2.1 rfl
theorem ml_J0_1059 : Cond.methodLink RJ0 1059 (mJ3_checkIndex_8e157).1 ∈ fwTb := tw_2 tq_2_29.2.1 rfl
theorem ml_J0_498 : Cond.methodLink RJ0 498 (mJ2_charAt_3b067).1 ∈ fwTb := tw_2 tq_2_29.2.2.2.2.1 rfl
theorem ml_J2_67 : Cond.methodLink RJ2 67 (mJ2_checkIndex_2214a).1 ∈ fwTb := tw_2 tq_2_29.2.2.2.2.2.2.2 rfl
theorem ml_J2_48 : Cond.methodLink RJ2 48 (mJ2_length_9d52b).1 ∈ fwTb := tw_3 tq_3_0.2.2.1 rfl
theorem ml_J2_414 : Cond.methodLink RJ2 414 (mJ0_checkIndex_df160).1 ∈ fwTb := tw_3 tq_3_0.2.2.2.2.2.1 rfl
theorem ml_J2_71 : Cond.methodLink RJ2 71 (mJ2_getChar_3b067).1 ∈ fwTb := tw_3 tq_3_0.2.2.2.2.2.2.1 rfl
theorem ml_X9_47 : Cond.methodLink RX9 47 (mX9_addToken).1 ∈ fwTb := tw_3 tq_3_1.2.2.2.2.2.2.2 rfl
theorem ml_X9_51 : Cond.methodLink RX9 51 (mX9_isDigit).1 ∈ fwTb := tw_3 tq_3_2.2.2.2.1 rfl
theorem ml_X9_54 : Cond.methodLink RX9 54 (mX9_numberEnd).1 ∈ fwTb := tw_3 tq_3_2.2.2.2.2.2.2.1 rfl
theorem ml_X9_57 : Cond.methodLink RX9 57 (mX9_numberOf).1 ∈ fwTb := tw_3 tq_3_3.2.2.1 rfl
theorem ml_X5_31 : Cond.methodLink RX5 31 (mX2_clear).1 ∈ fwTb := tw_3 tq_3_3.2.2.2.2.2.2.2 rfl
theorem ml_X2_29 : Cond.methodLink RX2 29 (mX1_clear).1 ∈ fwTb := tw_3 tq_3_4.2.2.2.1 rfl
theorem ml_X2_32 : Cond.methodLink RX2 32 (mX3_clear).1 ∈ fwTb := tw_3 tq_3_4.2.2.2.2.2.2.2 rfl
theorem ml_X5_40 : Cond.methodLink RX5 40 (mX5_advance).1 ∈ fwTb := tw_3 tq_3_5.2.2.2.1 rfl
theorem ml_X5_46 : Cond.methodLink RX5 46 (mX5_readLine).1 ∈ fwTb := tw_3 tq_3_5.2.2.2.2.2.2.2 rfl
theorem ml_X5_76 : Cond.methodLink RX5 76 (mX5_readMountain).1 ∈ fwTb := tw_3 tq_3_6.2.2.2.1 rfl
theorem ml_X5_85 : Cond.methodLink RX5 85 (mX5_pass).1 ∈ fwTb := tw_3 tq_3_6.2.2.2.2.2.2.2 rfl
theorem ml_X5_72 : Cond.methodLink RX5 72 (mX5_refuse).1 ∈ fwTb := tw_3 tq_3_7.2.2.2.1 rfl
theorem ml_X5_92 : Cond.methodLink RX5 92 (mX5_readHeights).1 ∈ fwTb := tw_3 tq_3_7.2.2.2.2.2.2.2 rfl
theorem ml_X5_96 : Cond.methodLink RX5 96 (mX5_isNumber).1 ∈ fwTb := tw_3 tq_3_8.2.2.2.1 rfl
theorem ml_X5_100 : Cond.methodLink RX5 100 (mX5_passNumber).1 ∈ fwTb := tw_3 tq_3_8.2.2.2.2.2.2.2 rfl
theorem ml_X5_119 : Cond.methodLink RX5 119 (mX1_addCell).1 ∈ fwTb := tw_3 tq_3_9.2.2.2.1 rfl
theorem ml_X5_79 : Cond.methodLink RX5 79 (mX5_readFolk).1 ∈ fwTb := tw_3 tq_3_9.2.2.2.2.2.2.2 rfl
theorem ml_X5_135 : Cond.methodLink RX5 135 (mX5_readFact).1 ∈ fwTb := tw_3 tq_3_10.2.2.2.1 rfl
theorem ml_X5_142 : Cond.methodLink RX5 142 (mX3_setFact).1 ∈ fwTb := tw_3 tq_3_10.2.2.2.2.2.2.2 rfl
theorem ml_X5_139 : Cond.methodLink RX5 139 (mX5_readTalk).1 ∈ fwTb := tw_3 tq_3_11.2.2.2.1 rfl
theorem ml_X5_146 : Cond.methodLink RX5 146 (mX3_befriend).1 ∈ fwTb := tw_3 tq_3_11.2.2.2.2.2.2.2 rfl
theorem ml_X3_25 : Cond.methodLink RX3 25 (mX3_fact).1 ∈ fwTb := tw_3 tq_3_12.2.2.2.1 rfl
theorem ml_X3_29 : Cond.methodLink RX3 29 (mX3_setFact).1 ∈ fwTb := tw_3 tq_3_12.2.2.2.2.2.2.2 rfl
theorem ml_X5_82 : Cond.methodLink RX5 82 (mX5_readHeap).1 ∈ fwTb := tw_3 tq_3_13.1 rfl
theorem ml_X11_114 : Cond.methodLink RX11 114 (mX2_copyFrom).1 ∈ fwTb := tw_3 tq_3_13.2.2.2.2.1 rfl
theorem ml_X2_46 : Cond.methodLink RX2 46 (mX1_copyFrom).1 ∈ fwTb := tw_3 tq_3_14.1 rfl
theorem ml_X2_50 : Cond.methodLink RX2 50 (mX3_copyFrom).1 ∈ fwTb := tw_3 tq_3_14.2.2.2.2.1 rfl
theorem ml_L_28 : Cond.methodLink RL 28 (mX11_fault).1 ∈ fwTb := tw_3 tq_3_15.1 rfl
theorem ml_L_32 : Cond.methodLink RL 32 (mX11_folk).1 ∈ fwTb := tw_3 tq_3_15.2.2.2.2.1 rfl
theorem ml_X11_130 : Cond.methodLink RX11 130 (mX3_has).1 ∈ fwTb := tw_3 tq_3_16.1 rfl
theorem ml_X11_135 : Cond.methodLink RX11 135 (mX3_fact).1 ∈ fwTb := tw_3 tq_3_16.2.2.2.2.1 rfl
theorem ml_L_37 : Cond.methodLink RL 37 (mX11_height).1 ∈ fwTb := tw_3 tq_3_16.2.2.2.2.2.1 rfl
theorem ml_X11_142 : Cond.methodLink RX11 142 (mX1_has).1 ∈ fwTb := tw_3 tq_3_17.2.1 rfl
theorem ml_X11_143 : Cond.methodLink RX11 143 (mX1_heightOf).1 ∈ fwTb := tw_3 tq_3_17.2.2.2.2.2.1 rfl
theorem ml_L_41 : Cond.methodLink RL 41 (mX11_shade).1 ∈ fwTb := tw_3 tq_3_18.2.1 rfl
theorem ml_X11_147 : Cond.methodLink RX11 147 (mX11_isHour).1 ∈ fwTb := tw_3 tq_3_18.2.2.2.2.2.1 rfl
theorem ml_X11_150 : Cond.methodLink RX11 150 (mX1_isShaded).1 ∈ fwTb := tw_3 tq_3_19.1 rfl
theorem ml_X1_37 : Cond.methodLink RX1 37 (mX1_shadedHours).1 ∈ fwTb := tw_3 tq_3_19.2.2.2.2.1 rfl
theorem ml_L_45 : Cond.methodLink RL 45 (mX11_light).1 ∈ fwTb := tw_3 tq_3_20.1 rfl
theorem ml_X11_154 : Cond.methodLink RX11 154 (mX1_lightOf).1 ∈ fwTb := tw_3 tq_3_20.2.2.2.2.1 rfl
theorem ml_L_49 : Cond.methodLink RL 49 (mX11_dark).1 ∈ fwTb := tw_3 tq_3_21.1 rfl
theorem ml_X11_157 : Cond.methodLink RX11 157 (mX2_isTold).1 ∈ fwTb := tw_3 tq_3_21.2.2.2.2.1 rfl
theorem ml_X11_160 : Cond.methodLink RX11 160 (mX1_shadedCells).1 ∈ fwTb := tw_3 tq_3_22.1 rfl
theorem ml_X1_41 : Cond.methodLink RX1 41 (mX1_isShaded).1 ∈ fwTb := tw_3 tq_3_22.2.2.2.2.1 rfl
theorem ml_L_53 : Cond.methodLink RL 53 (mX11_snow).1 ∈ fwTb := tw_3 tq_3_22.2.2.2.2.2.1 rfl
theorem ml_X11_163 : Cond.methodLink RX11 163 (mX1_snowyCells).1 ∈ fwTb := tw_3 tq_3_23.2.1 rfl
theorem ml_X1_33 : Cond.methodLink RX1 33 (mX1_heightOf).1 ∈ fwTb := tw_3 tq_3_23.2.2.2.2.2.1 rfl
theorem ml_L_57 : Cond.methodLink RL 57 (mX11_top).1 ∈ fwTb := tw_3 tq_3_23.2.2.2.2.2.2.1 rfl
theorem ml_X11_167 : Cond.methodLink RX11 167 (mX1_topCell).1 ∈ fwTb := tw_3 tq_3_24.2.2.1 rfl
theorem ml_L_61 : Cond.methodLink RL 61 (mX11_gain).1 ∈ fwTb := tw_3 tq_3_24.2.2.2.2.2.2.1 rfl
theorem ml_X11_170 : Cond.methodLink RX11 170 (mX3_gainOn).1 ∈ fwTb := tw_3 tq_3_25.2.2.1 rfl
theorem ml_X3_33 : Cond.methodLink RX3 33 (mX3_fillGains).1 ∈ fwTb := tw_3 tq_3_25.2.2.2.2.2.2.1 rfl
theorem ml_X3_37 : Cond.methodLink RX3 37 (mX1_snowyCells).1 ∈ fwTb := tw_3 tq_3_26.2.2.1 rfl
theorem ml_X3_43 : Cond.methodLink RX3 43 (mJ6_bitCount_0f7a4).1 ∈ fwTb := tw_3 tq_3_26.2.2.2.1 rfl
theorem ml_X3_49 : Cond.methodLink RX3 49 (mX1_topHeight).1 ∈ fwTb := tw_3 tq_3_27.2.1 rfl
theorem ml_X3_52 : Cond.methodLink RX3 52 (mX1_lightOf).1 ∈ fwTb := tw_3 tq_3_27.2.2.2.2.2.1 rfl
theorem ml_L_65 : Cond.methodLink RL 65 (mX11_hopes).1 ∈ fwTb := tw_3 tq_3_27.2.2.2.2.2.2.1 rfl
theorem ml_X11_174 : Cond.methodLink RX11 174 (mX0_gainAfter).1 ∈ fwTb := tw_3 tq_3_28.2.2.1 rfl
theorem ml_X0_24 : Cond.methodLink RX0 24 (mX1_copyFrom).1 ∈ fwTb := tw_3 tq_3_28.2.2.2.2.2.2.1 rfl
theorem ml_X0_30 : Cond.methodLink RX0 30 (mX1_lower).1 ∈ fwTb := tw_3 tq_3_28.2.2.2.2.2.2.2 rfl
theorem ml_X1_45 : Cond.methodLink RX1 45 (mX1_topCell).1 ∈ fwTb := tw_3 tq_3_29.2.2.2.1 rfl
theorem ml_X1_49 : Cond.methodLink RX1 49 (mX1_change).1 ∈ fwTb := tw_3 tq_3_29.2.2.2.2.1 rfl
theorem ml_X1_29 : Cond.methodLink RX1 29 (mX1_has).1 ∈ fwTb := tw_4 tq_4_0.1 rfl
theorem ml_X0_38 : Cond.methodLink RX0 38 (mX3_gainOn).1 ∈ fwTb := tw_4 tq_4_0.2.1 rfl
theorem ml_L_69 : Cond.methodLink RL 69 (mX11_wishes).1 ∈ fwTb := tw_4 tq_4_0.2.2.1 rfl
theorem ml_X11_177 : Cond.methodLink RX11 177 (mX0_wishedFeet).1 ∈ fwTb := tw_4 tq_4_0.2.2.2.2.2.2.1 rfl
theorem ml_L_73 : Cond.methodLink RL 73 (mX11_gains).1 ∈ fwTb := tw_4 tq_4_1.2.2.1 rfl
theorem ml_X11_180 : Cond.methodLink RX11 180 (mX3_gainsOn).1 ∈ fwTb := tw_4 tq_4_1.2.2.2.2.2.2.1 rfl
theorem ml_L_77 : Cond.methodLink RL 77 (mX11_take).1 ∈ fwTb := tw_4 tq_4_2.2.2.1 rfl
theorem ml_X11_184 : Cond.methodLink RX11 184 (mX2_hasRoomForAct).1 ∈ fwTb := tw_4 tq_4_2.2.2.2.2.2.2.1 rfl
theorem ml_X11_187 : Cond.methodLink RX11 187 (mX1_topHeight).1 ∈ fwTb := tw_4 tq_4_3.2.2.1 rfl
theorem ml_X11_190 : Cond.methodLink RX11 190 (mX2_act).1 ∈ fwTb := tw_4 tq_4_3.2.2.2.1 rfl
theorem ml_X2_60 : Cond.methodLink RX2 60 (mX2_hasRoomForAct).1 ∈ fwTb := tw_4 tq_4_3.2.2.2.2.2.2.2 rfl
theorem ml_X2_63 : Cond.methodLink RX2 63 (mX1_change).1 ∈ fwTb := tw_4 tq_4_4.1 rfl
theorem ml_L_81 : Cond.methodLink RL 81 (mX11_heap).1 ∈ fwTb := tw_4 tq_4_4.2.1 rfl
theorem ml_X11_194 : Cond.methodLink RX11 194 (mX1_stayOf).1 ∈ fwTb := tw_4 tq_4_4.2.2.2.2.2.1 rfl
theorem ml_X1_56 : Cond.methodLink RX1 56 (mX1_descend).1 ∈ fwTb := tw_4 tq_4_5.2.1 rfl
theorem ml_X1_53 : Cond.methodLink RX1 53 (mX1_wayDown).1 ∈ fwTb := tw_4 tq_4_5.2.2.2.2.2.1 rfl
theorem ml_L_85 : Cond.methodLink RL 85 (mX11_slides).1 ∈ fwTb := tw_4 tq_4_6.2.1 rfl
theorem ml_L_89 : Cond.methodLink RL 89 (mX11_undo).1 ∈ fwTb := tw_4 tq_4_6.2.2.2.2.2.1 rfl
theorem ml_X11_197 : Cond.methodLink RX11 197 (mX2_takeBack).1 ∈ fwTb := tw_4 tq_4_7.2.1 rfl
theorem ml_L_93 : Cond.methodLink RL 93 (mX11_anew).1 ∈ fwTb := tw_4 tq_4_7.2.2.2.2.2.1 rfl
theorem ml_L_97 : Cond.methodLink RL 97 (mX11_willing).1 ∈ fwTb := tw_4 tq_4_8.2.1 rfl
theorem ml_X11_203 : Cond.methodLink RX11 203 (mX3_gainersBy).1 ∈ fwTb := tw_4 tq_4_8.2.2.2.2.2.1 rfl
theorem ml_X3_55 : Cond.methodLink RX3 55 (mX1_topCell).1 ∈ fwTb := tw_4 tq_4_9.2.1 rfl
theorem ml_X3_58 : Cond.methodLink RX3 58 (mX1_heightOf).1 ∈ fwTb := tw_4 tq_4_9.2.2.1 rfl
theorem ml_X3_61 : Cond.methodLink RX3 61 (mX1_change).1 ∈ fwTb := tw_4 tq_4_9.2.2.2.1 rfl
theorem ml_L_101 : Cond.methodLink RL 101 (mX11_signers).1 ∈ fwTb := tw_4 tq_4_9.2.2.2.2.1 rfl
theorem ml_X11_206 : Cond.methodLink RX11 206 (mX2_hasSet).1 ∈ fwTb := tw_4 tq_4_10.1 rfl
theorem ml_X2_53 : Cond.methodLink RX2 53 (mX2_isTold).1 ∈ fwTb := tw_4 tq_4_10.2.2.2.2.1 rfl
theorem ml_X11_209 : Cond.methodLink RX11 209 (mX4_signersOfWon).1 ∈ fwTb := tw_4 tq_4_10.2.2.2.2.2.1 rfl
theorem ml_X4_29 : Cond.methodLink RX4 29 (mX3_gainersBy).1 ∈ fwTb := tw_4 tq_4_11.2.1 rfl
theorem ml_X4_35 : Cond.methodLink RX4 35 (mX3_signersOf).1 ∈ fwTb := tw_4 tq_4_11.2.2.1 rfl
theorem ml_L_105 : Cond.methodLink RL 105 (mX11_names).1 ∈ fwTb := tw_4 tq_4_11.2.2.2.2.2.2.1 rfl
theorem ml_X11_212 : Cond.methodLink RX11 212 (mX3_namesOf).1 ∈ fwTb := tw_4 tq_4_12.2.2.1 rfl
theorem ml_L_109 : Cond.methodLink RL 109 (mX11_first).1 ∈ fwTb := tw_4 tq_4_12.2.2.2.2.2.2.1 rfl
theorem ml_X11_215 : Cond.methodLink RX11 215 (mX4_fewestSet).1 ∈ fwTb := tw_4 tq_4_13.2.2.1 rfl
theorem ml_X4_43 : Cond.methodLink RX4 43 (mJ6_bitCount_0f7a4).1 ∈ fwTb := tw_4 tq_4_13.2.2.2.2.2.2.1 rfl
theorem ml_X4_49 : Cond.methodLink RX4 49 (mX2_isEnough).1 ∈ fwTb := tw_4 tq_4_13.2.2.2.2.2.2.2 rfl
theorem ml_X2_67 : Cond.methodLink RX2 67 (mX3_signersOf).1 ∈ fwTb := tw_4 tq_4_14.2.2.2.1 rfl
theorem ml_X2_71 : Cond.methodLink RX2 71 (mX3_namesOf).1 ∈ fwTb := tw_4 tq_4_14.2.2.2.2.1 rfl
theorem ml_X11_218 : Cond.methodLink RX11 218 (mJ6_bitCount_0f7a4).1 ∈ fwTb := tw_4 tq_4_14.2.2.2.2.2.1 rfl
theorem ml_L_113 : Cond.methodLink RL 113 (mX11_firsts).1 ∈ fwTb := tw_4 tq_4_14.2.2.2.2.2.2.1 rfl
theorem ml_L_117 : Cond.methodLink RL 117 (mX11_next).1 ∈ fwTb := tw_4 tq_4_15.2.2.1 rfl
theorem ml_X11_223 : Cond.methodLink RX11 223 (mX4_bestBeside).1 ∈ fwTb := tw_4 tq_4_15.2.2.2.2.2.2.1 rfl
theorem ml_X4_53 : Cond.methodLink RX4 53 (mX3_namesOf).1 ∈ fwTb := tw_4 tq_4_16.2.2.1 rfl
theorem ml_L_121 : Cond.methodLink RL 121 (mX11_needed).1 ∈ fwTb := tw_4 tq_4_16.2.2.2.1 rfl
theorem ml_X11_226 : Cond.methodLink RX11 226 (mX4_neededFolk).1 ∈ fwTb := tw_4 tq_4_16.2.2.2.2.2.2.2 rfl
theorem ml_L_125 : Cond.methodLink RL 125 (mX11_play).1 ∈ fwTb := tw_4 tq_4_17.2.2.2.1 rfl
theorem ml_X11_229 : Cond.methodLink RX11 229 (mX11_isPlay).1 ∈ fwTb := tw_4 tq_4_17.2.2.2.2.2.2.2 rfl
theorem ml_X11_232 : Cond.methodLink RX11 232 (mX4_playOut).1 ∈ fwTb := tw_4 tq_4_18.2.2.2.1 rfl
theorem ml_X4_56 : Cond.methodLink RX4 56 (mX4_begin).1 ∈ fwTb := tw_4 tq_4_18.2.2.2.2.2.2.2 rfl
theorem ml_X4_60 : Cond.methodLink RX4 60 (mX4_comesOut).1 ∈ fwTb := tw_4 tq_4_19.2.2.2.1 rfl
theorem ml_X4_77 : Cond.methodLink RX4 77 (mX4_winsNow).1 ∈ fwTb := tw_4 tq_4_19.2.2.2.2.2.2.2 rfl
theorem ml_X4_81 : Cond.methodLink RX4 81 (mX4_canReach).1 ∈ fwTb := tw_4 tq_4_20.2.2.2.1 rfl
theorem ml_X4_64 : Cond.methodLink RX4 64 (mX4_comesOutBy).1 ∈ fwTb := tw_4 tq_4_20.2.2.2.2.2.2.2 rfl
theorem ml_L_129 : Cond.methodLink RL 129 (mX11_moves).1 ∈ fwTb := tw_4 tq_4_21.2.2.2.2.2.1 rfl
theorem ml_X11_235 : Cond.methodLink RX11 235 (mX4_firstMove).1 ∈ fwTb := tw_4 tq_4_22.2.1 rfl
theorem ml_L_133 : Cond.methodLink RL 133 (mX11_round).1 ∈ fwTb := tw_4 tq_4_22.2.2.2.2.2.1 rfl
theorem ml_X11_238 : Cond.methodLink RX11 238 (mX11_isWalk).1 ∈ fwTb := tw_4 tq_4_23.2.1 rfl
theorem ml_X11_241 : Cond.methodLink RX11 241 (mX10_walkOne).1 ∈ fwTb := tw_4 tq_4_23.2.2.2.2.2.1 rfl
theorem ml_X10_54 : Cond.methodLink RX10 54 (mX10_gatherNames).1 ∈ fwTb := tw_4 tq_4_24.2.1 rfl
theorem ml_X10_29 : Cond.methodLink RX10 29 (mX3_gainersBy).1 ∈ fwTb := tw_4 tq_4_24.2.2.2.2.2.1 rfl
theorem ml_X10_39 : Cond.methodLink RX10 39 (mX3_fact).1 ∈ fwTb := tw_4 tq_4_24.2.2.2.2.2.2.1 rfl
theorem ml_X10_62 : Cond.methodLink RX10 62 (mX10_stepsOf).1 ∈ fwTb := tw_4 tq_4_24.2.2.2.2.2.2.2 rfl
theorem ml_X10_48 : Cond.methodLink RX10 48 (mJ9_min_7cf53).1 ∈ fwTb := tw_4 tq_4_25.2.2.1 rfl
theorem ml_X10_51 : Cond.methodLink RX10 51 (mX10_namesWithin).1 ∈ fwTb := tw_4 tq_4_25.2.2.2.2.2.1 rfl
theorem ml_L_137 : Cond.methodLink RL 137 (mX11_goes).1 ∈ fwTb := tw_4 tq_4_26.2.1 rfl
theorem ml_L_142 : Cond.methodLink RL 142 (mX11_two).1 ∈ fwTb := tw_4 tq_4_26.2.2.2.2.2.1 rfl
theorem ml_X11_250 : Cond.methodLink RX11 250 (mX10_walkTwo).1 ∈ fwTb := tw_4 tq_4_27.2.1 rfl
theorem ml_X10_72 : Cond.methodLink RX10 72 (mX10_besides).1 ∈ fwTb := tw_4 tq_4_27.2.2.2.2.2.1 rfl
theorem ml_X10_76 : Cond.methodLink RX10 76 (mX10_namesOfBoth).1 ∈ fwTb := tw_4 tq_4_28.2.1 rfl
theorem ml_X10_43 : Cond.methodLink RX10 43 (mJ9_max_7cf53).1 ∈ fwTb := tw_4 tq_4_28.2.2.2.2.2.1 rfl
theorem ml_L_146 : Cond.methodLink RL 146 (mX11_flows).1 ∈ fwTb := tw_4 tq_4_29.1 rfl
theorem ml_X11_254 : Cond.methodLink RX11 254 (mX1_waterEnd).1 ∈ fwTb := tw_4 tq_4_29.2.2.2.2.1 rfl
theorem ml_L_150 : Cond.methodLink RL 150 (mX11_basin).1 ∈ fwTb := tw_5 tq_5_0.1 rfl
theorem ml_X11_257 : Cond.methodLink RX11 257 (mX1_drainedTo).1 ∈ fwTb := tw_5 tq_5_0.2.2.2.2.1 rfl
theorem ml_X1_59 : Cond.methodLink RX1 59 (mX1_waterEnd).1 ∈ fwTb := tw_5 tq_5_1.1 rfl
theorem ml_L_154 : Cond.methodLink RL 154 (mX11_cliffs).1 ∈ fwTb := tw_5 tq_5_1.2.1 rfl
theorem ml_X11_260 : Cond.methodLink RX11 260 (mX1_cliffPairs).1 ∈ fwTb := tw_5 tq_5_1.2.2.2.2.2.1 rfl
theorem ml_L_158 : Cond.methodLink RL 158 (mX11_springs).1 ∈ fwTb := tw_5 tq_5_2.2.1 rfl
theorem ml_X11_263 : Cond.methodLink RX11 263 (mX1_waterEnds).1 ∈ fwTb := tw_5 tq_5_2.2.2.2.2.2.1 rfl
theorem ml_L_162 : Cond.methodLink RL 162 (mX11_sees).1 ∈ fwTb := tw_5 tq_5_3.2.1 rfl
theorem ml_X11_266 : Cond.methodLink RX11 266 (mX1_seenFrom).1 ∈ fwTb := tw_5 tq_5_3.2.2.2.2.2.1 rfl
theorem ml_X1_62 : Cond.methodLink RX1 62 (mX1_isOpen).1 ∈ fwTb := tw_5 tq_5_4.2.1 rfl
theorem ml_L_166 : Cond.methodLink RL 166 (mX11_lookout).1 ∈ fwTb := tw_5 tq_5_4.2.2.2.2.2.1 rfl
theorem ml_X11_269 : Cond.methodLink RX11 269 (mX1_bestLookout).1 ∈ fwTb := tw_5 tq_5_5.2.1 rfl
theorem ml_X1_65 : Cond.methodLink RX1 65 (mX1_seenFrom).1 ∈ fwTb := tw_5 tq_5_5.2.2.2.2.2.1 rfl
theorem ml_X1_68 : Cond.methodLink RX1 68 (mJ6_bitCount_0f7a4).1 ∈ fwTb := tw_5 tq_5_5.2.2.2.2.2.2.1 rfl
theorem ml_L_170 : Cond.methodLink RL 170 (mX11_votes).1 ∈ fwTb := tw_5 tq_5_5.2.2.2.2.2.2.2 rfl
theorem ml_X11_272 : Cond.methodLink RX11 272 (mX7_weighCells).1 ∈ fwTb := tw_5 tq_5_6.2.2.2.1 rfl
theorem ml_X7_34 : Cond.methodLink RX7 34 (mX1_copyFrom).1 ∈ fwTb := tw_5 tq_5_6.2.2.2.2.2.2.2 rfl
theorem ml_X7_44 : Cond.methodLink RX7 44 (mX1_heightOf).1 ∈ fwTb := tw_5 tq_5_7.1 rfl
theorem ml_X7_48 : Cond.methodLink RX7 48 (mX1_change).1 ∈ fwTb := tw_5 tq_5_7.2.1 rfl
theorem ml_X7_56 : Cond.methodLink RX7 56 (mX3_fillGains).1 ∈ fwTb := tw_5 tq_5_7.2.2.1 rfl
theorem ml_X11_275 : Cond.methodLink RX11 275 (mX7_votersFor).1 ∈ fwTb := tw_5 tq_5_7.2.2.2.1 rfl
theorem ml_X7_65 : Cond.methodLink RX7 65 (mX7_weightOf).1 ∈ fwTb := tw_5 tq_5_7.2.2.2.2.2.2.2 rfl
theorem ml_L_174 : Cond.methodLink RL 174 (mX11_elected).1 ∈ fwTb := tw_5 tq_5_8.2.2.2.1 rfl
theorem ml_X11_278 : Cond.methodLink RX11 278 (mX7_electedCell).1 ∈ fwTb := tw_5 tq_5_8.2.2.2.2.2.2.2 rfl
theorem ml_X7_69 : Cond.methodLink RX7 69 (mX7_weighCells).1 ∈ fwTb := tw_5 tq_5_9.2.2.2.1 rfl
theorem ml_X7_72 : Cond.methodLink RX7 72 (mX7_isUnbeaten).1 ∈ fwTb := tw_5 tq_5_9.2.2.2.2.1 rfl
theorem ml_X7_76 : Cond.methodLink RX7 76 (mX7_votersFor).1 ∈ fwTb := tw_5 tq_5_10.1 rfl
theorem ml_X7_79 : Cond.methodLink RX7 79 (mX3_namesOf).1 ∈ fwTb := tw_5 tq_5_10.2.1 rfl
theorem ml_L_178 : Cond.methodLink RL 178 (mX11_best).1 ∈ fwTb := tw_5 tq_5_10.2.2.1 rfl
theorem ml_X11_281 : Cond.methodLink RX11 281 (mX7_canShape).1 ∈ fwTb := tw_5 tq_5_10.2.2.2.2.2.2.1 rfl
theorem ml_X7_82 : Cond.methodLink RX7 82 (mX2_isTold).1 ∈ fwTb := tw_5 tq_5_11.2.2.1 rfl
theorem ml_X7_86 : Cond.methodLink RX7 86 (mX1_feetInAll).1 ∈ fwTb := tw_5 tq_5_11.2.2.2.1 rfl
theorem ml_X11_284 : Cond.methodLink RX11 284 (mX7_shapeBy).1 ∈ fwTb := tw_5 tq_5_11.2.2.2.2.2.2.2 rfl
theorem ml_X7_94 : Cond.methodLink RX7 94 (mX7_search).1 ∈ fwTb := tw_5 tq_5_12.2.2.2.1 rfl
theorem ml_X7_101 : Cond.methodLink RX7 101 (mX7_keepIfBetter).1 ∈ fwTb := tw_5 tq_5_12.2.2.2.2.2.2.2 rfl
theorem ml_X7_104 : Cond.methodLink RX7 104 (mX3_gainsOn).1 ∈ fwTb := tw_5 tq_5_13.2.2.2.1 rfl
theorem ml_X11_287 : Cond.methodLink RX11 287 (mX7_shapedCell).1 ∈ fwTb := tw_5 tq_5_13.2.2.2.2.1 rfl
theorem ml_L_182 : Cond.methodLink RL 182 (mX11_shape).1 ∈ fwTb := tw_5 tq_5_14.1 rfl
theorem ml_L_186 : Cond.methodLink RL 186 (mX11_shaped).1 ∈ fwTb := tw_5 tq_5_14.2.2.2.2.1 rfl
theorem ml_L_190 : Cond.methodLink RL 190 (mX11_spoil).1 ∈ fwTb := tw_5 tq_5_15.1 rfl
theorem ml_X11_290 : Cond.methodLink RX11 290 (mX7_spoilCell).1 ∈ fwTb := tw_5 tq_5_15.2.2.2.2.1 rfl
theorem ml_X7_108 : Cond.methodLink RX7 108 (mX1_stayOf).1 ∈ fwTb := tw_5 tq_5_16.1 rfl
theorem ml_L_194 : Cond.methodLink RL 194 (mX11_course).1 ∈ fwTb := tw_5 tq_5_16.2.1 rfl
theorem ml_X11_293 : Cond.methodLink RX11 293 (mX11_isLaw).1 ∈ fwTb := tw_5 tq_5_16.2.2.2.2.2.1 rfl
theorem ml_X11_296 : Cond.methodLink RX11 296 (mX0_followLaw).1 ∈ fwTb := tw_5 tq_5_17.2.1 rfl
theorem ml_X0_55 : Cond.methodLink RX0 55 (mX0_namesOnTrial).1 ∈ fwTb := tw_5 tq_5_17.2.2.2.2.2.1 rfl
theorem ml_X0_44 : Cond.methodLink RX0 44 (mX3_gainersBy).1 ∈ fwTb := tw_5 tq_5_18.2.1 rfl
theorem ml_X0_47 : Cond.methodLink RX0 47 (mX3_signersOf).1 ∈ fwTb := tw_5 tq_5_18.2.2.1 rfl
theorem ml_X0_51 : Cond.methodLink RX0 51 (mX3_namesOf).1 ∈ fwTb := tw_5 tq_5_18.2.2.2.1 rfl
theorem ml_L_198 : Cond.methodLink RL 198 (mX11_ends).1 ∈ fwTb := tw_5 tq_5_18.2.2.2.2.1 rfl
theorem ml_L_202 : Cond.methodLink RL 202 (mX11_left).1 ∈ fwTb := tw_5 tq_5_19.1 rfl
theorem ml_L_206 : Cond.methodLink RL 206 (mX11_law).1 ∈ fwTb := tw_5 tq_5_19.2.2.2.2.1 rfl
theorem ml_X11_299 : Cond.methodLink RX11 299 (mX0_greatestLaw).1 ∈ fwTb := tw_5 tq_5_20.1 rfl
theorem ml_X0_59 : Cond.methodLink RX0 59 (mJ9_min_7cf53).1 ∈ fwTb := tw_5 tq_5_20.2.2.2.2.1 rfl
theorem ml_L_210 : Cond.methodLink RL 210 (mX11_raisers).1 ∈ fwTb := tw_5 tq_5_20.2.2.2.2.2.1 rfl
theorem ml_L_214 : Cond.methodLink RL 214 (mX11_old).1 ∈ fwTb := tw_5 tq_5_21.2.1 rfl
theorem ml_X11_302 : Cond.methodLink RX11 302 (mX6_load).1 ∈ fwTb := tw_5 tq_5_21.2.2.2.2.2.1 rfl
theorem ml_X6_33 : Cond.methodLink RX6 33 (mX8_has).1 ∈ fwTb := tw_5 tq_5_22.2.1 rfl
theorem ml_X6_39 : Cond.methodLink RX6 39 (mX2_isTold).1 ∈ fwTb := tw_5 tq_5_22.2.2.2.2.2.1 rfl
theorem ml_X6_45 : Cond.methodLink RX6 45 (mX8_isLaid).1 ∈ fwTb := tw_5 tq_5_22.2.2.2.2.2.2.1 rfl
theorem ml_X8_23 : Cond.methodLink RX8 23 (mX8_sizeOf).1 ∈ fwTb := tw_5 tq_5_23.2.2.1 rfl
theorem ml_X6_48 : Cond.methodLink RX6 48 (mX6_isSighting).1 ∈ fwTb := tw_5 tq_5_23.2.2.2.2.2.2.1 rfl
theorem ml_X6_51 : Cond.methodLink RX6 51 (mX8_sizeOf).1 ∈ fwTb := tw_5 tq_5_24.2.2.1 rfl
theorem ml_X6_82 : Cond.methodLink RX6 82 (mX8_numberAt).1 ∈ fwTb := tw_5 tq_5_24.2.2.2.1 rfl
theorem ml_X8_27 : Cond.methodLink RX8 27 (mX8_has).1 ∈ fwTb := tw_5 tq_5_24.2.2.2.2.2.2.2 rfl
theorem ml_X6_65 : Cond.methodLink RX6 65 (mX1_copyFrom).1 ∈ fwTb := tw_5 tq_5_25.2.2.1 rfl
theorem ml_X6_71 : Cond.methodLink RX6 71 (mX1_topCell).1 ∈ fwTb := tw_5 tq_5_25.2.2.2.1 rfl
theorem ml_X6_75 : Cond.methodLink RX6 75 (mX6_countMisses).1 ∈ fwTb := tw_5 tq_5_25.2.2.2.2.1 rfl
theorem ml_X6_93 : Cond.methodLink RX6 93 (mX1_isShaded).1 ∈ fwTb := tw_5 tq_5_26.1 rfl
theorem ml_X6_79 : Cond.methodLink RX6 79 (mX1_change).1 ∈ fwTb := tw_5 tq_5_26.2.1 rfl
theorem ml_L_218 : Cond.methodLink RL 218 (mX11_ask).1 ∈ fwTb := tw_5 tq_5_26.2.2.1 rfl
theorem ml_X11_308 : Cond.methodLink RX11 308 (mX6_hourToMeasure).1 ∈ fwTb := tw_5 tq_5_26.2.2.2.2.2.2.1 rfl
theorem ml_X6_97 : Cond.methodLink RX6 97 (mX6_countShaded).1 ∈ fwTb := tw_5 tq_5_27.2.2.1 rfl
theorem ml_X6_115 : Cond.methodLink RX6 115 (mX1_shadedHours).1 ∈ fwTb := tw_5 tq_5_27.2.2.2.2.2.2.1 rfl
theorem ml_X6_118 : Cond.methodLink RX6 118 (mX6_addShaded).1 ∈ fwTb := tw_5 tq_5_27.2.2.2.2.2.2.2 rfl
theorem ml_X6_101 : Cond.methodLink RX6 101 (mJ6_bitCount_0f7a4).1 ∈ fwTb := tw_5 tq_5_28.2.2.2.1 rfl
theorem ml_X6_109 : Cond.methodLink RX6 109 (mJ9_max_7cf53).1 ∈ fwTb := tw_5 tq_5_28.2.2.2.2.1 rfl
theorem ml_L_222 : Cond.methodLink RL 222 (mX11_leaves).1 ∈ fwTb := tw_5 tq_5_28.2.2.2.2.2.1 rfl
theorem ml_L_226 : Cond.methodLink RL 226 (mX11_doubts).1 ∈ fwTb := tw_5 tq_5_29.2.1 rfl
theorem ml_X11_314 : Cond.methodLink RX11 314 (mX6_doubtful).1 ∈ fwTb := tw_5 tq_5_29.2.2.2.2.2.1 rfl
theorem ml_X6_121 : Cond.methodLink RX6 121 (mX6_isOnlyMiss).1 ∈ fwTb := tw_6 tq_6_0.2.1 rfl
theorem ml_L_230 : Cond.methodLink RL 230 (mX11_stands).1 ∈ fwTb := tw_6 tq_6_0.2.2.2.2.2.1 rfl
theorem ml_X11_317 : Cond.methodLink RX11 317 (mX11_rollRefusal).1 ∈ fwTb := tw_6 tq_6_1.2.1 rfl
theorem ml_X11_353 : Cond.methodLink RX11 353 (mX8_has).1 ∈ fwTb := tw_6 tq_6_1.2.2.2.2.2.1 rfl
theorem ml_X11_357 : Cond.methodLink RX11 357 (mX8_isLaid).1 ∈ fwTb := tw_6 tq_6_1.2.2.2.2.2.2.1 rfl
theorem ml_X11_379 : Cond.methodLink RX11 379 (mX3_isRoll).1 ∈ fwTb := tw_6 tq_6_1.2.2.2.2.2.2.2 rfl
theorem ml_X3_65 : Cond.methodLink RX3 65 (mX8_sizeOf).1 ∈ fwTb := tw_6 tq_6_2.2.2.2.1 rfl
theorem ml_X3_70 : Cond.methodLink RX3 70 (mX8_numberAt).1 ∈ fwTb := tw_6 tq_6_2.2.2.2.2.1 rfl
theorem ml_X11_320 : Cond.methodLink RX11 320 (mX3_standing).1 ∈ fwTb := tw_6 tq_6_2.2.2.2.2.2.2.1 rfl
theorem ml_X3_76 : Cond.methodLink RX3 76 (mX3_howStands).1 ∈ fwTb := tw_6 tq_6_3.2.2.1 rfl
theorem ml_L_234 : Cond.methodLink RL 234 (mX11_struck).1 ∈ fwTb := tw_6 tq_6_3.2.2.2.2.2.2.1 rfl
theorem ml_L_238 : Cond.methodLink RL 238 (mX11_drawn).1 ∈ fwTb := tw_6 tq_6_4.2.2.1 rfl
theorem ml_X11_324 : Cond.methodLink RX11 324 (mX11_isDraw).1 ∈ fwTb := tw_6 tq_6_4.2.2.2.2.2.2.1 rfl
theorem ml_X11_327 : Cond.methodLink RX11 327 (mX0_drawMonths).1 ∈ fwTb := tw_6 tq_6_5.2.2.2.1 rfl
theorem ml_X0_76 : Cond.methodLink RX0 76 (mX2_isEnough).1 ∈ fwTb := tw_6 tq_6_6.2.2.2.1 rfl
theorem ml_X0_83 : Cond.methodLink RX0 83 (mX1_stayOf).1 ∈ fwTb := tw_6 tq_6_6.2.2.2.2.1 rfl
theorem ml_X0_86 : Cond.methodLink RX0 86 (mX1_change).1 ∈ fwTb := tw_6 tq_6_6.2.2.2.2.2.1 rfl
theorem ml_L_242 : Cond.methodLink RL 242 (mX11_luck).1 ∈ fwTb := tw_6 tq_6_6.2.2.2.2.2.2.1 rfl
theorem ml_L_246 : Cond.methodLink RL 246 (mX11_tell).1 ∈ fwTb := tw_6 tq_6_7.2.2.1 rfl
theorem ml_L_250 : Cond.methodLink RL 250 (mX11_likes).1 ∈ fwTb := tw_6 tq_6_7.2.2.2.2.2.2.1 rfl
theorem ml_X11_333 : Cond.methodLink RX11 333 (mX3_setFact).1 ∈ fwTb := tw_6 tq_6_8.2.2.1 rfl
theorem ml_L_254 : Cond.methodLink RL 254 (mX11_count).1 ∈ fwTb := tw_6 tq_6_8.2.2.2.1 rfl
theorem ml_X11_350 : Cond.methodLink RX11 350 (mX8_rows).1 ∈ fwTb := tw_6 tq_6_8.2.2.2.2.2.2.2 rfl
theorem ml_X8_31 : Cond.methodLink RX8 31 (mX8_isLaid).1 ∈ fwTb := tw_6 tq_6_9.2.2.2.1 rfl
theorem ml_L_258 : Cond.methodLink RL 258 (mX11_image).1 ∈ fwTb := tw_6 tq_6_9.2.2.2.2.1 rfl
theorem ml_L_262 : Cond.methodLink RL 262 (mX11_back).1 ∈ fwTb := tw_6 tq_6_10.1 rfl
theorem ml_L_266 : Cond.methodLink RL 266 (mX11_row).1 ∈ fwTb := tw_6 tq_6_10.2.2.2.2.1 rfl
theorem ml_X11_354 : Cond.methodLink RX11 354 (mX8_lay).1 ∈ fwTb := tw_6 tq_6_11.1 rfl
theorem ml_L_272 : Cond.methodLink RL 272 (mX11_write).1 ∈ fwTb := tw_6 tq_6_11.2.2.2.2.1 rfl
theorem ml_X11_360 : Cond.methodLink RX11 360 (mX8_sizeOf).1 ∈ fwTb := tw_6 tq_6_12.1 rfl
theorem ml_X11_363 : Cond.methodLink RX11 363 (mX8_put).1 ∈ fwTb := tw_6 tq_6_12.2.1 rfl
theorem ml_X8_34 : Cond.methodLink RX8 34 (mX8_cut).1 ∈ fwTb := tw_6 tq_6_12.2.2.2.2.2.1 rfl
theorem ml_L_277 : Cond.methodLink RL 277 (mX11_paste).1 ∈ fwTb := tw_6 tq_6_13.1 rfl
theorem ml_X11_367 : Cond.methodLink RX11 367 (mX8_widthOf).1 ∈ fwTb := tw_6 tq_6_13.2.2.2.2.1 rfl
theorem ml_X11_370 : Cond.methodLink RX11 370 (mX8_spans).1 ∈ fwTb := tw_6 tq_6_14.1 rfl
theorem ml_X11_374 : Cond.methodLink RX11 374 (mX8_move).1 ∈ fwTb := tw_6 tq_6_14.2.2.2.2.1 rfl
theorem ml_X8_38 : Cond.methodLink RX8 38 (mX8_spans).1 ∈ fwTb := tw_6 tq_6_15.1 rfl
theorem ml_L_261 : Cond.methodLink RL 261 (mX12_image).1 ∈ fwTb := tw_6 tq_6_26.2.1 rfl
theorem ml_X12_65 : Cond.methodLink RX12 65 (mX12_in).1 ∈ fwTb := tw_6 tq_6_26.2.2.2.2.2.2.1 rfl
theorem ml_L_265 : Cond.methodLink RL 265 (mX12_back).1 ∈ fwTb := tw_6 tq_6_27.2.1 rfl
theorem ml_L_17 : Cond.methodLink RL 17 (mX12_feed).1 ∈ fwTb := tw_6 tq_6_27.2.2.2.2.2.1 rfl
theorem ml_L_22 : Cond.methodLink RL 22 (mX12_end).1 ∈ fwTb := tw_6 tq_6_28.2.1 rfl
theorem ml_L_31 : Cond.methodLink RL 31 (mX12_fault).1 ∈ fwTb := tw_6 tq_6_28.2.2.2.2.2.1 rfl
theorem ml_L_27 : Cond.methodLink RL 27 (mX12_mount).1 ∈ fwTb := tw_6 tq_6_29.2.1 rfl
theorem ml_X12_137 : Cond.methodLink RX12 137 (mX12_advance).1 ∈ fwTb := tw_6 tq_6_29.2.2.2.2.2.1 rfl
theorem ml_X12_90 : Cond.methodLink RX12 90 (mX12_see).1 ∈ fwTb := tw_7 tq_7_0.2.1 rfl
theorem ml_X12_112 : Cond.methodLink RX12 112 (mJ9_min_7cf53).1 ∈ fwTb := tw_7 tq_7_1.2.2.1 rfl
theorem ml_X12_121 : Cond.methodLink RX12 121 (mX12_good).1 ∈ fwTb := tw_7 tq_7_1.2.2.2.1 rfl
theorem ml_X12_188 : Cond.methodLink RX12 188 (mX12_readFirst).1 ∈ fwTb := tw_7 tq_7_1.2.2.2.2.2.2.2 rfl
theorem ml_X12_147 : Cond.methodLink RX12 147 (mX12_needs).1 ∈ fwTb := tw_7 tq_7_2.2.2.2.2.1 rfl
theorem ml_X12_140 : Cond.methodLink RX12 140 (mX12_takes).1 ∈ fwTb := tw_7 tq_7_3.1 rfl
theorem ml_X12_133 : Cond.methodLink RX12 133 (mX12_is).1 ∈ fwTb := tw_7 tq_7_3.2.2.2.2.1 rfl
theorem ml_X12_124 : Cond.methodLink RX12 124 (mJ0_length_8abf5).1 ∈ fwTb := tw_7 tq_7_4.1 rfl
theorem ml_X12_129 : Cond.methodLink RX12 129 (mJ0_charAt_5068e).1 ∈ fwTb := tw_7 tq_7_4.2.1 rfl
theorem ml_X12_143 : Cond.methodLink RX12 143 (mX12_errs).1 ∈ fwTb := tw_7 tq_7_4.2.2.1 rfl
theorem ml_X12_151 : Cond.methodLink RX12 151 (mX12_number).1 ∈ fwTb := tw_7 tq_7_4.2.2.2.2.2.2.2 rfl
theorem ml_X12_160 : Cond.methodLink RX12 160 (mX12_told).1 ∈ fwTb := tw_7 tq_7_5.2.2.2.2.1 rfl
theorem ml_X12_191 : Cond.methodLink RX12 191 (mX12_readNext).1 ∈ fwTb := tw_7 tq_7_6.2.2.2.2.1 rfl
theorem ml_X12_185 : Cond.methodLink RX12 185 (mX12_readFolk).1 ∈ fwTb := tw_7 tq_7_7.2.2.1 rfl
theorem ml_L_36 : Cond.methodLink RL 36 (mX12_folk).1 ∈ fwTb := tw_7 tq_7_8.2.2.2.1 rfl
theorem ml_X12_235 : Cond.methodLink RX12 235 (mX12_isFolk).1 ∈ fwTb := tw_7 tq_7_8.2.2.2.2.2.2.2 rfl
theorem ml_X12_220 : Cond.methodLink RX12 220 (mX12_of).1 ∈ fwTb := tw_7 tq_7_9.2.2.2.2.1 rfl
theorem ml_L_40 : Cond.methodLink RL 40 (mX12_height).1 ∈ fwTb := tw_7 tq_7_10.1 rfl
theorem ml_X12_203 : Cond.methodLink RX12 203 (mX12_isCell).1 ∈ fwTb := tw_7 tq_7_10.2.2.2.2.1 rfl
theorem ml_X12_240 : Cond.methodLink RX12 240 (mX12_asItIs).1 ∈ fwTb := tw_7 tq_7_11.1 rfl
theorem ml_X12_194 : Cond.methodLink RX12 194 (mX12_take0).1 ∈ fwTb := tw_7 tq_7_11.2.2.2.2.1 rfl
theorem ml_X12_200 : Cond.methodLink RX12 200 (mX12_topCell).1 ∈ fwTb := tw_7 tq_7_12.1 rfl
theorem ml_X12_197 : Cond.methodLink RX12 197 (mX12_heap0).1 ∈ fwTb := tw_7 tq_7_12.2.2.2.2.1 rfl
theorem ml_X12_211 : Cond.methodLink RX12 211 (mX12_slideOf).1 ∈ fwTb := tw_7 tq_7_13.1 rfl
theorem ml_X12_207 : Cond.methodLink RX12 207 (mX12_falls).1 ∈ fwTb := tw_7 tq_7_13.2.2.2.2.1 rfl
theorem ml_L_44 : Cond.methodLink RL 44 (mX12_shade).1 ∈ fwTb := tw_7 tq_7_14.1 rfl
theorem ml_X12_243 : Cond.methodLink RX12 243 (mX12_isHour).1 ∈ fwTb := tw_7 tq_7_14.2.2.2.2.1 rfl
theorem ml_X12_217 : Cond.methodLink RX12 217 (mX12_isDark).1 ∈ fwTb := tw_7 tq_7_15.2.1 rfl
theorem ml_X12_214 : Cond.methodLink RX12 214 (mJ9_abs_0f7a4).1 ∈ fwTb := tw_7 tq_7_15.2.2.2.2.2.1 rfl
theorem ml_L_48 : Cond.methodLink RL 48 (mX12_light).1 ∈ fwTb := tw_7 tq_7_16.1 rfl
theorem ml_X12_223 : Cond.methodLink RX12 223 (mX12_lightOf).1 ∈ fwTb := tw_7 tq_7_16.2.2.2.2.1 rfl
theorem ml_L_52 : Cond.methodLink RL 52 (mX12_dark).1 ∈ fwTb := tw_7 tq_7_17.1 rfl
theorem ml_X12_73 : Cond.methodLink RX12 73 (mX12_isMount).1 ∈ fwTb := tw_7 tq_7_17.2.2.2.2.1 rfl
theorem ml_L_56 : Cond.methodLink RL 56 (mX12_snow).1 ∈ fwTb := tw_7 tq_7_18.1 rfl
theorem ml_X12_226 : Cond.methodLink RX12 226 (mX12_snowSet).1 ∈ fwTb := tw_7 tq_7_18.2.2.2.2.1 rfl
theorem ml_L_60 : Cond.methodLink RL 60 (mX12_top).1 ∈ fwTb := tw_7 tq_7_19.1 rfl
theorem ml_L_64 : Cond.methodLink RL 64 (mX12_gain).1 ∈ fwTb := tw_7 tq_7_19.2.2.2.2.1 rfl
theorem ml_X12_232 : Cond.methodLink RX12 232 (mX12_gainOf).1 ∈ fwTb := tw_7 tq_7_20.1 rfl
theorem ml_X12_229 : Cond.methodLink RX12 229 (mX12_bits).1 ∈ fwTb := tw_7 tq_7_20.2.2.2.2.1 rfl
theorem ml_L_68 : Cond.methodLink RL 68 (mX12_hopes).1 ∈ fwTb := tw_7 tq_7_20.2.2.2.2.2.2.2 rfl
theorem ml_X12_248 : Cond.methodLink RX12 248 (mX12_hopesOf).1 ∈ fwTb := tw_7 tq_7_21.2.2.2.2.1 rfl
theorem ml_L_72 : Cond.methodLink RL 72 (mX12_wishes).1 ∈ fwTb := tw_7 tq_7_22.1 rfl
theorem ml_L_76 : Cond.methodLink RL 76 (mX12_gains).1 ∈ fwTb := tw_7 tq_7_22.2.2.2.2.1 rfl
theorem ml_X12_251 : Cond.methodLink RX12 251 (mX12_gainOfAll).1 ∈ fwTb := tw_7 tq_7_23.1 rfl
theorem ml_L_80 : Cond.methodLink RL 80 (mX12_take).1 ∈ fwTb := tw_7 tq_7_23.2.2.2.2.1 rfl
theorem ml_X12_254 : Cond.methodLink RX12 254 (mX12_keepAct).1 ∈ fwTb := tw_7 tq_7_24.1 rfl
theorem ml_L_84 : Cond.methodLink RL 84 (mX12_heap).1 ∈ fwTb := tw_7 tq_7_24.2.2.2.2.1 rfl
theorem ml_L_88 : Cond.methodLink RL 88 (mX12_slides).1 ∈ fwTb := tw_7 tq_7_25.1 rfl
theorem ml_L_92 : Cond.methodLink RL 92 (mX12_undo).1 ∈ fwTb := tw_7 tq_7_25.2.2.2.2.1 rfl
theorem ml_L_96 : Cond.methodLink RL 96 (mX12_anew).1 ∈ fwTb := tw_7 tq_7_26.1 rfl
theorem ml_L_100 : Cond.methodLink RL 100 (mX12_willing).1 ∈ fwTb := tw_7 tq_7_26.2.2.2.2.1 rfl
theorem ml_X12_263 : Cond.methodLink RX12 263 (mX12_willingSet).1 ∈ fwTb := tw_7 tq_7_27.1 rfl
theorem ml_L_104 : Cond.methodLink RL 104 (mX12_signers).1 ∈ fwTb := tw_7 tq_7_27.2.2.2.2.1 rfl
theorem ml_X12_266 : Cond.methodLink RX12 266 (mX12_isSet).1 ∈ fwTb := tw_7 tq_7_28.1 rfl
theorem ml_X12_77 : Cond.methodLink RX12 77 (mX12_all).1 ∈ fwTb := tw_7 tq_7_28.2.2.2.2.1 rfl
theorem ml_X12_270 : Cond.methodLink RX12 270 (mX12_signing).1 ∈ fwTb := tw_7 tq_7_29.1 rfl
theorem ml_X12_257 : Cond.methodLink RX12 257 (mX12_bit).1 ∈ fwTb := tw_7 tq_7_29.2.2.2.2.1 rfl
theorem ml_L_108 : Cond.methodLink RL 108 (mX12_names).1 ∈ fwTb := tw_7 tq_7_29.2.2.2.2.2.2.2 rfl
theorem ml_X12_260 : Cond.methodLink RX12 260 (mX12_namesOf).1 ∈ fwTb := tw_8 tq_8_0.2.2.2.1 rfl
theorem ml_L_112 : Cond.methodLink RL 112 (mX12_first).1 ∈ fwTb := tw_8 tq_8_0.2.2.2.2.2.2.2 rfl
theorem ml_X12_276 : Cond.methodLink RX12 276 (mX12_firstSet).1 ∈ fwTb := tw_8 tq_8_1.2.2.2.1 rfl
theorem ml_X12_273 : Cond.methodLink RX12 273 (mX12_isEnough).1 ∈ fwTb := tw_8 tq_8_1.2.2.2.2.2.2.2 rfl
theorem ml_L_116 : Cond.methodLink RL 116 (mX12_firsts).1 ∈ fwTb := tw_8 tq_8_2.2.2.2.1 rfl
theorem ml_L_120 : Cond.methodLink RL 120 (mX12_next).1 ∈ fwTb := tw_8 tq_8_2.2.2.2.2.2.2.2 rfl
theorem ml_L_124 : Cond.methodLink RL 124 (mX12_needed).1 ∈ fwTb := tw_8 tq_8_3.2.2.2.1 rfl
theorem ml_L_128 : Cond.methodLink RL 128 (mX12_play).1 ∈ fwTb := tw_8 tq_8_3.2.2.2.2.2.2.2 rfl
theorem ml_X12_291 : Cond.methodLink RX12 291 (mX12_playBy).1 ∈ fwTb := tw_8 tq_8_4.2.2.2.2.1 rfl
theorem ml_X12_282 : Cond.methodLink RX12 282 (mX12_pair).1 ∈ fwTb := tw_8 tq_8_5.1 rfl
theorem ml_X12_285 : Cond.methodLink RX12 285 (mX12_endBy).1 ∈ fwTb := tw_8 tq_8_5.2.2.2.1 rfl
theorem ml_X12_279 : Cond.methodLink RX12 279 (mX12_isWinners).1 ∈ fwTb := tw_8 tq_8_5.2.2.2.2.2.2.2 rfl
theorem ml_L_132 : Cond.methodLink RL 132 (mX12_moves).1 ∈ fwTb := tw_8 tq_8_6.2.2.1 rfl
theorem ml_L_136 : Cond.methodLink RL 136 (mX12_round).1 ∈ fwTb := tw_8 tq_8_6.2.2.2.2.2.2.1 rfl
theorem ml_X12_311 : Cond.methodLink RX12 311 (mX12_isRound).1 ∈ fwTb := tw_8 tq_8_7.2.2.1 rfl
theorem ml_X12_314 : Cond.methodLink RX12 314 (mX12_roundOf).1 ∈ fwTb := tw_8 tq_8_7.2.2.2.2.2.2.2 rfl
theorem ml_X12_295 : Cond.methodLink RX12 295 (mX12_steps).1 ∈ fwTb := tw_8 tq_8_8.2.2.2.2.1 rfl
theorem ml_X12_299 : Cond.methodLink RX12 299 (mX12_namesOn).1 ∈ fwTb := tw_8 tq_8_8.2.2.2.2.2.2.2 rfl
theorem ml_L_141 : Cond.methodLink RL 141 (mX12_goes).1 ∈ fwTb := tw_8 tq_8_9.2.2.2.1 rfl
theorem ml_L_145 : Cond.methodLink RL 145 (mX12_two).1 ∈ fwTb := tw_8 tq_8_9.2.2.2.2.2.2.2 rfl
theorem ml_X12_317 : Cond.methodLink RX12 317 (mJ9_max_7cf53).1 ∈ fwTb := tw_8 tq_8_10.2.2.2.1 rfl
theorem ml_L_149 : Cond.methodLink RL 149 (mX12_flows).1 ∈ fwTb := tw_8 tq_8_10.2.2.2.2.1 rfl
theorem ml_X12_323 : Cond.methodLink RX12 323 (mX12_flowOf).1 ∈ fwTb := tw_8 tq_8_11.1 rfl
theorem ml_X12_320 : Cond.methodLink RX12 320 (mX12_isLower).1 ∈ fwTb := tw_8 tq_8_11.2.2.2.2.1 rfl
theorem ml_L_153 : Cond.methodLink RL 153 (mX12_basin).1 ∈ fwTb := tw_8 tq_8_12.1 rfl
theorem ml_L_157 : Cond.methodLink RL 157 (mX12_cliffs).1 ∈ fwTb := tw_8 tq_8_12.2.2.2.2.1 rfl
theorem ml_L_161 : Cond.methodLink RL 161 (mX12_springs).1 ∈ fwTb := tw_8 tq_8_13.1 rfl
theorem ml_L_165 : Cond.methodLink RL 165 (mX12_sees).1 ∈ fwTb := tw_8 tq_8_13.2.2.2.2.1 rfl
theorem ml_X12_329 : Cond.methodLink RX12 329 (mX12_seenFrom).1 ∈ fwTb := tw_8 tq_8_14.1 rfl
theorem ml_X12_326 : Cond.methodLink RX12 326 (mX12_isSeen).1 ∈ fwTb := tw_8 tq_8_14.2.2.2.2.1 rfl
theorem ml_L_169 : Cond.methodLink RL 169 (mX12_lookout).1 ∈ fwTb := tw_8 tq_8_15.1 rfl
theorem ml_L_173 : Cond.methodLink RL 173 (mX12_votes).1 ∈ fwTb := tw_8 tq_8_15.2.2.2.2.1 rfl
theorem ml_X12_332 : Cond.methodLink RX12 332 (mX12_votesFor).1 ∈ fwTb := tw_8 tq_8_16.1 rfl
theorem ml_L_177 : Cond.methodLink RL 177 (mX12_elected).1 ∈ fwTb := tw_8 tq_8_16.2.2.2.2.1 rfl
theorem ml_L_181 : Cond.methodLink RL 181 (mX12_best).1 ∈ fwTb := tw_8 tq_8_17.1 rfl
theorem ml_L_185 : Cond.methodLink RL 185 (mX12_shape).1 ∈ fwTb := tw_8 tq_8_17.2.2.2.2.2.1 rfl
theorem ml_X12_344 : Cond.methodLink RX12 344 (mX12_shapeOf).1 ∈ fwTb := tw_8 tq_8_18.2.2.1 rfl
theorem ml_X12_336 : Cond.methodLink RX12 336 (mX12_takeRow).1 ∈ fwTb := tw_8 tq_8_18.2.2.2.2.2.2.1 rfl
theorem ml_X12_339 : Cond.methodLink RX12 339 (mX12_nextRow).1 ∈ fwTb := tw_8 tq_8_19.2.2.1 rfl
theorem ml_L_189 : Cond.methodLink RL 189 (mX12_shaped).1 ∈ fwTb := tw_8 tq_8_19.2.2.2.2.2.2.1 rfl
theorem ml_L_193 : Cond.methodLink RL 193 (mX12_spoil).1 ∈ fwTb := tw_8 tq_8_20.2.2.1 rfl
theorem ml_L_213 : Cond.methodLink RL 213 (mX12_raisers).1 ∈ fwTb := tw_8 tq_8_20.2.2.2.2.2.2.1 rfl
theorem ml_L_197 : Cond.methodLink RL 197 (mX12_course).1 ∈ fwTb := tw_8 tq_8_21.2.2.1 rfl
theorem ml_X12_349 : Cond.methodLink RX12 349 (mX12_isLaw).1 ∈ fwTb := tw_8 tq_8_21.2.2.2.2.2.2.1 rfl
theorem ml_X12_352 : Cond.methodLink RX12 352 (mX12_goCourse).1 ∈ fwTb := tw_8 tq_8_22.2.2.2.1 rfl
theorem ml_L_201 : Cond.methodLink RL 201 (mX12_ends).1 ∈ fwTb := tw_8 tq_8_22.2.2.2.2.2.2.2 rfl
theorem ml_L_205 : Cond.methodLink RL 205 (mX12_left).1 ∈ fwTb := tw_8 tq_8_23.2.2.2.1 rfl
theorem ml_L_209 : Cond.methodLink RL 209 (mX12_law).1 ∈ fwTb := tw_8 tq_8_23.2.2.2.2.2.2.2 rfl
theorem ml_L_217 : Cond.methodLink RL 217 (mX12_old).1 ∈ fwTb := tw_8 tq_8_24.2.2.2.2.1 rfl
theorem ml_X12_368 : Cond.methodLink RX12 368 (mX12_asksOld).1 ∈ fwTb := tw_8 tq_8_25.1 rfl
theorem ml_X12_357 : Cond.methodLink RX12 357 (mX12_isSlot).1 ∈ fwTb := tw_8 tq_8_25.2.2.2.2.1 rfl
theorem ml_X12_360 : Cond.methodLink RX12 360 (mX12_numberAt).1 ∈ fwTb := tw_8 tq_8_25.2.2.2.2.2.2.2 rfl
theorem ml_X12_371 : Cond.methodLink RX12 371 (mX12_oldBy).1 ∈ fwTb := tw_8 tq_8_26.2.2.2.1 rfl
theorem ml_X12_364 : Cond.methodLink RX12 364 (mX12_wasDark).1 ∈ fwTb := tw_8 tq_8_26.2.2.2.2.2.2.2 rfl
theorem ml_L_221 : Cond.methodLink RL 221 (mX12_ask).1 ∈ fwTb := tw_8 tq_8_27.2.2.2.1 rfl
theorem ml_X12_377 : Cond.methodLink RX12 377 (mX12_askOf).1 ∈ fwTb := tw_8 tq_8_27.2.2.2.2.2.2.2 rfl
theorem ml_L_225 : Cond.methodLink RL 225 (mX12_leaves).1 ∈ fwTb := tw_8 tq_8_28.2.2.2.1 rfl
theorem ml_L_229 : Cond.methodLink RL 229 (mX12_doubts).1 ∈ fwTb := tw_8 tq_8_28.2.2.2.2.2.2.2 rfl
theorem ml_L_233 : Cond.methodLink RL 233 (mX12_stands).1 ∈ fwTb := tw_8 tq_8_29.2.2.2.1 rfl
theorem ml_X12_380 : Cond.methodLink RX12 380 (mX12_asksNames).1 ∈ fwTb := tw_8 tq_8_29.2.2.2.2.2.2.2 rfl
theorem ml_X12_384 : Cond.methodLink RX12 384 (mX12_hasName).1 ∈ fwTb := tw_9 tq_9_0.2.2.2.1 rfl
theorem ml_X12_387 : Cond.methodLink RX12 387 (mX12_isThere).1 ∈ fwTb := tw_9 tq_9_0.2.2.2.2.2.2.2 rfl
theorem ml_L_237 : Cond.methodLink RL 237 (mX12_struck).1 ∈ fwTb := tw_9 tq_9_1.2.2.2.1 rfl
theorem ml_L_241 : Cond.methodLink RL 241 (mX12_drawn).1 ∈ fwTb := tw_9 tq_9_1.2.2.2.2.2.2.2 rfl
theorem ml_X12_400 : Cond.methodLink RX12 400 (mX12_areMonths).1 ∈ fwTb := tw_9 tq_9_2.2.2.2.1 rfl
theorem ml_X12_403 : Cond.methodLink RX12 403 (mX12_goMonths).1 ∈ fwTb := tw_9 tq_9_3.1 rfl
theorem ml_L_245 : Cond.methodLink RL 245 (mX12_luck).1 ∈ fwTb := tw_9 tq_9_4.1 rfl
theorem ml_L_249 : Cond.methodLink RL 249 (mX12_tell).1 ∈ fwTb := tw_9 tq_9_4.2.2.2.2.1 rfl
theorem ml_L_253 : Cond.methodLink RL 253 (mX12_likes).1 ∈ fwTb := tw_9 tq_9_5.1 rfl
theorem ml_L_257 : Cond.methodLink RL 257 (mX12_count).1 ∈ fwTb := tw_9 tq_9_5.2.2.2.2.1 rfl
theorem ml_L_269 : Cond.methodLink RL 269 (mX12_row).1 ∈ fwTb := tw_9 tq_9_6.1 rfl
theorem ml_L_276 : Cond.methodLink RL 276 (mX12_write).1 ∈ fwTb := tw_9 tq_9_6.2.2.2.2.1 rfl
theorem ml_X12_407 : Cond.methodLink RX12 407 (mX12_cut).1 ∈ fwTb := tw_9 tq_9_7.1 rfl
theorem ml_L_280 : Cond.methodLink RL 280 (mX12_paste).1 ∈ fwTb := tw_9 tq_9_7.2.2.2.1 rfl
theorem fl_X9_9 : fwFL RX9 9 1 0 := ⟨9, (RX9, TX9, 6), rfl, rfl, by decide, Or.inl (tw_1 tq_1_4.2.2.2.1 rfl)⟩
theorem fl_X9_25 : fwFL RX9 25 1 1 := ⟨9, (RX9, TX9, 6), rfl, rfl, by decide, Or.inl (tw_1 tq_1_4.2.2.2.2.1 rfl)⟩
theorem fl_X11_103 : fwFL RX11 103 1 1 := ⟨9, (RX9, TX9, 6), rfl, rfl, by decide, Or.inr (fw_in_1 tq_1_4.2.2.2.2.2.1)⟩
theorem fl_X9_15 : fwFL RX9 15 1 2 := ⟨9, (RX9, TX9, 6), rfl, rfl, by decide, Or.inl (tw_1 tq_1_4.2.2.2.2.2.2.1 rfl)⟩
theorem fl_X5_56 : fwFL RX5 56 1 2 := ⟨9, (RX9, TX9, 6), rfl, rfl, by decide, Or.inr (fw_in_1 tq_1_4.2.2.2.2.2.2.2)⟩
theorem fl_X9_19 : fwFL RX9 19 1 3 := ⟨9, (RX9, TX9, 6), rfl, rfl, by decide, Or.inl (tw_1 tq_1_5.1 rfl)⟩
theorem fl_X5_60 : fwFL RX5 60 1 3 := ⟨9, (RX9, TX9, 6), rfl, rfl, by decide, Or.inr (fw_in_1 tq_1_5.2.1)⟩
theorem fl_X9_22 : fwFL RX9 22 1 4 := ⟨9, (RX9, TX9, 6), rfl, rfl, by decide, Or.inl (tw_1 tq_1_5.2.2.1 rfl)⟩
theorem fl_X5_66 : fwFL RX5 66 1 4 := ⟨9, (RX9, TX9, 6), rfl, rfl, by decide, Or.inr (fw_in_1 tq_1_5.2.2.2.1)⟩
theorem fl_X5_53 : fwFL RX5 53 1 5 := ⟨9, (RX9, TX9, 6), rfl, rfl, by decide, Or.inr (fw_in_1 tq_1_5.2.2.2.2.1)⟩
theorem fl_X9_29 : fwFL RX9 29 1 5 := ⟨9, (RX9, TX9, 6), rfl, rfl, by decide, Or.inl (tw_1 tq_1_5.2.2.2.2.2.1 rfl)⟩
theorem fl_X1_9 : fwFL RX1 9 4 0 := ⟨1, (RX1, TX1, 5), rfl, rfl, by decide, Or.inl (tw_1 tq_1_9.2.2.2.2.2.2.2 rfl)⟩
theorem fl_X1_15 : fwFL RX1 15 4 1 := ⟨1, (RX1, TX1, 5), rfl, rfl, by decide, Or.inl (tw_1 tq_1_10.1 rfl)⟩
theorem fl_X7_40 : fwFL RX7 40 4 1 := ⟨1, (RX1, TX1, 5), rfl, rfl, by decide, Or.inr (fw_in_1 tq_1_10.2.1)⟩
theorem fl_X6_86 : fwFL RX6 86 4 1 := ⟨1, (RX1, TX1, 5), rfl, rfl, by decide, Or.inr (fw_in_1 tq_1_10.2.2.1)⟩
theorem fl_X10_57 : fwFL RX10 57 4 1 := ⟨1, (RX1, TX1, 5), rfl, rfl, by decide, Or.inr (fw_in_1 tq_1_10.2.2.2.1)⟩
theorem fl_X5_123 : fwFL RX5 123 4 1 := ⟨1, (RX1, TX1, 5), rfl, rfl, by decide, Or.inr (fw_in_1 tq_1_10.2.2.2.2.1)⟩
theorem fl_X11_337 : fwFL RX11 337 4 1 := ⟨1, (RX1, TX1, 5), rfl, rfl, by decide, Or.inr (fw_in_1 tq_1_10.2.2.2.2.2.1)⟩
theorem fl_X1_19 : fwFL RX1 19 4 2 := ⟨1, (RX1, TX1, 5), rfl, rfl, by decide, Or.inl (tw_1 tq_1_10.2.2.2.2.2.2.1 rfl)⟩
theorem fl_X5_104 : fwFL RX5 104 4 2 := ⟨1, (RX1, TX1, 5), rfl, rfl, by decide, Or.inr (fw_in_1 tq_1_10.2.2.2.2.2.2.2)⟩
theorem fl_X11_341 : fwFL RX11 341 4 2 := ⟨1, (RX1, TX1, 5), rfl, rfl, by decide, Or.inr (fw_in_1 tq_1_11.1)⟩
theorem fl_X1_22 : fwFL RX1 22 4 3 := ⟨1, (RX1, TX1, 5), rfl, rfl, by decide, Or.inl (tw_1 tq_1_11.2.1 rfl)⟩
theorem fl_X5_109 : fwFL RX5 109 4 3 := ⟨1, (RX1, TX1, 5), rfl, rfl, by decide, Or.inr (fw_in_1 tq_1_11.2.2.1)⟩
theorem fl_X11_344 : fwFL RX11 344 4 3 := ⟨1, (RX1, TX1, 5), rfl, rfl, by decide, Or.inr (fw_in_1 tq_1_11.2.2.2.1)⟩
theorem fl_X1_25 : fwFL RX1 25 4 4 := ⟨1, (RX1, TX1, 5), rfl, rfl, by decide, Or.inl (tw_1 tq_1_11.2.2.2.2.1 rfl)⟩
theorem fl_X5_115 : fwFL RX5 115 4 4 := ⟨1, (RX1, TX1, 5), rfl, rfl, by decide, Or.inr (fw_in_1 tq_1_11.2.2.2.2.2.1)⟩
theorem fl_X3_9 : fwFL RX3 9 5 0 := ⟨3, (RX3, TX3, 4), rfl, rfl, by decide, Or.inl (tw_1 tq_1_13.2.2.2.2.2.2.2 rfl)⟩
theorem fl_X3_15 : fwFL RX3 15 5 1 := ⟨3, (RX3, TX3, 4), rfl, rfl, by decide, Or.inl (tw_1 tq_1_14.1 rfl)⟩
theorem fl_X3_18 : fwFL RX3 18 5 2 := ⟨3, (RX3, TX3, 4), rfl, rfl, by decide, Or.inl (tw_1 tq_1_14.2.1 rfl)⟩
theorem fl_X3_21 : fwFL RX3 21 5 3 := ⟨3, (RX3, TX3, 4), rfl, rfl, by decide, Or.inl (tw_1 tq_1_14.2.2.1 rfl)⟩
theorem fl_X10_35 : fwFL RX10 35 5 3 := ⟨3, (RX3, TX3, 4), rfl, rfl, by decide, Or.inr (fw_in_1 tq_1_14.2.2.2.1)⟩
theorem fl_X4_39 : fwFL RX4 39 5 3 := ⟨3, (RX3, TX3, 4), rfl, rfl, by decide, Or.inr (fw_in_1 tq_1_14.2.2.2.2.1)⟩
theorem fl_X7_62 : fwFL RX7 62 5 3 := ⟨3, (RX3, TX3, 4), rfl, rfl, by decide, Or.inr (fw_in_1 tq_1_14.2.2.2.2.2.1)⟩
theorem fl_X2_57 : fwFL RX2 57 5 3 := ⟨3, (RX3, TX3, 4), rfl, rfl, by decide, Or.inr (fw_in_1 tq_1_14.2.2.2.2.2.2.1)⟩
theorem fl_X0_64 : fwFL RX0 64 5 3 := ⟨3, (RX3, TX3, 4), rfl, rfl, by decide, Or.inr (fw_in_1 tq_1_14.2.2.2.2.2.2.2)⟩
theorem fl_X5_130 : fwFL RX5 130 5 3 := ⟨3, (RX3, TX3, 4), rfl, rfl, by decide, Or.inr (fw_in_1 tq_1_15.1)⟩
theorem fl_X11_340 : fwFL RX11 340 5 3 := ⟨3, (RX3, TX3, 4), rfl, rfl, by decide, Or.inr (fw_in_1 tq_1_15.2.1)⟩
theorem fl_X2_12 : fwFL RX2 12 3 0 := ⟨2, (RX2, TX2, 7), rfl, rfl, by decide, Or.inl (tw_1 tq_1_16.2.2.2.1 rfl)⟩
theorem fl_X0_19 : fwFL RX0 19 3 0 := ⟨2, (RX2, TX2, 7), rfl, rfl, by decide, Or.inr (fw_in_1 tq_1_16.2.2.2.2.1)⟩
theorem fl_X7_29 : fwFL RX7 29 3 0 := ⟨2, (RX2, TX2, 7), rfl, rfl, by decide, Or.inr (fw_in_1 tq_1_16.2.2.2.2.2.1)⟩
theorem fl_X10_25 : fwFL RX10 25 3 0 := ⟨2, (RX2, TX2, 7), rfl, rfl, by decide, Or.inr (fw_in_1 tq_1_16.2.2.2.2.2.2.1)⟩
theorem fl_X4_25 : fwFL RX4 25 3 0 := ⟨2, (RX2, TX2, 7), rfl, rfl, by decide, Or.inr (fw_in_1 tq_1_16.2.2.2.2.2.2.2)⟩
theorem fl_X6_62 : fwFL RX6 62 3 0 := ⟨2, (RX2, TX2, 7), rfl, rfl, by decide, Or.inr (fw_in_1 tq_1_17.1)⟩
theorem fl_X11_139 : fwFL RX11 139 3 0 := ⟨2, (RX2, TX2, 7), rfl, rfl, by decide, Or.inr (fw_in_1 tq_1_17.2.1)⟩
theorem fl_X5_88 : fwFL RX5 88 3 0 := ⟨2, (RX2, TX2, 7), rfl, rfl, by decide, Or.inr (fw_in_1 tq_1_17.2.2.1)⟩
theorem fl_X2_21 : fwFL RX2 21 3 1 := ⟨2, (RX2, TX2, 7), rfl, rfl, by decide, Or.inl (tw_1 tq_1_17.2.2.2.1 rfl)⟩
theorem fl_X4_19 : fwFL RX4 19 3 1 := ⟨2, (RX2, TX2, 7), rfl, rfl, by decide, Or.inr (fw_in_1 tq_1_17.2.2.2.2.1)⟩
theorem fl_X10_19 : fwFL RX10 19 3 1 := ⟨2, (RX2, TX2, 7), rfl, rfl, by decide, Or.inr (fw_in_1 tq_1_17.2.2.2.2.2.1)⟩
theorem fl_X0_34 : fwFL RX0 34 3 1 := ⟨2, (RX2, TX2, 7), rfl, rfl, by decide, Or.inr (fw_in_1 tq_1_17.2.2.2.2.2.2.1)⟩
theorem fl_X7_52 : fwFL RX7 52 3 1 := ⟨2, (RX2, TX2, 7), rfl, rfl, by decide, Or.inr (fw_in_1 tq_1_17.2.2.2.2.2.2.2)⟩
theorem fl_X11_126 : fwFL RX11 126 3 1 := ⟨2, (RX2, TX2, 7), rfl, rfl, by decide, Or.inr (fw_in_1 tq_1_18.1)⟩
theorem fl_X5_126 : fwFL RX5 126 3 1 := ⟨2, (RX2, TX2, 7), rfl, rfl, by decide, Or.inr (fw_in_1 tq_1_18.2.1)⟩
theorem fl_X2_25 : fwFL RX2 25 3 2 := ⟨2, (RX2, TX2, 7), rfl, rfl, by decide, Or.inl (tw_1 tq_1_18.2.2.1 rfl)⟩
theorem fl_X2_33 : fwFL RX2 33 3 3 := ⟨2, (RX2, TX2, 7), rfl, rfl, by decide, Or.inl (tw_1 tq_1_18.2.2.2.1 rfl)⟩
theorem fl_X11_200 : fwFL RX11 200 3 3 := ⟨2, (RX2, TX2, 7), rfl, rfl, by decide, Or.inr (fw_in_1 tq_1_18.2.2.2.2.1)⟩
theorem fl_X2_37 : fwFL RX2 37 3 4 := ⟨2, (RX2, TX2, 7), rfl, rfl, by decide, Or.inl (tw_1 tq_1_18.2.2.2.2.2.1 rfl)⟩
theorem fl_X5_112 : fwFL RX5 112 3 4 := ⟨2, (RX2, TX2, 7), rfl, rfl, by decide, Or.inr (fw_in_1 tq_1_18.2.2.2.2.2.2.1)⟩
theorem fl_X11_330 : fwFL RX11 330 3 4 := ⟨2, (RX2, TX2, 7), rfl, rfl, by decide, Or.inr (fw_in_1 tq_1_18.2.2.2.2.2.2.2)⟩
theorem fl_X2_40 : fwFL RX2 40 3 5 := ⟨2, (RX2, TX2, 7), rfl, rfl, by decide, Or.inl (tw_1 tq_1_19.1 rfl)⟩
theorem fl_X0_80 : fwFL RX0 80 3 5 := ⟨2, (RX2, TX2, 7), rfl, rfl, by decide, Or.inr (fw_in_1 tq_1_19.2.1)⟩
theorem fl_X5_150 : fwFL RX5 150 3 5 := ⟨2, (RX2, TX2, 7), rfl, rfl, by decide, Or.inr (fw_in_1 tq_1_19.2.2.1)⟩
theorem fl_X11_347 : fwFL RX11 347 3 5 := ⟨2, (RX2, TX2, 7), rfl, rfl, by decide, Or.inr (fw_in_1 tq_1_19.2.2.2.1)⟩
theorem fl_X2_43 : fwFL RX2 43 3 6 := ⟨2, (RX2, TX2, 7), rfl, rfl, by decide, Or.inl (tw_1 tq_1_19.2.2.2.2.1 rfl)⟩
theorem fl_X5_50 : fwFL RX5 50 3 6 := ⟨2, (RX2, TX2, 7), rfl, rfl, by decide, Or.inr (fw_in_1 tq_1_19.2.2.2.2.2.1)⟩
theorem fl_X11_117 : fwFL RX11 117 3 6 := ⟨2, (RX2, TX2, 7), rfl, rfl, by decide, Or.inr (fw_in_1 tq_1_19.2.2.2.2.2.2.1)⟩
theorem fl_X5_22 : fwFL RX5 22 2 0 := ⟨5, (RX5, TX5, 8), rfl, rfl, by decide, Or.inl (tw_1 tq_1_21.2.2.2.2.2.2.1 rfl)⟩
theorem fl_X5_12 : fwFL RX5 12 2 1 := ⟨5, (RX5, TX5, 8), rfl, rfl, by decide, Or.inl (tw_1 tq_1_21.2.2.2.2.2.2.2 rfl)⟩
theorem fl_X11_111 : fwFL RX11 111 2 1 := ⟨5, (RX5, TX5, 8), rfl, rfl, by decide, Or.inr (fw_in_1 tq_1_22.1)⟩
theorem fl_X5_37 : fwFL RX5 37 2 2 := ⟨5, (RX5, TX5, 8), rfl, rfl, by decide, Or.inl (tw_1 tq_1_22.2.1 rfl)⟩
theorem fl_X5_43 : fwFL RX5 43 2 3 := ⟨5, (RX5, TX5, 8), rfl, rfl, by decide, Or.inl (tw_1 tq_1_22.2.2.1 rfl)⟩
theorem fl_X5_63 : fwFL RX5 63 2 4 := ⟨5, (RX5, TX5, 8), rfl, rfl, by decide, Or.inl (tw_1 tq_1_22.2.2.2.1 rfl)⟩
theorem fl_X5_69 : fwFL RX5 69 2 5 := ⟨5, (RX5, TX5, 8), rfl, rfl, by decide, Or.inl (tw_1 tq_1_22.2.2.2.2.1 rfl)⟩
theorem fl_X5_34 : fwFL RX5 34 2 6 := ⟨5, (RX5, TX5, 8), rfl, rfl, by decide, Or.inl (tw_1 tq_1_22.2.2.2.2.2.1 rfl)⟩
theorem fl_X11_120 : fwFL RX11 120 2 6 := ⟨5, (RX5, TX5, 8), rfl, rfl, by decide, Or.inr (fw_in_1 tq_1_22.2.2.2.2.2.2.1)⟩
theorem fl_X5_18 : fwFL RX5 18 2 7 := ⟨5, (RX5, TX5, 8), rfl, rfl, by decide, Or.inl (tw_1 tq_1_22.2.2.2.2.2.2.2 rfl)⟩
theorem fl_X11_123 : fwFL RX11 123 2 7 := ⟨5, (RX5, TX5, 8), rfl, rfl, by decide, Or.inr (fw_in_1 tq_1_23.1)⟩
theorem fl_X8_11 : fwFL RX8 11 11 0 := ⟨8, (RX8, TX8, 3), rfl, rfl, by decide, Or.inl (tw_1 tq_1_26.2.2.2.2.2.1 rfl)⟩
theorem fl_X8_16 : fwFL RX8 16 11 1 := ⟨8, (RX8, TX8, 3), rfl, rfl, by decide, Or.inl (tw_1 tq_1_26.2.2.2.2.2.2.1 rfl)⟩
theorem fl_X8_20 : fwFL RX8 20 11 2 := ⟨8, (RX8, TX8, 3), rfl, rfl, by decide, Or.inl (tw_1 tq_1_26.2.2.2.2.2.2.2 rfl)⟩
theorem fl_X4_15 : fwFL RX4 15 6 0 := ⟨4, (RX4, TX4, 5), rfl, rfl, by decide, Or.inl (tw_1 tq_1_29.2.1 rfl)⟩
theorem fl_X4_9 : fwFL RX4 9 6 1 := ⟨4, (RX4, TX4, 5), rfl, rfl, by decide, Or.inl (tw_1 tq_1_29.2.2.1 rfl)⟩
theorem fl_X4_68 : fwFL RX4 68 6 2 := ⟨4, (RX4, TX4, 5), rfl, rfl, by decide, Or.inl (tw_1 tq_1_29.2.2.2.1 rfl)⟩
theorem fl_X4_71 : fwFL RX4 71 6 3 := ⟨4, (RX4, TX4, 5), rfl, rfl, by decide, Or.inl (tw_1 tq_1_29.2.2.2.2.1 rfl)⟩
theorem fl_X4_74 : fwFL RX4 74 6 4 := ⟨4, (RX4, TX4, 5), rfl, rfl, by decide, Or.inl (tw_1 tq_1_29.2.2.2.2.2.1 rfl)⟩
theorem fl_X10_15 : fwFL RX10 15 7 0 := ⟨10, (RX10, TX10, 4), rfl, rfl, by decide, Or.inl (tw_2 tq_2_1.2.2.2.2.2.2.2 rfl)⟩
theorem fl_X10_9 : fwFL RX10 9 7 1 := ⟨10, (RX10, TX10, 4), rfl, rfl, by decide, Or.inl (tw_2 tq_2_2.1 rfl)⟩
theorem fl_X10_66 : fwFL RX10 66 7 2 := ⟨10, (RX10, TX10, 4), rfl, rfl, by decide, Or.inl (tw_2 tq_2_2.2.1 rfl)⟩
theorem fl_X11_244 : fwFL RX11 244 7 2 := ⟨10, (RX10, TX10, 4), rfl, rfl, by decide, Or.inr (fw_in_2 tq_2_2.2.2.1)⟩
theorem fl_X10_69 : fwFL RX10 69 7 3 := ⟨10, (RX10, TX10, 4), rfl, rfl, by decide, Or.inl (tw_2 tq_2_2.2.2.2.1 rfl)⟩
theorem fl_X11_247 : fwFL RX11 247 7 3 := ⟨10, (RX10, TX10, 4), rfl, rfl, by decide, Or.inr (fw_in_2 tq_2_2.2.2.2.2.1)⟩
theorem fl_X7_21 : fwFL RX7 21 8 0 := ⟨7, (RX7, TX7, 7), rfl, rfl, by decide, Or.inl (tw_2 tq_2_4.2.2.2.2.1 rfl)⟩
theorem fl_X7_25 : fwFL RX7 25 8 1 := ⟨7, (RX7, TX7, 7), rfl, rfl, by decide, Or.inl (tw_2 tq_2_4.2.2.2.2.2.1 rfl)⟩
theorem fl_X7_9 : fwFL RX7 9 8 2 := ⟨7, (RX7, TX7, 7), rfl, rfl, by decide, Or.inl (tw_2 tq_2_4.2.2.2.2.2.2.1 rfl)⟩
theorem fl_X7_15 : fwFL RX7 15 8 3 := ⟨7, (RX7, TX7, 7), rfl, rfl, by decide, Or.inl (tw_2 tq_2_4.2.2.2.2.2.2.2 rfl)⟩
theorem fl_X7_18 : fwFL RX7 18 8 4 := ⟨7, (RX7, TX7, 7), rfl, rfl, by decide, Or.inl (tw_2 tq_2_5.1 rfl)⟩
theorem fl_X7_98 : fwFL RX7 98 8 5 := ⟨7, (RX7, TX7, 7), rfl, rfl, by decide, Or.inl (tw_2 tq_2_5.2.1 rfl)⟩
theorem fl_X7_90 : fwFL RX7 90 8 6 := ⟨7, (RX7, TX7, 7), rfl, rfl, by decide, Or.inl (tw_2 tq_2_5.2.2.1 rfl)⟩
theorem fl_X0_9 : fwFL RX0 9 9 0 := ⟨0, (RX0, TX0, 2), rfl, rfl, by decide, Or.inl (tw_2 tq_2_8.1 rfl)⟩
theorem fl_X0_15 : fwFL RX0 15 9 1 := ⟨0, (RX0, TX0, 2), rfl, rfl, by decide, Or.inl (tw_2 tq_2_8.2.1 rfl)⟩
theorem fl_X6_21 : fwFL RX6 21 10 0 := ⟨6, (RX6, TX6, 9), rfl, rfl, by decide, Or.inl (tw_2 tq_2_9.2.2.2.2.2.1 rfl)⟩
theorem fl_X6_25 : fwFL RX6 25 10 1 := ⟨6, (RX6, TX6, 9), rfl, rfl, by decide, Or.inl (tw_2 tq_2_9.2.2.2.2.2.2.1 rfl)⟩
theorem fl_X6_29 : fwFL RX6 29 10 2 := ⟨6, (RX6, TX6, 9), rfl, rfl, by decide, Or.inl (tw_2 tq_2_9.2.2.2.2.2.2.2 rfl)⟩
theorem fl_X6_9 : fwFL RX6 9 10 3 := ⟨6, (RX6, TX6, 9), rfl, rfl, by decide, Or.inl (tw_2 tq_2_10.1 rfl)⟩
theorem fl_X6_15 : fwFL RX6 15 10 4 := ⟨6, (RX6, TX6, 9), rfl, rfl, by decide, Or.inl (tw_2 tq_2_10.2.1 rfl)⟩
theorem fl_X6_18 : fwFL RX6 18 10 5 := ⟨6, (RX6, TX6, 9), rfl, rfl, by decide, Or.inl (tw_2 tq_2_10.2.2.1 rfl)⟩
theorem fl_X6_55 : fwFL RX6 55 10 6 := ⟨6, (RX6, TX6, 9), rfl, rfl, by decide, Or.inl (tw_2 tq_2_10.2.2.2.1 rfl)⟩
theorem fl_X6_59 : fwFL RX6 59 10 7 := ⟨6, (RX6, TX6, 9), rfl, rfl, by decide, Or.inl (tw_2 tq_2_10.2.2.2.2.1 rfl)⟩
theorem fl_X11_305 : fwFL RX11 305 10 7 := ⟨6, (RX6, TX6, 9), rfl, rfl, by decide, Or.inr (fw_in_2 tq_2_10.2.2.2.2.2.1)⟩
theorem fl_X6_106 : fwFL RX6 106 10 8 := ⟨6, (RX6, TX6, 9), rfl, rfl, by decide, Or.inl (tw_2 tq_2_10.2.2.2.2.2.2.1 rfl)⟩
theorem fl_X11_311 : fwFL RX11 311 10 8 := ⟨6, (RX6, TX6, 9), rfl, rfl, by decide, Or.inr (fw_in_2 tq_2_10.2.2.2.2.2.2.2)⟩
theorem fl_X11_10 : fwFL RX11 10 0 0 := ⟨11, (RX11, TX11, 12), rfl, rfl, by decide, Or.inl (tw_2 tq_2_13.2.2.2.1 rfl)⟩
theorem fl_X11_21 : fwFL RX11 21 0 1 := ⟨11, (RX11, TX11, 12), rfl, rfl, by decide, Or.inl (tw_2 tq_2_13.2.2.2.2.1 rfl)⟩
theorem fl_X11_28 : fwFL RX11 28 0 2 := ⟨11, (RX11, TX11, 12), rfl, rfl, by decide, Or.inl (tw_2 tq_2_13.2.2.2.2.2.1 rfl)⟩
theorem fl_X11_32 : fwFL RX11 32 0 3 := ⟨11, (RX11, TX11, 12), rfl, rfl, by decide, Or.inl (tw_2 tq_2_13.2.2.2.2.2.2.1 rfl)⟩
theorem fl_X11_36 : fwFL RX11 36 0 4 := ⟨11, (RX11, TX11, 12), rfl, rfl, by decide, Or.inl (tw_2 tq_2_13.2.2.2.2.2.2.2 rfl)⟩
theorem fl_X11_43 : fwFL RX11 43 0 5 := ⟨11, (RX11, TX11, 12), rfl, rfl, by decide, Or.inl (tw_2 tq_2_14.1 rfl)⟩
theorem fl_X11_50 : fwFL RX11 50 0 6 := ⟨11, (RX11, TX11, 12), rfl, rfl, by decide, Or.inl (tw_2 tq_2_14.2.1 rfl)⟩
theorem fl_X11_59 : fwFL RX11 59 0 7 := ⟨11, (RX11, TX11, 12), rfl, rfl, by decide, Or.inl (tw_2 tq_2_14.2.2.1 rfl)⟩
theorem fl_X11_66 : fwFL RX11 66 0 8 := ⟨11, (RX11, TX11, 12), rfl, rfl, by decide, Or.inl (tw_2 tq_2_14.2.2.2.1 rfl)⟩
theorem fl_X11_75 : fwFL RX11 75 0 9 := ⟨11, (RX11, TX11, 12), rfl, rfl, by decide, Or.inl (tw_2 tq_2_14.2.2.2.2.1 rfl)⟩
theorem fl_X11_82 : fwFL RX11 82 0 10 := ⟨11, (RX11, TX11, 12), rfl, rfl, by decide, Or.inl (tw_2 tq_2_14.2.2.2.2.2.1 rfl)⟩
theorem fl_X11_91 : fwFL RX11 91 0 11 := ⟨11, (RX11, TX11, 12), rfl, rfl, by decide, Or.inl (tw_2 tq_2_14.2.2.2.2.2.2.1 rfl)⟩
theorem fj_J0_38 : Cond.fieldLink RJ0 38 "java/lang/String" "COMPACT_STRINGS" "Z" ∈ fwTb := tw_2 tq_2_26.2.2.2.2.2.2.2 rfl
theorem fj_J0_1053 : Cond.fieldLink RJ0 1053 "jdk/internal/util/Preconditions" "SIOOBE_FORMATTER" "Ljava/util/function/BiFunction;" ∈ fwTb := tw_2 tq_2_28.2.2.2.2.2.2.2 rfl
theorem fj_J2_44 : Cond.fieldLink RJ2 44 "java/lang/StringUTF16" "$assertionsDisabled" "Z" ∈ fwTb := tw_3 tq_3_1.2.1 rfl
theorem fj_J2_59 : Cond.fieldLink RJ2 59 "java/lang/StringUTF16" "HI_BYTE_SHIFT" "I" ∈ fwTb := tw_3 tq_3_1.2.2.2.1 rfl
theorem fj_J2_63 : Cond.fieldLink RJ2 63 "java/lang/StringUTF16" "LO_BYTE_SHIFT" "I" ∈ fwTb := tw_3 tq_3_1.2.2.2.2.2.1 rfl
theorem fj_X4_85 : Cond.fieldLink RX4 85 "FootLower$Petition" "THREES" "[I" ∈ fwTb := tw_4 tq_4_21.2.2.2.1 rfl
theorem fl_X12_9 : fwFL RX12 9 12 1 := ⟨12, (RX12, TX12, 26), rfl, rfl, by decide, Or.inl (tw_6 tq_6_16.2.2.2.1 rfl)⟩
theorem fl_X12_13 : fwFL RX12 13 12 2 := ⟨12, (RX12, TX12, 26), rfl, rfl, by decide, Or.inl (tw_6 tq_6_16.2.2.2.2.1 rfl)⟩
theorem fl_X12_16 : fwFL RX12 16 12 3 := ⟨12, (RX12, TX12, 26), rfl, rfl, by decide, Or.inl (tw_6 tq_6_16.2.2.2.2.2.1 rfl)⟩
theorem fl_X12_20 : fwFL RX12 20 12 4 := ⟨12, (RX12, TX12, 26), rfl, rfl, by decide, Or.inl (tw_6 tq_6_16.2.2.2.2.2.2.1 rfl)⟩
theorem fl_X12_81 : fwFL RX12 81 12 5 := ⟨12, (RX12, TX12, 26), rfl, rfl, by decide, Or.inl (tw_6 tq_6_16.2.2.2.2.2.2.2 rfl)⟩
theorem fl_X12_24 : fwFL RX12 24 12 6 := ⟨12, (RX12, TX12, 26), rfl, rfl, by decide, Or.inl (tw_6 tq_6_17.1 rfl)⟩
theorem fl_X12_84 : fwFL RX12 84 12 7 := ⟨12, (RX12, TX12, 26), rfl, rfl, by decide, Or.inl (tw_6 tq_6_17.2.1 rfl)⟩
theorem fl_X12_87 : fwFL RX12 87 12 8 := ⟨12, (RX12, TX12, 26), rfl, rfl, by decide, Or.inl (tw_6 tq_6_17.2.2.1 rfl)⟩
theorem fl_X12_94 : fwFL RX12 94 12 9 := ⟨12, (RX12, TX12, 26), rfl, rfl, by decide, Or.inl (tw_6 tq_6_17.2.2.2.1 rfl)⟩
theorem fl_X12_97 : fwFL RX12 97 12 10 := ⟨12, (RX12, TX12, 26), rfl, rfl, by decide, Or.inl (tw_6 tq_6_17.2.2.2.2.1 rfl)⟩
theorem fl_X12_108 : fwFL RX12 108 12 11 := ⟨12, (RX12, TX12, 26), rfl, rfl, by decide, Or.inl (tw_6 tq_6_17.2.2.2.2.2.1 rfl)⟩
theorem fl_X12_118 : fwFL RX12 118 12 12 := ⟨12, (RX12, TX12, 26), rfl, rfl, by decide, Or.inl (tw_6 tq_6_17.2.2.2.2.2.2.1 rfl)⟩
theorem fl_X12_27 : fwFL RX12 27 12 13 := ⟨12, (RX12, TX12, 26), rfl, rfl, by decide, Or.inl (tw_6 tq_6_17.2.2.2.2.2.2.2 rfl)⟩
theorem fl_X12_31 : fwFL RX12 31 12 14 := ⟨12, (RX12, TX12, 26), rfl, rfl, by decide, Or.inl (tw_6 tq_6_18.1 rfl)⟩
theorem fl_X12_34 : fwFL RX12 34 12 15 := ⟨12, (RX12, TX12, 26), rfl, rfl, by decide, Or.inl (tw_6 tq_6_18.2.1 rfl)⟩
theorem fl_X12_38 : fwFL RX12 38 12 16 := ⟨12, (RX12, TX12, 26), rfl, rfl, by decide, Or.inl (tw_6 tq_6_18.2.2.1 rfl)⟩
theorem fl_X12_303 : fwFL RX12 303 12 17 := ⟨12, (RX12, TX12, 26), rfl, rfl, by decide, Or.inl (tw_6 tq_6_18.2.2.2.1 rfl)⟩
theorem fl_X12_306 : fwFL RX12 306 12 18 := ⟨12, (RX12, TX12, 26), rfl, rfl, by decide, Or.inl (tw_6 tq_6_18.2.2.2.2.1 rfl)⟩
theorem fl_X12_41 : fwFL RX12 41 12 19 := ⟨12, (RX12, TX12, 26), rfl, rfl, by decide, Or.inl (tw_6 tq_6_18.2.2.2.2.2.1 rfl)⟩
theorem fl_X12_44 : fwFL RX12 44 12 20 := ⟨12, (RX12, TX12, 26), rfl, rfl, by decide, Or.inl (tw_6 tq_6_18.2.2.2.2.2.2.1 rfl)⟩
theorem fl_X12_374 : fwFL RX12 374 12 21 := ⟨12, (RX12, TX12, 26), rfl, rfl, by decide, Or.inl (tw_6 tq_6_18.2.2.2.2.2.2.2 rfl)⟩
theorem fl_X12_47 : fwFL RX12 47 12 22 := ⟨12, (RX12, TX12, 26), rfl, rfl, by decide, Or.inl (tw_6 tq_6_19.1 rfl)⟩
theorem fl_X12_50 : fwFL RX12 50 12 23 := ⟨12, (RX12, TX12, 26), rfl, rfl, by decide, Or.inl (tw_6 tq_6_19.2.1 rfl)⟩
theorem fl_X12_53 : fwFL RX12 53 12 24 := ⟨12, (RX12, TX12, 26), rfl, rfl, by decide, Or.inl (tw_6 tq_6_19.2.2.1 rfl)⟩
theorem fl_X12_57 : fwFL RX12 57 12 25 := ⟨12, (RX12, TX12, 26), rfl, rfl, by decide, Or.inl (tw_6 tq_6_19.2.2.2.1 rfl)⟩
theorem fj_J0_9 : Cond.fieldLink RJ0 9 "java/lang/String" "value" "[B" ∈ fwTb := tw_9 tq_9_8.2.2.2.2.2.2.1 rfl
theorem fj_J0_15 : Cond.fieldLink RJ0 15 "java/lang/String" "coder" "B" ∈ fwTb := tw_9 tq_9_8.2.2.2.2.2.2.2 rfl
theorem fp_1_1 : fwFP 1 1 .int := by
  intro c q h1 h2
  cases h1
  cases h2
  exact ⟨rfl, by decide +kernel⟩
theorem fp_1_5 : fwFP 1 5 .int := by
  intro c q h1 h2
  cases h1
  cases h2
  exact ⟨rfl, by decide +kernel⟩
theorem fp_2_2 : fwFP 2 2 .int := by
  intro c q h1 h2
  cases h1
  cases h2
  exact ⟨rfl, by decide +kernel⟩
theorem fp_2_3 : fwFP 2 3 .int := by
  intro c q h1 h2
  cases h1
  cases h2
  exact ⟨rfl, by decide +kernel⟩
theorem fp_2_4 : fwFP 2 4 .int := by
  intro c q h1 h2
  cases h1
  cases h2
  exact ⟨rfl, by decide +kernel⟩
theorem fp_2_5 : fwFP 2 5 .int := by
  intro c q h1 h2
  cases h1
  cases h2
  exact ⟨rfl, by decide +kernel⟩
theorem fp_2_6 : fwFP 2 6 .int := by
  intro c q h1 h2
  cases h1
  cases h2
  exact ⟨rfl, by decide +kernel⟩
theorem fp_2_7 : fwFP 2 7 .int := by
  intro c q h1 h2
  cases h1
  cases h2
  exact ⟨rfl, by decide +kernel⟩
theorem fp_3_3 : fwFP 3 3 .int := by
  intro c q h1 h2
  cases h1
  cases h2
  exact ⟨rfl, by decide +kernel⟩
theorem fp_3_4 : fwFP 3 4 .int := by
  intro c q h1 h2
  cases h1
  cases h2
  exact ⟨rfl, by decide +kernel⟩
theorem fp_3_5 : fwFP 3 5 .int := by
  intro c q h1 h2
  cases h1
  cases h2
  exact ⟨rfl, by decide +kernel⟩
theorem fp_3_6 : fwFP 3 6 .int := by
  intro c q h1 h2
  cases h1
  cases h2
  exact ⟨rfl, by decide +kernel⟩
theorem fp_4_1 : fwFP 4 1 .int := by
  intro c q h1 h2
  cases h1
  cases h2
  exact ⟨rfl, by decide +kernel⟩
theorem fp_4_2 : fwFP 4 2 .int := by
  intro c q h1 h2
  cases h1
  cases h2
  exact ⟨rfl, by decide +kernel⟩
theorem fp_4_3 : fwFP 4 3 .int := by
  intro c q h1 h2
  cases h1
  cases h2
  exact ⟨rfl, by decide +kernel⟩
theorem fp_4_4 : fwFP 4 4 .boolean := by
  intro c q h1 h2
  cases h1
  cases h2
  exact ⟨rfl, by decide +kernel⟩
theorem fp_5_3 : fwFP 5 3 .int := by
  intro c q h1 h2
  cases h1
  cases h2
  exact ⟨rfl, by decide +kernel⟩
theorem fp_6_2 : fwFP 6 2 .int := by
  intro c q h1 h2
  cases h1
  cases h2
  exact ⟨rfl, by decide +kernel⟩
theorem fp_6_3 : fwFP 6 3 .int := by
  intro c q h1 h2
  cases h1
  cases h2
  exact ⟨rfl, by decide +kernel⟩
theorem fp_6_4 : fwFP 6 4 .int := by
  intro c q h1 h2
  cases h1
  cases h2
  exact ⟨rfl, by decide +kernel⟩
theorem fp_7_2 : fwFP 7 2 .int := by
  intro c q h1 h2
  cases h1
  cases h2
  exact ⟨rfl, by decide +kernel⟩
theorem fp_7_3 : fwFP 7 3 .int := by
  intro c q h1 h2
  cases h1
  cases h2
  exact ⟨rfl, by decide +kernel⟩
theorem fp_8_5 : fwFP 8 5 .int := by
  intro c q h1 h2
  cases h1
  cases h2
  exact ⟨rfl, by decide +kernel⟩
theorem fp_8_6 : fwFP 8 6 .boolean := by
  intro c q h1 h2
  cases h1
  cases h2
  exact ⟨rfl, by decide +kernel⟩
theorem fp_10_6 : fwFP 10 6 .int := by
  intro c q h1 h2
  cases h1
  cases h2
  exact ⟨rfl, by decide +kernel⟩
theorem fp_10_7 : fwFP 10 7 .int := by
  intro c q h1 h2
  cases h1
  cases h2
  exact ⟨rfl, by decide +kernel⟩
theorem fp_10_8 : fwFP 10 8 .int := by
  intro c q h1 h2
  cases h1
  cases h2
  exact ⟨rfl, by decide +kernel⟩
theorem fp_12_5 : fwFP 12 5 .int := by
  intro c q h1 h2
  cases h1
  cases h2
  exact ⟨rfl, by decide +kernel⟩
theorem fp_12_7 : fwFP 12 7 .int := by
  intro c q h1 h2
  cases h1
  cases h2
  exact ⟨rfl, by decide +kernel⟩
theorem fp_12_8 : fwFP 12 8 .int := by
  intro c q h1 h2
  cases h1
  cases h2
  exact ⟨rfl, by decide +kernel⟩
theorem fp_12_9 : fwFP 12 9 .int := by
  intro c q h1 h2
  cases h1
  cases h2
  exact ⟨rfl, by decide +kernel⟩
theorem fp_12_10 : fwFP 12 10 .int := by
  intro c q h1 h2
  cases h1
  cases h2
  exact ⟨rfl, by decide +kernel⟩
theorem fp_12_11 : fwFP 12 11 .int := by
  intro c q h1 h2
  cases h1
  cases h2
  exact ⟨rfl, by decide +kernel⟩
theorem fp_12_12 : fwFP 12 12 .int := by
  intro c q h1 h2
  cases h1
  cases h2
  exact ⟨rfl, by decide +kernel⟩
theorem fp_12_13 : fwFP 12 13 .int := by
  intro c q h1 h2
  cases h1
  cases h2
  exact ⟨rfl, by decide +kernel⟩
theorem fp_12_17 : fwFP 12 17 .int := by
  intro c q h1 h2
  cases h1
  cases h2
  exact ⟨rfl, by decide +kernel⟩
theorem fp_12_18 : fwFP 12 18 .int := by
  intro c q h1 h2
  cases h1
  cases h2
  exact ⟨rfl, by decide +kernel⟩
theorem fp_12_21 : fwFP 12 21 .int := by
  intro c q h1 h2
  cases h1
  cases h2
  exact ⟨rfl, by decide +kernel⟩
theorem cs_X9_60 : Cond.constant RX9 60 (Int32.ofInt (100000)) ∈ fwTb := fwTb_3 (i := 30) (by decide +kernel) rfl
theorem cs_J6_265 : Cond.constant RJ6 265 (Int32.ofInt (1431655765)) ∈ fwTb := fwTb_3 (i := 214) (by decide +kernel) rfl
theorem cs_J6_266 : Cond.constant RJ6 266 (Int32.ofInt (858993459)) ∈ fwTb := fwTb_3 (i := 215) (by decide +kernel) rfl
theorem cs_J6_267 : Cond.constant RJ6 267 (Int32.ofInt (252645135)) ∈ fwTb := fwTb_3 (i := 216) (by decide +kernel) rfl
theorem cs_X6_89 : Cond.constantLong RX6 89 (Int64.ofInt (-9)) ∈ fwTb := fwTb_5 (i := 200) (by decide +kernel) rfl
theorem cs_X6_91 : Cond.constantLong RX6 91 (Int64.ofInt (9)) ∈ fwTb := fwTb_5 (i := 201) (by decide +kernel) rfl
theorem cs_X3_74 : Cond.constantLong RX3 74 (Int64.ofInt (999)) ∈ fwTb := fwTb_6 (i := 21) (by decide +kernel) rfl
theorem cs_X11_378 : Cond.constant RX11 378 (Int32.ofInt (2000000000)) ∈ fwTb := fwTb_6 (i := 42) (by decide +kernel) rfl
theorem cs_X0_68 : Cond.constantLong RX0 68 (Int64.ofInt (1103515245)) ∈ fwTb := fwTb_6 (i := 47) (by decide +kernel) rfl
theorem cs_X0_70 : Cond.constantLong RX0 70 (Int64.ofInt (12345)) ∈ fwTb := fwTb_6 (i := 48) (by decide +kernel) rfl
theorem cs_X0_72 : Cond.constantLong RX0 72 (Int64.ofInt (2147483647)) ∈ fwTb := fwTb_6 (i := 49) (by decide +kernel) rfl
theorem cs_X0_74 : Cond.constantLong RX0 74 (Int64.ofInt (65536)) ∈ fwTb := fwTb_6 (i := 50) (by decide +kernel) rfl
theorem cs_X12_37 : Cond.constant RX12 37 (Int32.ofInt (65536)) ∈ fwTb := fwTb_6 (i := 130) (by decide +kernel) rfl
theorem cs_X12_63 : Cond.constantLong RX12 63 (Int64.ofInt (2)) ∈ fwTb := fwTb_6 (i := 213) (by decide +kernel) rfl
theorem cs_X12_100 : Cond.constantLong RX12 100 (Int64.ofInt (97)) ∈ fwTb := fwTb_7 (i := 5) (by decide +kernel) rfl
theorem cs_X12_102 : Cond.constantLong RX12 102 (Int64.ofInt (122)) ∈ fwTb := fwTb_7 (i := 6) (by decide +kernel) rfl
theorem cs_X12_104 : Cond.constantLong RX12 104 (Int64.ofInt (48)) ∈ fwTb := fwTb_7 (i := 7) (by decide +kernel) rfl
theorem cs_X12_106 : Cond.constantLong RX12 106 (Int64.ofInt (57)) ∈ fwTb := fwTb_7 (i := 8) (by decide +kernel) rfl
theorem cs_X12_111 : Cond.constant RX12 111 (Int32.ofInt (99999)) ∈ fwTb := fwTb_7 (i := 9) (by decide +kernel) rfl
theorem cs_X12_156 : Cond.constantLong RX12 156 (Int64.ofInt (40)) ∈ fwTb := fwTb_7 (i := 38) (by decide +kernel) rfl
theorem cs_X12_238 : Cond.constantLong RX12 238 (Int64.ofInt (6)) ∈ fwTb := fwTb_7 (i := 75) (by decide +kernel) rfl
theorem cs_X12_69 : Cond.constantLong RX12 69 (Int64.ofInt (-9)) ∈ fwTb := fwTb_7 (i := 119) (by decide +kernel) rfl
theorem cs_X12_71 : Cond.constantLong RX12 71 (Int64.ofInt (9)) ∈ fwTb := fwTb_7 (i := 120) (by decide +kernel) rfl
theorem cs_X12_246 : Cond.constantLong RX12 246 (Int64.ofInt (20)) ∈ fwTb := fwTb_7 (i := 171) (by decide +kernel) rfl
theorem cs_X12_289 : Cond.constantLong RX12 289 (Int64.ofInt (4)) ∈ fwTb := fwTb_8 (i := 35) (by decide +kernel) rfl
theorem cs_X12_309 : Cond.constantLong RX12 309 (Int64.ofInt (800)) ∈ fwTb := fwTb_8 (i := 62) (by decide +kernel) rfl
theorem cs_X12_294 : Cond.constant RX12 294 (Int32.ofInt (1000000000)) ∈ fwTb := fwTb_8 (i := 67) (by decide +kernel) rfl
theorem cs_X12_335 : Cond.constant RX12 335 (Int32.ofInt (-1000000000)) ∈ fwTb := fwTb_8 (i := 140) (by decide +kernel) rfl
theorem cs_X12_342 : Cond.constantLong RX12 342 (Int64.ofInt (3)) ∈ fwTb := fwTb_8 (i := 145) (by decide +kernel) rfl
theorem cs_X12_347 : Cond.constantLong RX12 347 (Int64.ofInt (999)) ∈ fwTb := fwTb_8 (i := 178) (by decide +kernel) rfl
theorem cs_X12_355 : Cond.constantLong RX12 355 (Int64.ofInt (60)) ∈ fwTb := fwTb_8 (i := 195) (by decide +kernel) rfl
theorem cs_X12_398 : Cond.constantLong RX12 398 (Int64.ofInt (2000000000)) ∈ fwTb := fwTb_9 (i := 23) (by decide +kernel) rfl
theorem cs_X12_390 : Cond.constantLong RX12 390 (Int64.ofInt (1103515245)) ∈ fwTb := fwTb_9 (i := 28) (by decide +kernel) rfl
theorem cs_X12_392 : Cond.constantLong RX12 392 (Int64.ofInt (12345)) ∈ fwTb := fwTb_9 (i := 29) (by decide +kernel) rfl
theorem cs_X12_394 : Cond.constantLong RX12 394 (Int64.ofInt (2147483648)) ∈ fwTb := fwTb_9 (i := 30) (by decide +kernel) rfl
theorem cs_X12_396 : Cond.constantLong RX12 396 (Int64.ofInt (65536)) ∈ fwTb := fwTb_9 (i := 31) (by decide +kernel) rfl
theorem cs_L_270 : Cond.constantLong RL 270 (Int64.ofInt (4294967295)) ∈ fwTb := fwTb_9 (i := 63) (by decide +kernel) rfl
