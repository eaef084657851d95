/-- the tables' words that stay true from state to state -/
def fwTb : List Cond := lw_tbl.filter goodWord
theorem fwTb_m {w : Cond} {i : Nat} (h : lw_tbl[i]? = some w) (hg : goodWord w = true) : w ∈ fwTb := List.mem_filter.mpr ⟨List.mem_of_getElem? h, hg⟩
theorem fwTb_s {w : Cond} {i : Nat} (h : (k2_sels lw_privs)[i]? = some w) (hg : goodWord w = true) : w ∈ fwTb := List.mem_filter.mpr ⟨List.mem_append_left _ (List.mem_of_getElem? h), hg⟩
theorem fw_in_1 {w : Cond} (h : w ∈ tables_1_1) : w ∈ lw_tbl := List.mem_append_right _ (List.mem_append_left _ h)
theorem fw_in_2 {w : Cond} (h : w ∈ tables_1_2) : w ∈ lw_tbl := List.mem_append_right _ (List.mem_append_right _ (List.mem_append_left _ h))
theorem fw_in_3 {w : Cond} (h : w ∈ tables_1_3) : w ∈ lw_tbl := List.mem_append_right _ (List.mem_append_right _ (List.mem_append_right _ (List.mem_append_left _ h)))
theorem fw_in_4 {w : Cond} (h : w ∈ tables_1_4) : w ∈ lw_tbl := List.mem_append_right _ (List.mem_append_right _ (List.mem_append_right _ (List.mem_append_right _ (List.mem_append_left _ h))))
theorem fw_in_5 {w : Cond} (h : w ∈ tables_1_5) : w ∈ lw_tbl := List.mem_append_right _ (List.mem_append_right _ (List.mem_append_right _ (List.mem_append_right _ (List.mem_append_right _ (List.mem_append_left _ h)))))
theorem fw_in_6 {w : Cond} (h : w ∈ tables_1_6) : w ∈ lw_tbl := List.mem_append_right _ (List.mem_append_right _ (List.mem_append_right _ (List.mem_append_right _ (List.mem_append_right _ (List.mem_append_right _ (List.mem_append_left _ h))))))
theorem fw_in_7 {w : Cond} (h : w ∈ tables_1_7) : w ∈ lw_tbl := List.mem_append_right _ (List.mem_append_right _ (List.mem_append_right _ (List.mem_append_right _ (List.mem_append_right _ (List.mem_append_right _ (List.mem_append_right _ (List.mem_append_left _ h)))))))
theorem fw_in_8 {w : Cond} (h : w ∈ tables_1_8) : w ∈ lw_tbl := List.mem_append_right _ (List.mem_append_right _ (List.mem_append_right _ (List.mem_append_right _ (List.mem_append_right _ (List.mem_append_right _ (List.mem_append_right _ (List.mem_append_right _ (List.mem_append_left _ h))))))))
theorem fw_in_9 {w : Cond} (h : w ∈ tables_1_9) : w ∈ lw_tbl := List.mem_append_right _ (List.mem_append_right _ (List.mem_append_right _ (List.mem_append_right _ (List.mem_append_right _ (List.mem_append_right _ (List.mem_append_right _ (List.mem_append_right _ (List.mem_append_right _ h))))))))
theorem fwTb_1 {w : Cond} {i : Nat} (h : tables_1_1[i]? = some w) (hg : goodWord w = true) : w ∈ fwTb := List.mem_filter.mpr ⟨fw_in_1 (List.mem_of_getElem? h), hg⟩
theorem fwTb_2 {w : Cond} {i : Nat} (h : tables_1_2[i]? = some w) (hg : goodWord w = true) : w ∈ fwTb := List.mem_filter.mpr ⟨fw_in_2 (List.mem_of_getElem? h), hg⟩
theorem fwTb_3 {w : Cond} {i : Nat} (h : tables_1_3[i]? = some w) (hg : goodWord w = true) : w ∈ fwTb := List.mem_filter.mpr ⟨fw_in_3 (List.mem_of_getElem? h), hg⟩
theorem fwTb_4 {w : Cond} {i : Nat} (h : tables_1_4[i]? = some w) (hg : goodWord w = true) : w ∈ fwTb := List.mem_filter.mpr ⟨fw_in_4 (List.mem_of_getElem? h), hg⟩
theorem fwTb_5 {w : Cond} {i : Nat} (h : tables_1_5[i]? = some w) (hg : goodWord w = true) : w ∈ fwTb := List.mem_filter.mpr ⟨fw_in_5 (List.mem_of_getElem? h), hg⟩
theorem fwTb_6 {w : Cond} {i : Nat} (h : tables_1_6[i]? = some w) (hg : goodWord w = true) : w ∈ fwTb := List.mem_filter.mpr ⟨fw_in_6 (List.mem_of_getElem? h), hg⟩
theorem fwTb_7 {w : Cond} {i : Nat} (h : tables_1_7[i]? = some w) (hg : goodWord w = true) : w ∈ fwTb := List.mem_filter.mpr ⟨fw_in_7 (List.mem_of_getElem? h), hg⟩
theorem fwTb_8 {w : Cond} {i : Nat} (h : tables_1_8[i]? = some w) (hg : goodWord w = true) : w ∈ fwTb := List.mem_filter.mpr ⟨fw_in_8 (List.mem_of_getElem? h), hg⟩
theorem fwTb_9 {w : Cond} {i : Nat} (h : tables_1_9[i]? = some w) (hg : goodWord w = true) : w ∈ fwTb := List.mem_filter.mpr ⟨fw_in_9 (List.mem_of_getElem? h), hg⟩
theorem fw_good : ∀ w ∈ fwTb, goodWord w = true := fun w hw => (List.mem_filter.mp hw).2
/-! the String constants: owner, entry, text, bytes; 0..12 are the class's, 13..25 the other's, in the same order of words -/
def fwSr : List (String × Nat × String × List Int) := [("FootLower$Tape", 79, "mount", [109, 111, 117, 110, 116]), ("FootLower$Tape", 81, "snow", [115, 110, 111, 119]), ("FootLower$Tape", 83, "rest", [114, 101, 115, 116]), ("FootLower$Tape", 85, "names", [110, 97, 109, 101, 115]), ("FootLower$Tape", 87, "folk", [102, 111, 108, 107]), ("FootLower$Tape", 89, "at", [97, 116]), ("FootLower$Tape", 91, "sun", [115, 117, 110]), ("FootLower$Tape", 93, "view", [118, 105, 101, 119]), ("FootLower$Tape", 95, "talk", [116, 97, 108, 107]), ("FootLower$Tape", 97, "with", [119, 105, 116, 104]), ("FootLower$Tape", 99, "heap", [104, 101, 97, 112]), ("FootLower$Tape", 101, "first", [102, 105, 114, 115, 116]), ("FootLower$Tape", 103, "last", [108, 97, 115, 116]), ("FootLowerModel", 154, "mount", [109, 111, 117, 110, 116]), ("FootLowerModel", 158, "snow", [115, 110, 111, 119]), ("FootLowerModel", 164, "rest", [114, 101, 115, 116]), ("FootLowerModel", 166, "names", [110, 97, 109, 101, 115]), ("FootLowerModel", 181, "folk", [102, 111, 108, 107]), ("FootLowerModel", 172, "at", [97, 116]), ("FootLowerModel", 173, "sun", [115, 117, 110]), ("FootLowerModel", 175, "view", [118, 105, 101, 119]), ("FootLowerModel", 177, "talk", [116, 97, 108, 107]), ("FootLowerModel", 179, "with", [119, 105, 116, 104]), ("FootLowerModel", 183, "heap", [104, 101, 97, 112]), ("FootLowerModel", 170, "first", [102, 105, 114, 115, 116]), ("FootLowerModel", 168, "last", [108, 97, 115, 116])]
def fwSb (i : Nat) : List Int := (fwSr.getD i ("", 0, "", [])).2.2.2
def fwTh : List Int := [1, 3, 9, 27, 81, 243, 729, 2187]
/-- what the machine holds besides: String constants (kind 50), their bytes (kind 51), the table of threes (kind 52) -/
def fwCs (ad : Nat → Nat → Nat) (U : State) (H : Heap) : Prop :=
  (∀ i, i < 26 → va_O "java/lang/String" (ad 50 i) (fwA ad) U H ∧ va_OF "java/lang/String" "coder" "B" (.int 0) (ad 50 i) (fwA ad) U H ∧ va_OF "java/lang/String" "value" "[B" (.ref (ad 51 i)) (ad 50 i) (fwA ad) U H ∧ va_T .byte (ad 51 i) (fwSb i).length (fun j => .int (Int32.ofInt ((fwSb i).getD j 0))) (fwA ad) U H) ∧
  (∀ i own k tx by_, fwSr[i]? = some (own, k, tx, by_) → vk_R own k tx (ad 50 i) U) ∧
  va_Z "FootLower$Petition" "THREES" "[I" (.ref (ad 52 0)) (fwA ad) U H ∧ va_T .int (ad 52 0) 8 (fun j => .int (Int32.ofInt (fwTh.getD j 0))) (fwA ad) U H ∧
  va_Z "java/lang/String" "COMPACT_STRINGS" "Z" (.int 1) (fwA ad) U H ∧
  va_Zq "jdk/internal/util/Preconditions" "SIOOBE_FORMATTER" "Ljava/util/function/BiFunction;" (fwA ad) U H ∧
  ∀ (a : String) (i : Nat) (b n d hh : String), Cond.fieldLinkNest a i b n d hh ∈ lw_tbl → va_Nw (.fieldLinkNest a i b n d hh) U
theorem fwCs.go {ad : Nat → Nat → Nat} {s U : State} {H : Heap} {locs : List Loc} (h : fwCs ad s s.heap) (hS : va_S (fwA ad) s.heap H locs) (hU : U.heap = H) (hW : s.WarmedH U.vm) : fwCs ad U U.heap := by
  obtain ⟨h1, h2, h3, h4, h5, h7, h6⟩ := h
  subst hU
  have hq := hS.2.1
  have hv := hW.alike
  exact ⟨fun i hi => ⟨va_O.moved hv ((h1 i hi).1.kept hq), va_OF.moved hv ((h1 i hi).2.1.kept hq), va_OF.moved hv ((h1 i hi).2.2.1.kept hq), va_T.moved hv ((h1 i hi).2.2.2.kept hq)⟩,
    fun i own k tx by_ hi => (h2 i own k tx by_ hi).warm hW, va_Z.moved hv (h3.kept hq), va_T.moved hv (h4.kept hq), va_Z.moved hv (h5.kept hq), va_Zq.moved hv (h7.kept hq), fun a i b n d hh hw => (h6 a i b n d hh hw).warmF hW⟩
def fwRm (d : Nat) : Room := { frames := d, cells := 0, slots := 0, locals := 64 * d }
def fwQ (ad : Nat → Nat → Nat) (D : va_G) (tc : Nat → ClassId) (Q : Option fwV → fwH → Prop) : Array Value → State → Outcome → State → Prop := fun _ st oc t =>
  (∃ (r : Option fwV) (h : fwH), oc = .returned (r.map (fwMv ad)) ∧ Q r h ∧ va_P D vwCl (fwWd ad tc h) t.heap) ∧ va_F (fwA ad) st t
def fwCx (p : Program) (s : State) (m : MethodId) (args : Array Value) (meth : Method) (c : Code) (M : fwM) (ad : Nat → Nat → Nat) (D : va_G) (tc : Nat → ClassId) : Prop :=
  p.tables.exec = Jvm.exec ∧ c.code = M.2.1 ∧ c.maxLocals = M.2.2.1 ∧ s.vm.findClass M.1.cls = some m.cls ∧ (∀ w ∈ fwTb, w.before args s = true) ∧ meth.sig.returnType = M.2.2.2 ∧ meth.locks = false ∧ va_K D vwCl (fwTy tc) s ∧ fwInj ad ∧ fwCs ad s s.heap
def fwRl (s : State) (H : Heap) (locs : List Loc) (ls : Array Slot) (M : fwM) (ad : Nat → Nat → Nat) (D : va_G) (tc : Nat → ClassId) (h : fwH) (L : List (Option fwV)) : Prop :=
  va_P D vwCl (fwWd ad tc h) H ∧ va_S (fwA ad) s.heap H locs ∧ fwLv ad ls M.2.2.1 L
/-- from here the method M ends, with Q of its answer and of the heap then -/
def fwWP (M : fwM) (d pc : Nat) (L : List (Option fwV)) (S : List fwV) (h : fwH) (Q : Option fwV → fwH → Prop) : Prop :=
  ∀ (l : Launch) (p : Program) (e : Env) (s : State) (m : MethodId) (args : Array Value) (below : List Frame) (meth : Method) (c : Code) (ad : Nat → Nat → Nat) (D : va_G) (tc : Nat → ClassId) (H : Heap) (locs : List Loc) (ls : Array Slot),
    fwCx p s m args meth c M ad D tc → fwRl s H locs ls M ad D tc h L →
    W p l e (fwRm d) s m args below meth c H locs 0 0 (MQ below (fwQ ad D tc Q) args s 0 0 (fwA ad)) (F0 m pc ls (S.map (fwMv ad)))
def fwWs (M : fwM) : List Cond := Cond.code M.1 M.2.1 M.2.2.1 M.2.2.2 :: fwTb
def fwPc (ad : Nat → Nat → Nat) (D : va_G) (tc : Nat → ClassId) (vs : List fwV) (h : fwH) : Array Value → State → Prop :=
  va_Pc (vs.map (fwMv ad)) (fun U => va_P D vwCl (fwWd ad tc h) U.heap ∧ va_K D vwCl (fwTy tc) U ∧ fwInj ad ∧ fwCs ad U U.heap)
/-- the method M's contract at these values and this heap -/
def fwCt (M : fwM) (d : Nat) (vs : List fwV) (h : fwH) (Q : Option fwV → fwH → Prop) : Prop :=
  ∀ (l : Launch) (ad : Nat → Nat → Nat) (D : va_G) (tc : Nat → ClassId), Met l M.1 (fwWs M) (fwRm d) (fwPc ad D tc vs h) (fwQ ad D tc Q) 0 0 (fwA ad)
theorem fwCt_of {M : fwM} {d : Nat} {vs : List fwV} {h : fwH} {Q : Option fwV → fwH → Prop} (L : List (Option fwV)) (hy : plainName M.1.cls = true) (hL : fwEn vs ++ List.replicate (M.2.2.1 - (fwEn vs).length) none = L) (hl : L.length = M.2.2.1) (k : fwWP M d 0 L [] h Q) : fwCt M d vs h Q := by
  intro l ad D tc
  refine Met.ofW (cc := M.2.1) (maxL := M.2.2.1) (ret := M.2.2.2) hy rfl ?_
  intro p e s m args below meth c s₁ B hml hv
  obtain ⟨rfl, hP, hK, hI, hC⟩ := hv
  have hts : ∀ w ∈ fwTb, w.before (vs.map (fwMv ad)).toArray s = true := fun w hw => atoms_spec (ws := fwWs M) B.pre w (List.mem_cons_of_mem _ hw)
  have hle : (lg_sl (vs.map (fwMv ad))).length ≤ M.2.2.1 := by
    rw [fwEn_len]
    have := congrArg List.length hL
    rw [List.length_append, List.length_replicate] at this
    omega
  have hent := lv_entry (vs.map (fwMv ad)) (n := M.2.2.1) hle
  rw [lg_entry_eq]
  refine k l p e s m _ below meth c ad D tc s.heap [] _ ⟨B.exec, B.bytes, hml, findClass_of_methodNamed B.named, hts, B.returns, B.notSynchronized, hK, hI, hC⟩ ⟨hP, va_S.rf, hent.1, hent.2.1, fun i v hi => ?_⟩
  have hi2 : (fwEn vs)[i]? = some (some v) := by
    rw [← hL] at hi
    by_cases hlt : i < (fwEn vs).length
    · rw [List.getElem?_append_left hlt] at hi
      exact hi
    · rw [List.getElem?_append_right (by omega)] at hi
      have := List.eq_of_mem_replicate (List.mem_of_getElem? hi)
      cases this
  have := fwEn_args ad vs 0 i v hi2
  rw [Nat.zero_add] at this
  exact hent.2.2 _ this
/-! numbers -/
theorem fwI_add (x y : Int) : Int32.ofInt x + Int32.ofInt y = Int32.ofInt (x + y) := by
  apply Int32.toInt_inj.mp
  simp [Int32.toInt_add, Int32.toInt_ofInt, Int32.size]
theorem fwI_sub (x y : Int) : Int32.ofInt x - Int32.ofInt y = Int32.ofInt (x - y) := by
  apply Int32.toInt_inj.mp
  simp [Int32.toInt_sub, Int32.toInt_ofInt, Int32.size]
theorem fwI_mul (x y : Int) : Int32.ofInt x * Int32.ofInt y = Int32.ofInt (x * y) := by
  apply Int32.toInt_inj.mp
  simp [Int32.toInt_mul, Int32.toInt_ofInt, Int32.size]
theorem fwI_neg (x : Int) : - Int32.ofInt x = Int32.ofInt (-x) := by
  apply Int32.toInt_inj.mp
  simp [Int32.toInt_neg, Int32.toInt_ofInt, Int32.size]
theorem fwL_add (x y : Int) : Int64.ofInt x + Int64.ofInt y = Int64.ofInt (x + y) := by
  apply Int64.toInt_inj.mp
  simp [Int64.toInt_add, Int64.toInt_ofInt, Int64.size]
theorem fwL_mul (x y : Int) : Int64.ofInt x * Int64.ofInt y = Int64.ofInt (x * y) := by
  apply Int64.toInt_inj.mp
  simp [Int64.toInt_mul, Int64.toInt_ofInt, Int64.size]
theorem fwI_rt {x : Int} (h : -2147483648 ≤ x ∧ x < 2147483648) : (Int32.ofInt x).toInt = x := Int32.toInt_ofInt_of_le (by omega) (by omega)
theorem fwL_rt {x : Int} (h : -9223372036854775808 ≤ x ∧ x < 9223372036854775808) : (Int64.ofInt x).toInt = x := Int64.toInt_ofInt_of_le (by omega) (by omega)
theorem fwI_le {x y : Int} (hx : -2147483648 ≤ x ∧ x < 2147483648) (hy : -2147483648 ≤ y ∧ y < 2147483648) : Int32.ofInt x ≤ Int32.ofInt y ↔ x ≤ y := by
  rw [Int32.le_iff_toInt_le, fwI_rt hx, fwI_rt hy]
theorem fwI_lt {x y : Int} (hx : -2147483648 ≤ x ∧ x < 2147483648) (hy : -2147483648 ≤ y ∧ y < 2147483648) : Int32.ofInt x < Int32.ofInt y ↔ x < y := by
  rw [Int32.lt_iff_toInt_lt, fwI_rt hx, fwI_rt hy]
theorem fwI_eq {x y : Int} (hx : -2147483648 ≤ x ∧ x < 2147483648) (hy : -2147483648 ≤ y ∧ y < 2147483648) : Int32.ofInt x = Int32.ofInt y ↔ x = y := by
  rw [← Int32.toInt_inj, fwI_rt hx, fwI_rt hy]
theorem fwI_0 : (0 : Int32) = Int32.ofInt 0 := rfl
theorem fwI_in {x : Int} {n : Nat} (h0 : 0 ≤ x) (h1 : x < n) (hn : n < 2147483648) : vp_in (Int32.ofInt x) n := by
  rw [vp_in_iff, fwI_rt ⟨by omega, by omega⟩]
  exact ⟨h0, h1⟩
theorem fwI_cl {x : Int} (h0 : 0 ≤ x) (h1 : x < 2147483648) : (Int32.ofInt x).toNatClampNeg = x.toNat := Int32.toNatClampNeg_ofInt_of_le (by omega) (by omega)
theorem fwL_le {x y : Int} (hx : -9223372036854775808 ≤ x ∧ x < 9223372036854775808) (hy : -9223372036854775808 ≤ y ∧ y < 9223372036854775808) : Int64.ofInt x ≤ Int64.ofInt y ↔ x ≤ y := by
  rw [Int64.le_iff_toInt_le, fwL_rt hx, fwL_rt hy]
theorem fwL_lt {x y : Int} (hx : -9223372036854775808 ≤ x ∧ x < 9223372036854775808) (hy : -9223372036854775808 ≤ y ∧ y < 9223372036854775808) : Int64.ofInt x < Int64.ofInt y ↔ x < y := by
  rw [Int64.lt_iff_toInt_lt, fwL_rt hx, fwL_rt hy]
theorem fwL_eq {x y : Int} (hx : -9223372036854775808 ≤ x ∧ x < 9223372036854775808) (hy : -9223372036854775808 ≤ y ∧ y < 9223372036854775808) : Int64.ofInt x = Int64.ofInt y ↔ x = y := by
  rw [← Int64.toInt_inj, fwL_rt hx, fwL_rt hy]
/-! bits, as the machine has them -/
def fwAnd (x y : Int) : Int := (Int32.ofInt x &&& Int32.ofInt y).toInt
def fwOr (x y : Int) : Int := (Int32.ofInt x ||| Int32.ofInt y).toInt
def fwXor (x y : Int) : Int := (Int32.ofInt x ^^^ Int32.ofInt y).toInt
def fwShl (x y : Int) : Int := (Int32.ofInt x <<< (Int32.ofInt y &&& 31)).toInt
def fwShr (x y : Int) : Int := (Int32.ofInt x >>> (Int32.ofInt y &&& 31)).toInt
def fwUsh (x y : Int) : Int := (((Int32.ofInt x).toUInt32 >>> ((Int32.ofInt y).toUInt32 &&& Int32.toUInt32 31)).toInt32).toInt
def fwDiv (x y : Int) : Int := (Int32.ofInt x / Int32.ofInt y).toInt
def fwRem (x y : Int) : Int := (Int32.ofInt x - Int32.ofInt x / Int32.ofInt y * Int32.ofInt y).toInt
def fwLand (x y : Int) : Int := (Int64.ofInt x &&& Int64.ofInt y).toInt
def fwLor (x y : Int) : Int := (Int64.ofInt x ||| Int64.ofInt y).toInt
def fwLdiv (x y : Int) : Int := (Int64.ofInt x / Int64.ofInt y).toInt
def fwLrem (x y : Int) : Int := (Int64.ofInt x - Int64.ofInt x / Int64.ofInt y * Int64.ofInt y).toInt
def fwLshl (x y : Int) : Int := (Int64.ofInt x <<< ((Int32.ofInt y).toInt64 &&& 63)).toInt
def fwLshr (x y : Int) : Int := (Int64.ofInt x >>> ((Int32.ofInt y).toInt64 &&& 63)).toInt
def fwB8 (x : Int) : Int := (Int32.ofInt x).toInt8.toInt
def fwS16 (x : Int) : Int := (Int32.ofInt x).toInt16.toInt
def fwC16 (x : Int) : Int := (((Int32.ofInt x).toUInt32 % 65536).toInt32).toInt
/-- true and false as ints -/
def fwB (P : Prop) [Decidable P] : Int := if P then 1 else 0
section FWR
variable {M : fwM} {d pc : Nat} {L : List (Option fwV)} {S : List fwV} {h : fwH} {Q : Option fwV → fwH → Prop}
theorem w_iconst {n : Int} (hd : decode M.2.1 pc = .ok (.iconst n, 1)) (k : fwWP M d (pc + 1) L (aI n :: S) h Q) : fwWP M d pc L S h Q := by
  intro l p e s m args below meth c ad D tc H locs ls C X
  exact lv_iconst C.1 C.2.1 hd rfl (k l p e s m args below meth c ad D tc H locs ls C X)
theorem w_bipush {n : Int} (hd : decode M.2.1 pc = .ok (.bipush n, 2)) (hn : (Int8.ofInt n).toInt32 = Int32.ofInt n) (k : fwWP M d (pc + 2) L (aI n :: S) h Q) : fwWP M d pc L S h Q := by
  intro l p e s m args below meth c ad D tc H locs ls C X
  exact lv_bipush C.1 C.2.1 hd hn (k l p e s m args below meth c ad D tc H locs ls C X)
theorem w_sipush {n : Int} (hd : decode M.2.1 pc = .ok (.sipush n, 3)) (hn : (Int16.ofInt n).toInt32 = Int32.ofInt n) (k : fwWP M d (pc + 3) L (aI n :: S) h Q) : fwWP M d pc L S h Q := by
  intro l p e s m args below meth c ad D tc H locs ls C X
  exact lv_sipush C.1 C.2.1 hd hn (k l p e s m args below meth c ad D tc H locs ls C X)
theorem w_ldc {i : Nat} {n : Int} (hd : decode M.2.1 pc = .ok (.ldc i, 2)) (hc : Cond.constant M.1.cls i (Int32.ofInt n) ∈ fwTb) (k : fwWP M d (pc + 2) L (aI n :: S) h Q) : fwWP M d pc L S h Q := by
  intro l p e s m args below meth c ad D tc H locs ls C X
  exact lv_ldc C.1 C.2.1 C.2.2.2.1 (C.2.2.2.2.1 _ hc) hd (k l p e s m args below meth c ad D tc H locs ls C X)
theorem w_ldcw {i : Nat} {n : Int} (hd : decode M.2.1 pc = .ok (.ldc_w i, 3)) (hc : Cond.constant M.1.cls i (Int32.ofInt n) ∈ fwTb) (k : fwWP M d (pc + 3) L (aI n :: S) h Q) : fwWP M d pc L S h Q := by
  intro l p e s m args below meth c ad D tc H locs ls C X
  exact lv_ldcw C.1 C.2.1 C.2.2.2.1 (C.2.2.2.2.1 _ hc) hd (k l p e s m args below meth c ad D tc H locs ls C X)
theorem w_ldc2 {i : Nat} {n : Int} (hd : decode M.2.1 pc = .ok (.ldc2_w i, 3)) (hc : Cond.constantLong M.1.cls i (Int64.ofInt n) ∈ fwTb) (k : fwWP M d (pc + 3) L (aJ n :: S) h Q) : fwWP M d pc L S h Q := by
  intro l p e s m args below meth c ad D tc H locs ls C X
  exact lv_ldc2 C.1 C.2.1 C.2.2.2.1 (C.2.2.2.2.1 _ hc) hd (k l p e s m args below meth c ad D tc H locs ls C X)
theorem w_lconst {n : Fin 2} {z : Int} (hd : decode M.2.1 pc = .ok (.lconst n, 1)) (hn : Int64.ofNat (n : Nat) = Int64.ofInt z) (k : fwWP M d (pc + 1) L (aJ z :: S) h Q) : fwWP M d pc L S h Q := by
  intro l p e s m args below meth c ad D tc H locs ls C X
  exact lv_lconst C.1 C.2.1 hd hn (k l p e s m args below meth c ad D tc H locs ls C X)
theorem w_ldcS {i n : Nat} {tx : String} {by_ : List Int} (hd : decode M.2.1 pc = .ok (.ldc i, 2)) (hc : fwSr[n]? = some (M.1.cls, i, tx, by_)) (k : fwWP M d (pc + 2) L (aR 50 n :: S) h Q) : fwWP M d pc L S h Q := by
  intro l p e s m args below meth c ad D tc H locs ls C X
  exact va_ldcS C.1 C.2.1 C.2.2.2.1 (C.2.2.2.2.2.2.2.2.2.2.1 n _ _ _ _ hc) hd (k l p e s m args below meth c ad D tc H locs ls C X)
theorem w_iload {i : Nat} {x : Int} (hd : decode M.2.1 pc = .ok (.iload i, 2)) (hl : L[i]? = some (some (aI x))) (k : fwWP M d (pc + 2) L (aI x :: S) h Q) : fwWP M d pc L S h Q := by
  intro l p e s m args below meth c ad D tc H locs ls C X
  exact lv_iload C.1 C.2.1 hd (X.2.2.2.2 i _ hl) (k l p e s m args below meth c ad D tc H locs ls C X)
theorem w_iload_n {i : Fin 4} {x : Int} (hd : decode M.2.1 pc = .ok (.iload_n i, 1)) (hl : L[(i : Nat)]? = some (some (aI x))) (k : fwWP M d (pc + 1) L (aI x :: S) h Q) : fwWP M d pc L S h Q := by
  intro l p e s m args below meth c ad D tc H locs ls C X
  exact lv_iload_n C.1 C.2.1 hd rfl (X.2.2.2.2 i _ hl) (k l p e s m args below meth c ad D tc H locs ls C X)
theorem w_lload {i : Nat} {x : Int} (hd : decode M.2.1 pc = .ok (.lload i, 2)) (hl : L[i]? = some (some (aJ x))) (k : fwWP M d (pc + 2) L (aJ x :: S) h Q) : fwWP M d pc L S h Q := by
  intro l p e s m args below meth c ad D tc H locs ls C X
  exact lv_lload C.1 C.2.1 hd (X.2.2.2.2 i _ hl) (k l p e s m args below meth c ad D tc H locs ls C X)
theorem w_lload_n {i : Fin 4} {x : Int} (hd : decode M.2.1 pc = .ok (.lload_n i, 1)) (hl : L[(i : Nat)]? = some (some (aJ x))) (k : fwWP M d (pc + 1) L (aJ x :: S) h Q) : fwWP M d pc L S h Q := by
  intro l p e s m args below meth c ad D tc H locs ls C X
  exact lv_lload_n C.1 C.2.1 hd rfl (X.2.2.2.2 i _ hl) (k l p e s m args below meth c ad D tc H locs ls C X)
theorem w_aload {i : Nat} {kd nr : Nat} (hd : decode M.2.1 pc = .ok (.aload i, 2)) (hl : L[i]? = some (some (aR kd nr))) (k : fwWP M d (pc + 2) L (aR kd nr :: S) h Q) : fwWP M d pc L S h Q := by
  intro l p e s m args below meth c ad D tc H locs ls C X
  exact lv_aload C.1 C.2.1 hd (X.2.2.2.2 i _ hl) (k l p e s m args below meth c ad D tc H locs ls C X)
theorem w_aload_n {i : Fin 4} {kd nr : Nat} (hd : decode M.2.1 pc = .ok (.aload_n i, 1)) (hl : L[(i : Nat)]? = some (some (aR kd nr))) (k : fwWP M d (pc + 1) L (aR kd nr :: S) h Q) : fwWP M d pc L S h Q := by
  intro l p e s m args below meth c ad D tc H locs ls C X
  exact lv_aload_n C.1 C.2.1 hd rfl (X.2.2.2.2 i _ hl) (k l p e s m args below meth c ad D tc H locs ls C X)
theorem w_istore {i : Nat} {x : Int} (L' : List (Option fwV)) (hd : decode M.2.1 pc = .ok (.istore i, 2)) (hL : fwSt1 L i (aI x) = L') (hn : i < M.2.2.1) (k : fwWP M d (pc + 2) L' S h Q) : fwWP M d pc L (aI x :: S) h Q := by
  intro l p e s m args below meth c ad D tc H locs ls C X
  refine lv_istore C.1 C.2.1 hd (fwLvL_has X.2.2) hn rfl (fun ls' h' => ?_)
  exact k l p e s m args below meth c ad D tc H locs ls' C ⟨X.1, X.2.1, hL ▸ fw_st1 h'⟩
theorem w_istore_n {i : Fin 4} {x : Int} (L' : List (Option fwV)) (hd : decode M.2.1 pc = .ok (.istore_n i, 1)) (hL : fwSt1 L i (aI x) = L') (hn : (i : Nat) < M.2.2.1) (k : fwWP M d (pc + 1) L' S h Q) : fwWP M d pc L (aI x :: S) h Q := by
  intro l p e s m args below meth c ad D tc H locs ls C X
  refine lv_istore_n C.1 C.2.1 hd rfl (fwLvL_has X.2.2) hn rfl (fun ls' h' => ?_)
  exact k l p e s m args below meth c ad D tc H locs ls' C ⟨X.1, X.2.1, hL ▸ fw_st1 h'⟩
theorem w_astore {i : Nat} {kd nr : Nat} (L' : List (Option fwV)) (hd : decode M.2.1 pc = .ok (.astore i, 2)) (hL : fwSt1 L i (aR kd nr) = L') (hn : i < M.2.2.1) (k : fwWP M d (pc + 2) L' S h Q) : fwWP M d pc L (aR kd nr :: S) h Q := by
  intro l p e s m args below meth c ad D tc H locs ls C X
  refine lv_astore C.1 C.2.1 hd (fwLvL_has X.2.2) hn rfl (fun ls' h' => ?_)
  exact k l p e s m args below meth c ad D tc H locs ls' C ⟨X.1, X.2.1, hL ▸ fw_st1 h'⟩
theorem w_astore_n {i : Fin 4} {kd nr : Nat} (L' : List (Option fwV)) (hd : decode M.2.1 pc = .ok (.astore_n i, 1)) (hL : fwSt1 L i (aR kd nr) = L') (hn : (i : Nat) < M.2.2.1) (k : fwWP M d (pc + 1) L' S h Q) : fwWP M d pc L (aR kd nr :: S) h Q := by
  intro l p e s m args below meth c ad D tc H locs ls C X
  refine lv_astore_n C.1 C.2.1 hd rfl (fwLvL_has X.2.2) hn rfl (fun ls' h' => ?_)
  exact k l p e s m args below meth c ad D tc H locs ls' C ⟨X.1, X.2.1, hL ▸ fw_st1 h'⟩
theorem w_lstore {i : Nat} {x : Int} (L' : List (Option fwV)) (hd : decode M.2.1 pc = .ok (.lstore i, 2)) (hL : fwSt2 L i (aJ x) = L') (hn : i + 1 < M.2.2.1) (k : fwWP M d (pc + 2) L' S h Q) : fwWP M d pc L (aJ x :: S) h Q := by
  intro l p e s m args below meth c ad D tc H locs ls C X
  refine lv_lstore C.1 C.2.1 hd (fwLvL_has X.2.2) hn rfl (fun ls' h' => ?_)
  exact k l p e s m args below meth c ad D tc H locs ls' C ⟨X.1, X.2.1, hL ▸ fw_st2 h'⟩
theorem w_lstore_n {i : Fin 4} {x : Int} (L' : List (Option fwV)) (hd : decode M.2.1 pc = .ok (.lstore_n i, 1)) (hL : fwSt2 L i (aJ x) = L') (hn : (i : Nat) + 1 < M.2.2.1) (k : fwWP M d (pc + 1) L' S h Q) : fwWP M d pc L (aJ x :: S) h Q := by
  intro l p e s m args below meth c ad D tc H locs ls C X
  refine lv_lstore_n C.1 C.2.1 hd rfl (fwLvL_has X.2.2) hn rfl (fun ls' h' => ?_)
  exact k l p e s m args below meth c ad D tc H locs ls' C ⟨X.1, X.2.1, hL ▸ fw_st2 h'⟩
theorem w_iinc {i : Nat} {n x : Int} (L' : List (Option fwV)) (hd : decode M.2.1 pc = .ok (.iinc i n, 3)) (hl : L[i]? = some (some (aI x))) (hL : fwSt1 L i (aI (x + n)) = L') (hn : i < M.2.2.1) (k : fwWP M d (pc + 3) L' S h Q) : fwWP M d pc L S h Q := by
  intro l p e s m args below meth c ad D tc H locs ls C X
  obtain ⟨q, hq⟩ := List.getElem?_of_mem (fwLvL_mem (ad := ad) hl)
  refine lv_iinc C.1 C.2.1 hd (fwLvL_has X.2.2) (k := q) hq (fwI_add x n) hn rfl (fun ls' h' => ?_)
  exact k l p e s m args below meth c ad D tc H locs ls' C ⟨X.1, X.2.1, hL ▸ fw_st1 h'⟩
theorem w_iadd {x y : Int} (hd : decode M.2.1 pc = .ok (.iadd, 1)) (k : fwWP M d (pc + 1) L (aI (x + y) :: S) h Q) : fwWP M d pc L (aI y :: aI x :: S) h Q := by
  intro l p e s m args below meth c ad D tc H locs ls C X
  refine lv_iadd C.1 C.2.1 hd ?_
  rw [fwI_add]
  exact k l p e s m args below meth c ad D tc H locs ls C X
theorem w_isub {x y : Int} (hd : decode M.2.1 pc = .ok (.isub, 1)) (k : fwWP M d (pc + 1) L (aI (x - y) :: S) h Q) : fwWP M d pc L (aI y :: aI x :: S) h Q := by
  intro l p e s m args below meth c ad D tc H locs ls C X
  refine lv_isub C.1 C.2.1 hd ?_
  rw [fwI_sub]
  exact k l p e s m args below meth c ad D tc H locs ls C X
theorem w_imul {x y : Int} (hd : decode M.2.1 pc = .ok (.imul, 1)) (k : fwWP M d (pc + 1) L (aI (x * y) :: S) h Q) : fwWP M d pc L (aI y :: aI x :: S) h Q := by
  intro l p e s m args below meth c ad D tc H locs ls C X
  refine lv_imul C.1 C.2.1 hd ?_
  rw [fwI_mul]
  exact k l p e s m args below meth c ad D tc H locs ls C X
theorem w_iand {x y : Int} (hd : decode M.2.1 pc = .ok (.iand, 1)) (k : fwWP M d (pc + 1) L (aI (fwAnd x y) :: S) h Q) : fwWP M d pc L (aI y :: aI x :: S) h Q := by
  intro l p e s m args below meth c ad D tc H locs ls C X
  refine lv_iand C.1 C.2.1 hd ?_
  have := k l p e s m args below meth c ad D tc H locs ls C X
  simp only [List.map_cons, fwMv, fwAnd, Int32.ofInt_toInt] at this
  exact this
theorem w_ior {x y : Int} (hd : decode M.2.1 pc = .ok (.ior, 1)) (k : fwWP M d (pc + 1) L (aI (fwOr x y) :: S) h Q) : fwWP M d pc L (aI y :: aI x :: S) h Q := by
  intro l p e s m args below meth c ad D tc H locs ls C X
  refine lv_ior C.1 C.2.1 hd ?_
  have := k l p e s m args below meth c ad D tc H locs ls C X
  simp only [List.map_cons, fwMv, fwOr, Int32.ofInt_toInt] at this
  exact this
theorem w_ixor {x y : Int} (hd : decode M.2.1 pc = .ok (.ixor, 1)) (k : fwWP M d (pc + 1) L (aI (fwXor x y) :: S) h Q) : fwWP M d pc L (aI y :: aI x :: S) h Q := by
  intro l p e s m args below meth c ad D tc H locs ls C X
  refine lv_ixor C.1 C.2.1 hd ?_
  have := k l p e s m args below meth c ad D tc H locs ls C X
  simp only [List.map_cons, fwMv, fwXor, Int32.ofInt_toInt] at this
  exact this
theorem w_ishl {x y : Int} (hd : decode M.2.1 pc = .ok (.ishl, 1)) (k : fwWP M d (pc + 1) L (aI (fwShl x y) :: S) h Q) : fwWP M d pc L (aI y :: aI x :: S) h Q := by
  intro l p e s m args below meth c ad D tc H locs ls C X
  refine lv_ishl C.1 C.2.1 hd ?_
  have := k l p e s m args below meth c ad D tc H locs ls C X
  simp only [List.map_cons, fwMv, fwShl, Int32.ofInt_toInt] at this
  exact this
theorem w_ishr {x y : Int} (hd : decode M.2.1 pc = .ok (.ishr, 1)) (k : fwWP M d (pc + 1) L (aI (fwShr x y) :: S) h Q) : fwWP M d pc L (aI y :: aI x :: S) h Q := by
  intro l p e s m args below meth c ad D tc H locs ls C X
  refine lv_ishr C.1 C.2.1 hd ?_
  have := k l p e s m args below meth c ad D tc H locs ls C X
  simp only [List.map_cons, fwMv, fwShr, Int32.ofInt_toInt] at this
  exact this
theorem w_iushr {x y : Int} (hd : decode M.2.1 pc = .ok (.iushr, 1)) (k : fwWP M d (pc + 1) L (aI (fwUsh x y) :: S) h Q) : fwWP M d pc L (aI y :: aI x :: S) h Q := by
  intro l p e s m args below meth c ad D tc H locs ls C X
  refine lv_iushr C.1 C.2.1 hd rfl ?_
  have := k l p e s m args below meth c ad D tc H locs ls C X
  simp only [List.map_cons, fwMv, fwUsh, Int32.ofInt_toInt] at this
  exact this
theorem w_idiv {x y : Int} (hd : decode M.2.1 pc = .ok (.idiv, 1)) (hy : -2147483648 ≤ y ∧ y < 2147483648) (h0 : y ≠ 0) (k : fwWP M d (pc + 1) L (aI (fwDiv x y) :: S) h Q) : fwWP M d pc L (aI y :: aI x :: S) h Q := by
  intro l p e s m args below meth c ad D tc H locs ls C X
  refine lv_idiv C.1 C.2.1 hd (by rw [fwI_0, fwI_eq hy ⟨by decide, by decide⟩]; exact h0) ?_
  have := k l p e s m args below meth c ad D tc H locs ls C X
  simp only [List.map_cons, fwMv, fwDiv, Int32.ofInt_toInt] at this
  exact this
theorem w_irem {x y : Int} (hd : decode M.2.1 pc = .ok (.irem, 1)) (hy : -2147483648 ≤ y ∧ y < 2147483648) (h0 : y ≠ 0) (k : fwWP M d (pc + 1) L (aI (fwRem x y) :: S) h Q) : fwWP M d pc L (aI y :: aI x :: S) h Q := by
  intro l p e s m args below meth c ad D tc H locs ls C X
  refine lv_irem C.1 C.2.1 hd (by rw [fwI_0, fwI_eq hy ⟨by decide, by decide⟩]; exact h0) ?_
  have := k l p e s m args below meth c ad D tc H locs ls C X
  simp only [List.map_cons, fwMv, fwRem, Int32.ofInt_toInt] at this
  exact this
theorem w_ineg {x : Int} (hd : decode M.2.1 pc = .ok (.ineg, 1)) (k : fwWP M d (pc + 1) L (aI (-x) :: S) h Q) : fwWP M d pc L (aI x :: S) h Q := by
  intro l p e s m args below meth c ad D tc H locs ls C X
  refine lv_ineg C.1 C.2.1 hd ?_
  rw [fwI_neg]
  exact k l p e s m args below meth c ad D tc H locs ls C X
theorem w_ladd {x y : Int} (hd : decode M.2.1 pc = .ok (.ladd, 1)) (k : fwWP M d (pc + 1) L (aJ (x + y) :: S) h Q) : fwWP M d pc L (aJ y :: aJ x :: S) h Q := by
  intro l p e s m args below meth c ad D tc H locs ls C X
  refine lv_ladd C.1 C.2.1 hd ?_
  rw [fwL_add]
  exact k l p e s m args below meth c ad D tc H locs ls C X
theorem w_lmul {x y : Int} (hd : decode M.2.1 pc = .ok (.lmul, 1)) (k : fwWP M d (pc + 1) L (aJ (x * y) :: S) h Q) : fwWP M d pc L (aJ y :: aJ x :: S) h Q := by
  intro l p e s m args below meth c ad D tc H locs ls C X
  refine lv_lmul C.1 C.2.1 hd ?_
  rw [fwL_mul]
  exact k l p e s m args below meth c ad D tc H locs ls C X
theorem w_land {x y : Int} (hd : decode M.2.1 pc = .ok (.land, 1)) (k : fwWP M d (pc + 1) L (aJ (fwLand x y) :: S) h Q) : fwWP M d pc L (aJ y :: aJ x :: S) h Q := by
  intro l p e s m args below meth c ad D tc H locs ls C X
  refine lv_land C.1 C.2.1 hd ?_
  have := k l p e s m args below meth c ad D tc H locs ls C X
  simp only [List.map_cons, fwMv, fwLand, Int64.ofInt_toInt] at this
  exact this
theorem w_lor {x y : Int} (hd : decode M.2.1 pc = .ok (.lor, 1)) (k : fwWP M d (pc + 1) L (aJ (fwLor x y) :: S) h Q) : fwWP M d pc L (aJ y :: aJ x :: S) h Q := by
  intro l p e s m args below meth c ad D tc H locs ls C X
  refine lv_lor C.1 C.2.1 hd ?_
  have := k l p e s m args below meth c ad D tc H locs ls C X
  simp only [List.map_cons, fwMv, fwLor, Int64.ofInt_toInt] at this
  exact this
theorem w_ldiv {x y : Int} (hd : decode M.2.1 pc = .ok (.ldiv, 1)) (hy : -9223372036854775808 ≤ y ∧ y < 9223372036854775808) (h0 : y ≠ 0) (k : fwWP M d (pc + 1) L (aJ (fwLdiv x y) :: S) h Q) : fwWP M d pc L (aJ y :: aJ x :: S) h Q := by
  intro l p e s m args below meth c ad D tc H locs ls C X
  refine lv_ldiv C.1 C.2.1 hd (by rw [show (0 : Int64) = Int64.ofInt 0 from rfl, fwL_eq hy ⟨by decide, by decide⟩]; exact h0) ?_
  have := k l p e s m args below meth c ad D tc H locs ls C X
  simp only [List.map_cons, fwMv, fwLdiv, Int64.ofInt_toInt] at this
  exact this
theorem w_lrem {x y : Int} (hd : decode M.2.1 pc = .ok (.lrem, 1)) (hy : -9223372036854775808 ≤ y ∧ y < 9223372036854775808) (h0 : y ≠ 0) (k : fwWP M d (pc + 1) L (aJ (fwLrem x y) :: S) h Q) : fwWP M d pc L (aJ y :: aJ x :: S) h Q := by
  intro l p e s m args below meth c ad D tc H locs ls C X
  refine lv_lrem C.1 C.2.1 hd (by rw [show (0 : Int64) = Int64.ofInt 0 from rfl, fwL_eq hy ⟨by decide, by decide⟩]; exact h0) ?_
  have := k l p e s m args below meth c ad D tc H locs ls C X
  simp only [List.map_cons, fwMv, fwLrem, Int64.ofInt_toInt] at this
  exact this
theorem w_lshl {x y : Int} (hd : decode M.2.1 pc = .ok (.lshl, 1)) (k : fwWP M d (pc + 1) L (aJ (fwLshl x y) :: S) h Q) : fwWP M d pc L (aI y :: aJ x :: S) h Q := by
  intro l p e s m args below meth c ad D tc H locs ls C X
  refine lv_lshl C.1 C.2.1 hd rfl ?_
  have := k l p e s m args below meth c ad D tc H locs ls C X
  simp only [List.map_cons, fwMv, fwLshl, Int64.ofInt_toInt] at this
  exact this
theorem w_lshr {x y : Int} (hd : decode M.2.1 pc = .ok (.lshr, 1)) (k : fwWP M d (pc + 1) L (aJ (fwLshr x y) :: S) h Q) : fwWP M d pc L (aI y :: aJ x :: S) h Q := by
  intro l p e s m args below meth c ad D tc H locs ls C X
  refine lv_lshr C.1 C.2.1 hd rfl ?_
  have := k l p e s m args below meth c ad D tc H locs ls C X
  simp only [List.map_cons, fwMv, fwLshr, Int64.ofInt_toInt] at this
  exact this
theorem w_i2l {x : Int} (hd : decode M.2.1 pc = .ok (.i2l, 1)) (hx : -2147483648 ≤ x ∧ x < 2147483648) (k : fwWP M d (pc + 1) L (aJ x :: S) h Q) : fwWP M d pc L (aI x :: S) h Q := by
  intro l p e s m args below meth c ad D tc H locs ls C X
  exact lv_i2l C.1 C.2.1 hd (v := Int64.ofInt x) (by apply Int64.toInt_inj.mp; rw [Int32.toInt_toInt64, fwI_rt hx, fwL_rt ⟨by omega, by omega⟩]) (k l p e s m args below meth c ad D tc H locs ls C X)
theorem w_l2i {x : Int} (hd : decode M.2.1 pc = .ok (.l2i, 1)) (k : fwWP M d (pc + 1) L (aI x :: S) h Q) : fwWP M d pc L (aJ x :: S) h Q := by
  intro l p e s m args below meth c ad D tc H locs ls C X
  exact lv_l2i C.1 C.2.1 hd (v := Int32.ofInt x) Int64.toInt32_ofInt (k l p e s m args below meth c ad D tc H locs ls C X)
theorem w_i2b {x : Int} (hd : decode M.2.1 pc = .ok (.i2b, 1)) (k : fwWP M d (pc + 1) L (aI (fwB8 x) :: S) h Q) : fwWP M d pc L (aI x :: S) h Q := by
  intro l p e s m args below meth c ad D tc H locs ls C X
  refine lv_i2b C.1 C.2.1 hd (v := Int32.ofInt (fwB8 x)) (Int32.ofInt_int8ToInt _).symm ?_
  exact k l p e s m args below meth c ad D tc H locs ls C X
theorem w_i2s {x : Int} (hd : decode M.2.1 pc = .ok (.i2s, 1)) (k : fwWP M d (pc + 1) L (aI (fwS16 x) :: S) h Q) : fwWP M d pc L (aI x :: S) h Q := by
  intro l p e s m args below meth c ad D tc H locs ls C X
  refine lv_i2s C.1 C.2.1 hd (v := Int32.ofInt (fwS16 x)) (Int32.ofInt_int16ToInt _).symm ?_
  exact k l p e s m args below meth c ad D tc H locs ls C X
theorem w_i2c {x : Int} (hd : decode M.2.1 pc = .ok (.i2c, 1)) (k : fwWP M d (pc + 1) L (aI (fwC16 x) :: S) h Q) : fwWP M d pc L (aI x :: S) h Q := by
  intro l p e s m args below meth c ad D tc H locs ls C X
  refine lv_i2c C.1 C.2.1 hd (v := Int32.ofInt (fwC16 x)) (by simp [fwC16]) ?_
  exact k l p e s m args below meth c ad D tc H locs ls C X
theorem w_dup {v : fwV} (hd : decode M.2.1 pc = .ok (.dup, 1)) (hv : fwIsJ (some v) = false) (k : fwWP M d (pc + 1) L (v :: v :: S) h Q) : fwWP M d pc L (v :: S) h Q := by
  intro l p e s m args below meth c ad D tc H locs ls C X
  exact lv_dup C.1 C.2.1 hd (by have := fwMv_cat ad v; rw [hv] at this; rcases lv_cat (fwMv ad v) with q | q <;> simp_all) (k l p e s m args below meth c ad D tc H locs ls C X)
theorem w_pop {v : fwV} (hd : decode M.2.1 pc = .ok (.pop, 1)) (hv : fwIsJ (some v) = false) (k : fwWP M d (pc + 1) L S h Q) : fwWP M d pc L (v :: S) h Q := by
  intro l p e s m args below meth c ad D tc H locs ls C X
  exact lv_pop C.1 C.2.1 hd (by have := fwMv_cat ad v; rw [hv] at this; rcases lv_cat (fwMv ad v) with q | q <;> simp_all) (k l p e s m args below meth c ad D tc H locs ls C X)
theorem w_dup2 {v w : fwV} (hd : decode M.2.1 pc = .ok (.dup2, 1)) (hv : fwIsJ (some v) = false) (hw : fwIsJ (some w) = false) (k : fwWP M d (pc + 1) L (v :: w :: v :: w :: S) h Q) : fwWP M d pc L (v :: w :: S) h Q := by
  intro l p e s m args below meth c ad D tc H locs ls C X
  exact lv_dup2_11 C.1 C.2.1 hd (by have := fwMv_cat ad v; rw [hv] at this; rcases lv_cat (fwMv ad v) with q | q <;> simp_all) (by have := fwMv_cat ad w; rw [hw] at this; rcases lv_cat (fwMv ad w) with q | q <;> simp_all) (k l p e s m args below meth c ad D tc H locs ls C X)
theorem w_goto {off : Int} (tgt : Nat) (hd : decode M.2.1 pc = .ok (.goto off, 3)) (ht : (pc : Int) + off = (tgt : Int)) (k : fwWP M d tgt L S h Q) : fwWP M d pc L S h Q := by
  intro l p e s m args below meth c ad D tc H locs ls C X
  exact lv_goto C.1 C.2.1 hd ht (k l p e s m args below meth c ad D tc H locs ls C X)
theorem w_if_eq {x off : Int} (tgt : Nat) (hd : decode M.2.1 pc = .ok (.ifCond .eq off, 3)) (ht : (pc : Int) + off = (tgt : Int)) (hx : -2147483648 ≤ x ∧ x < 2147483648) (kt : x = 0 → fwWP M d tgt L S h Q) (kf : x ≠ 0 → fwWP M d (pc + 3) L S h Q) : fwWP M d pc L (aI x :: S) h Q := by
  intro l p e s m args below meth c ad D tc H locs ls C X
  exact lv_if_eq C.1 C.2.1 hd ht (fun q => kt (by rw [fwI_0, fwI_eq hx ⟨by decide, by decide⟩] at q; exact q) l p e s m args below meth c ad D tc H locs ls C X) (fun q => kf (fun z => q (by rw [fwI_0, fwI_eq hx ⟨by decide, by decide⟩]; exact z)) l p e s m args below meth c ad D tc H locs ls C X)
theorem w_if_ne {x off : Int} (tgt : Nat) (hd : decode M.2.1 pc = .ok (.ifCond .ne off, 3)) (ht : (pc : Int) + off = (tgt : Int)) (hx : -2147483648 ≤ x ∧ x < 2147483648) (kt : x ≠ 0 → fwWP M d tgt L S h Q) (kf : x = 0 → fwWP M d (pc + 3) L S h Q) : fwWP M d pc L (aI x :: S) h Q := by
  intro l p e s m args below meth c ad D tc H locs ls C X
  exact lv_if_ne C.1 C.2.1 hd ht (fun q => kt (fun z => q (by rw [fwI_0, fwI_eq hx ⟨by decide, by decide⟩]; exact z)) l p e s m args below meth c ad D tc H locs ls C X) (fun q => kf (by rw [fwI_0, fwI_eq hx ⟨by decide, by decide⟩] at q; exact q) l p e s m args below meth c ad D tc H locs ls C X)
theorem w_if_lt {x off : Int} (tgt : Nat) (hd : decode M.2.1 pc = .ok (.ifCond .lt off, 3)) (ht : (pc : Int) + off = (tgt : Int)) (hx : -2147483648 ≤ x ∧ x < 2147483648) (kt : x < 0 → fwWP M d tgt L S h Q) (kf : 0 ≤ x → fwWP M d (pc + 3) L S h Q) : fwWP M d pc L (aI x :: S) h Q := by
  intro l p e s m args below meth c ad D tc H locs ls C X
  exact lv_if_lt C.1 C.2.1 hd ht (fun q => kt (by rw [fwI_0, fwI_lt hx ⟨by decide, by decide⟩] at q; exact q) l p e s m args below meth c ad D tc H locs ls C X) (fun q => kf (by rw [fwI_0, fwI_lt hx ⟨by decide, by decide⟩] at q; omega) l p e s m args below meth c ad D tc H locs ls C X)
theorem w_if_ge {x off : Int} (tgt : Nat) (hd : decode M.2.1 pc = .ok (.ifCond .ge off, 3)) (ht : (pc : Int) + off = (tgt : Int)) (hx : -2147483648 ≤ x ∧ x < 2147483648) (kt : 0 ≤ x → fwWP M d tgt L S h Q) (kf : x < 0 → fwWP M d (pc + 3) L S h Q) : fwWP M d pc L (aI x :: S) h Q := by
  intro l p e s m args below meth c ad D tc H locs ls C X
  exact lv_if_ge C.1 C.2.1 hd ht (fun q => kt (by rw [fwI_0, fwI_le ⟨by decide, by decide⟩ hx] at q; exact q) l p e s m args below meth c ad D tc H locs ls C X) (fun q => kf (by rw [fwI_0, fwI_le ⟨by decide, by decide⟩ hx] at q; omega) l p e s m args below meth c ad D tc H locs ls C X)
theorem w_if_gt {x off : Int} (tgt : Nat) (hd : decode M.2.1 pc = .ok (.ifCond .gt off, 3)) (ht : (pc : Int) + off = (tgt : Int)) (hx : -2147483648 ≤ x ∧ x < 2147483648) (kt : 0 < x → fwWP M d tgt L S h Q) (kf : x ≤ 0 → fwWP M d (pc + 3) L S h Q) : fwWP M d pc L (aI x :: S) h Q := by
  intro l p e s m args below meth c ad D tc H locs ls C X
  exact lv_if_gt C.1 C.2.1 hd ht (fun q => kt (by rw [fwI_0, fwI_lt ⟨by decide, by decide⟩ hx] at q; exact q) l p e s m args below meth c ad D tc H locs ls C X) (fun q => kf (by rw [fwI_0, fwI_lt ⟨by decide, by decide⟩ hx] at q; omega) l p e s m args below meth c ad D tc H locs ls C X)
theorem w_if_le {x off : Int} (tgt : Nat) (hd : decode M.2.1 pc = .ok (.ifCond .le off, 3)) (ht : (pc : Int) + off = (tgt : Int)) (hx : -2147483648 ≤ x ∧ x < 2147483648) (kt : x ≤ 0 → fwWP M d tgt L S h Q) (kf : 0 < x → fwWP M d (pc + 3) L S h Q) : fwWP M d pc L (aI x :: S) h Q := by
  intro l p e s m args below meth c ad D tc H locs ls C X
  exact lv_if_le C.1 C.2.1 hd ht (fun q => kt (by rw [fwI_0, fwI_le hx ⟨by decide, by decide⟩] at q; exact q) l p e s m args below meth c ad D tc H locs ls C X) (fun q => kf (by rw [fwI_0, fwI_le hx ⟨by decide, by decide⟩] at q; omega) l p e s m args below meth c ad D tc H locs ls C X)
theorem w_icmp_eq {x y off : Int} (tgt : Nat) (hd : decode M.2.1 pc = .ok (.if_icmp .eq off, 3)) (ht : (pc : Int) + off = (tgt : Int)) (hx : -2147483648 ≤ x ∧ x < 2147483648) (hy : -2147483648 ≤ y ∧ y < 2147483648) (kt : x = y → fwWP M d tgt L S h Q) (kf : x ≠ y → fwWP M d (pc + 3) L S h Q) : fwWP M d pc L (aI y :: aI x :: S) h Q := by
  intro l p e s m args below meth c ad D tc H locs ls C X
  exact lv_icmp_eq C.1 C.2.1 hd ht (fun q => kt (by rw [fwI_eq hx hy] at q; exact q) l p e s m args below meth c ad D tc H locs ls C X) (fun q => kf (fun z => q (by rw [fwI_eq hx hy]; exact z)) l p e s m args below meth c ad D tc H locs ls C X)
theorem w_icmp_ne {x y off : Int} (tgt : Nat) (hd : decode M.2.1 pc = .ok (.if_icmp .ne off, 3)) (ht : (pc : Int) + off = (tgt : Int)) (hx : -2147483648 ≤ x ∧ x < 2147483648) (hy : -2147483648 ≤ y ∧ y < 2147483648) (kt : x ≠ y → fwWP M d tgt L S h Q) (kf : x = y → fwWP M d (pc + 3) L S h Q) : fwWP M d pc L (aI y :: aI x :: S) h Q := by
  intro l p e s m args below meth c ad D tc H locs ls C X
  exact lv_icmp_ne C.1 C.2.1 hd ht (fun q => kt (fun z => q (by rw [fwI_eq hx hy]; exact z)) l p e s m args below meth c ad D tc H locs ls C X) (fun q => kf (by rw [fwI_eq hx hy] at q; exact q) l p e s m args below meth c ad D tc H locs ls C X)
theorem w_icmp_lt {x y off : Int} (tgt : Nat) (hd : decode M.2.1 pc = .ok (.if_icmp .lt off, 3)) (ht : (pc : Int) + off = (tgt : Int)) (hx : -2147483648 ≤ x ∧ x < 2147483648) (hy : -2147483648 ≤ y ∧ y < 2147483648) (kt : x < y → fwWP M d tgt L S h Q) (kf : y ≤ x → fwWP M d (pc + 3) L S h Q) : fwWP M d pc L (aI y :: aI x :: S) h Q := by
  intro l p e s m args below meth c ad D tc H locs ls C X
  exact lv_icmp_lt C.1 C.2.1 hd ht (fun q => kt (by rw [fwI_lt hx hy] at q; exact q) l p e s m args below meth c ad D tc H locs ls C X) (fun q => kf (by rw [fwI_lt hx hy] at q; omega) l p e s m args below meth c ad D tc H locs ls C X)
theorem w_icmp_ge {x y off : Int} (tgt : Nat) (hd : decode M.2.1 pc = .ok (.if_icmp .ge off, 3)) (ht : (pc : Int) + off = (tgt : Int)) (hx : -2147483648 ≤ x ∧ x < 2147483648) (hy : -2147483648 ≤ y ∧ y < 2147483648) (kt : y ≤ x → fwWP M d tgt L S h Q) (kf : x < y → fwWP M d (pc + 3) L S h Q) : fwWP M d pc L (aI y :: aI x :: S) h Q := by
  intro l p e s m args below meth c ad D tc H locs ls C X
  exact lv_icmp_ge C.1 C.2.1 hd ht (fun q => kt (by rw [fwI_le hy hx] at q; exact q) l p e s m args below meth c ad D tc H locs ls C X) (fun q => kf (by rw [fwI_le hy hx] at q; omega) l p e s m args below meth c ad D tc H locs ls C X)
theorem w_icmp_gt {x y off : Int} (tgt : Nat) (hd : decode M.2.1 pc = .ok (.if_icmp .gt off, 3)) (ht : (pc : Int) + off = (tgt : Int)) (hx : -2147483648 ≤ x ∧ x < 2147483648) (hy : -2147483648 ≤ y ∧ y < 2147483648) (kt : y < x → fwWP M d tgt L S h Q) (kf : x ≤ y → fwWP M d (pc + 3) L S h Q) : fwWP M d pc L (aI y :: aI x :: S) h Q := by
  intro l p e s m args below meth c ad D tc H locs ls C X
  exact lv_icmp_gt C.1 C.2.1 hd ht (fun q => kt (by rw [fwI_lt hy hx] at q; exact q) l p e s m args below meth c ad D tc H locs ls C X) (fun q => kf (by rw [fwI_lt hy hx] at q; omega) l p e s m args below meth c ad D tc H locs ls C X)
theorem w_icmp_le {x y off : Int} (tgt : Nat) (hd : decode M.2.1 pc = .ok (.if_icmp .le off, 3)) (ht : (pc : Int) + off = (tgt : Int)) (hx : -2147483648 ≤ x ∧ x < 2147483648) (hy : -2147483648 ≤ y ∧ y < 2147483648) (kt : x ≤ y → fwWP M d tgt L S h Q) (kf : y < x → fwWP M d (pc + 3) L S h Q) : fwWP M d pc L (aI y :: aI x :: S) h Q := by
  intro l p e s m args below meth c ad D tc H locs ls C X
  exact lv_icmp_le C.1 C.2.1 hd ht (fun q => kt (by rw [fwI_le hx hy] at q; exact q) l p e s m args below meth c ad D tc H locs ls C X) (fun q => kf (by rw [fwI_le hx hy] at q; omega) l p e s m args below meth c ad D tc H locs ls C X)
theorem w_ifB_eq {P : Prop} [Decidable P] {off : Int} (tgt : Nat) (hd : decode M.2.1 pc = .ok (.ifCond .eq off, 3)) (ht : (pc : Int) + off = (tgt : Int)) (kt : ¬ P → fwWP M d tgt L S h Q) (kf : P → fwWP M d (pc + 3) L S h Q) : fwWP M d pc L (aI (fwB P) :: S) h Q := by
  by_cases hP : P
  · exact w_if_eq tgt hd ht (by simp [fwB, hP]) (fun q => by simp [fwB, hP] at q) (fun _ => kf hP)
  · exact w_if_eq tgt hd ht (by simp [fwB, hP]) (fun _ => kt hP) (fun q => by simp [fwB, hP] at q)
theorem w_ifB_ne {P : Prop} [Decidable P] {off : Int} (tgt : Nat) (hd : decode M.2.1 pc = .ok (.ifCond .ne off, 3)) (ht : (pc : Int) + off = (tgt : Int)) (kt : P → fwWP M d tgt L S h Q) (kf : ¬ P → fwWP M d (pc + 3) L S h Q) : fwWP M d pc L (aI (fwB P) :: S) h Q := by
  by_cases hP : P
  · exact w_if_ne tgt hd ht (by simp [fwB, hP]) (fun _ => kt hP) (fun q => by simp [fwB, hP] at q)
  · exact w_if_ne tgt hd ht (by simp [fwB, hP]) (fun q => by simp [fwB, hP] at q) (fun _ => kf hP)
def fwLc (x y : Int) : Int := if y < x then 1 else if x = y then 0 else -1
theorem w_lcmp {x y : Int} (hd : decode M.2.1 pc = .ok (.lcmp, 1)) (hx : -9223372036854775808 ≤ x ∧ x < 9223372036854775808) (hy : -9223372036854775808 ≤ y ∧ y < 9223372036854775808) (k : fwWP M d (pc + 1) L (aI (fwLc x y) :: S) h Q) : fwWP M d pc L (aJ y :: aJ x :: S) h Q := by
  intro l p e s m args below meth c ad D tc H locs ls C X
  refine W.lcmp C.1 C.2.1 hd ?_
  have e9 : lg_cmp (Int64.ofInt x) (Int64.ofInt y) = Int32.ofInt (fwLc x y) := by
    unfold lg_cmp fwLc
    simp only [gt_iff_lt, fwL_lt hy hx, fwL_eq hx hy]
    split
    · rfl
    · split <;> rfl
  rw [e9]
  exact k l p e s m args below meth c ad D tc H locs ls C X
end FWR
