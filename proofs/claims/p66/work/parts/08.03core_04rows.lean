section
/-! the abstract values: an int, a long, a reference (kind, number) -/
abbrev fwV : Type := Int ⊕ Int ⊕ (Nat × Nat)
abbrev fwH : Type := Nat → Nat → Nat → Int
abbrev aI (x : Int) : fwV := Sum.inl x
abbrev aJ (x : Int) : fwV := Sum.inr (Sum.inl x)
abbrev aR (k i : Nat) : fwV := Sum.inr (Sum.inr (k, i))
abbrev fwM : Type := MethodName × ByteArray × Nat × Option FieldType
def fwMv (ad : Nat → Nat → Nat) (v : fwV) : Value := match v with
  | .inl x => .int (Int32.ofInt x)
  | .inr (.inl x) => .long (Int64.ofInt x)
  | .inr (.inr q) => .ref (ad q.1 q.2)
/-! the shape: kinds 0..12 objects, 13..49 arrays; how many of each -/
def fwNs : List Nat := [1, 1, 1, 5, 6, 5, 1, 1, 1, 1, 1, 1, 1, 1, 1, 1, 1, 6, 5, 5, 5, 5, 1, 1, 1, 1, 1, 1, 1, 1, 1, 1, 1, 4, 1, 1, 1, 1, 1, 1, 1, 1, 1, 1, 1, 1, 1, 1, 1, 1]
def fwNk (k : Nat) : Nat := fwNs.getD k 0
def fwOk (k : Nat) : Option Nat := ([some 11, some 9, some 5, some 2, some 1, some 3, some 4, some 10, some 7, some 0, some 6, some 8, some 12] : List (Option Nat)).getD k none
def fwFn (c : Nat) : Nat := ([2, 5, 7, 4, 5, 8, 9, 7, 3, 6, 4, 12, 26] : List Nat).getD c 0
/-- the references that objects hold: (kind, number), 9: the same number as the holder's -/
def fwTs : List (List (Option (Nat × Nat))) := [
  [some (1, 0), some (2, 0), some (3, 0), some (22, 0), some (23, 0), some (11, 0), some (4, 5), some (6, 0), some (7, 0), some (8, 0), some (9, 0), some (10, 0)],
  [some (13, 0), none, some (14, 0), some (15, 0), some (16, 0), none],
  [some (1, 0), some (3, 1)],
  [some (4, 9), some (5, 9), some (21, 9)],
  [some (17, 9)],
  [some (18, 9), some (19, 9), some (20, 9)],
  [some (3, 0), some (24, 0)],
  [some (3, 0), some (25, 0)],
  [some (3, 0), some (4, 5), some (26, 0), some (27, 0), some (28, 0)],
  [some (3, 0), some (4, 5)],
  [some (3, 0), some (11, 0), some (4, 5), some (29, 0), some (30, 0), some (31, 0)],
  [some (32, 0), some (34, 0), some (35, 0)],
  [none, some (36, 0), some (37, 0), some (38, 0), some (39, 0), none, some (40, 0), none, none, none, none, none, none, none, some (41, 0), some (42, 0), some (43, 0), none, none, some (44, 0), some (45, 0), none, some (46, 0), some (47, 0), some (48, 0), some (49, 0)]]
def fwRf (k j i : Nat) : Option (Nat × Nat) := match (fwTs.getD k []).getD j none with
  | none => none
  | some q => some (q.1, if q.2 = 9 then i else q.2)
/-- arrays: (type, length); types 0 int, 1 byte, 2 boolean, 3 long, 4 Mountain, 5 rows of long -/
def fwAs : List (Option (Nat × Nat)) := [none, none, none, none, none, none, none, none, none, none, none, none, none,
  some (1, 900), some (0, 901), some (0, 901), some (0, 901), some (0, 10), some (0, 56), some (0, 8), some (0, 8), some (0, 60), some (4, 3), some (2, 3), some (1, 6561), some (0, 11), some (0, 80), some (0, 3), some (0, 3), some (0, 21), some (0, 21), some (0, 19), some (5, 4), some (3, 60), some (0, 4), some (0, 4),
  some (0, 135), some (0, 405), some (2, 3), some (1, 900), some (0, 5), some (0, 135), some (0, 10), some (2, 65536), some (0, 3), some (0, 3), some (0, 4), some (0, 4), some (3, 240), some (3, 60)]
def fwAk (k : Nat) : Option (Nat × Nat) := fwAs.getD k none
def fwEl (k j : Nat) : Nat × Nat := if k = 22 then (3, 2 + j) else (33, j)
def fwArr (ad : Nat → Nat → Nat) (f : Nat → Int) (k t n : Nat) : (Nat → Int32) ⊕ (Nat → Int64) ⊕ (Nat → UInt32) ⊕ (Nat → UInt64) ⊕ (Nat → Option Nat) :=
  if t ≤ 2 then .inl (fun j => Int32.ofInt (f j)) else if t = 3 then .inr (.inl (fun j => Int64.ofInt (f j))) else .inr (.inr (.inr (.inr (fun j => if j < n then some (ad (fwEl k j).1 (fwEl k j).2) else none))))
def fwFv (ad : Nat → Nat → Nat) (f : Nat → Int) (k i j : Nat) : Value := match fwRf k j i with
  | some q => .ref (ad q.1 q.2)
  | none => .int (Int32.ofInt (f j))
def fwCel (ad : Nat → Nat → Nat) (tc : Nat → ClassId) (f : Nat → Int) (k i : Nat) : va_E := match fwOk k with
  | some c => .inr (c, (List.range (fwFn c)).map (fwFv ad f k i))
  | none => match fwAk k with
    | some a => .inl (tc a.1, a.2, fwArr ad f k a.1 a.2)
    | none => .inr (0, [])
def fwPr : List (Nat × Nat) := (List.range 50).flatMap (fun k => (List.range (fwNk k)).map (fun i => (k, i)))
def fwWd (ad : Nat → Nat → Nat) (tc : Nat → ClassId) (h : fwH) : va_W := fwPr.map (fun q => (ad q.1 q.2, fwCel ad tc (h q.1 q.2) q.1 q.2))
def fwTy (tc : Nat → ClassId) : List (ClassId × FieldType) := [(tc 0, .int), (tc 1, .byte), (tc 2, .boolean), (tc 3, .long), (tc 4, .object "FootLower$Mountain"), (tc 5, .array .long)]
def fwA (ad : Nat → Nat → Nat) : Nat → Prop := fun q => ∃ k i, i < fwNk k ∧ q = ad k i
def fwInj (ad : Nat → Nat → Nat) : Prop := ∀ k i k' i', i < fwNk k → i' < fwNk k' → ad k i = ad k' i' → k = k' ∧ i = i'
def fwUc (h : fwH) (k i : Nat) (g : Nat → Int) : fwH := fun k' i' => if k' = k ∧ i' = i then g else h k' i'
def fwUp (h : fwH) (k i j : Nat) (x : Int) : fwH := fun k' i' j' => if k' = k ∧ i' = i ∧ j' = j then x else h k' i' j'
theorem fwUp_Uc (h : fwH) (k i j : Nat) (x : Int) : fwUp h k i j x = fwUc h k i (fun j' => if j' = j then x else h k i j') := by
  funext k' i' j'
  unfold fwUp fwUc
  by_cases h1 : k' = k ∧ i' = i
  · obtain ⟨rfl, rfl⟩ := h1
    simp
  · rw [if_neg h1, if_neg (fun q => h1 ⟨q.1, q.2.1⟩)]
theorem fwPr_mem {k i : Nat} (hi : i < fwNk k) : (k, i) ∈ fwPr := by
  have hk : k < 50 := by
    rcases Nat.lt_or_ge k 50 with q | q
    · exact q
    · exfalso
      have : fwNk k = 0 := by
        unfold fwNk
        rw [List.getD_eq_getElem?_getD, List.getElem?_eq_none (show fwNs.length ≤ k from q)]
        rfl
      omega
  exact List.mem_flatMap.mpr ⟨k, List.mem_range.mpr hk, List.mem_map.mpr ⟨i, List.mem_range.mpr hi, rfl⟩⟩
theorem fwPr_nd : fwPr.Nodup := by decide +kernel
theorem fwPr_in : ∀ q ∈ fwPr, q.2 < fwNk q.1 := by
  intro q hq
  obtain ⟨k, -, h⟩ := List.mem_flatMap.mp hq
  obtain ⟨i, hi, rfl⟩ := List.mem_map.mp h
  exact List.mem_range.mp hi
theorem fwPr_one {a b : Nat} {q : Nat × Nat} (ha : fwPr[a]? = some q) (hb : fwPr[b]? = some q) : a = b := by
  obtain ⟨h1, e1⟩ := List.getElem?_eq_some_iff.mp ha
  obtain ⟨h2, e2⟩ := List.getElem?_eq_some_iff.mp hb
  have key : ∀ (i j : Nat) (hi : i < fwPr.length) (hj : j < fwPr.length), i < j → fwPr[i] ≠ fwPr[j] := fun i j hi hj hij => List.pairwise_iff_getElem.mp fwPr_nd i j hi hj hij
  rcases Nat.lt_trichotomy a b with q | q | q
  · exact absurd (e1.trans e2.symm) (key a b h1 h2 q)
  · exact q
  · exact absurd (e2.trans e1.symm) (key b a h2 h1 q)
theorem fw_get {k i : Nat} (hi : i < fwNk k) : ∃ q0 : Nat, fwPr[q0]? = some (k, i) ∧ ∀ ad tc h, (fwWd ad tc h)[q0]? = some (ad k i, fwCel ad tc (h k i) k i) := by
  obtain ⟨q0, hq⟩ := List.getElem?_of_mem (fwPr_mem hi)
  refine ⟨q0, hq, fun ad tc h => ?_⟩
  unfold fwWd
  rw [List.getElem?_map, hq]
  rfl
theorem fw_set {ad : Nat → Nat → Nat} {tc : Nat → ClassId} {h : fwH} {k i q0 : Nat} {g : Nat → Int} (hq : fwPr[q0]? = some (k, i)) : (fwWd ad tc h).set q0 (ad k i, fwCel ad tc g k i) = fwWd ad tc (fwUc h k i g) := by
  apply List.ext_getElem?
  intro n
  by_cases hn : q0 = n
  · subst hn
    have hl : q0 < (fwWd ad tc h).length := by
      unfold fwWd
      rw [List.length_map]
      exact (List.getElem?_eq_some_iff.mp hq).1
    rw [List.getElem?_set_self hl]
    unfold fwWd
    rw [List.getElem?_map, hq]
    simp [fwUc]
  · rw [List.getElem?_set_ne hn]
    unfold fwWd
    rw [List.getElem?_map, List.getElem?_map]
    cases hp : fwPr[n]? with
    | none => rfl
    | some q =>
      have hne : ¬ (q.1 = k ∧ q.2 = i) := fun e => hn (fwPr_one hq (by rw [hp]; exact congrArg some (Prod.ext e.1 e.2)))
      simp [fwUc, hne]
theorem fw_D {ad : Nat → Nat → Nat} (hi : fwInj ad) (tc : Nat → ClassId) (h : fwH) : va_D (fwA ad) (fwWd ad tc h) := by
  constructor
  · intro i j p q hp hq e
    unfold fwWd at hp hq
    rw [List.getElem?_map] at hp hq
    cases h1 : fwPr[i]? with
    | none => rw [h1] at hp; cases hp
    | some a =>
      cases h2 : fwPr[j]? with
      | none => rw [h2] at hq; cases hq
      | some b =>
        rw [h1] at hp
        rw [h2] at hq
        cases hp
        cases hq
        obtain ⟨e1, e2⟩ := hi a.1 a.2 b.1 b.2 (fwPr_in a (List.mem_of_getElem? h1)) (fwPr_in b (List.mem_of_getElem? h2)) e
        exact fwPr_one h1 (by rw [h2]; exact congrArg some (Prod.ext e1.symm e2.symm))
  · intro j q hq
    unfold fwWd at hq
    rw [List.getElem?_map] at hq
    cases h1 : fwPr[j]? with
    | none => rw [h1] at hq; cases hq
    | some a =>
      rw [h1] at hq
      cases hq
      exact ⟨a.1, a.2, fwPr_in a (List.mem_of_getElem? h1), rfl⟩
/-! locals by their places -/
def fwLv (ad : Nat → Nat → Nat) (ls : Array Slot) (n : Nat) (L : List (Option fwV)) : Prop := ls.size = n ∧ lv_wf ls ∧ ∀ (i : Nat) (v : fwV), L[i]? = some (some v) → ls[(i : Nat)]? = some (Slot.val (fwMv ad v))
def fwIsJ (v : Option fwV) : Bool := match v with
  | some (.inr (.inl _)) => true
  | _ => false
/-- a one word value stored at i: a long just below it is lost -/
def fwKil (L : List (Option fwV)) (i : Nat) : List (Option fwV) := match i with
  | 0 => L
  | j + 1 => if fwIsJ (L.getD j none) then L.set j none else L
def fwSt1 (L : List (Option fwV)) (i : Nat) (v : fwV) : List (Option fwV) := (fwKil L i).set i (some v)
def fwSt2 (L : List (Option fwV)) (i : Nat) (v : fwV) : List (Option fwV) := ((fwKil L i).set (i + 1) none).set i (some v)
def fwLvL (ad : Nat → Nat → Nat) (L : List (Option fwV)) : List (Nat × Value) := (List.range L.length).filterMap (fun i => (L.getD i none).map (fun v => (i, fwMv ad v)))
theorem fwLvL_mem {ad : Nat → Nat → Nat} {L : List (Option fwV)} {i : Nat} {v : fwV} (h : L[i]? = some (some v)) : (i, fwMv ad v) ∈ fwLvL ad L := by
  refine List.mem_filterMap.mpr ⟨i, List.mem_range.mpr (List.getElem?_eq_some_iff.mp h).1, ?_⟩
  rw [List.getD_eq_getElem?_getD, h]
  rfl
theorem fwLvL_has {ad : Nat → Nat → Nat} {ls : Array Slot} {n : Nat} {L : List (Option fwV)} (h : fwLv ad ls n L) : lv_has ls n (fwLvL ad L) := by
  refine ⟨h.1, h.2.1, fun q hq => ?_⟩
  obtain ⟨i, hi, e⟩ := List.mem_filterMap.mp hq
  rw [List.getD_eq_getElem?_getD] at e
  cases h1 : L[i]? with
  | none => rw [h1] at e; cases e
  | some o =>
    cases o with
    | none => rw [h1] at e; cases e
    | some v =>
      rw [h1] at e
      cases e
      exact h.2.2 i v h1
theorem fwKil_get {L : List (Option fwV)} {i j : Nat} {v : fwV} (h : (fwKil L i)[j]? = some (some v)) : L[j]? = some (some v) ∧ ¬ (j + 1 = i ∧ fwIsJ (some v) = true) := by
  unfold fwKil at h
  cases i with
  | zero => exact ⟨h, fun q => by omega⟩
  | succ k =>
    dsimp only at h
    by_cases c : fwIsJ (L.getD k none) = true
    · rw [if_pos c] at h
      by_cases e : k = j
      · subst e
        rw [List.getElem?_set] at h
        rw [if_pos rfl] at h
        split at h <;> cases h
      · rw [List.getElem?_set_ne e] at h
        exact ⟨h, fun q => e (by omega)⟩
    · rw [if_neg c] at h
      refine ⟨h, fun q => c ?_⟩
      have : k = j := by omega
      subst this
      rw [List.getD_eq_getElem?_getD, h]
      exact q.2
theorem fwMv_cat (ad : Nat → Nat → Nat) (v : fwV) : ((fwMv ad v).category == 2) = fwIsJ (some v) := by
  rcases v with x | x | q <;> rfl
theorem fw_st1 {ad : Nat → Nat → Nat} {ls' : Array Slot} {n i : Nat} {L : List (Option fwV)} {v : fwV} (h : lv_has ls' n ((i, fwMv ad v) :: (fwLvL ad L).filter (fun q => !(q.1 == i) && !(q.1 + 1 == i && q.2.category == 2)))) : fwLv ad ls' n (fwSt1 L i v) := by
  refine ⟨h.1, h.2.1, fun j w hj => ?_⟩
  unfold fwSt1 at hj
  by_cases e : i = j
  · subst e
    rw [List.getElem?_set] at hj
    rw [if_pos rfl] at hj
    split at hj
    · cases hj
      exact h.2.2 (i, fwMv ad v) List.mem_cons_self
    · cases hj
  · rw [List.getElem?_set_ne e] at hj
    obtain ⟨h1, h2⟩ := fwKil_get hj
    refine h.2.2 (j, fwMv ad w) (List.mem_cons_of_mem _ (List.mem_filter.mpr ⟨fwLvL_mem h1, ?_⟩))
    have e1 : (j == i) = false := by simpa using fun q : j = i => e q.symm
    have e2 : (j + 1 == i && (fwMv ad w).category == 2) = false := by
      rw [fwMv_cat]
      cases c : (j + 1 == i && fwIsJ (some w)) with
      | false => rfl
      | true =>
        exfalso
        rw [Bool.and_eq_true] at c
        exact h2 ⟨by simpa using c.1, c.2⟩
    simp only [e1, e2, Bool.not_false, Bool.and_true]
theorem fw_st2 {ad : Nat → Nat → Nat} {ls' : Array Slot} {n i : Nat} {L : List (Option fwV)} {v : fwV} (h : lv_has ls' n ((i, fwMv ad v) :: (fwLvL ad L).filter (fun q => !(q.1 == i) && (!(q.1 == i + 1) && !(q.1 + 1 == i && q.2.category == 2))))) : fwLv ad ls' n (fwSt2 L i v) := by
  refine ⟨h.1, h.2.1, fun j w hj => ?_⟩
  unfold fwSt2 at hj
  by_cases e : i = j
  · subst e
    rw [List.getElem?_set] at hj
    rw [if_pos rfl] at hj
    split at hj
    · cases hj
      exact h.2.2 (i, fwMv ad v) List.mem_cons_self
    · cases hj
  · rw [List.getElem?_set_ne e] at hj
    by_cases e9 : i + 1 = j
    · subst e9
      rw [List.getElem?_set] at hj
      rw [if_pos rfl] at hj
      split at hj <;> cases hj
    · rw [List.getElem?_set_ne e9] at hj
      obtain ⟨h1, h2⟩ := fwKil_get hj
      refine h.2.2 (j, fwMv ad w) (List.mem_cons_of_mem _ (List.mem_filter.mpr ⟨fwLvL_mem h1, ?_⟩))
      have e1 : (j == i) = false := by simpa using fun q : j = i => e q.symm
      have e3 : (j == i + 1) = false := by simpa using fun q : j = i + 1 => e9 q.symm
      have e2 : (j + 1 == i && (fwMv ad w).category == 2) = false := by
        rw [fwMv_cat]
        cases c : (j + 1 == i && fwIsJ (some w)) with
        | false => rfl
        | true =>
          exfalso
          rw [Bool.and_eq_true] at c
          exact h2 ⟨by simpa using c.1, c.2⟩
      simp only [e1, e2, e3, Bool.not_false, Bool.and_true]
/-- the locals at a method's entry -/
def fwEn : List fwV → List (Option fwV)
  | [] => []
  | v :: t => if fwIsJ (some v) then some v :: none :: fwEn t else some v :: fwEn t
theorem fwEn_args (ad : Nat → Nat → Nat) : ∀ (vs : List fwV) (n i : Nat) (v : fwV), (fwEn vs)[i]? = some (some v) → (n + i, fwMv ad v) ∈ lv_args n (vs.map (fwMv ad)) := by
  intro vs
  induction vs with
  | nil => intro n i v h; simp [fwEn] at h
  | cons w t ih =>
    intro n i v h
    have hc : ((fwMv ad w).category = 2) ↔ fwIsJ (some w) = true := by
      rw [← fwMv_cat ad w]; simp
    unfold fwEn at h
    by_cases c : fwIsJ (some w) = true
    · rw [if_pos c] at h
      simp only [List.map_cons, lv_args, if_pos (hc.mpr c)]
      match i, h with
      | 0, h => cases h; exact List.mem_cons_self
      | 1, h => cases h
      | j + 2, h =>
        refine List.mem_cons_of_mem _ ?_
        have := ih (n + 2) j v (by simpa using h)
        rw [show n + (j + 2) = n + 2 + j by omega]
        exact this
    · rw [if_neg c] at h
      simp only [List.map_cons, lv_args, if_neg (fun q => c (hc.mp q))]
      match i, h with
      | 0, h => cases h; exact List.mem_cons_self
      | j + 1, h =>
        refine List.mem_cons_of_mem _ ?_
        have := ih (n + 1) j v (by simpa using h)
        rw [show n + (j + 1) = n + 1 + j by omega]
        exact this
theorem fwEn_len (ad : Nat → Nat → Nat) : ∀ vs : List fwV, (lg_sl (vs.map (fwMv ad))).length = (fwEn vs).length := by
  intro vs
  induction vs with
  | nil => rfl
  | cons w t ih =>
    have hc : ((fwMv ad w).category = 2) ↔ fwIsJ (some w) = true := by
      rw [← fwMv_cat ad w]; simp
    unfold fwEn
    by_cases c : fwIsJ (some w) = true
    · rw [if_pos c]
      simp only [List.map_cons, lg_sl, List.flatMap_cons, if_pos (hc.mpr c), List.length_append] at ih ⊢
      simp only [List.length_cons, List.length_nil]
      omega
    · rw [if_neg c]
      simp only [List.map_cons, lg_sl, List.flatMap_cons, if_neg (fun q => c (hc.mp q)), List.length_append] at ih ⊢
      simp only [List.length_cons, List.length_nil]
      omega
end
section
/-- the tables' words that stay true from state to state -/
def fwTb : List Cond := lw_tbl.filter goodWord
theorem fwTb_m {w : Cond} {i : Nat} (h : lw_tbl[i]? = some w) (hg : goodWord w = true) : w ∈ fwTb := List.mem_filter.mpr ⟨List.mem_of_getElem? h, hg⟩
theorem fwTb_s {w : Cond} {i : Nat} (h : (k2_sels lw_privs)[i]? = some w) (hg : goodWord w = true) : w ∈ fwTb := List.mem_filter.mpr ⟨List.mem_append_left _ (List.mem_of_getElem? h), hg⟩
theorem fw_in_1 {w : Cond} (h : w ∈ tables_1_1) : w ∈ lw_tbl := List.mem_append_right _ (List.mem_append_left _ h)
theorem fw_in_2 {w : Cond} (h : w ∈ tables_1_2) : w ∈ lw_tbl := List.mem_append_right _ (List.mem_append_right _ (List.mem_append_left _ h))
theorem fw_in_3 {w : Cond} (h : w ∈ tables_1_3) : w ∈ lw_tbl := List.mem_append_right _ (List.mem_append_right _ (List.mem_append_right _ (List.mem_append_left _ h)))
theorem fw_in_4 {w : Cond} (h : w ∈ tables_1_4) : w ∈ lw_tbl := List.mem_append_right _ (List.mem_append_right _ (List.mem_append_right _ (List.mem_append_right _ (List.mem_append_left _ h))))
theorem fw_in_5 {w : Cond} (h : w ∈ tables_1_5) : w ∈ lw_tbl := List.mem_append_right _ (List.mem_append_right _ (List.mem_append_right _ (List.mem_append_right _ (List.mem_append_right _ (List.mem_append_left _ h)))))
theorem fw_in_6 {w : Cond} (h : w ∈ tables_1_6) : w ∈ lw_tbl := List.mem_append_right _ (List.mem_append_right _ (List.mem_append_right _ (List.mem_append_right _ (List.mem_append_right _ (List.mem_append_right _ (List.mem_append_left _ h))))))
theorem fw_in_7 {w : Cond} (h : w ∈ tables_1_7) : w ∈ lw_tbl := List.mem_append_right _ (List.mem_append_right _ (List.mem_append_right _ (List.mem_append_right _ (List.mem_append_right _ (List.mem_append_right _ (List.mem_append_right _ (List.mem_append_left _ h)))))))
theorem fw_in_8 {w : Cond} (h : w ∈ tables_1_8) : w ∈ lw_tbl := List.mem_append_right _ (List.mem_append_right _ (List.mem_append_right _ (List.mem_append_right _ (List.mem_append_right _ (List.mem_append_right _ (List.mem_append_right _ (List.mem_append_right _ (List.mem_append_left _ h))))))))
theorem fw_in_9 {w : Cond} (h : w ∈ tables_1_9) : w ∈ lw_tbl := List.mem_append_right _ (List.mem_append_right _ (List.mem_append_right _ (List.mem_append_right _ (List.mem_append_right _ (List.mem_append_right _ (List.mem_append_right _ (List.mem_append_right _ (List.mem_append_right _ h))))))))
theorem fwTb_1 {w : Cond} {i : Nat} (h : tables_1_1[i]? = some w) (hg : goodWord w = true) : w ∈ fwTb := List.mem_filter.mpr ⟨fw_in_1 (List.mem_of_getElem? h), hg⟩
theorem fwTb_2 {w : Cond} {i : Nat} (h : tables_1_2[i]? = some w) (hg : goodWord w = true) : w ∈ fwTb := List.mem_filter.mpr ⟨fw_in_2 (List.mem_of_getElem? h), hg⟩
theorem fwTb_3 {w : Cond} {i : Nat} (h : tables_1_3[i]? = some w) (hg : goodWord w = true) : w ∈ fwTb := List.mem_filter.mpr ⟨fw_in_3 (List.mem_of_getElem? h), hg⟩
theorem fwTb_4 {w : Cond} {i : Nat} (h : tables_1_4[i]? = some w) (hg : goodWord w = true) : w ∈ fwTb := List.mem_filter.mpr ⟨fw_in_4 (List.mem_of_getElem? h), hg⟩
theorem fwTb_5 {w : Cond} {i : Nat} (h : tables_1_5[i]? = some w) (hg : goodWord w = true) : w ∈ fwTb := List.mem_filter.mpr ⟨fw_in_5 (List.mem_of_getElem? h), hg⟩
theorem fwTb_6 {w : Cond} {i : Nat} (h : tables_1_6[i]? = some w) (hg : goodWord w = true) : w ∈ fwTb := List.mem_filter.mpr ⟨fw_in_6 (List.mem_of_getElem? h), hg⟩
theorem fwTb_7 {w : Cond} {i : Nat} (h : tables_1_7[i]? = some w) (hg : goodWord w = true) : w ∈ fwTb := List.mem_filter.mpr ⟨fw_in_7 (List.mem_of_getElem? h), hg⟩
theorem fwTb_8 {w : Cond} {i : Nat} (h : tables_1_8[i]? = some w) (hg : goodWord w = true) : w ∈ fwTb := List.mem_filter.mpr ⟨fw_in_8 (List.mem_of_getElem? h), hg⟩
theorem fwTb_9 {w : Cond} {i : Nat} (h : tables_1_9[i]? = some w) (hg : goodWord w = true) : w ∈ fwTb := List.mem_filter.mpr ⟨fw_in_9 (List.mem_of_getElem? h), hg⟩
theorem fw_good : ∀ w ∈ fwTb, goodWord w = true := fun w hw => (List.mem_filter.mp hw).2
/-! the String constants: owner, entry, text, bytes; 0..12 are the class's, 13..25 the other's, in the same order of words -/
def fwSr : List (String × Nat × String × List Int) := [("FootLower$Tape", 79, "mount", [109, 111, 117, 110, 116]), ("FootLower$Tape", 81, "snow", [115, 110, 111, 119]), ("FootLower$Tape", 83, "rest", [114, 101, 115, 116]), ("FootLower$Tape", 85, "names", [110, 97, 109, 101, 115]), ("FootLower$Tape", 87, "folk", [102, 111, 108, 107]), ("FootLower$Tape", 89, "at", [97, 116]), ("FootLower$Tape", 91, "sun", [115, 117, 110]), ("FootLower$Tape", 93, "view", [118, 105, 101, 119]), ("FootLower$Tape", 95, "talk", [116, 97, 108, 107]), ("FootLower$Tape", 97, "with", [119, 105, 116, 104]), ("FootLower$Tape", 99, "heap", [104, 101, 97, 112]), ("FootLower$Tape", 101, "first", [102, 105, 114, 115, 116]), ("FootLower$Tape", 103, "last", [108, 97, 115, 116]), ("FootLowerModel", 154, "mount", [109, 111, 117, 110, 116]), ("FootLowerModel", 158, "snow", [115, 110, 111, 119]), ("FootLowerModel", 164, "rest", [114, 101, 115, 116]), ("FootLowerModel", 166, "names", [110, 97, 109, 101, 115]), ("FootLowerModel", 181, "folk", [102, 111, 108, 107]), ("FootLowerModel", 172, "at", [97, 116]), ("FootLowerModel", 173, "sun", [115, 117, 110]), ("FootLowerModel", 175, "view", [118, 105, 101, 119]), ("FootLowerModel", 177, "talk", [116, 97, 108, 107]), ("FootLowerModel", 179, "with", [119, 105, 116, 104]), ("FootLowerModel", 183, "heap", [104, 101, 97, 112]), ("FootLowerModel", 170, "first", [102, 105, 114, 115, 116]), ("FootLowerModel", 168, "last", [108, 97, 115, 116])]
def fwSb (i : Nat) : List Int := (fwSr.getD i ("", 0, "", [])).2.2.2
def fwTh : List Int := [1, 3, 9, 27, 81, 243, 729, 2187]
/-- what the machine holds besides: String constants (kind 50), their bytes (kind 51), the table of threes (kind 52) -/
def fwCs (ad : Nat → Nat → Nat) (U : State) (H : Heap) : Prop :=
  (∀ i, i < 26 → va_O "java/lang/String" (ad 50 i) (fwA ad) U H ∧ va_OF "java/lang/String" "coder" "B" (.int 0) (ad 50 i) (fwA ad) U H ∧ va_OF "java/lang/String" "value" "[B" (.ref (ad 51 i)) (ad 50 i) (fwA ad) U H ∧ va_T .byte (ad 51 i) (fwSb i).length (fun j => .int (Int32.ofInt ((fwSb i).getD j 0))) (fwA ad) U H) ∧
  (∀ i own k tx by_, fwSr[i]? = some (own, k, tx, by_) → vk_R own k tx (ad 50 i) U) ∧
  va_Z "FootLower$Petition" "THREES" "[I" (.ref (ad 52 0)) (fwA ad) U H ∧ va_T .int (ad 52 0) 8 (fun j => .int (Int32.ofInt (fwTh.getD j 0))) (fwA ad) U H ∧
  va_Z "java/lang/String" "COMPACT_STRINGS" "Z" (.int 1) (fwA ad) U H ∧
  va_Zq "jdk/internal/util/Preconditions" "SIOOBE_FORMATTER" "Ljava/util/function/BiFunction;" (fwA ad) U H ∧
  ∀ (a : String) (i : Nat) (b n d hh : String), Cond.fieldLinkNest a i b n d hh ∈ lw_tbl → va_Nw (.fieldLinkNest a i b n d hh) U
theorem fwCs.go {ad : Nat → Nat → Nat} {s U : State} {H : Heap} {locs : List Loc} (h : fwCs ad s s.heap) (hS : va_S (fwA ad) s.heap H locs) (hU : U.heap = H) (hW : s.WarmedH U.vm) : fwCs ad U U.heap := by
  obtain ⟨h1, h2, h3, h4, h5, h7, h6⟩ := h
  subst hU
  have hq := hS.2.1
  have hv := hW.alike
  exact ⟨fun i hi => ⟨va_O.moved hv ((h1 i hi).1.kept hq), va_OF.moved hv ((h1 i hi).2.1.kept hq), va_OF.moved hv ((h1 i hi).2.2.1.kept hq), va_T.moved hv ((h1 i hi).2.2.2.kept hq)⟩,
    fun i own k tx by_ hi => (h2 i own k tx by_ hi).warm hW, va_Z.moved hv (h3.kept hq), va_T.moved hv (h4.kept hq), va_Z.moved hv (h5.kept hq), va_Zq.moved hv (h7.kept hq), fun a i b n d hh hw => (h6 a i b n d hh hw).warmF hW⟩
def fwRm (d : Nat) : Room := { frames := d, cells := 0, slots := 0, locals := 64 * d }
def fwQ (ad : Nat → Nat → Nat) (D : va_G) (tc : Nat → ClassId) (Q : Option fwV → fwH → Prop) : Array Value → State → Outcome → State → Prop := fun _ st oc t =>
  (∃ (r : Option fwV) (h : fwH), oc = .returned (r.map (fwMv ad)) ∧ Q r h ∧ va_P D vwCl (fwWd ad tc h) t.heap) ∧ va_F (fwA ad) st t
def fwCx (p : Program) (s : State) (m : MethodId) (args : Array Value) (meth : Method) (c : Code) (M : fwM) (ad : Nat → Nat → Nat) (D : va_G) (tc : Nat → ClassId) : Prop :=
  p.tables.exec = Jvm.exec ∧ c.code = M.2.1 ∧ c.maxLocals = M.2.2.1 ∧ s.vm.findClass M.1.cls = some m.cls ∧ (∀ w ∈ fwTb, w.before args s = true) ∧ meth.sig.returnType = M.2.2.2 ∧ meth.locks = false ∧ va_K D vwCl (fwTy tc) s ∧ fwInj ad ∧ fwCs ad s s.heap
def fwRl (s : State) (H : Heap) (locs : List Loc) (ls : Array Slot) (M : fwM) (ad : Nat → Nat → Nat) (D : va_G) (tc : Nat → ClassId) (h : fwH) (L : List (Option fwV)) : Prop :=
  va_P D vwCl (fwWd ad tc h) H ∧ va_S (fwA ad) s.heap H locs ∧ fwLv ad ls M.2.2.1 L
/-- from here the method M ends, with Q of its answer and of the heap then -/
def fwWP (M : fwM) (d pc : Nat) (L : List (Option fwV)) (S : List fwV) (h : fwH) (Q : Option fwV → fwH → Prop) : Prop :=
  ∀ (l : Launch) (p : Program) (e : Env) (s : State) (m : MethodId) (args : Array Value) (below : List Frame) (meth : Method) (c : Code) (ad : Nat → Nat → Nat) (D : va_G) (tc : Nat → ClassId) (H : Heap) (locs : List Loc) (ls : Array Slot),
    fwCx p s m args meth c M ad D tc → fwRl s H locs ls M ad D tc h L →
    W p l e (fwRm d) s m args below meth c H locs 0 0 (MQ below (fwQ ad D tc Q) args s 0 0 (fwA ad)) (F0 m pc ls (S.map (fwMv ad)))
def fwWs (M : fwM) : List Cond := Cond.code M.1 M.2.1 M.2.2.1 M.2.2.2 :: fwTb
def fwPc (ad : Nat → Nat → Nat) (D : va_G) (tc : Nat → ClassId) (vs : List fwV) (h : fwH) : Array Value → State → Prop :=
  va_Pc (vs.map (fwMv ad)) (fun U => va_P D vwCl (fwWd ad tc h) U.heap ∧ va_K D vwCl (fwTy tc) U ∧ fwInj ad ∧ fwCs ad U U.heap)
/-- the method M's contract at these values and this heap -/
def fwCt (M : fwM) (d : Nat) (vs : List fwV) (h : fwH) (Q : Option fwV → fwH → Prop) : Prop :=
  ∀ (l : Launch) (ad : Nat → Nat → Nat) (D : va_G) (tc : Nat → ClassId), Met l M.1 (fwWs M) (fwRm d) (fwPc ad D tc vs h) (fwQ ad D tc Q) 0 0 (fwA ad)
theorem fwCt_of {M : fwM} {d : Nat} {vs : List fwV} {h : fwH} {Q : Option fwV → fwH → Prop} (L : List (Option fwV)) (hy : plainName M.1.cls = true) (hL : fwEn vs ++ List.replicate (M.2.2.1 - (fwEn vs).length) none = L) (hl : L.length = M.2.2.1) (k : fwWP M d 0 L [] h Q) : fwCt M d vs h Q := by
  intro l ad D tc
  refine Met.ofW (cc := M.2.1) (maxL := M.2.2.1) (ret := M.2.2.2) hy rfl ?_
  intro p e s m args below meth c s₁ B hml hv
  obtain ⟨rfl, hP, hK, hI, hC⟩ := hv
  have hts : ∀ w ∈ fwTb, w.before (vs.map (fwMv ad)).toArray s = true := fun w hw => atoms_spec (ws := fwWs M) B.pre w (List.mem_cons_of_mem _ hw)
  have hle : (lg_sl (vs.map (fwMv ad))).length ≤ M.2.2.1 := by
    rw [fwEn_len]
    have := congrArg List.length hL
    rw [List.length_append, List.length_replicate] at this
    omega
  have hent := lv_entry (vs.map (fwMv ad)) (n := M.2.2.1) hle
  rw [lg_entry_eq]
  refine k l p e s m _ below meth c ad D tc s.heap [] _ ⟨B.exec, B.bytes, hml, findClass_of_methodNamed B.named, hts, B.returns, B.notSynchronized, hK, hI, hC⟩ ⟨hP, va_S.rf, hent.1, hent.2.1, fun i v hi => ?_⟩
  have hi2 : (fwEn vs)[i]? = some (some v) := by
    rw [← hL] at hi
    by_cases hlt : i < (fwEn vs).length
    · rw [List.getElem?_append_left hlt] at hi
      exact hi
    · rw [List.getElem?_append_right (by omega)] at hi
      have := List.eq_of_mem_replicate (List.mem_of_getElem? hi)
      cases this
  have := fwEn_args ad vs 0 i v hi2
  rw [Nat.zero_add] at this
  exact hent.2.2 _ this
/-! numbers -/
theorem fwI_add (x y : Int) : Int32.ofInt x + Int32.ofInt y = Int32.ofInt (x + y) := by
  apply Int32.toInt_inj.mp
  simp [Int32.toInt_add, Int32.toInt_ofInt, Int32.size]
theorem fwI_sub (x y : Int) : Int32.ofInt x - Int32.ofInt y = Int32.ofInt (x - y) := by
  apply Int32.toInt_inj.mp
  simp [Int32.toInt_sub, Int32.toInt_ofInt, Int32.size]
theorem fwI_mul (x y : Int) : Int32.ofInt x * Int32.ofInt y = Int32.ofInt (x * y) := by
  apply Int32.toInt_inj.mp
  simp [Int32.toInt_mul, Int32.toInt_ofInt, Int32.size]
theorem fwI_neg (x : Int) : - Int32.ofInt x = Int32.ofInt (-x) := by
  apply Int32.toInt_inj.mp
  simp [Int32.toInt_neg, Int32.toInt_ofInt, Int32.size]
theorem fwL_add (x y : Int) : Int64.ofInt x + Int64.ofInt y = Int64.ofInt (x + y) := by
  apply Int64.toInt_inj.mp
  simp [Int64.toInt_add, Int64.toInt_ofInt, Int64.size]
theorem fwL_mul (x y : Int) : Int64.ofInt x * Int64.ofInt y = Int64.ofInt (x * y) := by
  apply Int64.toInt_inj.mp
  simp [Int64.toInt_mul, Int64.toInt_ofInt, Int64.size]
theorem fwI_rt {x : Int} (h : -2147483648 ≤ x ∧ x < 2147483648) : (Int32.ofInt x).toInt = x := Int32.toInt_ofInt_of_le (by omega) (by omega)
theorem fwL_rt {x : Int} (h : -9223372036854775808 ≤ x ∧ x < 9223372036854775808) : (Int64.ofInt x).toInt = x := Int64.toInt_ofInt_of_le (by omega) (by omega)
theorem fwI_le {x y : Int} (hx : -2147483648 ≤ x ∧ x < 2147483648) (hy : -2147483648 ≤ y ∧ y < 2147483648) : Int32.ofInt x ≤ Int32.ofInt y ↔ x ≤ y := by
  rw [Int32.le_iff_toInt_le, fwI_rt hx, fwI_rt hy]
theorem fwI_lt {x y : Int} (hx : -2147483648 ≤ x ∧ x < 2147483648) (hy : -2147483648 ≤ y ∧ y < 2147483648) : Int32.ofInt x < Int32.ofInt y ↔ x < y := by
  rw [Int32.lt_iff_toInt_lt, fwI_rt hx, fwI_rt hy]
theorem fwI_eq {x y : Int} (hx : -2147483648 ≤ x ∧ x < 2147483648) (hy : -2147483648 ≤ y ∧ y < 2147483648) : Int32.ofInt x = Int32.ofInt y ↔ x = y := by
  rw [← Int32.toInt_inj, fwI_rt hx, fwI_rt hy]
theorem fwI_0 : (0 : Int32) = Int32.ofInt 0 := rfl
theorem fwI_in {x : Int} {n : Nat} (h0 : 0 ≤ x) (h1 : x < n) (hn : n < 2147483648) : vp_in (Int32.ofInt x) n := by
  rw [vp_in_iff, fwI_rt ⟨by omega, by omega⟩]
  exact ⟨h0, h1⟩
theorem fwI_cl {x : Int} (h0 : 0 ≤ x) (h1 : x < 2147483648) : (Int32.ofInt x).toNatClampNeg = x.toNat := Int32.toNatClampNeg_ofInt_of_le (by omega) (by omega)
theorem fwL_le {x y : Int} (hx : -9223372036854775808 ≤ x ∧ x < 9223372036854775808) (hy : -9223372036854775808 ≤ y ∧ y < 9223372036854775808) : Int64.ofInt x ≤ Int64.ofInt y ↔ x ≤ y := by
  rw [Int64.le_iff_toInt_le, fwL_rt hx, fwL_rt hy]
theorem fwL_lt {x y : Int} (hx : -9223372036854775808 ≤ x ∧ x < 9223372036854775808) (hy : -9223372036854775808 ≤ y ∧ y < 9223372036854775808) : Int64.ofInt x < Int64.ofInt y ↔ x < y := by
  rw [Int64.lt_iff_toInt_lt, fwL_rt hx, fwL_rt hy]
theorem fwL_eq {x y : Int} (hx : -9223372036854775808 ≤ x ∧ x < 9223372036854775808) (hy : -9223372036854775808 ≤ y ∧ y < 9223372036854775808) : Int64.ofInt x = Int64.ofInt y ↔ x = y := by
  rw [← Int64.toInt_inj, fwL_rt hx, fwL_rt hy]
/-! bits, as the machine has them -/
def fwAnd (x y : Int) : Int := (Int32.ofInt x &&& Int32.ofInt y).toInt
def fwOr (x y : Int) : Int := (Int32.ofInt x ||| Int32.ofInt y).toInt
def fwXor (x y : Int) : Int := (Int32.ofInt x ^^^ Int32.ofInt y).toInt
def fwShl (x y : Int) : Int := (Int32.ofInt x <<< (Int32.ofInt y &&& 31)).toInt
def fwShr (x y : Int) : Int := (Int32.ofInt x >>> (Int32.ofInt y &&& 31)).toInt
def fwUsh (x y : Int) : Int := (((Int32.ofInt x).toUInt32 >>> ((Int32.ofInt y).toUInt32 &&& Int32.toUInt32 31)).toInt32).toInt
def fwDiv (x y : Int) : Int := (Int32.ofInt x / Int32.ofInt y).toInt
def fwRem (x y : Int) : Int := (Int32.ofInt x - Int32.ofInt x / Int32.ofInt y * Int32.ofInt y).toInt
def fwLand (x y : Int) : Int := (Int64.ofInt x &&& Int64.ofInt y).toInt
def fwLor (x y : Int) : Int := (Int64.ofInt x ||| Int64.ofInt y).toInt
def fwLdiv (x y : Int) : Int := (Int64.ofInt x / Int64.ofInt y).toInt
def fwLrem (x y : Int) : Int := (Int64.ofInt x - Int64.ofInt x / Int64.ofInt y * Int64.ofInt y).toInt
def fwLshl (x y : Int) : Int := (Int64.ofInt x <<< ((Int32.ofInt y).toInt64 &&& 63)).toInt
def fwLshr (x y : Int) : Int := (Int64.ofInt x >>> ((Int32.ofInt y).toInt64 &&& 63)).toInt
def fwB8 (x : Int) : Int := (Int32.ofInt x).toInt8.toInt
def fwS16 (x : Int) : Int := (Int32.ofInt x).toInt16.toInt
def fwC16 (x : Int) : Int := (((Int32.ofInt x).toUInt32 % 65536).toInt32).toInt
/-- true and false as ints -/
def fwB (P : Prop) [Decidable P] : Int := if P then 1 else 0
section FWR
variable {M : fwM} {d pc : Nat} {L : List (Option fwV)} {S : List fwV} {h : fwH} {Q : Option fwV → fwH → Prop}
theorem w_iconst {n : Int} (hd : decode M.2.1 pc = .ok (.iconst n, 1)) (k : fwWP M d (pc + 1) L (aI n :: S) h Q) : fwWP M d pc L S h Q := by
  intro l p e s m args below meth c ad D tc H locs ls C X
  exact lv_iconst C.1 C.2.1 hd rfl (k l p e s m args below meth c ad D tc H locs ls C X)
theorem w_bipush {n : Int} (hd : decode M.2.1 pc = .ok (.bipush n, 2)) (hn : (Int8.ofInt n).toInt32 = Int32.ofInt n) (k : fwWP M d (pc + 2) L (aI n :: S) h Q) : fwWP M d pc L S h Q := by
  intro l p e s m args below meth c ad D tc H locs ls C X
  exact lv_bipush C.1 C.2.1 hd hn (k l p e s m args below meth c ad D tc H locs ls C X)
theorem w_sipush {n : Int} (hd : decode M.2.1 pc = .ok (.sipush n, 3)) (hn : (Int16.ofInt n).toInt32 = Int32.ofInt n) (k : fwWP M d (pc + 3) L (aI n :: S) h Q) : fwWP M d pc L S h Q := by
  intro l p e s m args below meth c ad D tc H locs ls C X
  exact lv_sipush C.1 C.2.1 hd hn (k l p e s m args below meth c ad D tc H locs ls C X)
theorem w_ldc {i : Nat} {n : Int} (hd : decode M.2.1 pc = .ok (.ldc i, 2)) (hc : Cond.constant M.1.cls i (Int32.ofInt n) ∈ fwTb) (k : fwWP M d (pc + 2) L (aI n :: S) h Q) : fwWP M d pc L S h Q := by
  intro l p e s m args below meth c ad D tc H locs ls C X
  exact lv_ldc C.1 C.2.1 C.2.2.2.1 (C.2.2.2.2.1 _ hc) hd (k l p e s m args below meth c ad D tc H locs ls C X)
theorem w_ldcw {i : Nat} {n : Int} (hd : decode M.2.1 pc = .ok (.ldc_w i, 3)) (hc : Cond.constant M.1.cls i (Int32.ofInt n) ∈ fwTb) (k : fwWP M d (pc + 3) L (aI n :: S) h Q) : fwWP M d pc L S h Q := by
  intro l p e s m args below meth c ad D tc H locs ls C X
  exact lv_ldcw C.1 C.2.1 C.2.2.2.1 (C.2.2.2.2.1 _ hc) hd (k l p e s m args below meth c ad D tc H locs ls C X)
theorem w_ldc2 {i : Nat} {n : Int} (hd : decode M.2.1 pc = .ok (.ldc2_w i, 3)) (hc : Cond.constantLong M.1.cls i (Int64.ofInt n) ∈ fwTb) (k : fwWP M d (pc + 3) L (aJ n :: S) h Q) : fwWP M d pc L S h Q := by
  intro l p e s m args below meth c ad D tc H locs ls C X
  exact lv_ldc2 C.1 C.2.1 C.2.2.2.1 (C.2.2.2.2.1 _ hc) hd (k l p e s m args below meth c ad D tc H locs ls C X)
theorem w_lconst {n : Fin 2} {z : Int} (hd : decode M.2.1 pc = .ok (.lconst n, 1)) (hn : Int64.ofNat (n : Nat) = Int64.ofInt z) (k : fwWP M d (pc + 1) L (aJ z :: S) h Q) : fwWP M d pc L S h Q := by
  intro l p e s m args below meth c ad D tc H locs ls C X
  exact lv_lconst C.1 C.2.1 hd hn (k l p e s m args below meth c ad D tc H locs ls C X)
theorem w_ldcS {i n : Nat} {tx : String} {by_ : List Int} (hd : decode M.2.1 pc = .ok (.ldc i, 2)) (hc : fwSr[n]? = some (M.1.cls, i, tx, by_)) (k : fwWP M d (pc + 2) L (aR 50 n :: S) h Q) : fwWP M d pc L S h Q := by
  intro l p e s m args below meth c ad D tc H locs ls C X
  exact va_ldcS C.1 C.2.1 C.2.2.2.1 (C.2.2.2.2.2.2.2.2.2.2.1 n _ _ _ _ hc) hd (k l p e s m args below meth c ad D tc H locs ls C X)
theorem w_iload {i : Nat} {x : Int} (hd : decode M.2.1 pc = .ok (.iload i, 2)) (hl : L[i]? = some (some (aI x))) (k : fwWP M d (pc + 2) L (aI x :: S) h Q) : fwWP M d pc L S h Q := by
  intro l p e s m args below meth c ad D tc H locs ls C X
  exact lv_iload C.1 C.2.1 hd (X.2.2.2.2 i _ hl) (k l p e s m args below meth c ad D tc H locs ls C X)
theorem w_iload_n {i : Fin 4} {x : Int} (hd : decode M.2.1 pc = .ok (.iload_n i, 1)) (hl : L[(i : Nat)]? = some (some (aI x))) (k : fwWP M d (pc + 1) L (aI x :: S) h Q) : fwWP M d pc L S h Q := by
  intro l p e s m args below meth c ad D tc H locs ls C X
  exact lv_iload_n C.1 C.2.1 hd rfl (X.2.2.2.2 i _ hl) (k l p e s m args below meth c ad D tc H locs ls C X)
theorem w_lload {i : Nat} {x : Int} (hd : decode M.2.1 pc = .ok (.lload i, 2)) (hl : L[i]? = some (some (aJ x))) (k : fwWP M d (pc + 2) L (aJ x :: S) h Q) : fwWP M d pc L S h Q := by
  intro l p e s m args below meth c ad D tc H locs ls C X
  exact lv_lload C.1 C.2.1 hd (X.2.2.2.2 i _ hl) (k l p e s m args below meth c ad D tc H locs ls C X)
theorem w_lload_n {i : Fin 4} {x : Int} (hd : decode M.2.1 pc = .ok (.lload_n i, 1)) (hl : L[(i : Nat)]? = some (some (aJ x))) (k : fwWP M d (pc + 1) L (aJ x :: S) h Q) : fwWP M d pc L S h Q := by
  intro l p e s m args below meth c ad D tc H locs ls C X
  exact lv_lload_n C.1 C.2.1 hd rfl (X.2.2.2.2 i _ hl) (k l p e s m args below meth c ad D tc H locs ls C X)
theorem w_aload {i : Nat} {kd nr : Nat} (hd : decode M.2.1 pc = .ok (.aload i, 2)) (hl : L[i]? = some (some (aR kd nr))) (k : fwWP M d (pc + 2) L (aR kd nr :: S) h Q) : fwWP M d pc L S h Q := by
  intro l p e s m args below meth c ad D tc H locs ls C X
  exact lv_aload C.1 C.2.1 hd (X.2.2.2.2 i _ hl) (k l p e s m args below meth c ad D tc H locs ls C X)
theorem w_aload_n {i : Fin 4} {kd nr : Nat} (hd : decode M.2.1 pc = .ok (.aload_n i, 1)) (hl : L[(i : Nat)]? = some (some (aR kd nr))) (k : fwWP M d (pc + 1) L (aR kd nr :: S) h Q) : fwWP M d pc L S h Q := by
  intro l p e s m args below meth c ad D tc H locs ls C X
  exact lv_aload_n C.1 C.2.1 hd rfl (X.2.2.2.2 i _ hl) (k l p e s m args below meth c ad D tc H locs ls C X)
theorem w_istore {i : Nat} {x : Int} (L' : List (Option fwV)) (hd : decode M.2.1 pc = .ok (.istore i, 2)) (hL : fwSt1 L i (aI x) = L') (hn : i < M.2.2.1) (k : fwWP M d (pc + 2) L' S h Q) : fwWP M d pc L (aI x :: S) h Q := by
  intro l p e s m args below meth c ad D tc H locs ls C X
  refine lv_istore C.1 C.2.1 hd (fwLvL_has X.2.2) hn rfl (fun ls' h' => ?_)
  exact k l p e s m args below meth c ad D tc H locs ls' C ⟨X.1, X.2.1, hL ▸ fw_st1 h'⟩
theorem w_istore_n {i : Fin 4} {x : Int} (L' : List (Option fwV)) (hd : decode M.2.1 pc = .ok (.istore_n i, 1)) (hL : fwSt1 L i (aI x) = L') (hn : (i : Nat) < M.2.2.1) (k : fwWP M d (pc + 1) L' S h Q) : fwWP M d pc L (aI x :: S) h Q := by
  intro l p e s m args below meth c ad D tc H locs ls C X
  refine lv_istore_n C.1 C.2.1 hd rfl (fwLvL_has X.2.2) hn rfl (fun ls' h' => ?_)
  exact k l p e s m args below meth c ad D tc H locs ls' C ⟨X.1, X.2.1, hL ▸ fw_st1 h'⟩
theorem w_astore {i : Nat} {kd nr : Nat} (L' : List (Option fwV)) (hd : decode M.2.1 pc = .ok (.astore i, 2)) (hL : fwSt1 L i (aR kd nr) = L') (hn : i < M.2.2.1) (k : fwWP M d (pc + 2) L' S h Q) : fwWP M d pc L (aR kd nr :: S) h Q := by
  intro l p e s m args below meth c ad D tc H locs ls C X
  refine lv_astore C.1 C.2.1 hd (fwLvL_has X.2.2) hn rfl (fun ls' h' => ?_)
  exact k l p e s m args below meth c ad D tc H locs ls' C ⟨X.1, X.2.1, hL ▸ fw_st1 h'⟩
theorem w_astore_n {i : Fin 4} {kd nr : Nat} (L' : List (Option fwV)) (hd : decode M.2.1 pc = .ok (.astore_n i, 1)) (hL : fwSt1 L i (aR kd nr) = L') (hn : (i : Nat) < M.2.2.1) (k : fwWP M d (pc + 1) L' S h Q) : fwWP M d pc L (aR kd nr :: S) h Q := by
  intro l p e s m args below meth c ad D tc H locs ls C X
  refine lv_astore_n C.1 C.2.1 hd rfl (fwLvL_has X.2.2) hn rfl (fun ls' h' => ?_)
  exact k l p e s m args below meth c ad D tc H locs ls' C ⟨X.1, X.2.1, hL ▸ fw_st1 h'⟩
theorem w_lstore {i : Nat} {x : Int} (L' : List (Option fwV)) (hd : decode M.2.1 pc = .ok (.lstore i, 2)) (hL : fwSt2 L i (aJ x) = L') (hn : i + 1 < M.2.2.1) (k : fwWP M d (pc + 2) L' S h Q) : fwWP M d pc L (aJ x :: S) h Q := by
  intro l p e s m args below meth c ad D tc H locs ls C X
  refine lv_lstore C.1 C.2.1 hd (fwLvL_has X.2.2) hn rfl (fun ls' h' => ?_)
  exact k l p e s m args below meth c ad D tc H locs ls' C ⟨X.1, X.2.1, hL ▸ fw_st2 h'⟩
theorem w_lstore_n {i : Fin 4} {x : Int} (L' : List (Option fwV)) (hd : decode M.2.1 pc = .ok (.lstore_n i, 1)) (hL : fwSt2 L i (aJ x) = L') (hn : (i : Nat) + 1 < M.2.2.1) (k : fwWP M d (pc + 1) L' S h Q) : fwWP M d pc L (aJ x :: S) h Q := by
  intro l p e s m args below meth c ad D tc H locs ls C X
  refine lv_lstore_n C.1 C.2.1 hd rfl (fwLvL_has X.2.2) hn rfl (fun ls' h' => ?_)
  exact k l p e s m args below meth c ad D tc H locs ls' C ⟨X.1, X.2.1, hL ▸ fw_st2 h'⟩
theorem w_iinc {i : Nat} {n x : Int} (L' : List (Option fwV)) (hd : decode M.2.1 pc = .ok (.iinc i n, 3)) (hl : L[i]? = some (some (aI x))) (hL : fwSt1 L i (aI (x + n)) = L') (hn : i < M.2.2.1) (k : fwWP M d (pc + 3) L' S h Q) : fwWP M d pc L S h Q := by
  intro l p e s m args below meth c ad D tc H locs ls C X
  obtain ⟨q, hq⟩ := List.getElem?_of_mem (fwLvL_mem (ad := ad) hl)
  refine lv_iinc C.1 C.2.1 hd (fwLvL_has X.2.2) (k := q) hq (fwI_add x n) hn rfl (fun ls' h' => ?_)
  exact k l p e s m args below meth c ad D tc H locs ls' C ⟨X.1, X.2.1, hL ▸ fw_st1 h'⟩
theorem w_iadd {x y : Int} (hd : decode M.2.1 pc = .ok (.iadd, 1)) (k : fwWP M d (pc + 1) L (aI (x + y) :: S) h Q) : fwWP M d pc L (aI y :: aI x :: S) h Q := by
  intro l p e s m args below meth c ad D tc H locs ls C X
  refine lv_iadd C.1 C.2.1 hd ?_
  rw [fwI_add]
  exact k l p e s m args below meth c ad D tc H locs ls C X
theorem w_isub {x y : Int} (hd : decode M.2.1 pc = .ok (.isub, 1)) (k : fwWP M d (pc + 1) L (aI (x - y) :: S) h Q) : fwWP M d pc L (aI y :: aI x :: S) h Q := by
  intro l p e s m args below meth c ad D tc H locs ls C X
  refine lv_isub C.1 C.2.1 hd ?_
  rw [fwI_sub]
  exact k l p e s m args below meth c ad D tc H locs ls C X
theorem w_imul {x y : Int} (hd : decode M.2.1 pc = .ok (.imul, 1)) (k : fwWP M d (pc + 1) L (aI (x * y) :: S) h Q) : fwWP M d pc L (aI y :: aI x :: S) h Q := by
  intro l p e s m args below meth c ad D tc H locs ls C X
  refine lv_imul C.1 C.2.1 hd ?_
  rw [fwI_mul]
  exact k l p e s m args below meth c ad D tc H locs ls C X
theorem w_iand {x y : Int} (hd : decode M.2.1 pc = .ok (.iand, 1)) (k : fwWP M d (pc + 1) L (aI (fwAnd x y) :: S) h Q) : fwWP M d pc L (aI y :: aI x :: S) h Q := by
  intro l p e s m args below meth c ad D tc H locs ls C X
  refine lv_iand C.1 C.2.1 hd ?_
  have := k l p e s m args below meth c ad D tc H locs ls C X
  simp only [List.map_cons, fwMv, fwAnd, Int32.ofInt_toInt] at this
  exact this
theorem w_ior {x y : Int} (hd : decode M.2.1 pc = .ok (.ior, 1)) (k : fwWP M d (pc + 1) L (aI (fwOr x y) :: S) h Q) : fwWP M d pc L (aI y :: aI x :: S) h Q := by
  intro l p e s m args below meth c ad D tc H locs ls C X
  refine lv_ior C.1 C.2.1 hd ?_
  have := k l p e s m args below meth c ad D tc H locs ls C X
  simp only [List.map_cons, fwMv, fwOr, Int32.ofInt_toInt] at this
  exact this
theorem w_ixor {x y : Int} (hd : decode M.2.1 pc = .ok (.ixor, 1)) (k : fwWP M d (pc + 1) L (aI (fwXor x y) :: S) h Q) : fwWP M d pc L (aI y :: aI x :: S) h Q := by
  intro l p e s m args below meth c ad D tc H locs ls C X
  refine lv_ixor C.1 C.2.1 hd ?_
  have := k l p e s m args below meth c ad D tc H locs ls C X
  simp only [List.map_cons, fwMv, fwXor, Int32.ofInt_toInt] at this
  exact this
theorem w_ishl {x y : Int} (hd : decode M.2.1 pc = .ok (.ishl, 1)) (k : fwWP M d (pc + 1) L (aI (fwShl x y) :: S) h Q) : fwWP M d pc L (aI y :: aI x :: S) h Q := by
  intro l p e s m args below meth c ad D tc H locs ls C X
  refine lv_ishl C.1 C.2.1 hd ?_
  have := k l p e s m args below meth c ad D tc H locs ls C X
  simp only [List.map_cons, fwMv, fwShl, Int32.ofInt_toInt] at this
  exact this
theorem w_ishr {x y : Int} (hd : decode M.2.1 pc = .ok (.ishr, 1)) (k : fwWP M d (pc + 1) L (aI (fwShr x y) :: S) h Q) : fwWP M d pc L (aI y :: aI x :: S) h Q := by
  intro l p e s m args below meth c ad D tc H locs ls C X
  refine lv_ishr C.1 C.2.1 hd ?_
  have := k l p e s m args below meth c ad D tc H locs ls C X
  simp only [List.map_cons, fwMv, fwShr, Int32.ofInt_toInt] at this
  exact this
theorem w_iushr {x y : Int} (hd : decode M.2.1 pc = .ok (.iushr, 1)) (k : fwWP M d (pc + 1) L (aI (fwUsh x y) :: S) h Q) : fwWP M d pc L (aI y :: aI x :: S) h Q := by
  intro l p e s m args below meth c ad D tc H locs ls C X
  refine lv_iushr C.1 C.2.1 hd rfl ?_
  have := k l p e s m args below meth c ad D tc H locs ls C X
  simp only [List.map_cons, fwMv, fwUsh, Int32.ofInt_toInt] at this
  exact this
theorem w_idiv {x y : Int} (hd : decode M.2.1 pc = .ok (.idiv, 1)) (hy : -2147483648 ≤ y ∧ y < 2147483648) (h0 : y ≠ 0) (k : fwWP M d (pc + 1) L (aI (fwDiv x y) :: S) h Q) : fwWP M d pc L (aI y :: aI x :: S) h Q := by
  intro l p e s m args below meth c ad D tc H locs ls C X
  refine lv_idiv C.1 C.2.1 hd (by rw [fwI_0, fwI_eq hy ⟨by decide, by decide⟩]; exact h0) ?_
  have := k l p e s m args below meth c ad D tc H locs ls C X
  simp only [List.map_cons, fwMv, fwDiv, Int32.ofInt_toInt] at this
  exact this
theorem w_irem {x y : Int} (hd : decode M.2.1 pc = .ok (.irem, 1)) (hy : -2147483648 ≤ y ∧ y < 2147483648) (h0 : y ≠ 0) (k : fwWP M d (pc + 1) L (aI (fwRem x y) :: S) h Q) : fwWP M d pc L (aI y :: aI x :: S) h Q := by
  intro l p e s m args below meth c ad D tc H locs ls C X
  refine lv_irem C.1 C.2.1 hd (by rw [fwI_0, fwI_eq hy ⟨by decide, by decide⟩]; exact h0) ?_
  have := k l p e s m args below meth c ad D tc H locs ls C X
  simp only [List.map_cons, fwMv, fwRem, Int32.ofInt_toInt] at this
  exact this
theorem w_ineg {x : Int} (hd : decode M.2.1 pc = .ok (.ineg, 1)) (k : fwWP M d (pc + 1) L (aI (-x) :: S) h Q) : fwWP M d pc L (aI x :: S) h Q := by
  intro l p e s m args below meth c ad D tc H locs ls C X
  refine lv_ineg C.1 C.2.1 hd ?_
  rw [fwI_neg]
  exact k l p e s m args below meth c ad D tc H locs ls C X
theorem w_ladd {x y : Int} (hd : decode M.2.1 pc = .ok (.ladd, 1)) (k : fwWP M d (pc + 1) L (aJ (x + y) :: S) h Q) : fwWP M d pc L (aJ y :: aJ x :: S) h Q := by
  intro l p e s m args below meth c ad D tc H locs ls C X
  refine lv_ladd C.1 C.2.1 hd ?_
  rw [fwL_add]
  exact k l p e s m args below meth c ad D tc H locs ls C X
theorem w_lmul {x y : Int} (hd : decode M.2.1 pc = .ok (.lmul, 1)) (k : fwWP M d (pc + 1) L (aJ (x * y) :: S) h Q) : fwWP M d pc L (aJ y :: aJ x :: S) h Q := by
  intro l p e s m args below meth c ad D tc H locs ls C X
  refine lv_lmul C.1 C.2.1 hd ?_
  rw [fwL_mul]
  exact k l p e s m args below meth c ad D tc H locs ls C X
theorem w_land {x y : Int} (hd : decode M.2.1 pc = .ok (.land, 1)) (k : fwWP M d (pc + 1) L (aJ (fwLand x y) :: S) h Q) : fwWP M d pc L (aJ y :: aJ x :: S) h Q := by
  intro l p e s m args below meth c ad D tc H locs ls C X
  refine lv_land C.1 C.2.1 hd ?_
  have := k l p e s m args below meth c ad D tc H locs ls C X
  simp only [List.map_cons, fwMv, fwLand, Int64.ofInt_toInt] at this
  exact this
theorem w_lor {x y : Int} (hd : decode M.2.1 pc = .ok (.lor, 1)) (k : fwWP M d (pc + 1) L (aJ (fwLor x y) :: S) h Q) : fwWP M d pc L (aJ y :: aJ x :: S) h Q := by
  intro l p e s m args below meth c ad D tc H locs ls C X
  refine lv_lor C.1 C.2.1 hd ?_
  have := k l p e s m args below meth c ad D tc H locs ls C X
  simp only [List.map_cons, fwMv, fwLor, Int64.ofInt_toInt] at this
  exact this
theorem w_ldiv {x y : Int} (hd : decode M.2.1 pc = .ok (.ldiv, 1)) (hy : -9223372036854775808 ≤ y ∧ y < 9223372036854775808) (h0 : y ≠ 0) (k : fwWP M d (pc + 1) L (aJ (fwLdiv x y) :: S) h Q) : fwWP M d pc L (aJ y :: aJ x :: S) h Q := by
  intro l p e s m args below meth c ad D tc H locs ls C X
  refine lv_ldiv C.1 C.2.1 hd (by rw [show (0 : Int64) = Int64.ofInt 0 from rfl, fwL_eq hy ⟨by decide, by decide⟩]; exact h0) ?_
  have := k l p e s m args below meth c ad D tc H locs ls C X
  simp only [List.map_cons, fwMv, fwLdiv, Int64.ofInt_toInt] at this
  exact this
theorem w_lrem {x y : Int} (hd : decode M.2.1 pc = .ok (.lrem, 1)) (hy : -9223372036854775808 ≤ y ∧ y < 9223372036854775808) (h0 : y ≠ 0) (k : fwWP M d (pc + 1) L (aJ (fwLrem x y) :: S) h Q) : fwWP M d pc L (aJ y :: aJ x :: S) h Q := by
  intro l p e s m args below meth c ad D tc H locs ls C X
  refine lv_lrem C.1 C.2.1 hd (by rw [show (0 : Int64) = Int64.ofInt 0 from rfl, fwL_eq hy ⟨by decide, by decide⟩]; exact h0) ?_
  have := k l p e s m args below meth c ad D tc H locs ls C X
  simp only [List.map_cons, fwMv, fwLrem, Int64.ofInt_toInt] at this
  exact this
theorem w_lshl {x y : Int} (hd : decode M.2.1 pc = .ok (.lshl, 1)) (k : fwWP M d (pc + 1) L (aJ (fwLshl x y) :: S) h Q) : fwWP M d pc L (aI y :: aJ x :: S) h Q := by
  intro l p e s m args below meth c ad D tc H locs ls C X
  refine lv_lshl C.1 C.2.1 hd rfl ?_
  have := k l p e s m args below meth c ad D tc H locs ls C X
  simp only [List.map_cons, fwMv, fwLshl, Int64.ofInt_toInt] at this
  exact this
theorem w_lshr {x y : Int} (hd : decode M.2.1 pc = .ok (.lshr, 1)) (k : fwWP M d (pc + 1) L (aJ (fwLshr x y) :: S) h Q) : fwWP M d pc L (aI y :: aJ x :: S) h Q := by
  intro l p e s m args below meth c ad D tc H locs ls C X
  refine lv_lshr C.1 C.2.1 hd rfl ?_
  have := k l p e s m args below meth c ad D tc H locs ls C X
  simp only [List.map_cons, fwMv, fwLshr, Int64.ofInt_toInt] at this
  exact this
theorem w_i2l {x : Int} (hd : decode M.2.1 pc = .ok (.i2l, 1)) (hx : -2147483648 ≤ x ∧ x < 2147483648) (k : fwWP M d (pc + 1) L (aJ x :: S) h Q) : fwWP M d pc L (aI x :: S) h Q := by
  intro l p e s m args below meth c ad D tc H locs ls C X
  exact lv_i2l C.1 C.2.1 hd (v := Int64.ofInt x) (by apply Int64.toInt_inj.mp; rw [Int32.toInt_toInt64, fwI_rt hx, fwL_rt ⟨by omega, by omega⟩]) (k l p e s m args below meth c ad D tc H locs ls C X)
theorem w_l2i {x : Int} (hd : decode M.2.1 pc = .ok (.l2i, 1)) (k : fwWP M d (pc + 1) L (aI x :: S) h Q) : fwWP M d pc L (aJ x :: S) h Q := by
  intro l p e s m args below meth c ad D tc H locs ls C X
  exact lv_l2i C.1 C.2.1 hd (v := Int32.ofInt x) Int64.toInt32_ofInt (k l p e s m args below meth c ad D tc H locs ls C X)
theorem w_i2b {x : Int} (hd : decode M.2.1 pc = .ok (.i2b, 1)) (k : fwWP M d (pc + 1) L (aI (fwB8 x) :: S) h Q) : fwWP M d pc L (aI x :: S) h Q := by
  intro l p e s m args below meth c ad D tc H locs ls C X
  refine lv_i2b C.1 C.2.1 hd (v := Int32.ofInt (fwB8 x)) (Int32.ofInt_int8ToInt _).symm ?_
  exact k l p e s m args below meth c ad D tc H locs ls C X
theorem w_i2s {x : Int} (hd : decode M.2.1 pc = .ok (.i2s, 1)) (k : fwWP M d (pc + 1) L (aI (fwS16 x) :: S) h Q) : fwWP M d pc L (aI x :: S) h Q := by
  intro l p e s m args below meth c ad D tc H locs ls C X
  refine lv_i2s C.1 C.2.1 hd (v := Int32.ofInt (fwS16 x)) (Int32.ofInt_int16ToInt _).symm ?_
  exact k l p e s m args below meth c ad D tc H locs ls C X
theorem w_i2c {x : Int} (hd : decode M.2.1 pc = .ok (.i2c, 1)) (k : fwWP M d (pc + 1) L (aI (fwC16 x) :: S) h Q) : fwWP M d pc L (aI x :: S) h Q := by
  intro l p e s m args below meth c ad D tc H locs ls C X
  refine lv_i2c C.1 C.2.1 hd (v := Int32.ofInt (fwC16 x)) (by simp [fwC16]) ?_
  exact k l p e s m args below meth c ad D tc H locs ls C X
theorem w_dup {v : fwV} (hd : decode M.2.1 pc = .ok (.dup, 1)) (hv : fwIsJ (some v) = false) (k : fwWP M d (pc + 1) L (v :: v :: S) h Q) : fwWP M d pc L (v :: S) h Q := by
  intro l p e s m args below meth c ad D tc H locs ls C X
  exact lv_dup C.1 C.2.1 hd (by have := fwMv_cat ad v; rw [hv] at this; rcases lv_cat (fwMv ad v) with q | q <;> simp_all) (k l p e s m args below meth c ad D tc H locs ls C X)
theorem w_pop {v : fwV} (hd : decode M.2.1 pc = .ok (.pop, 1)) (hv : fwIsJ (some v) = false) (k : fwWP M d (pc + 1) L S h Q) : fwWP M d pc L (v :: S) h Q := by
  intro l p e s m args below meth c ad D tc H locs ls C X
  exact lv_pop C.1 C.2.1 hd (by have := fwMv_cat ad v; rw [hv] at this; rcases lv_cat (fwMv ad v) with q | q <;> simp_all) (k l p e s m args below meth c ad D tc H locs ls C X)
theorem w_dup2 {v w : fwV} (hd : decode M.2.1 pc = .ok (.dup2, 1)) (hv : fwIsJ (some v) = false) (hw : fwIsJ (some w) = false) (k : fwWP M d (pc + 1) L (v :: w :: v :: w :: S) h Q) : fwWP M d pc L (v :: w :: S) h Q := by
  intro l p e s m args below meth c ad D tc H locs ls C X
  exact lv_dup2_11 C.1 C.2.1 hd (by have := fwMv_cat ad v; rw [hv] at this; rcases lv_cat (fwMv ad v) with q | q <;> simp_all) (by have := fwMv_cat ad w; rw [hw] at this; rcases lv_cat (fwMv ad w) with q | q <;> simp_all) (k l p e s m args below meth c ad D tc H locs ls C X)
theorem w_goto {off : Int} (tgt : Nat) (hd : decode M.2.1 pc = .ok (.goto off, 3)) (ht : (pc : Int) + off = (tgt : Int)) (k : fwWP M d tgt L S h Q) : fwWP M d pc L S h Q := by
  intro l p e s m args below meth c ad D tc H locs ls C X
  exact lv_goto C.1 C.2.1 hd ht (k l p e s m args below meth c ad D tc H locs ls C X)
theorem w_if_eq {x off : Int} (tgt : Nat) (hd : decode M.2.1 pc = .ok (.ifCond .eq off, 3)) (ht : (pc : Int) + off = (tgt : Int)) (hx : -2147483648 ≤ x ∧ x < 2147483648) (kt : x = 0 → fwWP M d tgt L S h Q) (kf : x ≠ 0 → fwWP M d (pc + 3) L S h Q) : fwWP M d pc L (aI x :: S) h Q := by
  intro l p e s m args below meth c ad D tc H locs ls C X
  exact lv_if_eq C.1 C.2.1 hd ht (fun q => kt (by rw [fwI_0, fwI_eq hx ⟨by decide, by decide⟩] at q; exact q) l p e s m args below meth c ad D tc H locs ls C X) (fun q => kf (fun z => q (by rw [fwI_0, fwI_eq hx ⟨by decide, by decide⟩]; exact z)) l p e s m args below meth c ad D tc H locs ls C X)
theorem w_if_ne {x off : Int} (tgt : Nat) (hd : decode M.2.1 pc = .ok (.ifCond .ne off, 3)) (ht : (pc : Int) + off = (tgt : Int)) (hx : -2147483648 ≤ x ∧ x < 2147483648) (kt : x ≠ 0 → fwWP M d tgt L S h Q) (kf : x = 0 → fwWP M d (pc + 3) L S h Q) : fwWP M d pc L (aI x :: S) h Q := by
  intro l p e s m args below meth c ad D tc H locs ls C X
  exact lv_if_ne C.1 C.2.1 hd ht (fun q => kt (fun z => q (by rw [fwI_0, fwI_eq hx ⟨by decide, by decide⟩]; exact z)) l p e s m args below meth c ad D tc H locs ls C X) (fun q => kf (by rw [fwI_0, fwI_eq hx ⟨by decide, by decide⟩] at q; exact q) l p e s m args below meth c ad D tc H locs ls C X)
theorem w_if_lt {x off : Int} (tgt : Nat) (hd : decode M.2.1 pc = .ok (.ifCond .lt off, 3)) (ht : (pc : Int) + off = (tgt : Int)) (hx : -2147483648 ≤ x ∧ x < 2147483648) (kt : x < 0 → fwWP M d tgt L S h Q) (kf : 0 ≤ x → fwWP M d (pc + 3) L S h Q) : fwWP M d pc L (aI x :: S) h Q := by
  intro l p e s m args below meth c ad D tc H locs ls C X
  exact lv_if_lt C.1 C.2.1 hd ht (fun q => kt (by rw [fwI_0, fwI_lt hx ⟨by decide, by decide⟩] at q; exact q) l p e s m args below meth c ad D tc H locs ls C X) (fun q => kf (by rw [fwI_0, fwI_lt hx ⟨by decide, by decide⟩] at q; omega) l p e s m args below meth c ad D tc H locs ls C X)
theorem w_if_ge {x off : Int} (tgt : Nat) (hd : decode M.2.1 pc = .ok (.ifCond .ge off, 3)) (ht : (pc : Int) + off = (tgt : Int)) (hx : -2147483648 ≤ x ∧ x < 2147483648) (kt : 0 ≤ x → fwWP M d tgt L S h Q) (kf : x < 0 → fwWP M d (pc + 3) L S h Q) : fwWP M d pc L (aI x :: S) h Q := by
  intro l p e s m args below meth c ad D tc H locs ls C X
  exact lv_if_ge C.1 C.2.1 hd ht (fun q => kt (by rw [fwI_0, fwI_le ⟨by decide, by decide⟩ hx] at q; exact q) l p e s m args below meth c ad D tc H locs ls C X) (fun q => kf (by rw [fwI_0, fwI_le ⟨by decide, by decide⟩ hx] at q; omega) l p e s m args below meth c ad D tc H locs ls C X)
theorem w_if_gt {x off : Int} (tgt : Nat) (hd : decode M.2.1 pc = .ok (.ifCond .gt off, 3)) (ht : (pc : Int) + off = (tgt : Int)) (hx : -2147483648 ≤ x ∧ x < 2147483648) (kt : 0 < x → fwWP M d tgt L S h Q) (kf : x ≤ 0 → fwWP M d (pc + 3) L S h Q) : fwWP M d pc L (aI x :: S) h Q := by
  intro l p e s m args below meth c ad D tc H locs ls C X
  exact lv_if_gt C.1 C.2.1 hd ht (fun q => kt (by rw [fwI_0, fwI_lt ⟨by decide, by decide⟩ hx] at q; exact q) l p e s m args below meth c ad D tc H locs ls C X) (fun q => kf (by rw [fwI_0, fwI_lt ⟨by decide, by decide⟩ hx] at q; omega) l p e s m args below meth c ad D tc H locs ls C X)
theorem w_if_le {x off : Int} (tgt : Nat) (hd : decode M.2.1 pc = .ok (.ifCond .le off, 3)) (ht : (pc : Int) + off = (tgt : Int)) (hx : -2147483648 ≤ x ∧ x < 2147483648) (kt : x ≤ 0 → fwWP M d tgt L S h Q) (kf : 0 < x → fwWP M d (pc + 3) L S h Q) : fwWP M d pc L (aI x :: S) h Q := by
  intro l p e s m args below meth c ad D tc H locs ls C X
  exact lv_if_le C.1 C.2.1 hd ht (fun q => kt (by rw [fwI_0, fwI_le hx ⟨by decide, by decide⟩] at q; exact q) l p e s m args below meth c ad D tc H locs ls C X) (fun q => kf (by rw [fwI_0, fwI_le hx ⟨by decide, by decide⟩] at q; omega) l p e s m args below meth c ad D tc H locs ls C X)
theorem w_icmp_eq {x y off : Int} (tgt : Nat) (hd : decode M.2.1 pc = .ok (.if_icmp .eq off, 3)) (ht : (pc : Int) + off = (tgt : Int)) (hx : -2147483648 ≤ x ∧ x < 2147483648) (hy : -2147483648 ≤ y ∧ y < 2147483648) (kt : x = y → fwWP M d tgt L S h Q) (kf : x ≠ y → fwWP M d (pc + 3) L S h Q) : fwWP M d pc L (aI y :: aI x :: S) h Q := by
  intro l p e s m args below meth c ad D tc H locs ls C X
  exact lv_icmp_eq C.1 C.2.1 hd ht (fun q => kt (by rw [fwI_eq hx hy] at q; exact q) l p e s m args below meth c ad D tc H locs ls C X) (fun q => kf (fun z => q (by rw [fwI_eq hx hy]; exact z)) l p e s m args below meth c ad D tc H locs ls C X)
theorem w_icmp_ne {x y off : Int} (tgt : Nat) (hd : decode M.2.1 pc = .ok (.if_icmp .ne off, 3)) (ht : (pc : Int) + off = (tgt : Int)) (hx : -2147483648 ≤ x ∧ x < 2147483648) (hy : -2147483648 ≤ y ∧ y < 2147483648) (kt : x ≠ y → fwWP M d tgt L S h Q) (kf : x = y → fwWP M d (pc + 3) L S h Q) : fwWP M d pc L (aI y :: aI x :: S) h Q := by
  intro l p e s m args below meth c ad D tc H locs ls C X
  exact lv_icmp_ne C.1 C.2.1 hd ht (fun q => kt (fun z => q (by rw [fwI_eq hx hy]; exact z)) l p e s m args below meth c ad D tc H locs ls C X) (fun q => kf (by rw [fwI_eq hx hy] at q; exact q) l p e s m args below meth c ad D tc H locs ls C X)
theorem w_icmp_lt {x y off : Int} (tgt : Nat) (hd : decode M.2.1 pc = .ok (.if_icmp .lt off, 3)) (ht : (pc : Int) + off = (tgt : Int)) (hx : -2147483648 ≤ x ∧ x < 2147483648) (hy : -2147483648 ≤ y ∧ y < 2147483648) (kt : x < y → fwWP M d tgt L S h Q) (kf : y ≤ x → fwWP M d (pc + 3) L S h Q) : fwWP M d pc L (aI y :: aI x :: S) h Q := by
  intro l p e s m args below meth c ad D tc H locs ls C X
  exact lv_icmp_lt C.1 C.2.1 hd ht (fun q => kt (by rw [fwI_lt hx hy] at q; exact q) l p e s m args below meth c ad D tc H locs ls C X) (fun q => kf (by rw [fwI_lt hx hy] at q; omega) l p e s m args below meth c ad D tc H locs ls C X)
theorem w_icmp_ge {x y off : Int} (tgt : Nat) (hd : decode M.2.1 pc = .ok (.if_icmp .ge off, 3)) (ht : (pc : Int) + off = (tgt : Int)) (hx : -2147483648 ≤ x ∧ x < 2147483648) (hy : -2147483648 ≤ y ∧ y < 2147483648) (kt : y ≤ x → fwWP M d tgt L S h Q) (kf : x < y → fwWP M d (pc + 3) L S h Q) : fwWP M d pc L (aI y :: aI x :: S) h Q := by
  intro l p e s m args below meth c ad D tc H locs ls C X
  exact lv_icmp_ge C.1 C.2.1 hd ht (fun q => kt (by rw [fwI_le hy hx] at q; exact q) l p e s m args below meth c ad D tc H locs ls C X) (fun q => kf (by rw [fwI_le hy hx] at q; omega) l p e s m args below meth c ad D tc H locs ls C X)
theorem w_icmp_gt {x y off : Int} (tgt : Nat) (hd : decode M.2.1 pc = .ok (.if_icmp .gt off, 3)) (ht : (pc : Int) + off = (tgt : Int)) (hx : -2147483648 ≤ x ∧ x < 2147483648) (hy : -2147483648 ≤ y ∧ y < 2147483648) (kt : y < x → fwWP M d tgt L S h Q) (kf : x ≤ y → fwWP M d (pc + 3) L S h Q) : fwWP M d pc L (aI y :: aI x :: S) h Q := by
  intro l p e s m args below meth c ad D tc H locs ls C X
  exact lv_icmp_gt C.1 C.2.1 hd ht (fun q => kt (by rw [fwI_lt hy hx] at q; exact q) l p e s m args below meth c ad D tc H locs ls C X) (fun q => kf (by rw [fwI_lt hy hx] at q; omega) l p e s m args below meth c ad D tc H locs ls C X)
theorem w_icmp_le {x y off : Int} (tgt : Nat) (hd : decode M.2.1 pc = .ok (.if_icmp .le off, 3)) (ht : (pc : Int) + off = (tgt : Int)) (hx : -2147483648 ≤ x ∧ x < 2147483648) (hy : -2147483648 ≤ y ∧ y < 2147483648) (kt : x ≤ y → fwWP M d tgt L S h Q) (kf : y < x → fwWP M d (pc + 3) L S h Q) : fwWP M d pc L (aI y :: aI x :: S) h Q := by
  intro l p e s m args below meth c ad D tc H locs ls C X
  exact lv_icmp_le C.1 C.2.1 hd ht (fun q => kt (by rw [fwI_le hx hy] at q; exact q) l p e s m args below meth c ad D tc H locs ls C X) (fun q => kf (by rw [fwI_le hx hy] at q; omega) l p e s m args below meth c ad D tc H locs ls C X)
theorem w_ifB_eq {P : Prop} [Decidable P] {off : Int} (tgt : Nat) (hd : decode M.2.1 pc = .ok (.ifCond .eq off, 3)) (ht : (pc : Int) + off = (tgt : Int)) (kt : ¬ P → fwWP M d tgt L S h Q) (kf : P → fwWP M d (pc + 3) L S h Q) : fwWP M d pc L (aI (fwB P) :: S) h Q := by
  by_cases hP : P
  · exact w_if_eq tgt hd ht (by simp [fwB, hP]) (fun q => by simp [fwB, hP] at q) (fun _ => kf hP)
  · exact w_if_eq tgt hd ht (by simp [fwB, hP]) (fun _ => kt hP) (fun q => by simp [fwB, hP] at q)
theorem w_ifB_ne {P : Prop} [Decidable P] {off : Int} (tgt : Nat) (hd : decode M.2.1 pc = .ok (.ifCond .ne off, 3)) (ht : (pc : Int) + off = (tgt : Int)) (kt : P → fwWP M d tgt L S h Q) (kf : ¬ P → fwWP M d (pc + 3) L S h Q) : fwWP M d pc L (aI (fwB P) :: S) h Q := by
  by_cases hP : P
  · exact w_if_ne tgt hd ht (by simp [fwB, hP]) (fun _ => kt hP) (fun q => by simp [fwB, hP] at q)
  · exact w_if_ne tgt hd ht (by simp [fwB, hP]) (fun q => by simp [fwB, hP] at q) (fun _ => kf hP)
def fwLc (x y : Int) : Int := if y < x then 1 else if x = y then 0 else -1
theorem w_lcmp {x y : Int} (hd : decode M.2.1 pc = .ok (.lcmp, 1)) (hx : -9223372036854775808 ≤ x ∧ x < 9223372036854775808) (hy : -9223372036854775808 ≤ y ∧ y < 9223372036854775808) (k : fwWP M d (pc + 1) L (aI (fwLc x y) :: S) h Q) : fwWP M d pc L (aJ y :: aJ x :: S) h Q := by
  intro l p e s m args below meth c ad D tc H locs ls C X
  refine W.lcmp C.1 C.2.1 hd ?_
  have e9 : lg_cmp (Int64.ofInt x) (Int64.ofInt y) = Int32.ofInt (fwLc x y) := by
    unfold lg_cmp fwLc
    simp only [gt_iff_lt, fwL_lt hy hx, fwL_eq hx hy]
    split
    · rfl
    · split <;> rfl
  rw [e9]
  exact k l p e s m args below meth c ad D tc H locs ls C X
end FWR
end
