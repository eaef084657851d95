/-! the abstract values: an int, a long, a reference (kind, number) -/
abbrev fwV : Type := Int ⊕ Int ⊕ (Nat × Nat)
abbrev fwH : Type := Nat → Nat → Nat → Int
abbrev aI (x : Int) : fwV := Sum.inl x
abbrev aJ (x : Int) : fwV := Sum.inr (Sum.inl x)
abbrev aR (k i : Nat) : fwV := Sum.inr (Sum.inr (k, i))
abbrev fwM : Type := MethodName × ByteArray × Nat × Option FieldType
def fwMv (ad : Nat → Nat → Nat) (v : fwV) : Value := match v with
  | .inl x => .int (Int32.ofInt x)
  | .inr (.inl x) => .long (Int64.ofInt x)
  | .inr (.inr q) => .ref (ad q.1 q.2)
/-! the shape: kinds 0..12 objects, 13..49 arrays; how many of each -/
def fwNs : List Nat := [1, 1, 1, 5, 6, 5, 1, 1, 1, 1, 1, 1, 1, 1, 1, 1, 1, 6, 5, 5, 5, 5, 1, 1, 1, 1, 1, 1, 1, 1, 1, 1, 1, 4, 1, 1, 1, 1, 1, 1, 1, 1, 1, 1, 1, 1, 1, 1, 1, 1]
def fwNk (k : Nat) : Nat := fwNs.getD k 0
def fwOk (k : Nat) : Option Nat := ([some 11, some 9, some 5, some 2, some 1, some 3, some 4, some 10, some 7, some 0, some 6, some 8, some 12] : List (Option Nat)).getD k none
def fwFn (c : Nat) : Nat := ([2, 5, 7, 4, 5, 8, 9, 7, 3, 6, 4, 12, 26] : List Nat).getD c 0
/-- the references that objects hold: (kind, number), 9: the same number as the holder's -/
def fwTs : List (List (Option (Nat × Nat))) := [
  [some (1, 0), some (2, 0), some (3, 0), some (22, 0), some (23, 0), some (11, 0), some (4, 5), some (6, 0), some (7, 0), some (8, 0), some (9, 0), some (10, 0)],
  [some (13, 0), none, some (14, 0), some (15, 0), some (16, 0), none],
  [some (1, 0), some (3, 1)],
  [some (4, 9), some (5, 9), some (21, 9)],
  [some (17, 9)],
  [some (18, 9), some (19, 9), some (20, 9)],
  [some (3, 0), some (24, 0)],
  [some (3, 0), some (25, 0)],
  [some (3, 0), some (4, 5), some (26, 0), some (27, 0), some (28, 0)],
  [some (3, 0), some (4, 5)],
  [some (3, 0), some (11, 0), some (4, 5), some (29, 0), some (30, 0), some (31, 0)],
  [some (32, 0), some (34, 0), some (35, 0)],
  [none, some (36, 0), some (37, 0), some (38, 0), some (39, 0), none, some (40, 0), none, none, none, none, none, none, none, some (41, 0), some (42, 0), some (43, 0), none, none, some (44, 0), some (45, 0), none, some (46, 0), some (47, 0), some (48, 0), some (49, 0)]]
def fwRf (k j i : Nat) : Option (Nat × Nat) := match (fwTs.getD k []).getD j none with
  | none => none
  | some q => some (q.1, if q.2 = 9 then i else q.2)
/-- arrays: (type, length); types 0 int, 1 byte, 2 boolean, 3 long, 4 Mountain, 5 rows of long -/
def fwAs : List (Option (Nat × Nat)) := [none, none, none, none, none, none, none, none, none, none, none, none, none,
  some (1, 900), some (0, 901), some (0, 901), some (0, 901), some (0, 10), some (0, 56), some (0, 8), some (0, 8), some (0, 60), some (4, 3), some (2, 3), some (1, 6561), some (0, 11), some (0, 80), some (0, 3), some (0, 3), some (0, 21), some (0, 21), some (0, 19), some (5, 4), some (3, 60), some (0, 4), some (0, 4),
  some (0, 135), some (0, 405), some (2, 3), some (1, 900), some (0, 5), some (0, 135), some (0, 10), some (2, 65536), some (0, 3), some (0, 3), some (0, 4), some (0, 4), some (3, 240), some (3, 60)]
def fwAk (k : Nat) : Option (Nat × Nat) := fwAs.getD k none
def fwEl (k j : Nat) : Nat × Nat := if k = 22 then (3, 2 + j) else (33, j)
def fwArr (ad : Nat → Nat → Nat) (f : Nat → Int) (k t n : Nat) : (Nat → Int32) ⊕ (Nat → Int64) ⊕ (Nat → UInt32) ⊕ (Nat → UInt64) ⊕ (Nat → Option Nat) :=
  if t ≤ 2 then .inl (fun j => Int32.ofInt (f j)) else if t = 3 then .inr (.inl (fun j => Int64.ofInt (f j))) else .inr (.inr (.inr (.inr (fun j => if j < n then some (ad (fwEl k j).1 (fwEl k j).2) else none))))
def fwFv (ad : Nat → Nat → Nat) (f : Nat → Int) (k i j : Nat) : Value := match fwRf k j i with
  | some q => .ref (ad q.1 q.2)
  | none => .int (Int32.ofInt (f j))
def fwCel (ad : Nat → Nat → Nat) (tc : Nat → ClassId) (f : Nat → Int) (k i : Nat) : va_E := match fwOk k with
  | some c => .inr (c, (List.range (fwFn c)).map (fwFv ad f k i))
  | none => match fwAk k with
    | some a => .inl (tc a.1, a.2, fwArr ad f k a.1 a.2)
    | none => .inr (0, [])
def fwPr : List (Nat × Nat) := (List.range 50).flatMap (fun k => (List.range (fwNk k)).map (fun i => (k, i)))
def fwWd (ad : Nat → Nat → Nat) (tc : Nat → ClassId) (h : fwH) : va_W := fwPr.map (fun q => (ad q.1 q.2, fwCel ad tc (h q.1 q.2) q.1 q.2))
def fwTy (tc : Nat → ClassId) : List (ClassId × FieldType) := [(tc 0, .int), (tc 1, .byte), (tc 2, .boolean), (tc 3, .long), (tc 4, .object "FootLower$Mountain"), (tc 5, .array .long)]
def fwA (ad : Nat → Nat → Nat) : Nat → Prop := fun q => ∃ k i, i < fwNk k ∧ q = ad k i
def fwInj (ad : Nat → Nat → Nat) : Prop := ∀ k i k' i', i < fwNk k → i' < fwNk k' → ad k i = ad k' i' → k = k' ∧ i = i'
def fwUc (h : fwH) (k i : Nat) (g : Nat → Int) : fwH := fun k' i' => if k' = k ∧ i' = i then g else h k' i'
def fwUp (h : fwH) (k i j : Nat) (x : Int) : fwH := fun k' i' j' => if k' = k ∧ i' = i ∧ j' = j then x else h k' i' j'
theorem fwUp_Uc (h : fwH) (k i j : Nat) (x : Int) : fwUp h k i j x = fwUc h k i (fun j' => if j' = j then x else h k i j') := by
  funext k' i' j'
  unfold fwUp fwUc
  by_cases h1 : k' = k ∧ i' = i
  · obtain ⟨rfl, rfl⟩ := h1
    simp
  · rw [if_neg h1, if_neg (fun q => h1 ⟨q.1, q.2.1⟩)]
theorem fwPr_mem {k i : Nat} (hi : i < fwNk k) : (k, i) ∈ fwPr := by
  have hk : k < 50 := by
    rcases Nat.lt_or_ge k 50 with q | q
    · exact q
    · exfalso
      have : fwNk k = 0 := by
        unfold fwNk
        rw [List.getD_eq_getElem?_getD, List.getElem?_eq_none (show fwNs.length ≤ k from q)]
        rfl
      omega
  exact List.mem_flatMap.mpr ⟨k, List.mem_range.mpr hk, List.mem_map.mpr ⟨i, List.mem_range.mpr hi, rfl⟩⟩
theorem fwPr_nd : fwPr.Nodup := by decide +kernel
theorem fwPr_in : ∀ q ∈ fwPr, q.2 < fwNk q.1 := by
  intro q hq
  obtain ⟨k, -, h⟩ := List.mem_flatMap.mp hq
  obtain ⟨i, hi, rfl⟩ := List.mem_map.mp h
  exact List.mem_range.mp hi
theorem fwPr_one {a b : Nat} {q : Nat × Nat} (ha : fwPr[a]? = some q) (hb : fwPr[b]? = some q) : a = b := by
  obtain ⟨h1, e1⟩ := List.getElem?_eq_some_iff.mp ha
  obtain ⟨h2, e2⟩ := List.getElem?_eq_some_iff.mp hb
  have key : ∀ (i j : Nat) (hi : i < fwPr.length) (hj : j < fwPr.length), i < j → fwPr[i] ≠ fwPr[j] := fun i j hi hj hij => List.pairwise_iff_getElem.mp fwPr_nd i j hi hj hij
  rcases Nat.lt_trichotomy a b with q | q | q
  · exact absurd (e1.trans e2.symm) (key a b h1 h2 q)
  · exact q
  · exact absurd (e2.trans e1.symm) (key b a h2 h1 q)
theorem fw_get {k i : Nat} (hi : i < fwNk k) : ∃ q0 : Nat, fwPr[q0]? = some (k, i) ∧ ∀ ad tc h, (fwWd ad tc h)[q0]? = some (ad k i, fwCel ad tc (h k i) k i) := by
  obtain ⟨q0, hq⟩ := List.getElem?_of_mem (fwPr_mem hi)
  refine ⟨q0, hq, fun ad tc h => ?_⟩
  unfold fwWd
  rw [List.getElem?_map, hq]
  rfl
theorem fw_set {ad : Nat → Nat → Nat} {tc : Nat → ClassId} {h : fwH} {k i q0 : Nat} {g : Nat → Int} (hq : fwPr[q0]? = some (k, i)) : (fwWd ad tc h).set q0 (ad k i, fwCel ad tc g k i) = fwWd ad tc (fwUc h k i g) := by
  apply List.ext_getElem?
  intro n
  by_cases hn : q0 = n
  · subst hn
    have hl : q0 < (fwWd ad tc h).length := by
      unfold fwWd
      rw [List.length_map]
      exact (List.getElem?_eq_some_iff.mp hq).1
    rw [List.getElem?_set_self hl]
    unfold fwWd
    rw [List.getElem?_map, hq]
    simp [fwUc]
  · rw [List.getElem?_set_ne hn]
    unfold fwWd
    rw [List.getElem?_map, List.getElem?_map]
    cases hp : fwPr[n]? with
    | none => rfl
    | some q =>
      have hne : ¬ (q.1 = k ∧ q.2 = i) := fun e => hn (fwPr_one hq (by rw [hp]; exact congrArg some (Prod.ext e.1 e.2)))
      simp [fwUc, hne]
theorem fw_D {ad : Nat → Nat → Nat} (hi : fwInj ad) (tc : Nat → ClassId) (h : fwH) : va_D (fwA ad) (fwWd ad tc h) := by
  constructor
  · intro i j p q hp hq e
    unfold fwWd at hp hq
    rw [List.getElem?_map] at hp hq
    cases h1 : fwPr[i]? with
    | none => rw [h1] at hp; cases hp
    | some a =>
      cases h2 : fwPr[j]? with
      | none => rw [h2] at hq; cases hq
      | some b =>
        rw [h1] at hp
        rw [h2] at hq
        cases hp
        cases hq
        obtain ⟨e1, e2⟩ := hi a.1 a.2 b.1 b.2 (fwPr_in a (List.mem_of_getElem? h1)) (fwPr_in b (List.mem_of_getElem? h2)) e
        exact fwPr_one h1 (by rw [h2]; exact congrArg some (Prod.ext e1.symm e2.symm))
  · intro j q hq
    unfold fwWd at hq
    rw [List.getElem?_map] at hq
    cases h1 : fwPr[j]? with
    | none => rw [h1] at hq; cases hq
    | some a =>
      rw [h1] at hq
      cases hq
      exact ⟨a.1, a.2, fwPr_in a (List.mem_of_getElem? h1), rfl⟩
/-! locals by their places -/
def fwLv (ad : Nat → Nat → Nat) (ls : Array Slot) (n : Nat) (L : List (Option fwV)) : Prop := ls.size = n ∧ lv_wf ls ∧ ∀ (i : Nat) (v : fwV), L[i]? = some (some v) → ls[(i : Nat)]? = some (Slot.val (fwMv ad v))
def fwIsJ (v : Option fwV) : Bool := match v with
  | some (.inr (.inl _)) => true
  | _ => false
/-- a one word value stored at i: a long just below it is lost -/
def fwKil (L : List (Option fwV)) (i : Nat) : List (Option fwV) := match i with
  | 0 => L
  | j + 1 => if fwIsJ (L.getD j none) then L.set j none else L
def fwSt1 (L : List (Option fwV)) (i : Nat) (v : fwV) : List (Option fwV) := (fwKil L i).set i (some v)
def fwSt2 (L : List (Option fwV)) (i : Nat) (v : fwV) : List (Option fwV) := ((fwKil L i).set (i + 1) none).set i (some v)
def fwLvL (ad : Nat → Nat → Nat) (L : List (Option fwV)) : List (Nat × Value) := (List.range L.length).filterMap (fun i => (L.getD i none).map (fun v => (i, fwMv ad v)))
theorem fwLvL_mem {ad : Nat → Nat → Nat} {L : List (Option fwV)} {i : Nat} {v : fwV} (h : L[i]? = some (some v)) : (i, fwMv ad v) ∈ fwLvL ad L := by
  refine List.mem_filterMap.mpr ⟨i, List.mem_range.mpr (List.getElem?_eq_some_iff.mp h).1, ?_⟩
  rw [List.getD_eq_getElem?_getD, h]
  rfl
theorem fwLvL_has {ad : Nat → Nat → Nat} {ls : Array Slot} {n : Nat} {L : List (Option fwV)} (h : fwLv ad ls n L) : lv_has ls n (fwLvL ad L) := by
  refine ⟨h.1, h.2.1, fun q hq => ?_⟩
  obtain ⟨i, hi, e⟩ := List.mem_filterMap.mp hq
  rw [List.getD_eq_getElem?_getD] at e
  cases h1 : L[i]? with
  | none => rw [h1] at e; cases e
  | some o =>
    cases o with
    | none => rw [h1] at e; cases e
    | some v =>
      rw [h1] at e
      cases e
      exact h.2.2 i v h1
theorem fwKil_get {L : List (Option fwV)} {i j : Nat} {v : fwV} (h : (fwKil L i)[j]? = some (some v)) : L[j]? = some (some v) ∧ ¬ (j + 1 = i ∧ fwIsJ (some v) = true) := by
  unfold fwKil at h
  cases i with
  | zero => exact ⟨h, fun q => by omega⟩
  | succ k =>
    dsimp only at h
    by_cases c : fwIsJ (L.getD k none) = true
    · rw [if_pos c] at h
      by_cases e : k = j
      · subst e
        rw [List.getElem?_set] at h
        rw [if_pos rfl] at h
        split at h <;> cases h
      · rw [List.getElem?_set_ne e] at h
        exact ⟨h, fun q => e (by omega)⟩
    · rw [if_neg c] at h
      refine ⟨h, fun q => c ?_⟩
      have : k = j := by omega
      subst this
      rw [List.getD_eq_getElem?_getD, h]
      exact q.2
theorem fwMv_cat (ad : Nat → Nat → Nat) (v : fwV) : ((fwMv ad v).category == 2) = fwIsJ (some v) := by
  rcases v with x | x | q <;> rfl
theorem fw_st1 {ad : Nat → Nat → Nat} {ls' : Array Slot} {n i : Nat} {L : List (Option fwV)} {v : fwV} (h : lv_has ls' n ((i, fwMv ad v) :: (fwLvL ad L).filter (fun q => !(q.1 == i) && !(q.1 + 1 == i && q.2.category == 2)))) : fwLv ad ls' n (fwSt1 L i v) := by
  refine ⟨h.1, h.2.1, fun j w hj => ?_⟩
  unfold fwSt1 at hj
  by_cases e : i = j
  · subst e
    rw [List.getElem?_set] at hj
    rw [if_pos rfl] at hj
    split at hj
    · cases hj
      exact h.2.2 (i, fwMv ad v) List.mem_cons_self
    · cases hj
  · rw [List.getElem?_set_ne e] at hj
    obtain ⟨h1, h2⟩ := fwKil_get hj
    refine h.2.2 (j, fwMv ad w) (List.mem_cons_of_mem _ (List.mem_filter.mpr ⟨fwLvL_mem h1, ?_⟩))
    have e1 : (j == i) = false := by simpa using fun q : j = i => e q.symm
    have e2 : (j + 1 == i && (fwMv ad w).category == 2) = false := by
      rw [fwMv_cat]
      cases c : (j + 1 == i && fwIsJ (some w)) with
      | false => rfl
      | true =>
        exfalso
        rw [Bool.and_eq_true] at c
        exact h2 ⟨by simpa using c.1, c.2⟩
    simp only [e1, e2, Bool.not_false, Bool.and_true]
theorem fw_st2 {ad : Nat → Nat → Nat} {ls' : Array Slot} {n i : Nat} {L : List (Option fwV)} {v : fwV} (h : lv_has ls' n ((i, fwMv ad v) :: (fwLvL ad L).filter (fun q => !(q.1 == i) && (!(q.1 == i + 1) && !(q.1 + 1 == i && q.2.category == 2))))) : fwLv ad ls' n (fwSt2 L i v) := by
  refine ⟨h.1, h.2.1, fun j w hj => ?_⟩
  unfold fwSt2 at hj
  by_cases e : i = j
  · subst e
    rw [List.getElem?_set] at hj
    rw [if_pos rfl] at hj
    split at hj
    · cases hj
      exact h.2.2 (i, fwMv ad v) List.mem_cons_self
    · cases hj
  · rw [List.getElem?_set_ne e] at hj
    by_cases e9 : i + 1 = j
    · subst e9
      rw [List.getElem?_set] at hj
      rw [if_pos rfl] at hj
      split at hj <;> cases hj
    · rw [List.getElem?_set_ne e9] at hj
      obtain ⟨h1, h2⟩ := fwKil_get hj
      refine h.2.2 (j, fwMv ad w) (List.mem_cons_of_mem _ (List.mem_filter.mpr ⟨fwLvL_mem h1, ?_⟩))
      have e1 : (j == i) = false := by simpa using fun q : j = i => e q.symm
      have e3 : (j == i + 1) = false := by simpa using fun q : j = i + 1 => e9 q.symm
      have e2 : (j + 1 == i && (fwMv ad w).category == 2) = false := by
        rw [fwMv_cat]
        cases c : (j + 1 == i && fwIsJ (some w)) with
        | false => rfl
        | true =>
          exfalso
          rw [Bool.and_eq_true] at c
          exact h2 ⟨by simpa using c.1, c.2⟩
      simp only [e1, e2, e3, Bool.not_false, Bool.and_true]
/-- the locals at a method's entry -/
def fwEn : List fwV → List (Option fwV)
  | [] => []
  | v :: t => if fwIsJ (some v) then some v :: none :: fwEn t else some v :: fwEn t
theorem fwEn_args (ad : Nat → Nat → Nat) : ∀ (vs : List fwV) (n i : Nat) (v : fwV), (fwEn vs)[i]? = some (some v) → (n + i, fwMv ad v) ∈ lv_args n (vs.map (fwMv ad)) := by
  intro vs
  induction vs with
  | nil => intro n i v h; simp [fwEn] at h
  | cons w t ih =>
    intro n i v h
    have hc : ((fwMv ad w).category = 2) ↔ fwIsJ (some w) = true := by
      rw [← fwMv_cat ad w]; simp
    unfold fwEn at h
    by_cases c : fwIsJ (some w) = true
    · rw [if_pos c] at h
      simp only [List.map_cons, lv_args, if_pos (hc.mpr c)]
      match i, h with
      | 0, h => cases h; exact List.mem_cons_self
      | 1, h => cases h
      | j + 2, h =>
        refine List.mem_cons_of_mem _ ?_
        have := ih (n + 2) j v (by simpa using h)
        rw [show n + (j + 2) = n + 2 + j by omega]
        exact this
    · rw [if_neg c] at h
      simp only [List.map_cons, lv_args, if_neg (fun q => c (hc.mp q))]
      match i, h with
      | 0, h => cases h; exact List.mem_cons_self
      | j + 1, h =>
        refine List.mem_cons_of_mem _ ?_
        have := ih (n + 1) j v (by simpa using h)
        rw [show n + (j + 1) = n + 1 + j by omega]
        exact this
theorem fwEn_len (ad : Nat → Nat → Nat) : ∀ vs : List fwV, (lg_sl (vs.map (fwMv ad))).length = (fwEn vs).length := by
  intro vs
  induction vs with
  | nil => rfl
  | cons w t ih =>
    have hc : ((fwMv ad w).category = 2) ↔ fwIsJ (some w) = true := by
      rw [← fwMv_cat ad w]; simp
    unfold fwEn
    by_cases c : fwIsJ (some w) = true
    · rw [if_pos c]
      simp only [List.map_cons, lg_sl, List.flatMap_cons, if_pos (hc.mpr c), List.length_append] at ih ⊢
      simp only [List.length_cons, List.length_nil]
      omega
    · rw [if_neg c]
      simp only [List.map_cons, lg_sl, List.flatMap_cons, if_neg (fun q => c (hc.mp q)), List.length_append] at ih ⊢
      simp only [List.length_cons, List.length_nil]
      omega
