/-! heaps that the machine can't tell apart -/
theorem fw_arrV {c : ClassId} {N : Nat} {f g : Nat → Value} (h : ∀ j, j < N → f j = g j) : arrV c N f = arrV c N g := by
  unfold arrV
  congr 2
  funext j
  exact h j.1 j.2
def fwLim (k : Nat) : Nat := match fwOk k with
  | some c => fwFn c
  | none => match fwAk k with
    | some a => a.2
    | none => 0
def fwE (h h' : fwH) : Prop := ∀ k i s, i < fwNk k → s < fwLim k → fwRf k s i = none → h k i s = h' k i s
theorem fw_celE {ad : Nat → Nat → Nat} {tc : Nat → ClassId} {D : va_G} {f g : Nat → Int} {k i : Nat} {H : Heap} (he : ∀ s, s < fwLim k → fwRf k s i = none → f s = g s) (h : va_at D vwCl (ad k i, fwCel ad tc f k i) H) : va_at D vwCl (ad k i, fwCel ad tc g k i) H := by
  cases ho : fwOk k with
  | some c =>
    rw [fwCel_o ho] at h ⊢
    have e : (List.range (fwFn c)).map (fwFv ad f k i) = (List.range (fwFn c)).map (fwFv ad g k i) := by
      apply List.map_congr_left
      intro s hs
      unfold fwFv
      cases hr : fwRf k s i with
      | some q => rfl
      | none => rw [he s (by unfold fwLim; rw [ho]; exact List.mem_range.mp hs) hr]
    rw [← e]
    exact h
  | none =>
    cases ha : fwAk k with
    | none =>
      unfold fwCel at h ⊢
      rw [ho] at h ⊢
      dsimp only at h ⊢
      rw [ha] at h ⊢
      exact h
    | some a =>
      rw [fwCel_a ho ha] at h ⊢
      have hl : fwLim k = a.2 := by unfold fwLim; rw [ho]; dsimp only; rw [ha]
      have hr : ∀ s, fwRf k s i = none := by
        intro s
        have hk : 13 ≤ k := by
          rcases Nat.lt_or_ge k 13 with q | q
          · exfalso
            have : ∀ k, k < 13 → fwAk k = none := by decide +kernel
            rw [this k q] at ha
            cases ha
          · exact q
        unfold fwRf
        rw [List.getD_eq_getElem?_getD (l := fwTs), List.getElem?_eq_none (show fwTs.length ≤ k from hk)]
        rfl
      unfold fwArr at h ⊢
      show H[ad k i]? = some (vp_cell _ _)
      have h1 : H[ad k i]? = some (vp_cell _ _) := h
      rw [h1]
      by_cases h2 : a.1 ≤ 2
      · rw [if_pos h2, if_pos h2, vp_cell_i, vp_cell_i]
        exact congrArg some (fw_arrV (fun j hj => by rw [he j (by omega) (hr j)]))
      · rw [if_neg h2, if_neg h2]
        by_cases h3 : a.1 = 3
        · rw [if_pos h3, if_pos h3, vp_cell_l, vp_cell_l]
          exact congrArg some (fw_arrV (fun j hj => by rw [he j (by omega) (hr j)]))
        · rw [if_neg h3, if_neg h3]
theorem fw_wdE {ad : Nat → Nat → Nat} {tc : Nat → ClassId} {D : va_G} {h h' : fwH} {H : Heap} (he : fwE h h') (hP : va_P D vwCl (fwWd ad tc h) H) : va_P D vwCl (fwWd ad tc h') H := by
  intro n q hq
  unfold fwWd at hq
  rw [List.getElem?_map] at hq
  cases h1 : fwPr[n]? with
  | none => rw [h1] at hq; cases hq
  | some a =>
    rw [h1] at hq
    cases hq
    have h2 : (fwWd ad tc h)[n]? = some (ad a.1 a.2, fwCel ad tc (h a.1 a.2) a.1 a.2) := by
      unfold fwWd
      rw [List.getElem?_map, h1]
      rfl
    exact fw_celE (fun s hs hr => he a.1 a.2 s (fwPr_in a (List.mem_of_getElem? h1)) hs hr) (hP n _ h2)
theorem w_heq {M : fwM} {d pc : Nat} {L : List (Option fwV)} {S : List fwV} {h : fwH} {Q : Option fwV → fwH → Prop} (h' : fwH) (he : fwE h h') (k : fwWP M d pc L S h' Q) : fwWP M d pc L S h Q := by
  intro l p e s m args below meth c ad D tc H locs ls C X
  exact k l p e s m args below meth c ad D tc H locs ls C ⟨fw_wdE he X.1, X.2⟩
def fwFu (g : Nat → Int) (j : Nat) (x : Int) : Nat → Int := fun s => if s = j then x else g s
theorem fwUp_fu (h : fwH) (k i j : Nat) (x : Int) : fwUp h k i j x = fwUc h k i (fwFu (h k i) j x) := fwUp_Uc h k i j x
theorem fwUc_uc (h : fwH) (k i : Nat) (g g' : Nat → Int) : fwUc (fwUc h k i g) k i g' = fwUc h k i g' := by
  funext k' i'
  unfold fwUc
  by_cases e : k' = k ∧ i' = i
  · rw [if_pos e, if_pos e]
  · rw [if_neg e, if_neg e, if_neg e]
theorem fwUc_at (h : fwH) (k i : Nat) (g : Nat → Int) : fwUc h k i g k i = g := by
  unfold fwUc
  rw [if_pos ⟨rfl, rfl⟩]
theorem fwUc_ne {h : fwH} {k i k' i' : Nat} {g : Nat → Int} (hn : ¬ (k' = k ∧ i' = i)) : fwUc h k i g k' i' = h k' i' := if_neg hn
theorem fwUc_self (h : fwH) (k i : Nat) : fwUc h k i (h k i) = h := by
  funext k' i'
  unfold fwUc
  by_cases e : k' = k ∧ i' = i
  · rw [if_pos e, e.1, e.2]
  · rw [if_neg e]
theorem fwUc_comm (h : fwH) {k i k' i' : Nat} (g g' : Nat → Int) (hn : ¬ (k = k' ∧ i = i')) : fwUc (fwUc h k i g) k' i' g' = fwUc (fwUc h k' i' g') k i g := by
  funext a b
  unfold fwUc
  by_cases e : a = k ∧ b = i
  · obtain ⟨rfl, rfl⟩ := e
    rw [if_neg (fun q => hn q)]
    simp
  · by_cases e2 : a = k' ∧ b = i'
    · rw [if_pos e2, if_neg e, if_pos e2]
    · rw [if_neg e2, if_neg e, if_neg e, if_neg e2]
theorem fwE_uc {h : fwH} {k i : Nat} {g g' : Nat → Int} (he : ∀ s, s < fwLim k → fwRf k s i = none → g s = g' s) : fwE (fwUc h k i g) (fwUc h k i g') := by
  intro k' i' s hi hs hr
  unfold fwUc
  by_cases e : k' = k ∧ i' = i
  · obtain ⟨rfl, rfl⟩ := e
    simp only [and_self, if_true]
    exact he s hs hr
  · rw [if_neg e, if_neg e]
theorem fwE.rf {h : fwH} : fwE h h := fun _ _ _ _ _ _ => rfl
theorem fwE.tr {h h1 h2 : fwH} (a : fwE h h1) (b : fwE h1 h2) : fwE h h2 := fun k i s x y z => (a k i s x y z).trans (b k i s x y z)
theorem fwE.uc {h h' : fwH} (a : fwE h h') (k i : Nat) (g : Nat → Int) : fwE (fwUc h k i g) (fwUc h' k i g) := by
  intro k' i' s x y z
  unfold fwUc
  by_cases e : k' = k ∧ i' = i
  · rw [if_pos e, if_pos e]
  · rw [if_neg e, if_neg e]
    exact a k' i' s x y z
theorem fwUp_uc (h : fwH) (k i : Nat) (g : Nat → Int) (j : Nat) (x : Int) : fwUp (fwUc h k i g) k i j x = fwUc h k i (fwFu g j x) := by
  rw [fwUp_fu, fwUc_uc, fwUc_at]
/-- a row that is filled from its beginning on -/
def fwFl (g f : Nat → Int) (c : Nat) : Nat → Int := fun s => if s < c then g s else f s
theorem fwFl_0 (g f : Nat → Int) : fwFl g f 0 = f := by funext s; simp [fwFl]
theorem fwFl_succ (g f : Nat → Int) (c : Nat) : fwFu (fwFl g f c) c (g c) = fwFl g f (c + 1) := by
  funext s
  unfold fwFu fwFl
  by_cases e : s = c
  · subst e
    rw [if_pos rfl, if_pos (by omega)]
  · rw [if_neg e]
    by_cases e3 : s < c
    · rw [if_pos e3, if_pos (by omega)]
    · rw [if_neg e3, if_neg (by omega)]
theorem fwFl_lt {g f : Nat → Int} {c s : Nat} (h : s < c) : fwFl g f c s = g s := if_pos h
theorem fwFl_ge {g f : Nat → Int} {c s : Nat} (h : c ≤ s) : fwFl g f c s = f s := if_neg (by omega)
