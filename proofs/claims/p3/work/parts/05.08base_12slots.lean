section
theorem fwB_01 (P : Prop) [Decidable P] : fwB P = 0 ∨ fwB P = 1 := by unfold fwB; split <;> simp
theorem fwB_t {P : Prop} [Decidable P] (h : P) : fwB P = 1 := if_pos h
theorem fwB_f {P : Prop} [Decidable P] (h : ¬ P) : fwB P = 0 := if_neg h
theorem fwB_rng (P : Prop) [Decidable P] : 0 ≤ fwB P ∧ fwB P ≤ 1 := by unfold fwB; split <;> simp
section FWE
variable {M : fwM} {d pc : Nat} {L : List (Option fwV)} {S : List fwV} {h : fwH} {Q : Option fwV → fwH → Prop}
theorem w_getiE {idx k i j : Nat} {v : Int} (hd : decode M.2.1 pc = .ok (.getfield idx, 3)) (hf : fwFL M.1.cls idx k j) (hr : fwRf k j i = none) (hi : i < fwNk k) (hv : h k i j = v) (kk : fwWP M d (pc + 3) L (aI v :: S) h Q) : fwWP M d pc L (aR k i :: S) h Q := by
  subst hv
  exact w_geti hd hf hr hi kk
theorem w_ialdE {k i n : Nat} {x v : Int} (hd : decode M.2.1 pc = .ok (.iaload, 1)) (ha : fwAk k = some (0, n)) (hi : i < fwNk k) (h0 : 0 ≤ x) (h1 : x < n) (hv : h k i x.toNat = v) (kk : fwWP M d (pc + 1) L (aI v :: S) h Q) : fwWP M d pc L (aI x :: aR k i :: S) h Q := by
  subst hv
  exact w_iald hd ha hi h0 h1 kk
theorem w_baldE {k i n : Nat} {x v : Int} (hd : decode M.2.1 pc = .ok (.baload, 1)) (ha : fwAk k = some (1, n)) (hi : i < fwNk k) (h0 : 0 ≤ x) (h1 : x < n) (hv : h k i x.toNat = v) (kk : fwWP M d (pc + 1) L (aI v :: S) h Q) : fwWP M d pc L (aI x :: aR k i :: S) h Q := by
  subst hv
  exact w_bald hd ha hi h0 h1 kk
theorem w_zaldE {k i n : Nat} {x v : Int} (hd : decode M.2.1 pc = .ok (.baload, 1)) (ha : fwAk k = some (2, n)) (hi : i < fwNk k) (h0 : 0 ≤ x) (h1 : x < n) (hv : h k i x.toNat = v) (kk : fwWP M d (pc + 1) L (aI v :: S) h Q) : fwWP M d pc L (aI x :: aR k i :: S) h Q := by
  subst hv
  exact w_zald hd ha hi h0 h1 kk
theorem w_laldE {k i n : Nat} {x v : Int} (hd : decode M.2.1 pc = .ok (.laload, 1)) (ha : fwAk k = some (3, n)) (hi : i < fwNk k) (h0 : 0 ≤ x) (h1 : x < n) (hv : h k i x.toNat = v) (kk : fwWP M d (pc + 1) L (aJ v :: S) h Q) : fwWP M d pc L (aI x :: aR k i :: S) h Q := by
  subst hv
  exact w_lald hd ha hi h0 h1 kk
theorem w_iretE {x r : Int} (hd : decode M.2.1 pc = .ok (.ireturn, 1)) (hr : M.2.2.2 = some .int) (e : x = r) (k : Q (some (aI r)) h) : fwWP M d pc L [aI x] h Q := by
  subst e
  exact w_iret hd hr k
theorem w_zretE {x : Int} {P : Prop} [Decidable P] (hd : decode M.2.1 pc = .ok (.ireturn, 1)) (hr : M.2.2.2 = some .boolean) (e : x = fwB P) (k : Q (some (aI (fwB P))) h) : fwWP M d pc L [aI x] h Q := by
  subst e
  exact w_zret hd hr (fwB_01 P) k
theorem w_lretE {x r : Int} (hd : decode M.2.1 pc = .ok (.lreturn, 1)) (hr : M.2.2.2 = some .long) (e : x = r) (k : Q (some (aJ r)) h) : fwWP M d pc L [aJ x] h Q := by
  subst e
  exact w_lret hd hr k
end FWE
/-- a loop that counts up to n -/
theorem fw_up {P : Nat → Prop} {n : Nat} (step : ∀ c, c ≤ n → (c < n → P (c + 1)) → P c) : ∀ c, c ≤ n → P c := by
  have key : ∀ k c, c ≤ n → n - c ≤ k → P c := by
    intro k
    induction k with
    | zero => intro c hc h0; exact step c hc (fun h => by omega)
    | succ k ih => intro c hc h0; exact step c hc (fun h => ih (c + 1) h (by omega))
  intro c hc
  exact key (n - c) c hc (Nat.le_refl _)
/-- a loop whose measure falls -/
theorem fw_down {α : Type} {P : α → Prop} (μ : α → Nat) (step : ∀ a, (∀ b, μ b < μ a → P b) → P a) : ∀ a, P a := by
  have key : ∀ k a, μ a ≤ k → P a := by
    intro k
    induction k with
    | zero => intro a h0; exact step a (fun b h => by omega)
    | succ k ih => intro a h0; exact step a (fun b h => ih b (by omega))
  intro a
  exact key (μ a) a (Nat.le_refl _)
/-- locals that are not needed any more -/
theorem fw_setnone {L : List (Option fwV)} {i j : Nat} {v : fwV} (h : (L.set i none)[j]? = some (some v)) : L[j]? = some (some v) := by
  rw [List.getElem?_set] at h
  split at h
  · split at h <;> cases h
  · exact h
theorem fw_dropL : ∀ (ds : List Nat) (L : List (Option fwV)) (j : Nat) (v : fwV), (ds.foldl (fun L i => L.set i none) L)[j]? = some (some v) → L[j]? = some (some v) := by
  intro ds
  induction ds with
  | nil => intro L j v h; exact h
  | cons a t ih => intro L j v h; exact fw_setnone (ih _ j v h)
theorem w_drop {M : fwM} {d pc : Nat} {L : List (Option fwV)} {S : List fwV} {h : fwH} {Q : Option fwV → fwH → Prop} (ds : List Nat) (L' : List (Option fwV)) (hL : ds.foldl (fun L i => L.set i none) L = L') (k : fwWP M d pc L' S h Q) : fwWP M d pc L S h Q := by
  intro l p e s m args below meth c ad D tc H locs ls C X
  refine k l p e s m args below meth c ad D tc H locs ls C ⟨X.1, X.2.1, X.2.2.1, X.2.2.2.1, fun i v hi => X.2.2.2.2 i v ?_⟩
  rw [← hL] at hi
  exact fw_dropL ds L i v hi
end
section
/-! heaps that the machine can't tell apart -/
theorem fw_arrV {c : ClassId} {N : Nat} {f g : Nat → Value} (h : ∀ j, j < N → f j = g j) : arrV c N f = arrV c N g := by
  unfold arrV
  congr 2
  funext j
  exact h j.1 j.2
def fwLim (k : Nat) : Nat := match fwOk k with
  | some c => fwFn c
  | none => match fwAk k with
    | some a => a.2
    | none => 0
def fwE (h h' : fwH) : Prop := ∀ k i s, i < fwNk k → s < fwLim k → fwRf k s i = none → h k i s = h' k i s
theorem fw_celE {ad : Nat → Nat → Nat} {tc : Nat → ClassId} {D : va_G} {f g : Nat → Int} {k i : Nat} {H : Heap} (he : ∀ s, s < fwLim k → fwRf k s i = none → f s = g s) (h : va_at D vwCl (ad k i, fwCel ad tc f k i) H) : va_at D vwCl (ad k i, fwCel ad tc g k i) H := by
  cases ho : fwOk k with
  | some c =>
    rw [fwCel_o ho] at h ⊢
    have e : (List.range (fwFn c)).map (fwFv ad f k i) = (List.range (fwFn c)).map (fwFv ad g k i) := by
      apply List.map_congr_left
      intro s hs
      unfold fwFv
      cases hr : fwRf k s i with
      | some q => rfl
      | none => rw [he s (by unfold fwLim; rw [ho]; exact List.mem_range.mp hs) hr]
    rw [← e]
    exact h
  | none =>
    cases ha : fwAk k with
    | none =>
      unfold fwCel at h ⊢
      rw [ho] at h ⊢
      dsimp only at h ⊢
      rw [ha] at h ⊢
      exact h
    | some a =>
      rw [fwCel_a ho ha] at h ⊢
      have hl : fwLim k = a.2 := by unfold fwLim; rw [ho]; dsimp only; rw [ha]
      have hr : ∀ s, fwRf k s i = none := by
        intro s
        have hk : 13 ≤ k := by
          rcases Nat.lt_or_ge k 13 with q | q
          · exfalso
            have : ∀ k, k < 13 → fwAk k = none := by decide +kernel
            rw [this k q] at ha
            cases ha
          · exact q
        unfold fwRf
        rw [List.getD_eq_getElem?_getD (l := fwTs), List.getElem?_eq_none (show fwTs.length ≤ k from hk)]
        rfl
      unfold fwArr at h ⊢
      show H[ad k i]? = some (vp_cell _ _)
      have h1 : H[ad k i]? = some (vp_cell _ _) := h
      rw [h1]
      by_cases h2 : a.1 ≤ 2
      · rw [if_pos h2, if_pos h2, vp_cell_i, vp_cell_i]
        exact congrArg some (fw_arrV (fun j hj => by rw [he j (by omega) (hr j)]))
      · rw [if_neg h2, if_neg h2]
        by_cases h3 : a.1 = 3
        · rw [if_pos h3, if_pos h3, vp_cell_l, vp_cell_l]
          exact congrArg some (fw_arrV (fun j hj => by rw [he j (by omega) (hr j)]))
        · rw [if_neg h3, if_neg h3]
theorem fw_wdE {ad : Nat → Nat → Nat} {tc : Nat → ClassId} {D : va_G} {h h' : fwH} {H : Heap} (he : fwE h h') (hP : va_P D vwCl (fwWd ad tc h) H) : va_P D vwCl (fwWd ad tc h') H := by
  intro n q hq
  unfold fwWd at hq
  rw [List.getElem?_map] at hq
  cases h1 : fwPr[n]? with
  | none => rw [h1] at hq; cases hq
  | some a =>
    rw [h1] at hq
    cases hq
    have h2 : (fwWd ad tc h)[n]? = some (ad a.1 a.2, fwCel ad tc (h a.1 a.2) a.1 a.2) := by
      unfold fwWd
      rw [List.getElem?_map, h1]
      rfl
    exact fw_celE (fun s hs hr => he a.1 a.2 s (fwPr_in a (List.mem_of_getElem? h1)) hs hr) (hP n _ h2)
theorem w_heq {M : fwM} {d pc : Nat} {L : List (Option fwV)} {S : List fwV} {h : fwH} {Q : Option fwV → fwH → Prop} (h' : fwH) (he : fwE h h') (k : fwWP M d pc L S h' Q) : fwWP M d pc L S h Q := by
  intro l p e s m args below meth c ad D tc H locs ls C X
  exact k l p e s m args below meth c ad D tc H locs ls C ⟨fw_wdE he X.1, X.2⟩
def fwFu (g : Nat → Int) (j : Nat) (x : Int) : Nat → Int := fun s => if s = j then x else g s
theorem fwUp_fu (h : fwH) (k i j : Nat) (x : Int) : fwUp h k i j x = fwUc h k i (fwFu (h k i) j x) := fwUp_Uc h k i j x
theorem fwUc_uc (h : fwH) (k i : Nat) (g g' : Nat → Int) : fwUc (fwUc h k i g) k i g' = fwUc h k i g' := by
  funext k' i'
  unfold fwUc
  by_cases e : k' = k ∧ i' = i
  · rw [if_pos e, if_pos e]
  · rw [if_neg e, if_neg e, if_neg e]
theorem fwUc_at (h : fwH) (k i : Nat) (g : Nat → Int) : fwUc h k i g k i = g := by
  unfold fwUc
  rw [if_pos ⟨rfl, rfl⟩]
theorem fwUc_ne {h : fwH} {k i k' i' : Nat} {g : Nat → Int} (hn : ¬ (k' = k ∧ i' = i)) : fwUc h k i g k' i' = h k' i' := if_neg hn
theorem fwUc_self (h : fwH) (k i : Nat) : fwUc h k i (h k i) = h := by
  funext k' i'
  unfold fwUc
  by_cases e : k' = k ∧ i' = i
  · rw [if_pos e, e.1, e.2]
  · rw [if_neg e]
theorem fwUc_comm (h : fwH) {k i k' i' : Nat} (g g' : Nat → Int) (hn : ¬ (k = k' ∧ i = i')) : fwUc (fwUc h k i g) k' i' g' = fwUc (fwUc h k' i' g') k i g := by
  funext a b
  unfold fwUc
  by_cases e : a = k ∧ b = i
  · obtain ⟨rfl, rfl⟩ := e
    rw [if_neg (fun q => hn q)]
    simp
  · by_cases e2 : a = k' ∧ b = i'
    · rw [if_pos e2, if_neg e, if_pos e2]
    · rw [if_neg e2, if_neg e, if_neg e, if_neg e2]
theorem fwE_uc {h : fwH} {k i : Nat} {g g' : Nat → Int} (he : ∀ s, s < fwLim k → fwRf k s i = none → g s = g' s) : fwE (fwUc h k i g) (fwUc h k i g') := by
  intro k' i' s hi hs hr
  unfold fwUc
  by_cases e : k' = k ∧ i' = i
  · obtain ⟨rfl, rfl⟩ := e
    simp only [and_self, if_true]
    exact he s hs hr
  · rw [if_neg e, if_neg e]
theorem fwE.rf {h : fwH} : fwE h h := fun _ _ _ _ _ _ => rfl
theorem fwE.tr {h h1 h2 : fwH} (a : fwE h h1) (b : fwE h1 h2) : fwE h h2 := fun k i s x y z => (a k i s x y z).trans (b k i s x y z)
theorem fwE.uc {h h' : fwH} (a : fwE h h') (k i : Nat) (g : Nat → Int) : fwE (fwUc h k i g) (fwUc h' k i g) := by
  intro k' i' s x y z
  unfold fwUc
  by_cases e : k' = k ∧ i' = i
  · rw [if_pos e, if_pos e]
  · rw [if_neg e, if_neg e]
    exact a k' i' s x y z
theorem fwUp_uc (h : fwH) (k i : Nat) (g : Nat → Int) (j : Nat) (x : Int) : fwUp (fwUc h k i g) k i j x = fwUc h k i (fwFu g j x) := by
  rw [fwUp_fu, fwUc_uc, fwUc_at]
/-- a row that is filled from its beginning on -/
def fwFl (g f : Nat → Int) (c : Nat) : Nat → Int := fun s => if s < c then g s else f s
theorem fwFl_0 (g f : Nat → Int) : fwFl g f 0 = f := by funext s; simp [fwFl]
theorem fwFl_succ (g f : Nat → Int) (c : Nat) : fwFu (fwFl g f c) c (g c) = fwFl g f (c + 1) := by
  funext s
  unfold fwFu fwFl
  by_cases e : s = c
  · subst e
    rw [if_pos rfl, if_pos (by omega)]
  · rw [if_neg e]
    by_cases e3 : s < c
    · rw [if_pos e3, if_pos (by omega)]
    · rw [if_neg e3, if_neg (by omega)]
theorem fwFl_lt {g f : Nat → Int} {c s : Nat} (h : s < c) : fwFl g f c s = g s := if_pos h
theorem fwFl_ge {g f : Nat → Int} {c s : Nat} (h : c ≤ s) : fwFl g f c s = f s := if_neg (by omega)
end
section
/-! JDK: Math, Integer.bitCount, Strings -/
def fwPop (x0 : Int) : Int :=
  let x1 := x0 - fwAnd (fwUsh x0 1) 1431655765
  let x2 := fwAnd x1 858993459 + fwAnd (fwUsh x1 2) 858993459
  let x3 := fwAnd (x2 + fwUsh x2 4) 252645135
  let x4 := x3 + fwUsh x3 8
  let x5 := x4 + fwUsh x4 16
  fwAnd x5 63
set_option maxRecDepth 100000 in
set_option maxHeartbeats 4000000 in
theorem c_bitCount {d : Nat} {h : fwH} {Q : Option fwV → fwH → Prop} (x : Int)  (k : Q (some (aI (fwPop x))) h) : fwCt mJ6_bitCount_0f7a4 (d + 0) [aI x] h Q := by
  refine fwCt_of [some (aI x)] rfl rfl rfl ?_
  refine w_iload_n dJ6_bitCount_0f7a4_0 rfl ?_
  refine w_iload_n dJ6_bitCount_0f7a4_1 rfl ?_
  refine w_iconst dJ6_bitCount_0f7a4_2 ?_
  refine w_iushr dJ6_bitCount_0f7a4_3 ?_
  refine w_ldcw (n := 1431655765) dJ6_bitCount_0f7a4_4 cs_J6_265 ?_
  refine w_iand dJ6_bitCount_0f7a4_7 ?_
  refine w_isub dJ6_bitCount_0f7a4_8 ?_
  refine w_istore_n [some (aI (x - (fwAnd (fwUsh x 1) 1431655765)))] dJ6_bitCount_0f7a4_9 rfl (by decide) ?_
  refine w_iload_n dJ6_bitCount_0f7a4_10 rfl ?_
  refine w_ldcw (n := 858993459) dJ6_bitCount_0f7a4_11 cs_J6_266 ?_
  refine w_iand dJ6_bitCount_0f7a4_14 ?_
  refine w_iload_n dJ6_bitCount_0f7a4_15 rfl ?_
  refine w_iconst dJ6_bitCount_0f7a4_16 ?_
  refine w_iushr dJ6_bitCount_0f7a4_17 ?_
  refine w_ldcw (n := 858993459) dJ6_bitCount_0f7a4_18 cs_J6_266 ?_
  refine w_iand dJ6_bitCount_0f7a4_21 ?_
  refine w_iadd dJ6_bitCount_0f7a4_22 ?_
  refine w_istore_n [some (aI ((fwAnd (x - (fwAnd (fwUsh x 1) 1431655765)) 858993459) + (fwAnd (fwUsh (x - (fwAnd (fwUsh x 1) 1431655765)) 2) 858993459)))] dJ6_bitCount_0f7a4_23 rfl (by decide) ?_
  refine w_iload_n dJ6_bitCount_0f7a4_24 rfl ?_
  refine w_iload_n dJ6_bitCount_0f7a4_25 rfl ?_
  refine w_iconst dJ6_bitCount_0f7a4_26 ?_
  refine w_iushr dJ6_bitCount_0f7a4_27 ?_
  refine w_iadd dJ6_bitCount_0f7a4_28 ?_
  refine w_ldcw (n := 252645135) dJ6_bitCount_0f7a4_29 cs_J6_267 ?_
  refine w_iand dJ6_bitCount_0f7a4_32 ?_
  refine w_istore_n [some (aI (fwAnd (((fwAnd (x - (fwAnd (fwUsh x 1) 1431655765)) 858993459) + (fwAnd (fwUsh (x - (fwAnd (fwUsh x 1) 1431655765)) 2) 858993459)) + (fwUsh ((fwAnd (x - (fwAnd (fwUsh x 1) 1431655765)) 858993459) + (fwAnd (fwUsh (x - (fwAnd (fwUsh x 1) 1431655765)) 2) 858993459)) 4)) 252645135))] dJ6_bitCount_0f7a4_33 rfl (by decide) ?_
  refine w_iload_n dJ6_bitCount_0f7a4_34 rfl ?_
  refine w_iload_n dJ6_bitCount_0f7a4_35 rfl ?_
  refine w_bipush dJ6_bitCount_0f7a4_36 rfl ?_
  refine w_iushr dJ6_bitCount_0f7a4_38 ?_
  refine w_iadd dJ6_bitCount_0f7a4_39 ?_
  refine w_istore_n [some (aI ((fwAnd (((fwAnd (x - (fwAnd (fwUsh x 1) 1431655765)) 858993459) + (fwAnd (fwUsh (x - (fwAnd (fwUsh x 1) 1431655765)) 2) 858993459)) + (fwUsh ((fwAnd (x - (fwAnd (fwUsh x 1) 1431655765)) 858993459) + (fwAnd (fwUsh (x - (fwAnd (fwUsh x 1) 1431655765)) 2) 858993459)) 4)) 252645135) + (fwUsh (fwAnd (((fwAnd (x - (fwAnd (fwUsh x 1) 1431655765)) 858993459) + (fwAnd (fwUsh (x - (fwAnd (fwUsh x 1) 1431655765)) 2) 858993459)) + (fwUsh ((fwAnd (x - (fwAnd (fwUsh x 1) 1431655765)) 858993459) + (fwAnd (fwUsh (x - (fwAnd (fwUsh x 1) 1431655765)) 2) 858993459)) 4)) 252645135) 8)))] dJ6_bitCount_0f7a4_40 rfl (by decide) ?_
  refine w_iload_n dJ6_bitCount_0f7a4_41 rfl ?_
  refine w_iload_n dJ6_bitCount_0f7a4_42 rfl ?_
  refine w_bipush dJ6_bitCount_0f7a4_43 rfl ?_
  refine w_iushr dJ6_bitCount_0f7a4_45 ?_
  refine w_iadd dJ6_bitCount_0f7a4_46 ?_
  refine w_istore_n [some (aI (((fwAnd (((fwAnd (x - (fwAnd (fwUsh x 1) 1431655765)) 858993459) + (fwAnd (fwUsh (x - (fwAnd (fwUsh x 1) 1431655765)) 2) 858993459)) + (fwUsh ((fwAnd (x - (fwAnd (fwUsh x 1) 1431655765)) 858993459) + (fwAnd (fwUsh (x - (fwAnd (fwUsh x 1) 1431655765)) 2) 858993459)) 4)) 252645135) + (fwUsh (fwAnd (((fwAnd (x - (fwAnd (fwUsh x 1) 1431655765)) 858993459) + (fwAnd (fwUsh (x - (fwAnd (fwUsh x 1) 1431655765)) 2) 858993459)) + (fwUsh ((fwAnd (x - (fwAnd (fwUsh x 1) 1431655765)) 858993459) + (fwAnd (fwUsh (x - (fwAnd (fwUsh x 1) 1431655765)) 2) 858993459)) 4)) 252645135) 8)) + (fwUsh ((fwAnd (((fwAnd (x - (fwAnd (fwUsh x 1) 1431655765)) 858993459) + (fwAnd (fwUsh (x - (fwAnd (fwUsh x 1) 1431655765)) 2) 858993459)) + (fwUsh ((fwAnd (x - (fwAnd (fwUsh x 1) 1431655765)) 858993459) + (fwAnd (fwUsh (x - (fwAnd (fwUsh x 1) 1431655765)) 2) 858993459)) 4)) 252645135) + (fwUsh (fwAnd (((fwAnd (x - (fwAnd (fwUsh x 1) 1431655765)) 858993459) + (fwAnd (fwUsh (x - (fwAnd (fwUsh x 1) 1431655765)) 2) 858993459)) + (fwUsh ((fwAnd (x - (fwAnd (fwUsh x 1) 1431655765)) 858993459) + (fwAnd (fwUsh (x - (fwAnd (fwUsh x 1) 1431655765)) 2) 858993459)) 4)) 252645135) 8)) 16)))] dJ6_bitCount_0f7a4_47 rfl (by decide) ?_
  refine w_iload_n dJ6_bitCount_0f7a4_48 rfl ?_
  refine w_bipush dJ6_bitCount_0f7a4_49 rfl ?_
  refine w_iand dJ6_bitCount_0f7a4_51 ?_
  exact w_iretE dJ6_bitCount_0f7a4_52 rfl (by rfl) k
theorem w_max {M : fwM} {d pc : Nat} {L : List (Option fwV)} {S : List fwV} {h : fwH} {Q : Option fwV → fwH → Prop} {idx : Nat} {x y : Int} (hd : decode M.2.1 pc = .ok (.invokestatic idx, 3)) (hl : Cond.methodLink M.1.cls idx (mJ9_max_7cf53).1 ∈ fwTb) (hx : -2147483648 ≤ x ∧ x < 2147483648) (hy : -2147483648 ≤ y ∧ y < 2147483648) (hS : fwCat S ≤ 8) (k : fwWP M (d + 1) (pc + 3) L (aI (max x y) :: S) h Q) : fwWP M (d + 1) pc L (aI y :: aI x :: S) h Q := by
  intro l p e s m args below meth c ad D tc H locs ls C X
  have hcd : Cond.code Lib.Math.max.name Lib.Math.max.code 2 (some .int) ∈ fwTb := fwTb_4 (i := 231) (by decide +kernel) rfl
  refine va_mmax C.1 C.2.1 (C.2.2.1.trans X.2.2.1.symm) C.2.2.2.1 (C.2.2.2.2.1 _ hl) (C.2.2.2.2.1 _ st_J9_max_7cf53) (C.2.2.2.2.1 _ (ok_J9_max_7cf53).2.1) (C.2.2.2.2.1 _ hcd) (Nat.le_add_left 1 d) (by rw [fwCat_eq]; show _ ≤ 64 * (d + 1); omega) (Nat.le_refl _) (Nat.le_refl _) hd ?_
  have e9 : (if Int32.ofInt x < Int32.ofInt y then Int32.ofInt y else Int32.ofInt x) = Int32.ofInt (max x y) := by
    simp only [fwI_lt hx hy, fwI_lt hy hx]
    split
    · rw [show max x y = y by omega]
    · rw [show max x y = x by omega]
  rw [e9]
  exact k l p e s m args below meth c ad D tc H locs ls C X
theorem w_min {M : fwM} {d pc : Nat} {L : List (Option fwV)} {S : List fwV} {h : fwH} {Q : Option fwV → fwH → Prop} {idx : Nat} {x y : Int} (hd : decode M.2.1 pc = .ok (.invokestatic idx, 3)) (hl : Cond.methodLink M.1.cls idx (mJ9_min_7cf53).1 ∈ fwTb) (hx : -2147483648 ≤ x ∧ x < 2147483648) (hy : -2147483648 ≤ y ∧ y < 2147483648) (hS : fwCat S ≤ 8) (k : fwWP M (d + 1) (pc + 3) L (aI (min x y) :: S) h Q) : fwWP M (d + 1) pc L (aI y :: aI x :: S) h Q := by
  intro l p e s m args below meth c ad D tc H locs ls C X
  have hcd : Cond.code Lib.Math.min.name Lib.Math.min.code 2 (some .int) ∈ fwTb := fwTb_4 (i := 204) (by decide +kernel) rfl
  refine va_mmin C.1 C.2.1 (C.2.2.1.trans X.2.2.1.symm) C.2.2.2.1 (C.2.2.2.2.1 _ hl) (C.2.2.2.2.1 _ st_J9_min_7cf53) (C.2.2.2.2.1 _ (ok_J9_min_7cf53).2.1) (C.2.2.2.2.1 _ hcd) (Nat.le_add_left 1 d) (by rw [fwCat_eq]; show _ ≤ 64 * (d + 1); omega) (Nat.le_refl _) (Nat.le_refl _) hd ?_
  have e9 : (if Int32.ofInt y < Int32.ofInt x then Int32.ofInt y else Int32.ofInt x) = Int32.ofInt (min x y) := by
    simp only [fwI_lt hx hy, fwI_lt hy hx]
    split
    · rw [show min x y = y by omega]
    · rw [show min x y = x by omega]
  rw [e9]
  exact k l p e s m args below meth c ad D tc H locs ls C X
theorem w_abs {M : fwM} {d pc : Nat} {L : List (Option fwV)} {S : List fwV} {h : fwH} {Q : Option fwV → fwH → Prop} {idx : Nat} {x : Int} (hd : decode M.2.1 pc = .ok (.invokestatic idx, 3)) (hl : Cond.methodLink M.1.cls idx (mJ9_abs_0f7a4).1 ∈ fwTb) (hx : -2147483648 ≤ x ∧ x < 2147483648) (hS : fwCat S ≤ 8) (k : fwWP M (d + 1) (pc + 3) L (aI (if 0 ≤ x then x else -x) :: S) h Q) : fwWP M (d + 1) pc L (aI x :: S) h Q := by
  intro l p e s m args below meth c ad D tc H locs ls C X
  have hcd : Cond.code Lib.Math.abs.name Lib.Math.abs.code 1 (some .int) ∈ fwTb := fwTb_7 (i := 127) (by decide +kernel) rfl
  refine va_mabs C.1 C.2.1 (C.2.2.1.trans X.2.2.1.symm) C.2.2.2.1 (C.2.2.2.2.1 _ hl) (C.2.2.2.2.1 _ st_J9_abs_0f7a4) (C.2.2.2.2.1 _ (ok_J9_abs_0f7a4).2.1) (C.2.2.2.2.1 _ hcd) (Nat.le_add_left 1 d) (by rw [fwCat_eq]; show _ ≤ 64 * (d + 1); omega) (Nat.le_refl _) (Nat.le_refl _) hd ?_
  have e9 : (if 0 ≤ Int32.ofInt x then Int32.ofInt x else 0 - Int32.ofInt x) = Int32.ofInt (if 0 ≤ x then x else -x) := by
    have h1 : (0 ≤ Int32.ofInt x) ↔ 0 ≤ x := by rw [fwI_0, fwI_le ⟨by decide, by decide⟩ hx]
    simp only [h1]
    split
    · rfl
    · rw [fwI_0, fwI_sub, show (0 : Int) - x = -x by omega]
  rw [e9]
  exact k l p e s m args below meth c ad D tc H locs ls C X
set_option maxRecDepth 100000 in
set_option maxHeartbeats 4000000 in
theorem c_coder {d : Nat} {h : fwH} {Q : Option fwV → fwH → Prop} (i : Nat) (hi : i < 26) (k : Q (some (aI 0)) h) : fwCt mJ0_coder_7d493 (d + 0) [aR 50 i] h Q := by
  refine fwCt_of [some (aR 50 i)] rfl rfl rfl ?_
  refine w_compact dJ0_coder_7d493_0 fj_J0_38 ?_
  refine w_if_eq 13 dJ0_coder_7d493_3 (by decide) (by omega) (fun c3 => ?_) (fun c3 => ?_)
  · omega
  · refine w_aload_n dJ0_coder_7d493_6 rfl ?_
    refine w_strCoder dJ0_coder_7d493_7 fj_J0_15 (by omega) ?_
    refine w_goto 14 dJ0_coder_7d493_10 (by decide) ?_
    exact w_tret dJ0_coder_7d493_14 rfl rfl k
set_option maxRecDepth 100000 in
set_option maxHeartbeats 4000000 in
theorem c_isLatin1 {d : Nat} {h : fwH} {Q : Option fwV → fwH → Prop} (i : Nat) (hi : i < 26) (k : Q (some (aI 1)) h) : fwCt mJ0_isLatin1_aae02 (d + 0) [aR 50 i] h Q := by
  refine fwCt_of [some (aR 50 i)] rfl rfl rfl ?_
  refine w_compact dJ0_isLatin1_aae02_0 fj_J0_38 ?_
  refine w_if_eq 17 dJ0_isLatin1_aae02_3 (by decide) (by omega) (fun c3 => ?_) (fun c3 => ?_)
  · omega
  · refine w_aload_n dJ0_isLatin1_aae02_6 rfl ?_
    refine w_strCoder dJ0_isLatin1_aae02_7 fj_J0_15 (by omega) ?_
    refine w_if_ne 17 dJ0_isLatin1_aae02_10 (by decide) (by omega) (fun c10 => ?_) (fun c10 => ?_)
    · omega
    · refine w_iconst dJ0_isLatin1_aae02_13 ?_
      refine w_goto 18 dJ0_isLatin1_aae02_14 (by decide) ?_
      exact w_tret dJ0_isLatin1_aae02_18 rfl rfl k
theorem fwShr_0 {x : Int} (hx : -2147483648 ≤ x ∧ x < 2147483648) : fwShr x 0 = x := by
  unfold fwShr
  have : Int32.ofInt x >>> (Int32.ofInt 0 &&& 31) = Int32.ofInt x := sb_shr0 _
  rw [this, fwI_rt hx]
set_option maxRecDepth 100000 in
set_option maxHeartbeats 4000000 in
theorem c_length {d : Nat} {h : fwH} {Q : Option fwV → fwH → Prop} (i : Nat) (hi : i < 26) (k : Q (some (aI ((fwSb i).length : Int))) h) : fwCt mJ0_length_8abf5 (d + 1) [aR 50 i] h Q := by
  refine fwCt_of [some (aR 50 i)] rfl rfl rfl ?_
  refine w_aload_n dJ0_length_8abf5_0 rfl ?_
  refine w_strValue dJ0_length_8abf5_1 fj_J0_9 (by omega) ?_
  refine w_strLen dJ0_length_8abf5_4 (by omega) ?_
  refine w_aload_n dJ0_length_8abf5_5 rfl ?_
  refine w_callT (d := d + 0) (S := [aI ((fwSb i).length : Int)]) [] dJ0_length_8abf5_6 ml_J0_335 ok_J0_coder_7d493 vi_J0_coder_7d493 rfl (by omega) rfl (Nat.le_of_ble_eq_true rfl) ?_
  refine c_coder (d := d) i (by omega) ?_
  show fwWP mJ0_length_8abf5 (d + 1) 9 [some (aR 50 i)] [aI 0, aI ((fwSb i).length : Int)] h Q
  refine w_ishr dJ0_length_8abf5_9 ?_
  exact w_iretE dJ0_length_8abf5_10 rfl (by have h5 := fwSb_len i hi; exact fwShr_0 (by omega)) k
set_option maxHeartbeats 4000000 in
set_option maxRecDepth 100000 in
theorem c_checkIndex3 (l : Launch) (d : Nat) (x n : Int) (v : Value) (hv9 : v = .null ∨ ∃ t, v = .ref t) (h0 : 0 ≤ x) (h1 : x < n) (h2 : n < 2147483648) : Met l (mJ3_checkIndex_8e157).1 (fwWs mJ3_checkIndex_8e157) (fwRm d) (fun a _ => a = ([.int (Int32.ofInt x), .int (Int32.ofInt n), v] : List Value).toArray) (QcRead (Int32.ofInt x)) 0 0 (fun _ => False) := by
  refine Met.ofW (cc := cJ3_checkIndex_8e157) (maxL := 3) (ret := some .int) (by decide) rfl ?_
  intro p e s m args below meth c s₁ B hml hv
  subst hv
  have hx := B.exec
  have hb := B.bytes
  have hr := B.returns
  have hlocks := B.notSynchronized
  have hle : (lg_sl [.int (Int32.ofInt x), .int (Int32.ofInt n), v]).length ≤ 3 := by
    rcases hv9 with rfl | ⟨t, rfl⟩ <;> exact Nat.le_of_ble_eq_true rfl
  have hl := lv_entry [.int (Int32.ofInt x), .int (Int32.ofInt n), v] (n := 3) hle
  rw [lg_entry_eq]
  generalize (lg_sl ([.int (Int32.ofInt x), .int (Int32.ofInt n), v]) ++ List.replicate (3 - (lg_sl ([.int (Int32.ofInt x), .int (Int32.ofInt n), v])).length) Slot.unset).toArray = ls at hl ⊢
  refine lv_iload_n hx hb dJ3_checkIndex_8e157_0 rfl (lv_at hl 0 rfl) ?_
  refine lv_if_lt (tgt := 9) hx hb dJ3_checkIndex_8e157_1 (by decide) (fun q => ?_) (fun _ => ?_)
  · exfalso
    rw [fwI_0, fwI_lt ⟨by omega, by omega⟩ ⟨by decide, by decide⟩] at q
    omega
  refine lv_iload_n hx hb dJ3_checkIndex_8e157_4 rfl (lv_at hl 0 rfl) ?_
  refine lv_iload_n hx hb dJ3_checkIndex_8e157_5 rfl (lv_at hl 1 rfl) ?_
  refine lv_icmp_lt (tgt := 16) hx hb dJ3_checkIndex_8e157_6 (by decide) (fun _ => ?_) (fun q => ?_)
  · refine lv_iload_n hx hb dJ3_checkIndex_8e157_16 rfl (lv_at hl 0 rfl) ?_
    exact W.iret hx hb hr (fun t ht _ => ⟨rfl, ht⟩) (fun _ z => by cases z) dJ3_checkIndex_8e157_17
  · exfalso
    rw [fwI_lt ⟨by omega, by omega⟩ ⟨by omega, by omega⟩] at q
    omega
set_option maxHeartbeats 4000000 in
set_option maxRecDepth 100000 in
theorem c_checkIndex {d : Nat} {h : fwH} {Q : Option fwV → fwH → Prop} (x n : Int) (h0 : 0 ≤ x) (h1 : x < n) (h2 : n < 2147483648) (k : Q none h) : fwCt mJ0_checkIndex_df160 (d + 1) [aI x, aI n] h Q := by
  refine fwCt_of [some (aI x), some (aI n)] rfl rfl rfl ?_
  refine w_iload_n dJ0_checkIndex_df160_0 rfl ?_
  refine w_iload_n dJ0_checkIndex_df160_1 rfl ?_
  intro l p e s m args below meth c ad D tc H locs ls C X
  obtain ⟨hx, hb, hml, hown, hts, hre, hlocks, hK, hI, hC⟩ := id C
  have go : ∀ v : Value, (v = .null ∨ ∃ t, v = .ref t) → va_Z "jdk/internal/util/Preconditions" "SIOOBE_FORMATTER" "Ljava/util/function/BiFunction;" v (fwA ad) s s.heap → W p l e (fwRm (d + 1)) s m args below meth c H locs 0 0 (MQ below (fwQ ad D tc Q) args s 0 0 (fwA ad)) (F0 m 2 ls (([aI n, aI x] : List fwV).map (fwMv ad))) := by
    intro v hv hZ
    refine va_gets hx hb hZ X.2.1 hown (hts _ fj_J0_1053) (fun _ z => z) dJ0_checkIndex_df160_2 ?_
    have hr := W.runS (l := l) (e := e) (below := below) (meth := meth) (locs := locs) (cells := 0) (slots := 0) (H := H) (R := fwRm (d + 1)) (As := [.int (Int32.ofInt x), .int (Int32.ofInt n), v]) (rest := []) (g := F0 m 5 ls [v, .int (Int32.ofInt n), .int (Int32.ofInt x)]) (index := 1059) ⟨hx, hb, hml, hown, hts⟩ (c_checkIndex3 l d x n v hv h0 h1 h2) ⟨fw_callB hts ml_J0_1059 ok_J3_checkIndex_8e157, hts _ st_J3_checkIndex_8e157⟩ preEq rfl rfl X.2.2.1 rfl (lv_room (Nat.le_of_ble_eq_true rfl)) dJ0_checkIndex_df160_5 ⟨Nat.le_refl _, Nat.le_refl _⟩
    refine W.callR hr ?_
    refine lv_pop hx hb dJ0_checkIndex_df160_8 rfl ?_
    exact W.vret hx hb hre (fun t ht _ => fw_end k X.1 X.2.1 ht) X.2.1.2.2 dJ0_checkIndex_df160_9 hlocks
  rcases hC.2.2.2.2.2.1 with hZ | ⟨t, hZ⟩
  · exact go _ (Or.inl rfl) hZ
  · exact go _ (Or.inr ⟨t, rfl⟩) hZ
theorem fwCh : ∀ i, i < 26 → ∀ j, j < (fwSb i).length → fwC16 (fwAnd ((fwSb i).getD j 0) 255) = (fwSb i).getD j 0 ∧ narrow .char (.int (Int32.ofInt ((fwSb i).getD j 0))) = .int (Int32.ofInt ((fwSb i).getD j 0)) := by decide +kernel
set_option maxRecDepth 100000 in
set_option maxHeartbeats 4000000 in
theorem c_charAt1 {d : Nat} {h : fwH} {Q : Option fwV → fwH → Prop} (i : Nat) (x : Int) (hi : i < 26) (h0 : 0 ≤ x) (h1 : x < (fwSb i).length) (k : Q (some (aI ((fwSb i).getD x.toNat 0))) h) : fwCt mJ1_charAt_3b067 (d + 2) [aR 51 i, aI x] h Q := by
  refine fwCt_of [some (aR 51 i), some (aI x)] rfl rfl rfl ?_
  have h5 := fwSb_len i hi
  refine w_iload_n dJ1_charAt_3b067_0 rfl ?_
  refine w_aload_n dJ1_charAt_3b067_1 rfl ?_
  refine w_strLen dJ1_charAt_3b067_2 (by omega) ?_
  refine w_callS (d := d + 1) (S := []) [aI x, aI ((fwSb i).length : Int)] dJ1_charAt_3b067_3 ml_J1_9 ok_J0_checkIndex_df160 st_J0_checkIndex_df160 rfl (Nat.le_of_ble_eq_true rfl) ?_
  refine c_checkIndex (d := d) x ((fwSb i).length : Int) (by omega) (by omega) (by omega) ?_
  show fwWP mJ1_charAt_3b067 (d + 2) 6 [some (aR 51 i), some (aI x)] [] h Q
  refine w_aload_n dJ1_charAt_3b067_6 rfl ?_
  refine w_iload_n dJ1_charAt_3b067_7 rfl ?_
  refine w_strByte dJ1_charAt_3b067_8 (by omega) (by omega) (by omega) ?_
  refine w_sipush dJ1_charAt_3b067_9 rfl ?_
  refine w_iand dJ1_charAt_3b067_12 ?_
  refine w_i2c dJ1_charAt_3b067_13 ?_
  have h9 := fwCh i hi x.toNat (by omega)
  rw [h9.1]
  exact w_tret dJ1_charAt_3b067_14 rfl h9.2 k
set_option maxRecDepth 100000 in
set_option maxHeartbeats 4000000 in
theorem c_charAt {d : Nat} {h : fwH} {Q : Option fwV → fwH → Prop} (i : Nat) (x : Int) (hi : i < 26) (h0 : 0 ≤ x) (h1 : x < (fwSb i).length) (k : Q (some (aI ((fwSb i).getD x.toNat 0))) h) : fwCt mJ0_charAt_5068e (d + 3) [aR 50 i, aI x] h Q := by
  refine fwCt_of [some (aR 50 i), some (aI x)] rfl rfl rfl ?_
  refine w_aload_n dJ0_charAt_5068e_0 rfl ?_
  refine w_callT (d := d + 2) (S := []) [] dJ0_charAt_5068e_1 ml_J0_492 ok_J0_isLatin1_aae02 vi_J0_isLatin1_aae02 rfl (by omega) rfl (Nat.le_of_ble_eq_true rfl) ?_
  refine c_isLatin1 (d := (d + 2)) i (by omega) ?_
  show fwWP mJ0_charAt_5068e (d + 3) 4 [some (aR 50 i), some (aI x)] [aI 1] h Q
  refine w_if_eq 16 dJ0_charAt_5068e_4 (by decide) (by omega) (fun c4 => ?_) (fun c4 => ?_)
  · omega
  · refine w_aload_n dJ0_charAt_5068e_7 rfl ?_
    refine w_strValue dJ0_charAt_5068e_8 fj_J0_9 (by omega) ?_
    refine w_iload_n dJ0_charAt_5068e_11 rfl ?_
    refine w_callS (d := d + 2) (S := []) [aR 51 i, aI x] dJ0_charAt_5068e_12 ml_J0_495 ok_J1_charAt_3b067 st_J1_charAt_3b067 rfl (Nat.le_of_ble_eq_true rfl) ?_
    refine c_charAt1 (d := d) i x (by omega) (by omega) (by omega) ?_
    show fwWP mJ0_charAt_5068e (d + 3) 15 [some (aR 50 i), some (aI x)] [aI ((fwSb i).getD (x).toNat 0)] h Q
    have h9 := fwCh i hi x.toNat (by omega)
    exact w_tret dJ0_charAt_5068e_15 rfl h9.2 k
end
section
/-! FootLower$Ground: what its methods answer, in words of n (cells) and H (heights) -/
def gOk (h : fwH) (i : Nat) : Prop := (0 ≤ h 4 i 1 ∧ h 4 i 1 ≤ 10) ∧ (0 ≤ h 4 i 2 ∧ h 4 i 2 ≤ 40) ∧ (0 ≤ h 4 i 3 ∧ h 4 i 3 ≤ 40) ∧ (h 4 i 4 = 0 ∨ h 4 i 4 = 1) ∧ ∀ c : Nat, c < 10 → 0 ≤ h 17 i c ∧ h 17 i c ≤ 1000
def hOf (n : Int) (H : Nat → Int) (c : Int) : Int := if 0 ≤ c ∧ c < n then H c.toNat else 0
def mTop (H : Nat → Int) (ls : Int) : Nat → Int
  | 0 => -1
  | c + 1 => if mTop H ls c = -1 ∨ H (mTop H ls c).toNat < H c ∨ (H (mTop H ls c).toNat = H c ∧ ls ≠ 0) then (c : Int) else mTop H ls c
def mMax (H : Nat → Int) : Nat → Int
  | 0 => 0
  | c + 1 => if mMax H c < H c then H c else mMax H c
theorem mTop_rng (H : Nat → Int) (ls : Int) : ∀ c, -1 ≤ mTop H ls c ∧ mTop H ls c < c ∧ (0 < c → 0 ≤ mTop H ls c) := by
  intro c
  induction c with
  | zero => simp [mTop]
  | succ c ih =>
    unfold mTop
    split
    · omega
    · rename_i hc
      have : mTop H ls c ≠ -1 := fun e => hc (Or.inl e)
      omega
theorem mMax_rng {H : Nat → Int} {b : Int} (hb : 0 ≤ b) : ∀ c, (∀ j, j < c → 0 ≤ H j ∧ H j ≤ b) → 0 ≤ mMax H c ∧ mMax H c ≤ b := by
  intro c
  induction c with
  | zero => intro _; simp [mMax]; omega
  | succ c ih =>
    intro hj
    have h1 := ih (fun j hj2 => hj j (by omega))
    have h2 := hj c (by omega)
    unfold mMax
    split <;> omega
set_option maxRecDepth 100000 in
set_option maxHeartbeats 4000000 in
theorem c_X1_has {d : Nat} {h : fwH} {Q : Option fwV → fwH → Prop} (i : Nat) (x : Int) (hi : i < 6) (hG : gOk h i) (hx : -2147483648 ≤ x ∧ x < 2147483648) (k : Q (some (aI (fwB (0 ≤ x ∧ x < h 4 i 1)))) h) : fwCt mX1_has (d + 0) [aR 4 i, aI x] h Q := by
  refine fwCt_of [some (aR 4 i), some (aI x)] rfl rfl rfl ?_
  obtain ⟨⟨g1, g2⟩, ⟨g3, g4⟩, ⟨g5, g6⟩, g7, g8⟩ := id hG
  refine w_iload_n dX1_has_0 rfl ?_
  refine w_if_lt 25 dX1_has_1 (by decide) (by omega) (fun c1 => ?_) (fun c1 => ?_)
  · refine w_iconst dX1_has_25 ?_
    exact w_zretE dX1_has_26 rfl (by first | omega | (rw [fwB_t (by omega)]) | (rw [fwB_f (by omega)])) k
  · refine w_iload_n dX1_has_4 rfl ?_
    refine w_aload_n dX1_has_5 rfl ?_
    refine w_geti dX1_has_6 fl_X1_15 rfl hi ?_
    refine w_icmp_ge 25 dX1_has_9 (by decide) (by omega) (by omega) (fun c9 => ?_) (fun c9 => ?_)
    · refine w_iconst dX1_has_25 ?_
      exact w_zretE dX1_has_26 rfl (by first | omega | (rw [fwB_t (by omega)]) | (rw [fwB_f (by omega)])) k
    · refine w_iload_n dX1_has_12 rfl ?_
      refine w_aload_n dX1_has_13 rfl ?_
      refine w_getr 17 i dX1_has_14 fl_X1_9 rfl hi ?_
      refine w_alen dX1_has_17 rfl (by decide) hi ?_
      refine w_icmp_ge 25 dX1_has_18 (by decide) (by omega) (by omega) (fun c18 => ?_) (fun c18 => ?_)
      · refine w_iconst dX1_has_25 ?_
        exact w_zretE dX1_has_26 rfl (by first | omega | (rw [fwB_t (by omega)]) | (rw [fwB_f (by omega)])) k
      · refine w_iconst dX1_has_21 ?_
        refine w_goto 26 dX1_has_22 (by decide) ?_
        exact w_zretE dX1_has_26 rfl (by first | omega | (rw [fwB_t (by omega)]) | (rw [fwB_f (by omega)])) k
set_option maxRecDepth 100000 in
set_option maxHeartbeats 4000000 in
theorem c_X1_heightOf {d : Nat} {h : fwH} {Q : Option fwV → fwH → Prop} (i : Nat) (x : Int) (hi : i < 6) (hG : gOk h i) (hx : -2147483648 ≤ x ∧ x < 2147483648) (k : Q (some (aI (hOf (h 4 i 1) (h 17 i) x))) h) : fwCt mX1_heightOf (d + 0) [aR 4 i, aI x] h Q := by
  refine fwCt_of [some (aR 4 i), some (aI x)] rfl rfl rfl ?_
  obtain ⟨⟨g1, g2⟩, ⟨g3, g4⟩, ⟨g5, g6⟩, g7, g8⟩ := id hG
  refine w_iload_n dX1_heightOf_0 rfl ?_
  refine w_if_lt 30 dX1_heightOf_1 (by decide) (by omega) (fun c1 => ?_) (fun c1 => ?_)
  · refine w_iconst dX1_heightOf_30 ?_
    exact w_iretE dX1_heightOf_31 rfl (by first | omega | (unfold hOf; first | rw [if_pos (by omega)] | rw [if_neg (by omega)])) k
  · refine w_iload_n dX1_heightOf_4 rfl ?_
    refine w_aload_n dX1_heightOf_5 rfl ?_
    refine w_geti dX1_heightOf_6 fl_X1_15 rfl hi ?_
    refine w_icmp_ge 30 dX1_heightOf_9 (by decide) (by omega) (by omega) (fun c9 => ?_) (fun c9 => ?_)
    · refine w_iconst dX1_heightOf_30 ?_
      exact w_iretE dX1_heightOf_31 rfl (by first | omega | (unfold hOf; first | rw [if_pos (by omega)] | rw [if_neg (by omega)])) k
    · refine w_iload_n dX1_heightOf_12 rfl ?_
      refine w_aload_n dX1_heightOf_13 rfl ?_
      refine w_getr 17 i dX1_heightOf_14 fl_X1_9 rfl hi ?_
      refine w_alen dX1_heightOf_17 rfl (by decide) hi ?_
      refine w_icmp_ge 30 dX1_heightOf_18 (by decide) (by omega) (by omega) (fun c18 => ?_) (fun c18 => ?_)
      · refine w_iconst dX1_heightOf_30 ?_
        exact w_iretE dX1_heightOf_31 rfl (by first | omega | (unfold hOf; first | rw [if_pos (by omega)] | rw [if_neg (by omega)])) k
      · refine w_aload_n dX1_heightOf_21 rfl ?_
        refine w_getr 17 i dX1_heightOf_22 fl_X1_9 rfl hi ?_
        refine w_iload_n dX1_heightOf_25 rfl ?_
        refine w_iald dX1_heightOf_26 rfl hi (by omega) (by omega) ?_
        refine w_goto 31 dX1_heightOf_27 (by decide) ?_
        exact w_iretE dX1_heightOf_31 rfl (by first | omega | (unfold hOf; first | rw [if_pos (by omega)] | rw [if_neg (by omega)])) k
set_option maxRecDepth 100000 in
set_option maxHeartbeats 4000000 in
theorem c_X1_change {d : Nat} {h : fwH} {Q : Option fwV → fwH → Prop} (i : Nat) (x y : Int) (hi : i < 6) (hG : gOk h i) (hx : -2147483648 ≤ x ∧ x < 2147483648) (k : Q none (if 0 ≤ x ∧ x < h 4 i 1 then fwUp h 17 i x.toNat (h 17 i x.toNat + y) else h)) : fwCt mX1_change (d + 1) [aR 4 i, aI x, aI y] h Q := by
  refine fwCt_of [some (aR 4 i), some (aI x), some (aI y)] rfl rfl rfl ?_
  obtain ⟨⟨g1, g2⟩, ⟨g3, g4⟩, ⟨g5, g6⟩, g7, g8⟩ := id hG
  refine w_aload_n dX1_change_0 rfl ?_
  refine w_iload_n dX1_change_1 rfl ?_
  refine w_callV (d := d + 0) (S := []) [aI x] dX1_change_2 ml_X1_29 ok_X1_has vi_X1_has rfl rfl hi rfl (Nat.le_of_ble_eq_true rfl) ?_
  refine c_X1_has (d := d) i x hi (by first | assumption | omega | decide) (by first | assumption | omega | decide) ?_
  show fwWP mX1_change (d + 1) 5 [some (aR 4 i), some (aI x), some (aI y)] [aI (fwB (0 ≤ x ∧ x < h 4 i 1))] h Q
  refine w_ifB_eq 18 dX1_change_5 (by decide) (fun c5 => ?_) (fun c5 => ?_)
  · exact w_vret dX1_change_18 rfl (by first | (rw [if_pos (by assumption)] at k; exact k) | (rw [if_neg (by assumption)] at k; exact k))
  · refine w_aload_n dX1_change_8 rfl ?_
    refine w_getr 17 i dX1_change_9 fl_X1_9 rfl hi ?_
    refine w_iload_n dX1_change_12 rfl ?_
    refine w_dup2 dX1_change_13 rfl rfl ?_
    refine w_iald dX1_change_14 rfl hi (by omega) (by omega) ?_
    refine w_iload_n dX1_change_15 rfl ?_
    refine w_iadd dX1_change_16 ?_
    refine w_iast dX1_change_17 rfl hi (by omega) (by omega) ?_
    exact w_vret dX1_change_18 rfl (by first | (rw [if_pos (by assumption)] at k; exact k) | (rw [if_neg (by assumption)] at k; exact k))
theorem hOf_in {n : Int} {H : Nat → Int} {c : Nat} (hc : (c : Int) < n) : hOf n H c = H c := by
  unfold hOf
  rw [if_pos (by omega)]
  rfl
theorem hOf_rng {n : Int} {H : Nat → Int} {b : Int} (hb : 0 ≤ b) (hn : n ≤ 10) (hH : ∀ c : Nat, c < 10 → 0 ≤ H c ∧ H c ≤ b) (x : Int) : 0 ≤ hOf n H x ∧ hOf n H x ≤ b := by
  unfold hOf
  split
  · exact hH _ (by omega)
  · omega
theorem c_X1_heightOfE {d : Nat} {h : fwH} {Q : Option fwV → fwH → Prop} (i : Nat) (x v : Int) (hi : i < 6) (hG : gOk h i) (hx : -2147483648 ≤ x ∧ x < 2147483648) (hv : hOf (h 4 i 1) (h 17 i) x = v) (k : Q (some (aI v)) h) : fwCt mX1_heightOf d [aR 4 i, aI x] h Q := by
  subst hv
  exact c_X1_heightOf i x hi hG hx k
set_option maxRecDepth 100000 in
set_option maxHeartbeats 4000000 in
theorem c_X1_topCell {d : Nat} {h : fwH} {Q : Option fwV → fwH → Prop} (i : Nat) (hi : i < 6) (hG : gOk h i) (k : Q (some (aI (mTop (h 17 i) (h 4 i 4) (h 4 i 1).toNat))) h) : fwCt mX1_topCell (d + 1) [aR 4 i] h Q := by
  refine fwCt_of [some (aR 4 i), none, none, none] rfl rfl rfl ?_
  obtain ⟨⟨g1, g2⟩, ⟨g3, g4⟩, ⟨g5, g6⟩, g7, g8⟩ := id hG
  refine w_iconst dX1_topCell_0 ?_
  refine w_istore_n [some (aR 4 i), some (aI (-1)), none, none] dX1_topCell_1 rfl (by decide) ?_
  refine w_iconst dX1_topCell_2 ?_
  refine w_istore_n [some (aR 4 i), some (aI (-1)), some (aI 0), none] dX1_topCell_3 rfl (by decide) ?_
  have lp4 : ∀ c : Nat, c ≤ (h 4 i 1).toNat → ∀ (y4 fo : Int), y4 = (c : Int) → fo = mTop (h 17 i) (h 4 i 4) c → fwWP mX1_topCell (d + 1) 4 [some (aR 4 i), some (aI fo), some (aI y4), none] [] h Q := by
    refine fw_up (fun c hc4 ih4 => ?_)
    intro y4 fo ey4 e_fo
    subst ey4
    subst e_fo
    have ht := mTop_rng (h 17 i) (h 4 i 4) c
    have hf : mTop (h 17 i) (h 4 i 4) c = -1 ∨ hOf (h 4 i 1) (h 17 i) (mTop (h 17 i) (h 4 i 4) c) = h 17 i (mTop (h 17 i) (h 4 i 4) c).toNat := by unfold hOf; split <;> first | exact Or.inr rfl | omega
    show fwWP mX1_topCell (d + 1) 4 [some (aR 4 i), some (aI (mTop (h 17 i) (h 4 i 4) c)), some (aI (c : Int)), none] [] h Q
    refine w_iload_n dX1_topCell_4 rfl ?_
    refine w_aload_n dX1_topCell_5 rfl ?_
    refine w_geti dX1_topCell_6 fl_X1_15 rfl hi ?_
    refine w_icmp_ge 52 dX1_topCell_9 (by decide) (by omega) (by omega) (fun c9 => ?_) (fun c9 => ?_)
    · have ec4 : (h 4 i 1).toNat = c := by omega
      subst ec4
      refine w_iload_n dX1_topCell_52 rfl ?_
      exact w_iretE dX1_topCell_53 rfl (by rfl) k
    · refine w_aload_n dX1_topCell_12 rfl ?_
      refine w_iload_n dX1_topCell_13 rfl ?_
      refine w_callV (d := d + 0) (S := []) [aI (c : Int)] dX1_topCell_14 ml_X1_33 ok_X1_heightOf vi_X1_heightOf rfl rfl hi rfl (Nat.le_of_ble_eq_true rfl) ?_
      refine c_X1_heightOfE (d := d) i (c : Int) (h 17 i c) hi (by first | assumption | omega | decide) (by first | assumption | omega | decide) (hOf_in (by omega)) ?_
      show fwWP mX1_topCell (d + 1) 17 [some (aR 4 i), some (aI (mTop (h 17 i) (h 4 i 4) c)), some (aI (c : Int)), none] [aI (h 17 i c)] h Q
      have hc1 := g8 c (by omega)
      refine w_aload_n dX1_topCell_17 rfl ?_
      refine w_iload_n dX1_topCell_18 rfl ?_
      refine w_callV (d := d + 0) (S := [aI (h 17 i c)]) [aI (mTop (h 17 i) (h 4 i 4) c)] dX1_topCell_19 ml_X1_33 ok_X1_heightOf vi_X1_heightOf rfl rfl hi rfl (Nat.le_of_ble_eq_true rfl) ?_
      refine c_X1_heightOf (d := d) i (mTop (h 17 i) (h 4 i 4) c) hi (by first | assumption | omega | decide) (by first | assumption | omega | decide) ?_
      show fwWP mX1_topCell (d + 1) 22 [some (aR 4 i), some (aI (mTop (h 17 i) (h 4 i 4) c)), some (aI (c : Int)), none] [aI (hOf (h 4 i 1) (h 17 i) (mTop (h 17 i) (h 4 i 4) c)), aI (h 17 i c)] h Q
      have hb2 := hOf_rng (n := (h 4 i 1)) (H := (h 17 i)) (b := 1000) (by omega) (by omega) (by assumption) (mTop (h 17 i) (h 4 i 4) c)
      refine w_isub dX1_topCell_22 ?_
      refine w_istore_n [some (aR 4 i), some (aI (mTop (h 17 i) (h 4 i 4) c)), some (aI (c : Int)), some (aI ((h 17 i c) - (hOf (h 4 i 1) (h 17 i) (mTop (h 17 i) (h 4 i 4) c))))] dX1_topCell_23 rfl (by decide) ?_
      refine w_iload_n dX1_topCell_24 rfl ?_
      refine w_iconst dX1_topCell_25 ?_
      refine w_icmp_eq 44 dX1_topCell_26 (by decide) (by omega) (by omega) (fun c26 => ?_) (fun c26 => ?_)
      · refine w_iload_n dX1_topCell_44 rfl ?_
        refine w_istore_n [some (aR 4 i), some (aI (c : Int)), some (aI (c : Int)), some (aI ((h 17 i c) - (hOf (h 4 i 1) (h 17 i) (mTop (h 17 i) (h 4 i 4) c))))] dX1_topCell_45 rfl (by decide) ?_
        refine w_iinc [some (aR 4 i), some (aI (c : Int)), some (aI ((c : Int) + 1)), some (aI ((h 17 i c) - (hOf (h 4 i 1) (h 17 i) (mTop (h 17 i) (h 4 i 4) c))))] dX1_topCell_46 rfl rfl (by decide) ?_
        refine w_goto 4 dX1_topCell_49 (by decide) ?_
        refine w_drop [3] [some (aR 4 i), some (aI (c : Int)), some (aI ((c : Int) + 1)), none] rfl ?_
        refine ih4 (by omega) _ _ ?_ ?_
        · exact (by omega)
        · exact (by rw [mTop]; first | rw [if_pos (by omega)] | rw [if_neg (by omega)])
      · refine w_iload_n dX1_topCell_29 rfl ?_
        refine w_if_gt 44 dX1_topCell_30 (by decide) (by omega) (fun c30 => ?_) (fun c30 => ?_)
        · refine w_iload_n dX1_topCell_44 rfl ?_
          refine w_istore_n [some (aR 4 i), some (aI (c : Int)), some (aI (c : Int)), some (aI ((h 17 i c) - (hOf (h 4 i 1) (h 17 i) (mTop (h 17 i) (h 4 i 4) c))))] dX1_topCell_45 rfl (by decide) ?_
          refine w_iinc [some (aR 4 i), some (aI (c : Int)), some (aI ((c : Int) + 1)), some (aI ((h 17 i c) - (hOf (h 4 i 1) (h 17 i) (mTop (h 17 i) (h 4 i 4) c))))] dX1_topCell_46 rfl rfl (by decide) ?_
          refine w_goto 4 dX1_topCell_49 (by decide) ?_
          refine w_drop [3] [some (aR 4 i), some (aI (c : Int)), some (aI ((c : Int) + 1)), none] rfl ?_
          refine ih4 (by omega) _ _ ?_ ?_
          · exact (by omega)
          · exact (by rw [mTop]; first | rw [if_pos (by omega)] | rw [if_neg (by omega)])
        · refine w_iload_n dX1_topCell_33 rfl ?_
          refine w_if_ne 46 dX1_topCell_34 (by decide) (by omega) (fun c34 => ?_) (fun c34 => ?_)
          · refine w_iinc [some (aR 4 i), some (aI (mTop (h 17 i) (h 4 i 4) c)), some (aI ((c : Int) + 1)), some (aI ((h 17 i c) - (hOf (h 4 i 1) (h 17 i) (mTop (h 17 i) (h 4 i 4) c))))] dX1_topCell_46 rfl rfl (by decide) ?_
            refine w_goto 4 dX1_topCell_49 (by decide) ?_
            refine w_drop [3] [some (aR 4 i), some (aI (mTop (h 17 i) (h 4 i 4) c)), some (aI ((c : Int) + 1)), none] rfl ?_
            refine ih4 (by omega) _ _ ?_ ?_
            · exact (by omega)
            · exact (by rw [mTop]; first | rw [if_pos (by omega)] | rw [if_neg (by omega)])
          · refine w_aload_n dX1_topCell_37 rfl ?_
            refine w_geti dX1_topCell_38 fl_X1_25 rfl hi ?_
            refine w_if_eq 46 dX1_topCell_41 (by decide) (by omega) (fun c41 => ?_) (fun c41 => ?_)
            · refine w_iinc [some (aR 4 i), some (aI (mTop (h 17 i) (h 4 i 4) c)), some (aI ((c : Int) + 1)), some (aI ((h 17 i c) - (hOf (h 4 i 1) (h 17 i) (mTop (h 17 i) (h 4 i 4) c))))] dX1_topCell_46 rfl rfl (by decide) ?_
              refine w_goto 4 dX1_topCell_49 (by decide) ?_
              refine w_drop [3] [some (aR 4 i), some (aI (mTop (h 17 i) (h 4 i 4) c)), some (aI ((c : Int) + 1)), none] rfl ?_
              refine ih4 (by omega) _ _ ?_ ?_
              · exact (by omega)
              · exact (by rw [mTop]; first | rw [if_pos (by omega)] | rw [if_neg (by omega)])
            · refine w_iload_n dX1_topCell_44 rfl ?_
              refine w_istore_n [some (aR 4 i), some (aI (c : Int)), some (aI (c : Int)), some (aI ((h 17 i c) - (hOf (h 4 i 1) (h 17 i) (mTop (h 17 i) (h 4 i 4) c))))] dX1_topCell_45 rfl (by decide) ?_
              refine w_iinc [some (aR 4 i), some (aI (c : Int)), some (aI ((c : Int) + 1)), some (aI ((h 17 i c) - (hOf (h 4 i 1) (h 17 i) (mTop (h 17 i) (h 4 i 4) c))))] dX1_topCell_46 rfl rfl (by decide) ?_
              refine w_goto 4 dX1_topCell_49 (by decide) ?_
              refine w_drop [3] [some (aR 4 i), some (aI (c : Int)), some (aI ((c : Int) + 1)), none] rfl ?_
              refine ih4 (by omega) _ _ ?_ ?_
              · exact (by omega)
              · exact (by rw [mTop]; first | rw [if_pos (by omega)] | rw [if_neg (by omega)])
  refine lp4 0 (Nat.zero_le _) _ _ ?_ ?_
  · exact (by omega)
  · exact rfl
set_option maxRecDepth 100000 in
set_option maxHeartbeats 4000000 in
theorem c_X1_topHeight {d : Nat} {h : fwH} {Q : Option fwV → fwH → Prop} (i : Nat) (hi : i < 6) (hG : gOk h i) (k : Q (some (aI (mMax (h 17 i) (h 4 i 1).toNat))) h) : fwCt mX1_topHeight (d + 1) [aR 4 i] h Q := by
  refine fwCt_of [some (aR 4 i), none, none, none] rfl rfl rfl ?_
  obtain ⟨⟨g1, g2⟩, ⟨g3, g4⟩, ⟨g5, g6⟩, g7, g8⟩ := id hG
  refine w_iconst dX1_topHeight_0 ?_
  refine w_istore_n [some (aR 4 i), some (aI 0), none, none] dX1_topHeight_1 rfl (by decide) ?_
  refine w_iconst dX1_topHeight_2 ?_
  refine w_istore_n [some (aR 4 i), some (aI 0), some (aI 0), none] dX1_topHeight_3 rfl (by decide) ?_
  have lp4 : ∀ c : Nat, c ≤ (h 4 i 1).toNat → ∀ (y4 to : Int), y4 = (c : Int) → to = mMax (h 17 i) c → fwWP mX1_topHeight (d + 1) 4 [some (aR 4 i), some (aI to), some (aI y4), none] [] h Q := by
    refine fw_up (fun c hc4 ih4 => ?_)
    intro y4 to ey4 e_to
    subst ey4
    subst e_to
    have ht := mMax_rng (H := h 17 i) (b := 1000) (by omega) c (fun j hj => g8 j (by omega))
    show fwWP mX1_topHeight (d + 1) 4 [some (aR 4 i), some (aI (mMax (h 17 i) c)), some (aI (c : Int)), none] [] h Q
    refine w_iload_n dX1_topHeight_4 rfl ?_
    refine w_aload_n dX1_topHeight_5 rfl ?_
    refine w_geti dX1_topHeight_6 fl_X1_15 rfl hi ?_
    refine w_icmp_ge 31 dX1_topHeight_9 (by decide) (by omega) (by omega) (fun c9 => ?_) (fun c9 => ?_)
    · have ec4 : (h 4 i 1).toNat = c := by omega
      subst ec4
      refine w_iload_n dX1_topHeight_31 rfl ?_
      exact w_iretE dX1_topHeight_32 rfl (by rfl) k
    · refine w_aload_n dX1_topHeight_12 rfl ?_
      refine w_iload_n dX1_topHeight_13 rfl ?_
      refine w_callV (d := d + 0) (S := []) [aI (c : Int)] dX1_topHeight_14 ml_X1_33 ok_X1_heightOf vi_X1_heightOf rfl rfl hi rfl (Nat.le_of_ble_eq_true rfl) ?_
      refine c_X1_heightOfE (d := d) i (c : Int) (h 17 i c) hi (by first | assumption | omega | decide) (by first | assumption | omega | decide) (hOf_in (by omega)) ?_
      show fwWP mX1_topHeight (d + 1) 17 [some (aR 4 i), some (aI (mMax (h 17 i) c)), some (aI (c : Int)), none] [aI (h 17 i c)] h Q
      have hc1 := g8 c (by omega)
      refine w_istore_n [some (aR 4 i), some (aI (mMax (h 17 i) c)), some (aI (c : Int)), some (aI (h 17 i c))] dX1_topHeight_17 rfl (by decide) ?_
      refine w_iload_n dX1_topHeight_18 rfl ?_
      refine w_iload_n dX1_topHeight_19 rfl ?_
      refine w_icmp_le 25 dX1_topHeight_20 (by decide) (by omega) (by omega) (fun c20 => ?_) (fun c20 => ?_)
      · refine w_iinc [some (aR 4 i), some (aI (mMax (h 17 i) c)), some (aI ((c : Int) + 1)), some (aI (h 17 i c))] dX1_topHeight_25 rfl rfl (by decide) ?_
        refine w_goto 4 dX1_topHeight_28 (by decide) ?_
        refine w_drop [3] [some (aR 4 i), some (aI (mMax (h 17 i) c)), some (aI ((c : Int) + 1)), none] rfl ?_
        refine ih4 (by omega) _ _ ?_ ?_
        · exact (by omega)
        · exact (by rw [mMax]; first | rw [if_pos (by omega)] | rw [if_neg (by omega)])
      · refine w_iload_n dX1_topHeight_23 rfl ?_
        refine w_istore_n [some (aR 4 i), some (aI (h 17 i c)), some (aI (c : Int)), some (aI (h 17 i c))] dX1_topHeight_24 rfl (by decide) ?_
        refine w_iinc [some (aR 4 i), some (aI (h 17 i c)), some (aI ((c : Int) + 1)), some (aI (h 17 i c))] dX1_topHeight_25 rfl rfl (by decide) ?_
        refine w_goto 4 dX1_topHeight_28 (by decide) ?_
        refine w_drop [3] [some (aR 4 i), some (aI (h 17 i c)), some (aI ((c : Int) + 1)), none] rfl ?_
        refine ih4 (by omega) _ _ ?_ ?_
        · exact (by omega)
        · exact (by rw [mMax]; first | rw [if_pos (by omega)] | rw [if_neg (by omega)])
  refine lp4 0 (Nat.zero_le _) _ _ ?_ ?_
  · exact (by omega)
  · exact rfl
def mSum (H : Nat → Int) : Nat → Int
  | 0 => 0
  | c + 1 => mSum H c + H c
set_option maxRecDepth 100000 in
set_option maxHeartbeats 4000000 in
theorem c_X1_feetInAll {d : Nat} {h : fwH} {Q : Option fwV → fwH → Prop} (i : Nat) (hi : i < 6) (hG : gOk h i) (k : Q (some (aI (mSum (h 17 i) (h 4 i 1).toNat))) h) : fwCt mX1_feetInAll (d + 1) [aR 4 i] h Q := by
  refine fwCt_of [some (aR 4 i), none, none] rfl rfl rfl ?_
  obtain ⟨⟨g1, g2⟩, ⟨g3, g4⟩, ⟨g5, g6⟩, g7, g8⟩ := id hG
  refine w_iconst dX1_feetInAll_0 ?_
  refine w_istore_n [some (aR 4 i), some (aI 0), none] dX1_feetInAll_1 rfl (by decide) ?_
  refine w_iconst dX1_feetInAll_2 ?_
  refine w_istore_n [some (aR 4 i), some (aI 0), some (aI 0)] dX1_feetInAll_3 rfl (by decide) ?_
  have lp4 : ∀ c : Nat, c ≤ (h 4 i 1).toNat → ∀ (y4 to : Int), y4 = (c : Int) → to = mSum (h 17 i) c → fwWP mX1_feetInAll (d + 1) 4 [some (aR 4 i), some (aI to), some (aI y4)] [] h Q := by
    refine fw_up (fun c hc4 ih4 => ?_)
    intro y4 to ey4 e_to
    subst ey4
    subst e_to
    show fwWP mX1_feetInAll (d + 1) 4 [some (aR 4 i), some (aI (mSum (h 17 i) c)), some (aI (c : Int))] [] h Q
    refine w_iload_n dX1_feetInAll_4 rfl ?_
    refine w_aload_n dX1_feetInAll_5 rfl ?_
    refine w_geti dX1_feetInAll_6 fl_X1_15 rfl hi ?_
    refine w_icmp_ge 26 dX1_feetInAll_9 (by decide) (by omega) (by omega) (fun c9 => ?_) (fun c9 => ?_)
    · have ec4 : (h 4 i 1).toNat = c := by omega
      subst ec4
      refine w_iload_n dX1_feetInAll_26 rfl ?_
      exact w_iretE dX1_feetInAll_27 rfl (by rfl) k
    · refine w_iload_n dX1_feetInAll_12 rfl ?_
      refine w_aload_n dX1_feetInAll_13 rfl ?_
      refine w_iload_n dX1_feetInAll_14 rfl ?_
      refine w_callV (d := d + 0) (S := [aI (mSum (h 17 i) c)]) [aI (c : Int)] dX1_feetInAll_15 ml_X1_33 ok_X1_heightOf vi_X1_heightOf rfl rfl hi rfl (Nat.le_of_ble_eq_true rfl) ?_
      refine c_X1_heightOfE (d := d) i (c : Int) (h 17 i c) hi (by first | assumption | omega | decide) (by first | assumption | omega | decide) (hOf_in (by omega)) ?_
      show fwWP mX1_feetInAll (d + 1) 18 [some (aR 4 i), some (aI (mSum (h 17 i) c)), some (aI (c : Int))] [aI (h 17 i c), aI (mSum (h 17 i) c)] h Q
      have hc1 := g8 c (by omega)
      refine w_iadd dX1_feetInAll_18 ?_
      refine w_istore_n [some (aR 4 i), some (aI ((mSum (h 17 i) c) + (h 17 i c))), some (aI (c : Int))] dX1_feetInAll_19 rfl (by decide) ?_
      refine w_iinc [some (aR 4 i), some (aI ((mSum (h 17 i) c) + (h 17 i c))), some (aI ((c : Int) + 1))] dX1_feetInAll_20 rfl rfl (by decide) ?_
      refine w_goto 4 dX1_feetInAll_23 (by decide) ?_
      refine ih4 (by omega) _ _ ?_ ?_
      · exact (by omega)
      · exact rfl
  refine lp4 0 (Nat.zero_le _) _ _ ?_ ?_
  · exact (by omega)
  · exact rfl
def mBits (p : Nat → Bool) : Nat → Int
  | 0 => 0
  | c + 1 => if p c = true then fwOr (mBits p c) (fwShl 1 c) else mBits p c
set_option maxRecDepth 100000 in
set_option maxHeartbeats 4000000 in
theorem c_X1_snowyCells {d : Nat} {h : fwH} {Q : Option fwV → fwH → Prop} (i : Nat) (hi : i < 6) (hG : gOk h i) (k : Q (some (aI (mBits (fun c => decide (h 4 i 2 ≤ h 17 i c)) (h 4 i 1).toNat))) h) : fwCt mX1_snowyCells (d + 1) [aR 4 i] h Q := by
  refine fwCt_of [some (aR 4 i), none, none] rfl rfl rfl ?_
  obtain ⟨⟨g1, g2⟩, ⟨g3, g4⟩, ⟨g5, g6⟩, g7, g8⟩ := id hG
  refine w_iconst dX1_snowyCells_0 ?_
  refine w_istore_n [some (aR 4 i), some (aI 0), none] dX1_snowyCells_1 rfl (by decide) ?_
  refine w_iconst dX1_snowyCells_2 ?_
  refine w_istore_n [some (aR 4 i), some (aI 0), some (aI 0)] dX1_snowyCells_3 rfl (by decide) ?_
  have lp4 : ∀ c : Nat, c ≤ (h 4 i 1).toNat → ∀ (y4 bi : Int), y4 = (c : Int) → bi = mBits (fun c => decide (h 4 i 2 ≤ h 17 i c)) c → fwWP mX1_snowyCells (d + 1) 4 [some (aR 4 i), some (aI bi), some (aI y4)] [] h Q := by
    refine fw_up (fun c hc4 ih4 => ?_)
    intro y4 bi ey4 e_bi
    subst ey4
    subst e_bi
    show fwWP mX1_snowyCells (d + 1) 4 [some (aR 4 i), some (aI (mBits (fun c => decide (h 4 i 2 ≤ h 17 i c)) c)), some (aI (c : Int))] [] h Q
    refine w_iload_n dX1_snowyCells_4 rfl ?_
    refine w_aload_n dX1_snowyCells_5 rfl ?_
    refine w_geti dX1_snowyCells_6 fl_X1_15 rfl hi ?_
    refine w_icmp_ge 36 dX1_snowyCells_9 (by decide) (by omega) (by omega) (fun c9 => ?_) (fun c9 => ?_)
    · have ec4 : (h 4 i 1).toNat = c := by omega
      subst ec4
      refine w_iload_n dX1_snowyCells_36 rfl ?_
      exact w_iretE dX1_snowyCells_37 rfl (by rfl) k
    · refine w_aload_n dX1_snowyCells_12 rfl ?_
      refine w_iload_n dX1_snowyCells_13 rfl ?_
      refine w_callV (d := d + 0) (S := []) [aI (c : Int)] dX1_snowyCells_14 ml_X1_33 ok_X1_heightOf vi_X1_heightOf rfl rfl hi rfl (Nat.le_of_ble_eq_true rfl) ?_
      refine c_X1_heightOfE (d := d) i (c : Int) (h 17 i c) hi (by first | assumption | omega | decide) (by first | assumption | omega | decide) (hOf_in (by omega)) ?_
      show fwWP mX1_snowyCells (d + 1) 17 [some (aR 4 i), some (aI (mBits (fun c => decide (h 4 i 2 ≤ h 17 i c)) c)), some (aI (c : Int))] [aI (h 17 i c)] h Q
      have hc1 := g8 c (by omega)
      refine w_aload_n dX1_snowyCells_17 rfl ?_
      refine w_geti dX1_snowyCells_18 fl_X1_19 rfl hi ?_
      refine w_icmp_lt 30 dX1_snowyCells_21 (by decide) (by omega) (by omega) (fun c21 => ?_) (fun c21 => ?_)
      · refine w_iinc [some (aR 4 i), some (aI (mBits (fun c => decide (h 4 i 2 ≤ h 17 i c)) c)), some (aI ((c : Int) + 1))] dX1_snowyCells_30 rfl rfl (by decide) ?_
        refine w_goto 4 dX1_snowyCells_33 (by decide) ?_
        refine ih4 (by omega) _ _ ?_ ?_
        · exact (by omega)
        · exact (by rw [mBits]; first | rw [if_pos (by simp; omega)] | rw [if_neg (by simp; omega)])
      · refine w_iload_n dX1_snowyCells_24 rfl ?_
        refine w_iconst dX1_snowyCells_25 ?_
        refine w_iload_n dX1_snowyCells_26 rfl ?_
        refine w_ishl dX1_snowyCells_27 ?_
        refine w_ior dX1_snowyCells_28 ?_
        refine w_istore_n [some (aR 4 i), some (aI (fwOr (mBits (fun c => decide (h 4 i 2 ≤ h 17 i c)) c) (fwShl 1 (c : Int)))), some (aI (c : Int))] dX1_snowyCells_29 rfl (by decide) ?_
        refine w_iinc [some (aR 4 i), some (aI (fwOr (mBits (fun c => decide (h 4 i 2 ≤ h 17 i c)) c) (fwShl 1 (c : Int)))), some (aI ((c : Int) + 1))] dX1_snowyCells_30 rfl rfl (by decide) ?_
        refine w_goto 4 dX1_snowyCells_33 (by decide) ?_
        refine ih4 (by omega) _ _ ?_ ?_
        · exact (by omega)
        · exact (by rw [mBits]; first | rw [if_pos (by simp; omega)] | rw [if_neg (by simp; omega)])
  refine lp4 0 (Nat.zero_le _) _ _ ?_ ?_
  · exact (by omega)
  · exact rfl
theorem c_X1_changeE {d : Nat} {h : fwH} {Q : Option fwV → fwH → Prop} (i : Nat) (x y : Int) (hi : i < 6) (hG : gOk h i) (h0 : 0 ≤ x) (h1 : x < h 4 i 1) (k : Q none (fwUc h 17 i (fwFu (h 17 i) x.toNat (h 17 i x.toNat + y)))) : fwCt mX1_change (d + 1) [aR 4 i, aI x, aI y] h Q := by
  have h2 := hG.1
  refine c_X1_change i x y hi hG (by omega) ?_
  rw [if_pos ⟨h0, h1⟩, fwUp_fu]
  exact k
/-- TOP's FOOT taken -/
def mLow (n : Nat) (H : Nat → Int) (ls : Int) : Nat → Int := if 0 < n ∧ H (mTop H ls n).toNat ≠ 0 then fwFu H (mTop H ls n).toNat (H (mTop H ls n).toNat + -1) else H
set_option maxRecDepth 100000 in
set_option maxHeartbeats 4000000 in
theorem c_X1_lower {d : Nat} {h : fwH} {Q : Option fwV → fwH → Prop} (i : Nat) (hi : i < 6) (hG : gOk h i) (k : Q (some (aI (fwB (0 < (h 4 i 1).toNat ∧ h 17 i (mTop (h 17 i) (h 4 i 4) (h 4 i 1).toNat).toNat ≠ 0)))) (fwUc h 17 i (mLow (h 4 i 1).toNat (h 17 i) (h 4 i 4)))) : fwCt mX1_lower (d + 2) [aR 4 i] h Q := by
  refine fwCt_of [some (aR 4 i), none] rfl rfl rfl ?_
  obtain ⟨⟨g1, g2⟩, ⟨g3, g4⟩, ⟨g5, g6⟩, g7, g8⟩ := id hG
  refine w_aload_n dX1_lower_0 rfl ?_
  refine w_callV (d := d + 1) (S := []) [] dX1_lower_1 ml_X1_45 ok_X1_topCell vi_X1_topCell rfl rfl hi rfl (Nat.le_of_ble_eq_true rfl) ?_
  refine c_X1_topCell (d := d) i hi (by first | assumption | omega | decide) ?_
  show fwWP mX1_lower (d + 2) 4 [some (aR 4 i), none] [aI (mTop (h 17 i) (h 4 i 4) (h 4 i 1).toNat)] h Q
  refine w_istore_n [some (aR 4 i), some (aI (mTop (h 17 i) (h 4 i 4) (h 4 i 1).toNat))] dX1_lower_4 rfl (by decide) ?_
  have ht := mTop_rng (h 17 i) (h 4 i 4) (h 4 i 1).toNat
  have hz : hOf (h 4 i 1) (h 17 i) (mTop (h 17 i) (h 4 i 4) (h 4 i 1).toNat) ≠ 0 ↔ (0 < (h 4 i 1).toNat ∧ h 17 i (mTop (h 17 i) (h 4 i 4) (h 4 i 1).toNat).toNat ≠ 0) := by unfold hOf; split <;> omega
  refine w_aload_n dX1_lower_5 rfl ?_
  refine w_iload_n dX1_lower_6 rfl ?_
  refine w_callV (d := d + 1) (S := []) [aI (mTop (h 17 i) (h 4 i 4) (h 4 i 1).toNat)] dX1_lower_7 ml_X1_33 ok_X1_heightOf vi_X1_heightOf rfl rfl hi rfl (Nat.le_of_ble_eq_true rfl) ?_
  refine c_X1_heightOf (d := (d + 1)) i (mTop (h 17 i) (h 4 i 4) (h 4 i 1).toNat) hi (by first | assumption | omega | decide) (by first | assumption | omega | decide) ?_
  show fwWP mX1_lower (d + 2) 10 [some (aR 4 i), some (aI (mTop (h 17 i) (h 4 i 4) (h 4 i 1).toNat))] [aI (hOf (h 4 i 1) (h 17 i) (mTop (h 17 i) (h 4 i 4) (h 4 i 1).toNat))] h Q
  have hb1 := hOf_rng (n := (h 4 i 1)) (H := (h 17 i)) (b := 1000) (by omega) (by omega) (by assumption) (mTop (h 17 i) (h 4 i 4) (h 4 i 1).toNat)
  refine w_if_ne 15 dX1_lower_10 (by decide) (by omega) (fun c10 => ?_) (fun c10 => ?_)
  · refine w_aload_n dX1_lower_15 rfl ?_
    refine w_iload_n dX1_lower_16 rfl ?_
    refine w_iconst dX1_lower_17 ?_
    refine w_callV (d := d + 1) (S := []) [aI (mTop (h 17 i) (h 4 i 4) (h 4 i 1).toNat), aI (-1)] dX1_lower_18 ml_X1_49 ok_X1_change vi_X1_change rfl rfl hi rfl (Nat.le_of_ble_eq_true rfl) ?_
    refine c_X1_changeE (d := d) i (mTop (h 17 i) (h 4 i 4) (h 4 i 1).toNat) (-1) hi (by first | assumption | omega | decide) (by first | assumption | omega | decide) (show mTop (h 17 i) (h 4 i 4) (h 4 i 1).toNat < h 4 i 1 by first | assumption | omega | decide) ?_
    show fwWP mX1_lower (d + 2) 21 [some (aR 4 i), some (aI (mTop (h 17 i) (h 4 i 4) (h 4 i 1).toNat))] [] (fwUc h 17 i (fwFu (h 17 i) (mTop (h 17 i) (h 4 i 4) (h 4 i 1).toNat).toNat (h 17 i (mTop (h 17 i) (h 4 i 4) (h 4 i 1).toNat).toNat + (-1)))) Q
    refine w_iconst dX1_lower_21 ?_
    exact w_zretE (P := 0 < (h 4 i 1).toNat ∧ h 17 i (mTop (h 17 i) (h 4 i 4) (h 4 i 1).toNat).toNat ≠ 0) dX1_lower_22 rfl (by first | (exfalso; omega) | (rw [fwB_t (by omega)]) | (rw [fwB_f (by omega)])) (by rw [mLow, if_pos (by omega)] at k; exact k)
  · refine w_iconst dX1_lower_13 ?_
    exact w_zretE (P := 0 < (h 4 i 1).toNat ∧ h 17 i (mTop (h 17 i) (h 4 i 4) (h 4 i 1).toNat).toNat ≠ 0) dX1_lower_14 rfl (by first | (exfalso; omega) | (rw [fwB_t (by omega)]) | (rw [fwB_f (by omega)])) (by rw [mLow, if_neg (by omega), fwUc_self] at k; exact k)
def mDown (n : Int) (H : Nat → Int) (c sl : Int) : Int :=
  if (0 ≤ c - 1 ∧ c - 1 < n ∧ hOf n H (c - 1) < hOf n H c - sl) ∧ (¬ (0 ≤ c + 1 ∧ c + 1 < n ∧ hOf n H (c + 1) < hOf n H c - sl) ∨ hOf n H (c - 1) ≤ hOf n H (c + 1)) then c - 1
  else if 0 ≤ c + 1 ∧ c + 1 < n ∧ hOf n H (c + 1) < hOf n H c - sl then c + 1 else -1
set_option maxRecDepth 100000 in
set_option maxHeartbeats 4000000 in
theorem c_X1_wayDown {d : Nat} {h : fwH} {Q : Option fwV → fwH → Prop} (i : Nat) (x y : Int) (hi : i < 6) (hG : gOk h i) (hx : -1000000 ≤ x ∧ x < 1000000) (hy : -1000000 ≤ y ∧ y < 1000000) (k : Q (some (aI (mDown (h 4 i 1) (h 17 i) x y))) h) : fwCt mX1_wayDown (d + 1) [aR 4 i, aI x, aI y] h Q := by
  refine fwCt_of [some (aR 4 i), some (aI x), some (aI y), none, none, none] rfl rfl rfl ?_
  obtain ⟨⟨g1, g2⟩, ⟨g3, g4⟩, ⟨g5, g6⟩, g7, g8⟩ := id hG
  refine w_aload_n dX1_wayDown_0 rfl ?_
  refine w_iload_n dX1_wayDown_1 rfl ?_
  refine w_callV (d := d + 0) (S := []) [aI x] dX1_wayDown_2 ml_X1_33 ok_X1_heightOf vi_X1_heightOf rfl rfl hi rfl (Nat.le_of_ble_eq_true rfl) ?_
  refine c_X1_heightOf (d := d) i x hi (by first | assumption | omega | decide) (by first | assumption | omega | decide) ?_
  show fwWP mX1_wayDown (d + 1) 5 [some (aR 4 i), some (aI x), some (aI y), none, none, none] [aI (hOf (h 4 i 1) (h 17 i) x)] h Q
  have hb1 := hOf_rng (n := (h 4 i 1)) (H := (h 17 i)) (b := 1000) (by omega) (by omega) (by assumption) x
  refine w_iload_n dX1_wayDown_5 rfl ?_
  refine w_isub dX1_wayDown_6 ?_
  refine w_istore_n [some (aR 4 i), some (aI x), some (aI y), some (aI ((hOf (h 4 i 1) (h 17 i) x) - y)), none, none] dX1_wayDown_7 rfl (by decide) ?_
  have J34 : ∀ v : Int, v = fwB (0 ≤ x - 1 ∧ x - 1 < h 4 i 1 ∧ hOf (h 4 i 1) (h 17 i) (x - 1) < hOf (h 4 i 1) (h 17 i) x - y) → fwWP mX1_wayDown (d + 1) 34 [some (aR 4 i), some (aI x), some (aI y), some (aI ((hOf (h 4 i 1) (h 17 i) x) - y)), none, none] [aI v] h Q := by
    intro v ev
    subst ev
    refine w_istore [some (aR 4 i), some (aI x), some (aI y), some (aI ((hOf (h 4 i 1) (h 17 i) x) - y)), some (aI (fwB (0 ≤ x - 1 ∧ x - 1 < h 4 i 1 ∧ hOf (h 4 i 1) (h 17 i) (x - 1) < hOf (h 4 i 1) (h 17 i) x - y))), none] dX1_wayDown_34 rfl (by decide) ?_
    have J62 : ∀ v : Int, v = fwB (0 ≤ x + 1 ∧ x + 1 < h 4 i 1 ∧ hOf (h 4 i 1) (h 17 i) (x + 1) < hOf (h 4 i 1) (h 17 i) x - y) → fwWP mX1_wayDown (d + 1) 62 [some (aR 4 i), some (aI x), some (aI y), some (aI ((hOf (h 4 i 1) (h 17 i) x) - y)), some (aI (fwB (0 ≤ x - 1 ∧ x - 1 < h 4 i 1 ∧ hOf (h 4 i 1) (h 17 i) (x - 1) < hOf (h 4 i 1) (h 17 i) x - y))), none] [aI v] h Q := by
      intro v ev
      subst ev
      refine w_istore [some (aR 4 i), some (aI x), some (aI y), some (aI ((hOf (h 4 i 1) (h 17 i) x) - y)), some (aI (fwB (0 ≤ x - 1 ∧ x - 1 < h 4 i 1 ∧ hOf (h 4 i 1) (h 17 i) (x - 1) < hOf (h 4 i 1) (h 17 i) x - y))), some (aI (fwB (0 ≤ x + 1 ∧ x + 1 < h 4 i 1 ∧ hOf (h 4 i 1) (h 17 i) (x + 1) < hOf (h 4 i 1) (h 17 i) x - y)))] dX1_wayDown_62 rfl (by decide) ?_
      refine w_iload dX1_wayDown_64 rfl ?_
      refine w_ifB_eq 95 dX1_wayDown_66 (by decide) (fun c66 => ?_) (fun c66 => ?_)
      · refine w_iload dX1_wayDown_95 rfl ?_
        refine w_ifB_eq 106 dX1_wayDown_97 (by decide) (fun c97 => ?_) (fun c97 => ?_)
        · refine w_iconst dX1_wayDown_106 ?_
          exact w_iretE dX1_wayDown_107 rfl (by rw [mDown]; first | (exfalso; omega) | rw [if_pos (by omega)] | rw [if_neg (by omega), if_pos (by omega)] | rw [if_neg (by omega), if_neg (by omega)]) k
        · refine w_iload_n dX1_wayDown_100 rfl ?_
          refine w_iconst dX1_wayDown_101 ?_
          refine w_iadd dX1_wayDown_102 ?_
          refine w_goto 107 dX1_wayDown_103 (by decide) ?_
          exact w_iretE dX1_wayDown_107 rfl (by rw [mDown]; first | (exfalso; omega) | rw [if_pos (by omega)] | rw [if_neg (by omega), if_pos (by omega)] | rw [if_neg (by omega), if_neg (by omega)]) k
      · refine w_iload dX1_wayDown_69 rfl ?_
        refine w_ifB_eq 91 dX1_wayDown_71 (by decide) (fun c71 => ?_) (fun c71 => ?_)
        · refine w_iload_n dX1_wayDown_91 rfl ?_
          refine w_iconst dX1_wayDown_92 ?_
          refine w_isub dX1_wayDown_93 ?_
          exact w_iretE dX1_wayDown_94 rfl (by rw [mDown]; first | (exfalso; omega) | rw [if_pos (by omega)] | rw [if_neg (by omega), if_pos (by omega)] | rw [if_neg (by omega), if_neg (by omega)]) k
        · refine w_aload_n dX1_wayDown_74 rfl ?_
          refine w_iload_n dX1_wayDown_75 rfl ?_
          refine w_iconst dX1_wayDown_76 ?_
          refine w_isub dX1_wayDown_77 ?_
          refine w_callV (d := d + 0) (S := []) [aI (x - 1)] dX1_wayDown_78 ml_X1_33 ok_X1_heightOf vi_X1_heightOf rfl rfl hi rfl (Nat.le_of_ble_eq_true rfl) ?_
          refine c_X1_heightOf (d := d) i (x - 1) hi (by first | assumption | omega | decide) (by first | assumption | omega | decide) ?_
          show fwWP mX1_wayDown (d + 1) 81 [some (aR 4 i), some (aI x), some (aI y), some (aI ((hOf (h 4 i 1) (h 17 i) x) - y)), some (aI (fwB (0 ≤ x - 1 ∧ x - 1 < h 4 i 1 ∧ hOf (h 4 i 1) (h 17 i) (x - 1) < hOf (h 4 i 1) (h 17 i) x - y))), some (aI (fwB (0 ≤ x + 1 ∧ x + 1 < h 4 i 1 ∧ hOf (h 4 i 1) (h 17 i) (x + 1) < hOf (h 4 i 1) (h 17 i) x - y)))] [aI (hOf (h 4 i 1) (h 17 i) (x - 1))] h Q
          have hb5 := hOf_rng (n := (h 4 i 1)) (H := (h 17 i)) (b := 1000) (by omega) (by omega) (by assumption) (x - 1)
          refine w_aload_n dX1_wayDown_81 rfl ?_
          refine w_iload_n dX1_wayDown_82 rfl ?_
          refine w_iconst dX1_wayDown_83 ?_
          refine w_iadd dX1_wayDown_84 ?_
          refine w_callV (d := d + 0) (S := [aI (hOf (h 4 i 1) (h 17 i) (x - 1))]) [aI (x + 1)] dX1_wayDown_85 ml_X1_33 ok_X1_heightOf vi_X1_heightOf rfl rfl hi rfl (Nat.le_of_ble_eq_true rfl) ?_
          refine c_X1_heightOf (d := d) i (x + 1) hi (by first | assumption | omega | decide) (by first | assumption | omega | decide) ?_
          show fwWP mX1_wayDown (d + 1) 88 [some (aR 4 i), some (aI x), some (aI y), some (aI ((hOf (h 4 i 1) (h 17 i) x) - y)), some (aI (fwB (0 ≤ x - 1 ∧ x - 1 < h 4 i 1 ∧ hOf (h 4 i 1) (h 17 i) (x - 1) < hOf (h 4 i 1) (h 17 i) x - y))), some (aI (fwB (0 ≤ x + 1 ∧ x + 1 < h 4 i 1 ∧ hOf (h 4 i 1) (h 17 i) (x + 1) < hOf (h 4 i 1) (h 17 i) x - y)))] [aI (hOf (h 4 i 1) (h 17 i) (x + 1)), aI (hOf (h 4 i 1) (h 17 i) (x - 1))] h Q
          have hb6 := hOf_rng (n := (h 4 i 1)) (H := (h 17 i)) (b := 1000) (by omega) (by omega) (by assumption) (x + 1)
          refine w_icmp_gt 95 dX1_wayDown_88 (by decide) (by omega) (by omega) (fun c88 => ?_) (fun c88 => ?_)
          · refine w_iload dX1_wayDown_95 rfl ?_
            refine w_ifB_eq 106 dX1_wayDown_97 (by decide) (fun c97 => ?_) (fun c97 => ?_)
            · refine w_iconst dX1_wayDown_106 ?_
              exact w_iretE dX1_wayDown_107 rfl (by rw [mDown]; first | (exfalso; omega) | rw [if_pos (by omega)] | rw [if_neg (by omega), if_pos (by omega)] | rw [if_neg (by omega), if_neg (by omega)]) k
            · refine w_iload_n dX1_wayDown_100 rfl ?_
              refine w_iconst dX1_wayDown_101 ?_
              refine w_iadd dX1_wayDown_102 ?_
              refine w_goto 107 dX1_wayDown_103 (by decide) ?_
              exact w_iretE dX1_wayDown_107 rfl (by rw [mDown]; first | (exfalso; omega) | rw [if_pos (by omega)] | rw [if_neg (by omega), if_pos (by omega)] | rw [if_neg (by omega), if_neg (by omega)]) k
          · refine w_iload_n dX1_wayDown_91 rfl ?_
            refine w_iconst dX1_wayDown_92 ?_
            refine w_isub dX1_wayDown_93 ?_
            exact w_iretE dX1_wayDown_94 rfl (by rw [mDown]; first | (exfalso; omega) | rw [if_pos (by omega)] | rw [if_neg (by omega), if_pos (by omega)] | rw [if_neg (by omega), if_neg (by omega)]) k
    refine w_aload_n dX1_wayDown_36 rfl ?_
    refine w_iload_n dX1_wayDown_37 rfl ?_
    refine w_iconst dX1_wayDown_38 ?_
    refine w_iadd dX1_wayDown_39 ?_
    refine w_callV (d := d + 0) (S := []) [aI (x + 1)] dX1_wayDown_40 ml_X1_29 ok_X1_has vi_X1_has rfl rfl hi rfl (Nat.le_of_ble_eq_true rfl) ?_
    refine c_X1_has (d := d) i (x + 1) hi (by first | assumption | omega | decide) (by first | assumption | omega | decide) ?_
    show fwWP mX1_wayDown (d + 1) 43 [some (aR 4 i), some (aI x), some (aI y), some (aI ((hOf (h 4 i 1) (h 17 i) x) - y)), some (aI (fwB (0 ≤ x - 1 ∧ x - 1 < h 4 i 1 ∧ hOf (h 4 i 1) (h 17 i) (x - 1) < hOf (h 4 i 1) (h 17 i) x - y))), none] [aI (fwB (0 ≤ (x + 1) ∧ (x + 1) < h 4 i 1))] h Q
    refine w_ifB_eq 61 dX1_wayDown_43 (by decide) (fun c43 => ?_) (fun c43 => ?_)
    · refine w_iconst dX1_wayDown_61 ?_
      exact J62 _ (by first | omega | (rw [fwB_t (by omega)]) | (rw [fwB_f (by omega)]))
    · refine w_aload_n dX1_wayDown_46 rfl ?_
      refine w_iload_n dX1_wayDown_47 rfl ?_
      refine w_iconst dX1_wayDown_48 ?_
      refine w_iadd dX1_wayDown_49 ?_
      refine w_callV (d := d + 0) (S := []) [aI (x + 1)] dX1_wayDown_50 ml_X1_33 ok_X1_heightOf vi_X1_heightOf rfl rfl hi rfl (Nat.le_of_ble_eq_true rfl) ?_
      refine c_X1_heightOf (d := d) i (x + 1) hi (by first | assumption | omega | decide) (by first | assumption | omega | decide) ?_
      show fwWP mX1_wayDown (d + 1) 53 [some (aR 4 i), some (aI x), some (aI y), some (aI ((hOf (h 4 i 1) (h 17 i) x) - y)), some (aI (fwB (0 ≤ x - 1 ∧ x - 1 < h 4 i 1 ∧ hOf (h 4 i 1) (h 17 i) (x - 1) < hOf (h 4 i 1) (h 17 i) x - y))), none] [aI (hOf (h 4 i 1) (h 17 i) (x + 1))] h Q
      have hb10 := hOf_rng (n := (h 4 i 1)) (H := (h 17 i)) (b := 1000) (by omega) (by omega) (by assumption) (x + 1)
      refine w_iload_n dX1_wayDown_53 rfl ?_
      refine w_icmp_ge 61 dX1_wayDown_54 (by decide) (by omega) (by omega) (fun c54 => ?_) (fun c54 => ?_)
      · refine w_iconst dX1_wayDown_61 ?_
        exact J62 _ (by first | omega | (rw [fwB_t (by omega)]) | (rw [fwB_f (by omega)]))
      · refine w_iconst dX1_wayDown_57 ?_
        refine w_goto 62 dX1_wayDown_58 (by decide) ?_
        exact J62 _ (by first | omega | (rw [fwB_t (by omega)]) | (rw [fwB_f (by omega)]))
  refine w_aload_n dX1_wayDown_8 rfl ?_
  refine w_iload_n dX1_wayDown_9 rfl ?_
  refine w_iconst dX1_wayDown_10 ?_
  refine w_isub dX1_wayDown_11 ?_
  refine w_callV (d := d + 0) (S := []) [aI (x - 1)] dX1_wayDown_12 ml_X1_29 ok_X1_has vi_X1_has rfl rfl hi rfl (Nat.le_of_ble_eq_true rfl) ?_
  refine c_X1_has (d := d) i (x - 1) hi (by first | assumption | omega | decide) (by first | assumption | omega | decide) ?_
  show fwWP mX1_wayDown (d + 1) 15 [some (aR 4 i), some (aI x), some (aI y), some (aI ((hOf (h 4 i 1) (h 17 i) x) - y)), none, none] [aI (fwB (0 ≤ (x - 1) ∧ (x - 1) < h 4 i 1))] h Q
  refine w_ifB_eq 33 dX1_wayDown_15 (by decide) (fun c15 => ?_) (fun c15 => ?_)
  · refine w_iconst dX1_wayDown_33 ?_
    exact J34 _ (by first | omega | (rw [fwB_t (by omega)]) | (rw [fwB_f (by omega)]))
  · refine w_aload_n dX1_wayDown_18 rfl ?_
    refine w_iload_n dX1_wayDown_19 rfl ?_
    refine w_iconst dX1_wayDown_20 ?_
    refine w_isub dX1_wayDown_21 ?_
    refine w_callV (d := d + 0) (S := []) [aI (x - 1)] dX1_wayDown_22 ml_X1_33 ok_X1_heightOf vi_X1_heightOf rfl rfl hi rfl (Nat.le_of_ble_eq_true rfl) ?_
    refine c_X1_heightOf (d := d) i (x - 1) hi (by first | assumption | omega | decide) (by first | assumption | omega | decide) ?_
    show fwWP mX1_wayDown (d + 1) 25 [some (aR 4 i), some (aI x), some (aI y), some (aI ((hOf (h 4 i 1) (h 17 i) x) - y)), none, none] [aI (hOf (h 4 i 1) (h 17 i) (x - 1))] h Q
    have hb13 := hOf_rng (n := (h 4 i 1)) (H := (h 17 i)) (b := 1000) (by omega) (by omega) (by assumption) (x - 1)
    refine w_iload_n dX1_wayDown_25 rfl ?_
    refine w_icmp_ge 33 dX1_wayDown_26 (by decide) (by omega) (by omega) (fun c26 => ?_) (fun c26 => ?_)
    · refine w_iconst dX1_wayDown_33 ?_
      exact J34 _ (by first | omega | (rw [fwB_t (by omega)]) | (rw [fwB_f (by omega)]))
    · refine w_iconst dX1_wayDown_29 ?_
      refine w_goto 34 dX1_wayDown_30 (by decide) ?_
      exact J34 _ (by first | omega | (rw [fwB_t (by omega)]) | (rw [fwB_f (by omega)]))
theorem mDown_rng {n : Int} (H : Nat → Int) {c sl : Int} (hn : 0 ≤ n ∧ n ≤ 10) : mDown n H c sl = -1 ∨ (0 ≤ mDown n H c sl ∧ mDown n H c sl < n) := by
  unfold mDown
  split
  · omega
  · split <;> omega
def mDesc (n : Int) (H : Nat → Int) (sl : Int) : Nat → Int → Int
  | 0, c => c
  | f + 1, c => if mDown n H c sl = -1 then c else mDesc n H sl f (mDown n H c sl)
set_option maxRecDepth 100000 in
set_option maxHeartbeats 4000000 in
theorem c_X1_descend {d : Nat} {h : fwH} {Q : Option fwV → fwH → Prop} (i : Nat) (x y : Int) (hi : i < 6) (hG : gOk h i) (hx : -1000000 ≤ x ∧ x < 1000000) (hy : -1000000 ≤ y ∧ y < 1000000) (k : Q (some (aI (mDesc (h 4 i 1) (h 17 i) y 10 x))) h) : fwCt mX1_descend (d + 2) [aR 4 i, aI x, aI y] h Q := by
  refine fwCt_of [some (aR 4 i), some (aI x), some (aI y), none, none, none] rfl rfl rfl ?_
  obtain ⟨⟨g1, g2⟩, ⟨g3, g4⟩, ⟨g5, g6⟩, g7, g8⟩ := id hG
  refine w_iload_n dX1_descend_0 rfl ?_
  refine w_istore_n [some (aR 4 i), some (aI x), some (aI y), some (aI x), none, none] dX1_descend_1 rfl (by decide) ?_
  refine w_iconst dX1_descend_2 ?_
  refine w_istore [some (aR 4 i), some (aI x), some (aI y), some (aI x), some (aI 0), none] dX1_descend_3 rfl (by decide) ?_
  have lp5 : ∀ c : Nat, c ≤ 10 → ∀ (y5 at_ : Int), y5 = (c : Int) → ((-1000000 ≤ at_ ∧ at_ < 1000000) ∧ mDesc (h 4 i 1) (h 17 i) y (10 - c) at_ = mDesc (h 4 i 1) (h 17 i) y 10 x) → fwWP mX1_descend (d + 2) 5 [some (aR 4 i), some (aI x), some (aI y), some (aI at_), some (aI y5), none] [] h Q := by
    refine fw_up (fun c hc5 ih5 => ?_)
    intro y5 at_ ey5 e_at_
    subst ey5
    obtain ⟨ga, e_at⟩ := e_at_
    show fwWP mX1_descend (d + 2) 5 [some (aR 4 i), some (aI x), some (aI y), some (aI at_), some (aI (c : Int)), none] [] h Q
    refine w_iload dX1_descend_5 rfl ?_
    refine w_bipush dX1_descend_7 rfl ?_
    refine w_icmp_ge 37 dX1_descend_9 (by decide) (by omega) (by omega) (fun c9 => ?_) (fun c9 => ?_)
    · have ec5 : 10 = c := by omega
      subst ec5
      refine w_iload_n dX1_descend_37 rfl ?_
      exact w_iretE dX1_descend_38 rfl (by first | exact e_at | (rw [show 10 - 10 = 0 from rfl, mDesc] at e_at; exact e_at)) k
    · refine w_aload_n dX1_descend_12 rfl ?_
      refine w_iload_n dX1_descend_13 rfl ?_
      refine w_iload_n dX1_descend_14 rfl ?_
      refine w_callV (d := d + 1) (S := []) [aI at_, aI y] dX1_descend_15 ml_X1_53 ok_X1_wayDown vi_X1_wayDown rfl rfl hi rfl (Nat.le_of_ble_eq_true rfl) ?_
      refine c_X1_wayDown (d := d) i at_ y hi (by first | assumption | omega | decide) (by first | assumption | omega | decide) (by first | assumption | omega | decide) ?_
      show fwWP mX1_descend (d + 2) 18 [some (aR 4 i), some (aI x), some (aI y), some (aI at_), some (aI (c : Int)), none] [aI (mDown (h 4 i 1) (h 17 i) at_ y)] h Q
      refine w_istore [some (aR 4 i), some (aI x), some (aI y), some (aI at_), some (aI (c : Int)), some (aI (mDown (h 4 i 1) (h 17 i) at_ y))] dX1_descend_18 rfl (by decide) ?_
      have hd := mDown_rng (h 17 i) (c := at_) (sl := y) (n := h 4 i 1) ⟨g1, g2⟩
      obtain ⟨f, hf⟩ : ∃ f : Nat, 10 - c = f + 1 := ⟨9 - c, by omega⟩
      rw [hf, mDesc] at e_at
      refine w_iload dX1_descend_20 rfl ?_
      refine w_iconst dX1_descend_22 ?_
      refine w_icmp_ne 28 dX1_descend_23 (by decide) (by omega) (by omega) (fun c23 => ?_) (fun c23 => ?_)
      · rw [if_neg (by omega)] at e_at
        have hf2 : 10 - (c + 1) = f := by omega
        refine w_iload dX1_descend_28 rfl ?_
        refine w_istore_n [some (aR 4 i), some (aI x), some (aI y), some (aI (mDown (h 4 i 1) (h 17 i) at_ y)), some (aI (c : Int)), some (aI (mDown (h 4 i 1) (h 17 i) at_ y))] dX1_descend_30 rfl (by decide) ?_
        refine w_iinc [some (aR 4 i), some (aI x), some (aI y), some (aI (mDown (h 4 i 1) (h 17 i) at_ y)), some (aI ((c : Int) + 1)), some (aI (mDown (h 4 i 1) (h 17 i) at_ y))] dX1_descend_31 rfl rfl (by decide) ?_
        refine w_goto 5 dX1_descend_34 (by decide) ?_
        refine w_drop [5] [some (aR 4 i), some (aI x), some (aI y), some (aI (mDown (h 4 i 1) (h 17 i) at_ y)), some (aI ((c : Int) + 1)), none] rfl ?_
        refine ih5 (by omega) _ _ ?_ ?_
        · exact (by omega)
        · exact ⟨by omega, by rw [hf2]; exact e_at⟩
      · rw [if_pos (by omega)] at e_at
        refine w_iload_n dX1_descend_26 rfl ?_
        exact w_iretE dX1_descend_27 rfl (by first | exact e_at | (rw [show 10 - 10 = 0 from rfl, mDesc] at e_at; exact e_at)) k
  refine lp5 0 (Nat.zero_le _) _ _ ?_ ?_
  · exact (by omega)
  · exact ⟨hx, rfl⟩
set_option maxRecDepth 100000 in
set_option maxHeartbeats 4000000 in
theorem c_X1_waterEnd {d : Nat} {h : fwH} {Q : Option fwV → fwH → Prop} (i : Nat) (x : Int) (hi : i < 6) (hG : gOk h i) (hx : -1000000 ≤ x ∧ x < 1000000) (k : Q (some (aI (mDesc (h 4 i 1) (h 17 i) 0 10 x))) h) : fwCt mX1_waterEnd (d + 3) [aR 4 i, aI x] h Q := by
  refine fwCt_of [some (aR 4 i), some (aI x)] rfl rfl rfl ?_
  obtain ⟨⟨g1, g2⟩, ⟨g3, g4⟩, ⟨g5, g6⟩, g7, g8⟩ := id hG
  refine w_aload_n dX1_waterEnd_0 rfl ?_
  refine w_iload_n dX1_waterEnd_1 rfl ?_
  refine w_iconst dX1_waterEnd_2 ?_
  refine w_callV (d := d + 2) (S := []) [aI x, aI 0] dX1_waterEnd_3 ml_X1_56 ok_X1_descend vi_X1_descend rfl rfl hi rfl (Nat.le_of_ble_eq_true rfl) ?_
  refine c_X1_descend (d := d) i x 0 hi (by first | assumption | omega | decide) (by first | assumption | omega | decide) (by first | assumption | omega | decide) ?_
  show fwWP mX1_waterEnd (d + 3) 6 [some (aR 4 i), some (aI x)] [aI (mDesc (h 4 i 1) (h 17 i) 0 10 x)] h Q
  exact w_iretE dX1_waterEnd_6 rfl (by rfl) k
theorem mDesc_rng {n : Int} (H : Nat → Int) {sl : Int} (hn : 0 ≤ n ∧ n ≤ 10) : ∀ (f : Nat) (c : Int), (0 ≤ c ∧ c < n) → 0 ≤ mDesc n H sl f c ∧ mDesc n H sl f c < n := by
  intro f
  induction f with
  | zero => intro c hc; exact hc
  | succ f ih =>
    intro c hc
    rw [mDesc]
    split
    · exact hc
    · rename_i h1
      rcases mDown_rng H (c := c) (sl := sl) hn with h2 | h2
      · exact absurd h2 h1
      · exact ih _ h2
def mStay (n : Int) (H : Nat → Int) (rs x : Int) : Int := if 99 ≤ hOf n H (mDesc n H (rs - 1) 10 x) then -1 else mDesc n H (rs - 1) 10 x
set_option maxRecDepth 100000 in
set_option maxHeartbeats 4000000 in
theorem c_X1_stayOf {d : Nat} {h : fwH} {Q : Option fwV → fwH → Prop} (i : Nat) (x : Int) (hi : i < 6) (hG : gOk h i) (hx : 0 ≤ x ∧ x < h 4 i 1) (k : Q (some (aI (mStay (h 4 i 1) (h 17 i) (h 4 i 3) x))) h) : fwCt mX1_stayOf (d + 3) [aR 4 i, aI x] h Q := by
  refine fwCt_of [some (aR 4 i), some (aI x), none] rfl rfl rfl ?_
  obtain ⟨⟨g1, g2⟩, ⟨g3, g4⟩, ⟨g5, g6⟩, g7, g8⟩ := id hG
  refine w_aload_n dX1_stayOf_0 rfl ?_
  refine w_iload_n dX1_stayOf_1 rfl ?_
  refine w_aload_n dX1_stayOf_2 rfl ?_
  refine w_geti dX1_stayOf_3 fl_X1_22 rfl hi ?_
  refine w_iconst dX1_stayOf_6 ?_
  refine w_isub dX1_stayOf_7 ?_
  refine w_callV (d := d + 2) (S := []) [aI x, aI ((h 4 i 3) - 1)] dX1_stayOf_8 ml_X1_56 ok_X1_descend vi_X1_descend rfl rfl hi rfl (Nat.le_of_ble_eq_true rfl) ?_
  refine c_X1_descend (d := d) i x ((h 4 i 3) - 1) hi (by first | assumption | omega | decide) (by first | assumption | omega | decide) (by first | assumption | omega | decide) ?_
  show fwWP mX1_stayOf (d + 3) 11 [some (aR 4 i), some (aI x), none] [aI (mDesc (h 4 i 1) (h 17 i) ((h 4 i 3) - 1) 10 x)] h Q
  refine w_istore_n [some (aR 4 i), some (aI x), some (aI (mDesc (h 4 i 1) (h 17 i) ((h 4 i 3) - 1) 10 x))] dX1_stayOf_11 rfl (by decide) ?_
  have hq : 0 ≤ mDesc (h 4 i 1) (h 17 i) (h 4 i 3 - 1) 10 x ∧ mDesc (h 4 i 1) (h 17 i) (h 4 i 3 - 1) 10 x < h 4 i 1 := mDesc_rng (h 17 i) ⟨g1, g2⟩ 10 x hx
  refine w_aload_n dX1_stayOf_12 rfl ?_
  refine w_iload_n dX1_stayOf_13 rfl ?_
  refine w_callV (d := d + 2) (S := []) [aI (mDesc (h 4 i 1) (h 17 i) ((h 4 i 3) - 1) 10 x)] dX1_stayOf_14 ml_X1_33 ok_X1_heightOf vi_X1_heightOf rfl rfl hi rfl (Nat.le_of_ble_eq_true rfl) ?_
  refine c_X1_heightOf (d := (d + 2)) i (mDesc (h 4 i 1) (h 17 i) ((h 4 i 3) - 1) 10 x) hi (by first | assumption | omega | decide) (by first | assumption | omega | decide) ?_
  show fwWP mX1_stayOf (d + 3) 17 [some (aR 4 i), some (aI x), some (aI (mDesc (h 4 i 1) (h 17 i) ((h 4 i 3) - 1) 10 x))] [aI (hOf (h 4 i 1) (h 17 i) (mDesc (h 4 i 1) (h 17 i) ((h 4 i 3) - 1) 10 x))] h Q
  have hb1 := hOf_rng (n := (h 4 i 1)) (H := (h 17 i)) (b := 1000) (by omega) (by omega) (by assumption) (mDesc (h 4 i 1) (h 17 i) ((h 4 i 3) - 1) 10 x)
  refine w_bipush dX1_stayOf_17 rfl ?_
  refine w_icmp_lt 26 dX1_stayOf_19 (by decide) (by omega) (by omega) (fun c19 => ?_) (fun c19 => ?_)
  · refine w_iload_n dX1_stayOf_26 rfl ?_
    exact w_iretE dX1_stayOf_27 rfl (by rw [mStay]; first | (exfalso; omega) | rw [if_pos (by omega)] | rw [if_neg (by omega)]) k
  · refine w_iconst dX1_stayOf_22 ?_
    refine w_goto 27 dX1_stayOf_23 (by decide) ?_
    exact w_iretE dX1_stayOf_27 rfl (by rw [mStay]; first | (exfalso; omega) | rw [if_pos (by omega)] | rw [if_neg (by omega)]) k
set_option maxRecDepth 100000 in
set_option maxHeartbeats 4000000 in
theorem c_X1_drainedTo {d : Nat} {h : fwH} {Q : Option fwV → fwH → Prop} (i : Nat) (x : Int) (hi : i < 6) (hG : gOk h i) (hx : -2147483648 ≤ x ∧ x < 2147483648) (k : Q (some (aI (mBits (fun c => decide (mDesc (h 4 i 1) (h 17 i) 0 10 (c : Int) = x)) (h 4 i 1).toNat))) h) : fwCt mX1_drainedTo (d + 4) [aR 4 i, aI x] h Q := by
  refine fwCt_of [some (aR 4 i), some (aI x), none, none] rfl rfl rfl ?_
  obtain ⟨⟨g1, g2⟩, ⟨g3, g4⟩, ⟨g5, g6⟩, g7, g8⟩ := id hG
  refine w_iconst dX1_drainedTo_0 ?_
  refine w_istore_n [some (aR 4 i), some (aI x), some (aI 0), none] dX1_drainedTo_1 rfl (by decide) ?_
  refine w_iconst dX1_drainedTo_2 ?_
  refine w_istore_n [some (aR 4 i), some (aI x), some (aI 0), some (aI 0)] dX1_drainedTo_3 rfl (by decide) ?_
  have lp4 : ∀ c : Nat, c ≤ (h 4 i 1).toNat → ∀ (y4 bi : Int), y4 = (c : Int) → bi = mBits (fun c => decide (mDesc (h 4 i 1) (h 17 i) 0 10 (c : Int) = x)) c → fwWP mX1_drainedTo (d + 4) 4 [some (aR 4 i), some (aI x), some (aI bi), some (aI y4)] [] h Q := by
    refine fw_up (fun c hc4 ih4 => ?_)
    intro y4 bi ey4 e_bi
    subst ey4
    subst e_bi
    show fwWP mX1_drainedTo (d + 4) 4 [some (aR 4 i), some (aI x), some (aI (mBits (fun c => decide (mDesc (h 4 i 1) (h 17 i) 0 10 (c : Int) = x)) c)), some (aI (c : Int))] [] h Q
    refine w_iload_n dX1_drainedTo_4 rfl ?_
    refine w_aload_n dX1_drainedTo_5 rfl ?_
    refine w_geti dX1_drainedTo_6 fl_X1_15 rfl hi ?_
    refine w_icmp_ge 33 dX1_drainedTo_9 (by decide) (by omega) (by omega) (fun c9 => ?_) (fun c9 => ?_)
    · have ec4 : (h 4 i 1).toNat = c := by omega
      subst ec4
      refine w_iload_n dX1_drainedTo_33 rfl ?_
      exact w_iretE dX1_drainedTo_34 rfl (by rfl) k
    · refine w_aload_n dX1_drainedTo_12 rfl ?_
      refine w_iload_n dX1_drainedTo_13 rfl ?_
      refine w_callV (d := d + 3) (S := []) [aI (c : Int)] dX1_drainedTo_14 ml_X1_59 ok_X1_waterEnd vi_X1_waterEnd rfl rfl hi rfl (Nat.le_of_ble_eq_true rfl) ?_
      refine c_X1_waterEnd (d := d) i (c : Int) hi (by first | assumption | omega | decide) (by first | assumption | omega | decide) ?_
      show fwWP mX1_drainedTo (d + 4) 17 [some (aR 4 i), some (aI x), some (aI (mBits (fun c => decide (mDesc (h 4 i 1) (h 17 i) 0 10 (c : Int) = x)) c)), some (aI (c : Int))] [aI (mDesc (h 4 i 1) (h 17 i) 0 10 (c : Int))] h Q
      have hq := mDesc_rng (h 17 i) (sl := 0) (n := h 4 i 1) ⟨g1, g2⟩ 10 (c : Int) (by omega)
      refine w_iload_n dX1_drainedTo_17 rfl ?_
      refine w_icmp_ne 27 dX1_drainedTo_18 (by decide) (by omega) (by omega) (fun c18 => ?_) (fun c18 => ?_)
      · refine w_iinc [some (aR 4 i), some (aI x), some (aI (mBits (fun c => decide (mDesc (h 4 i 1) (h 17 i) 0 10 (c : Int) = x)) c)), some (aI ((c : Int) + 1))] dX1_drainedTo_27 rfl rfl (by decide) ?_
        refine w_goto 4 dX1_drainedTo_30 (by decide) ?_
        refine ih4 (by omega) _ _ ?_ ?_
        · exact (by omega)
        · exact (by rw [mBits]; first | rw [if_pos (by simp; omega)] | rw [if_neg (by simp; omega)])
      · refine w_iload_n dX1_drainedTo_21 rfl ?_
        refine w_iconst dX1_drainedTo_22 ?_
        refine w_iload_n dX1_drainedTo_23 rfl ?_
        refine w_ishl dX1_drainedTo_24 ?_
        refine w_ior dX1_drainedTo_25 ?_
        refine w_istore_n [some (aR 4 i), some (aI x), some (aI (fwOr (mBits (fun c => decide (mDesc (h 4 i 1) (h 17 i) 0 10 (c : Int) = x)) c) (fwShl 1 (c : Int)))), some (aI (c : Int))] dX1_drainedTo_26 rfl (by decide) ?_
        refine w_iinc [some (aR 4 i), some (aI x), some (aI (fwOr (mBits (fun c => decide (mDesc (h 4 i 1) (h 17 i) 0 10 (c : Int) = x)) c) (fwShl 1 (c : Int)))), some (aI ((c : Int) + 1))] dX1_drainedTo_27 rfl rfl (by decide) ?_
        refine w_goto 4 dX1_drainedTo_30 (by decide) ?_
        refine ih4 (by omega) _ _ ?_ ?_
        · exact (by omega)
        · exact (by rw [mBits]; first | rw [if_pos (by simp; omega)] | rw [if_neg (by simp; omega)])
  refine lp4 0 (Nat.zero_le _) _ _ ?_ ?_
  · exact (by omega)
  · exact rfl
def mEnds (n : Int) (H : Nat → Int) : Nat → Int
  | 0 => 0
  | c + 1 => fwOr (mEnds n H c) (fwShl 1 (mDesc n H 0 10 c))
set_option maxRecDepth 100000 in
set_option maxHeartbeats 4000000 in
theorem c_X1_waterEnds {d : Nat} {h : fwH} {Q : Option fwV → fwH → Prop} (i : Nat) (hi : i < 6) (hG : gOk h i) (k : Q (some (aI (mEnds (h 4 i 1) (h 17 i) (h 4 i 1).toNat))) h) : fwCt mX1_waterEnds (d + 4) [aR 4 i] h Q := by
  refine fwCt_of [some (aR 4 i), none, none] rfl rfl rfl ?_
  obtain ⟨⟨g1, g2⟩, ⟨g3, g4⟩, ⟨g5, g6⟩, g7, g8⟩ := id hG
  refine w_iconst dX1_waterEnds_0 ?_
  refine w_istore_n [some (aR 4 i), some (aI 0), none] dX1_waterEnds_1 rfl (by decide) ?_
  refine w_iconst dX1_waterEnds_2 ?_
  refine w_istore_n [some (aR 4 i), some (aI 0), some (aI 0)] dX1_waterEnds_3 rfl (by decide) ?_
  have lp4 : ∀ c : Nat, c ≤ (h 4 i 1).toNat → ∀ (y4 bi : Int), y4 = (c : Int) → bi = mEnds (h 4 i 1) (h 17 i) c → fwWP mX1_waterEnds (d + 4) 4 [some (aR 4 i), some (aI bi), some (aI y4)] [] h Q := by
    refine fw_up (fun c hc4 ih4 => ?_)
    intro y4 bi ey4 e_bi
    subst ey4
    subst e_bi
    show fwWP mX1_waterEnds (d + 4) 4 [some (aR 4 i), some (aI (mEnds (h 4 i 1) (h 17 i) c)), some (aI (c : Int))] [] h Q
    refine w_iload_n dX1_waterEnds_4 rfl ?_
    refine w_aload_n dX1_waterEnds_5 rfl ?_
    refine w_geti dX1_waterEnds_6 fl_X1_15 rfl hi ?_
    refine w_icmp_ge 28 dX1_waterEnds_9 (by decide) (by omega) (by omega) (fun c9 => ?_) (fun c9 => ?_)
    · have ec4 : (h 4 i 1).toNat = c := by omega
      subst ec4
      refine w_iload_n dX1_waterEnds_28 rfl ?_
      exact w_iretE dX1_waterEnds_29 rfl (by rfl) k
    · refine w_iload_n dX1_waterEnds_12 rfl ?_
      refine w_iconst dX1_waterEnds_13 ?_
      refine w_aload_n dX1_waterEnds_14 rfl ?_
      refine w_iload_n dX1_waterEnds_15 rfl ?_
      refine w_callV (d := d + 3) (S := [aI 1, aI (mEnds (h 4 i 1) (h 17 i) c)]) [aI (c : Int)] dX1_waterEnds_16 ml_X1_59 ok_X1_waterEnd vi_X1_waterEnd rfl rfl hi rfl (Nat.le_of_ble_eq_true rfl) ?_
      refine c_X1_waterEnd (d := d) i (c : Int) hi (by first | assumption | omega | decide) (by first | assumption | omega | decide) ?_
      show fwWP mX1_waterEnds (d + 4) 19 [some (aR 4 i), some (aI (mEnds (h 4 i 1) (h 17 i) c)), some (aI (c : Int))] [aI (mDesc (h 4 i 1) (h 17 i) 0 10 (c : Int)), aI 1, aI (mEnds (h 4 i 1) (h 17 i) c)] h Q
      refine w_ishl dX1_waterEnds_19 ?_
      refine w_ior dX1_waterEnds_20 ?_
      refine w_istore_n [some (aR 4 i), some (aI (fwOr (mEnds (h 4 i 1) (h 17 i) c) (fwShl 1 (mDesc (h 4 i 1) (h 17 i) 0 10 (c : Int))))), some (aI (c : Int))] dX1_waterEnds_21 rfl (by decide) ?_
      refine w_iinc [some (aR 4 i), some (aI (fwOr (mEnds (h 4 i 1) (h 17 i) c) (fwShl 1 (mDesc (h 4 i 1) (h 17 i) 0 10 (c : Int))))), some (aI ((c : Int) + 1))] dX1_waterEnds_22 rfl rfl (by decide) ?_
      refine w_goto 4 dX1_waterEnds_25 (by decide) ?_
      refine ih4 (by omega) _ _ ?_ ?_
      · exact (by omega)
      · exact rfl
  refine lp4 0 (Nat.zero_le _) _ _ ?_ ?_
  · exact (by omega)
  · exact rfl
def mCliff (H : Nat → Int) (rs : Int) : Nat → Int
  | 0 => 0
  | c + 1 => if rs < H (c + 1) - H c ∨ rs < -(H (c + 1) - H c) then mCliff H rs c + 1 else mCliff H rs c
set_option maxRecDepth 100000 in
set_option maxHeartbeats 4000000 in
theorem c_X1_cliffPairs {d : Nat} {h : fwH} {Q : Option fwV → fwH → Prop} (i : Nat) (hi : i < 6) (hG : gOk h i) (k : Q (some (aI (mCliff (h 17 i) (h 4 i 3) ((h 4 i 1).toNat - 1)))) h) : fwCt mX1_cliffPairs (d + 1) [aR 4 i] h Q := by
  refine fwCt_of [some (aR 4 i), none, none, none] rfl rfl rfl ?_
  obtain ⟨⟨g1, g2⟩, ⟨g3, g4⟩, ⟨g5, g6⟩, g7, g8⟩ := id hG
  refine w_iconst dX1_cliffPairs_0 ?_
  refine w_istore_n [some (aR 4 i), some (aI 0), none, none] dX1_cliffPairs_1 rfl (by decide) ?_
  refine w_iconst dX1_cliffPairs_2 ?_
  refine w_istore_n [some (aR 4 i), some (aI 0), some (aI 1), none] dX1_cliffPairs_3 rfl (by decide) ?_
  have lp4 : ∀ c : Nat, c ≤ ((h 4 i 1).toNat - 1) → ∀ (y4 to : Int), y4 = (c : Int) + 1 → to = mCliff (h 17 i) (h 4 i 3) c → fwWP mX1_cliffPairs (d + 1) 4 [some (aR 4 i), some (aI to), some (aI y4), none] [] h Q := by
    refine fw_up (fun c hc4 ih4 => ?_)
    intro y4 to ey4 e_to
    subst ey4
    subst e_to
    show fwWP mX1_cliffPairs (d + 1) 4 [some (aR 4 i), some (aI (mCliff (h 17 i) (h 4 i 3) c)), some (aI ((c : Int) + 1)), none] [] h Q
    refine w_iload_n dX1_cliffPairs_4 rfl ?_
    refine w_aload_n dX1_cliffPairs_5 rfl ?_
    refine w_geti dX1_cliffPairs_6 fl_X1_15 rfl hi ?_
    refine w_icmp_ge 52 dX1_cliffPairs_9 (by decide) (by omega) (by omega) (fun c9 => ?_) (fun c9 => ?_)
    · have ec4 : ((h 4 i 1).toNat - 1) = c := by omega
      subst ec4
      refine w_iload_n dX1_cliffPairs_52 rfl ?_
      exact w_iretE dX1_cliffPairs_53 rfl (by rfl) k
    · refine w_aload_n dX1_cliffPairs_12 rfl ?_
      refine w_iload_n dX1_cliffPairs_13 rfl ?_
      refine w_callV (d := d + 0) (S := []) [aI ((c : Int) + 1)] dX1_cliffPairs_14 ml_X1_33 ok_X1_heightOf vi_X1_heightOf rfl rfl hi rfl (Nat.le_of_ble_eq_true rfl) ?_
      refine c_X1_heightOfE (d := d) i ((c : Int) + 1) (h 17 i (c + 1)) hi (by first | assumption | omega | decide) (by first | assumption | omega | decide) (hOf_in (c := c + 1) (by omega)) ?_
      show fwWP mX1_cliffPairs (d + 1) 17 [some (aR 4 i), some (aI (mCliff (h 17 i) (h 4 i 3) c)), some (aI ((c : Int) + 1)), none] [aI (h 17 i (c + 1))] h Q
      have hc1 := g8 (c + 1) (by omega)
      refine w_aload_n dX1_cliffPairs_17 rfl ?_
      refine w_iload_n dX1_cliffPairs_18 rfl ?_
      refine w_iconst dX1_cliffPairs_19 ?_
      refine w_isub dX1_cliffPairs_20 ?_
      refine w_callV (d := d + 0) (S := [aI (h 17 i (c + 1))]) [aI (((c : Int) + 1) - 1)] dX1_cliffPairs_21 ml_X1_33 ok_X1_heightOf vi_X1_heightOf rfl rfl hi rfl (Nat.le_of_ble_eq_true rfl) ?_
      refine c_X1_heightOfE (d := d) i (((c : Int) + 1) - 1) (h 17 i c) hi (by first | assumption | omega | decide) (by first | assumption | omega | decide) (by rw [show (c : Int) + 1 - 1 = (c : Int) by omega]; exact hOf_in (by omega)) ?_
      show fwWP mX1_cliffPairs (d + 1) 24 [some (aR 4 i), some (aI (mCliff (h 17 i) (h 4 i 3) c)), some (aI ((c : Int) + 1)), none] [aI (h 17 i c), aI (h 17 i (c + 1))] h Q
      have hc2 := g8 c (by omega)
      refine w_isub dX1_cliffPairs_24 ?_
      refine w_istore_n [some (aR 4 i), some (aI (mCliff (h 17 i) (h 4 i 3) c)), some (aI ((c : Int) + 1)), some (aI ((h 17 i (c + 1)) - (h 17 i c)))] dX1_cliffPairs_25 rfl (by decide) ?_
      refine w_iload_n dX1_cliffPairs_26 rfl ?_
      refine w_aload_n dX1_cliffPairs_27 rfl ?_
      refine w_geti dX1_cliffPairs_28 fl_X1_22 rfl hi ?_
      refine w_icmp_gt 43 dX1_cliffPairs_31 (by decide) (by omega) (by omega) (fun c31 => ?_) (fun c31 => ?_)
      · refine w_iinc [some (aR 4 i), some (aI ((mCliff (h 17 i) (h 4 i 3) c) + 1)), some (aI ((c : Int) + 1)), some (aI ((h 17 i (c + 1)) - (h 17 i c)))] dX1_cliffPairs_43 rfl rfl (by decide) ?_
        refine w_iinc [some (aR 4 i), some (aI ((mCliff (h 17 i) (h 4 i 3) c) + 1)), some (aI (((c : Int) + 1) + 1)), some (aI ((h 17 i (c + 1)) - (h 17 i c)))] dX1_cliffPairs_46 rfl rfl (by decide) ?_
        refine w_goto 4 dX1_cliffPairs_49 (by decide) ?_
        refine w_drop [3] [some (aR 4 i), some (aI ((mCliff (h 17 i) (h 4 i 3) c) + 1)), some (aI (((c : Int) + 1) + 1)), none] rfl ?_
        refine ih4 (by omega) _ _ ?_ ?_
        · exact (by omega)
        · exact (by rw [mCliff]; first | (exfalso; omega) | rw [if_pos (by omega)] | rw [if_neg (by omega)])
      · refine w_iload_n dX1_cliffPairs_34 rfl ?_
        refine w_ineg dX1_cliffPairs_35 ?_
        refine w_aload_n dX1_cliffPairs_36 rfl ?_
        refine w_geti dX1_cliffPairs_37 fl_X1_22 rfl hi ?_
        refine w_icmp_le 46 dX1_cliffPairs_40 (by decide) (by omega) (by omega) (fun c40 => ?_) (fun c40 => ?_)
        · refine w_iinc [some (aR 4 i), some (aI (mCliff (h 17 i) (h 4 i 3) c)), some (aI (((c : Int) + 1) + 1)), some (aI ((h 17 i (c + 1)) - (h 17 i c)))] dX1_cliffPairs_46 rfl rfl (by decide) ?_
          refine w_goto 4 dX1_cliffPairs_49 (by decide) ?_
          refine w_drop [3] [some (aR 4 i), some (aI (mCliff (h 17 i) (h 4 i 3) c)), some (aI (((c : Int) + 1) + 1)), none] rfl ?_
          refine ih4 (by omega) _ _ ?_ ?_
          · exact (by omega)
          · exact (by rw [mCliff]; first | (exfalso; omega) | rw [if_pos (by omega)] | rw [if_neg (by omega)])
        · refine w_iinc [some (aR 4 i), some (aI ((mCliff (h 17 i) (h 4 i 3) c) + 1)), some (aI ((c : Int) + 1)), some (aI ((h 17 i (c + 1)) - (h 17 i c)))] dX1_cliffPairs_43 rfl rfl (by decide) ?_
          refine w_iinc [some (aR 4 i), some (aI ((mCliff (h 17 i) (h 4 i 3) c) + 1)), some (aI (((c : Int) + 1) + 1)), some (aI ((h 17 i (c + 1)) - (h 17 i c)))] dX1_cliffPairs_46 rfl rfl (by decide) ?_
          refine w_goto 4 dX1_cliffPairs_49 (by decide) ?_
          refine w_drop [3] [some (aR 4 i), some (aI ((mCliff (h 17 i) (h 4 i 3) c) + 1)), some (aI (((c : Int) + 1) + 1)), none] rfl ?_
          refine ih4 (by omega) _ _ ?_ ?_
          · exact (by omega)
          · exact (by rw [mCliff]; first | (exfalso; omega) | rw [if_pos (by omega)] | rw [if_neg (by omega)])
  refine lp4 0 (Nat.zero_le _) _ _ ?_ ?_
  · exact (by omega)
  · exact rfl
def mAll (p : Nat → Bool) : Nat → Bool
  | 0 => true
  | n + 1 => mAll p n && p n
theorem mAll_iff (p : Nat → Bool) : ∀ n, mAll p n = true ↔ ∀ j, j < n → p j = true := by
  intro n
  induction n with
  | zero => simp [mAll]
  | succ n ih =>
    rw [mAll, Bool.and_eq_true, ih]
    constructor
    · intro h j hj
      rcases Nat.lt_or_ge j n with q | q
      · exact h.1 j q
      · rw [show j = n by omega]; exact h.2
    · intro h
      exact ⟨fun j hj => h j (by omega), h n (by omega)⟩
theorem fw_mulR {a b : Int} (ha : -10000 ≤ a ∧ a ≤ 10000) (hb : 0 ≤ b ∧ b ≤ 20) : -200000 ≤ a * b ∧ a * b ≤ 200000 := by
  obtain ⟨n, rfl⟩ : ∃ n : Nat, b = n := ⟨b.toNat, by omega⟩
  have hn : n ≤ 20 := by omega
  clear hb
  have key : ∀ n : Nat, n ≤ 20 → -(10000 * (n : Int)) ≤ a * n ∧ a * n ≤ 10000 * n := by
    intro n
    induction n with
    | zero => intro _; simp
    | succ n ih =>
      intro h9
      have := ih (by omega)
      have e : a * ((n + 1 : Nat) : Int) = a * n + a := by rw [Int.natCast_add, Int.mul_add]; simp
      rw [e]
      omega
  have := key n hn
  omega
def mSeeP (H : Nat → Int) (f t : Nat) (j : Nat) : Bool := decide ((H (f + 1 + j) - H f) * ((t : Int) - (f : Int)) ≤ (H t - H f) * ((f : Int) + 1 + (j : Int) - (f : Int)))
/-- nothing stands in the way between two CELLS -/
abbrev mSee (H : Nat → Int) (f t : Nat) : Prop := mAll (mSeeP H f t) (t - f - 1) = true
set_option maxRecDepth 100000 in
set_option maxHeartbeats 4000000 in
theorem c_X1_isOpen {d : Nat} {h : fwH} {Q : Option fwV → fwH → Prop} (i f t : Nat) (hi : i < 6) (hG : gOk h i) (hft : f ≤ t) (ht : (t : Int) < h 4 i 1) (k : Q (some (aI (fwB (mSee (h 17 i) f t)))) h) : fwCt mX1_isOpen (d + 1) [aR 4 i, aI (f : Int), aI (t : Int)] h Q := by
  refine fwCt_of [some (aR 4 i), some (aI (f : Int)), some (aI (t : Int)), none, none] rfl rfl rfl ?_
  obtain ⟨⟨g1, g2⟩, ⟨g3, g4⟩, ⟨g5, g6⟩, g7, g8⟩ := id hG
  refine w_aload_n dX1_isOpen_0 rfl ?_
  refine w_iload_n dX1_isOpen_1 rfl ?_
  refine w_callV (d := d + 0) (S := []) [aI (t : Int)] dX1_isOpen_2 ml_X1_33 ok_X1_heightOf vi_X1_heightOf rfl rfl hi rfl (Nat.le_of_ble_eq_true rfl) ?_
  refine c_X1_heightOfE (d := d) i (t : Int) (h 17 i t) hi (by first | assumption | omega | decide) (by first | assumption | omega | decide) (hOf_in (by omega)) ?_
  show fwWP mX1_isOpen (d + 1) 5 [some (aR 4 i), some (aI (f : Int)), some (aI (t : Int)), none, none] [aI (h 17 i t)] h Q
  have hc2 := g8 t (by omega)
  refine w_aload_n dX1_isOpen_5 rfl ?_
  refine w_iload_n dX1_isOpen_6 rfl ?_
  refine w_callV (d := d + 0) (S := [aI (h 17 i t)]) [aI (f : Int)] dX1_isOpen_7 ml_X1_33 ok_X1_heightOf vi_X1_heightOf rfl rfl hi rfl (Nat.le_of_ble_eq_true rfl) ?_
  refine c_X1_heightOfE (d := d) i (f : Int) (h 17 i f) hi (by first | assumption | omega | decide) (by first | assumption | omega | decide) (hOf_in (by omega)) ?_
  show fwWP mX1_isOpen (d + 1) 10 [some (aR 4 i), some (aI (f : Int)), some (aI (t : Int)), none, none] [aI (h 17 i f), aI (h 17 i t)] h Q
  have hc1 := g8 f (by omega)
  refine w_isub dX1_isOpen_10 ?_
  refine w_istore_n [some (aR 4 i), some (aI (f : Int)), some (aI (t : Int)), some (aI ((h 17 i t) - (h 17 i f))), none] dX1_isOpen_11 rfl (by decide) ?_
  refine w_iload_n dX1_isOpen_12 rfl ?_
  refine w_iconst dX1_isOpen_13 ?_
  refine w_iadd dX1_isOpen_14 ?_
  refine w_istore [some (aR 4 i), some (aI (f : Int)), some (aI (t : Int)), some (aI ((h 17 i t) - (h 17 i f))), some (aI ((f : Int) + 1))] dX1_isOpen_15 rfl (by decide) ?_
  have lp17 : ∀ c : Nat, c ≤ (t - f - 1) → ∀ (y17  : Int), y17 = (f : Int) + 1 + (c : Int) → (mAll (mSeeP (h 17 i) f t) c = true) → fwWP mX1_isOpen (d + 1) 17 [some (aR 4 i), some (aI (f : Int)), some (aI (t : Int)), some (aI ((h 17 i t) - (h 17 i f))), some (aI y17)] [] h Q := by
    refine fw_up (fun c hc17 ih17 => ?_)
    intro y17  ey17 iv17_0
    subst ey17
    show fwWP mX1_isOpen (d + 1) 17 [some (aR 4 i), some (aI (f : Int)), some (aI (t : Int)), some (aI ((h 17 i t) - (h 17 i f))), some (aI ((f : Int) + 1 + (c : Int)))] [] h Q
    refine w_iload dX1_isOpen_17 rfl ?_
    refine w_iload_n dX1_isOpen_19 rfl ?_
    refine w_icmp_ge 56 dX1_isOpen_20 (by decide) (by omega) (by omega) (fun c20 => ?_) (fun c20 => ?_)
    · have ec17 : (t - f - 1) = c := by omega
      subst ec17
      refine w_iconst dX1_isOpen_56 ?_
      exact w_zretE (P := mSee (h 17 i) f t) dX1_isOpen_57 rfl (by rw [fwB_t iv17_0]) k
    · refine w_aload_n dX1_isOpen_23 rfl ?_
      refine w_iload dX1_isOpen_24 rfl ?_
      refine w_callV (d := d + 0) (S := []) [aI ((f : Int) + 1 + (c : Int))] dX1_isOpen_26 ml_X1_33 ok_X1_heightOf vi_X1_heightOf rfl rfl hi rfl (Nat.le_of_ble_eq_true rfl) ?_
      refine c_X1_heightOfE (d := d) i ((f : Int) + 1 + (c : Int)) (h 17 i (f + 1 + c)) hi (by first | assumption | omega | decide) (by first | assumption | omega | decide) (hOf_in (c := f + 1 + c) (by omega)) ?_
      show fwWP mX1_isOpen (d + 1) 29 [some (aR 4 i), some (aI (f : Int)), some (aI (t : Int)), some (aI ((h 17 i t) - (h 17 i f))), some (aI ((f : Int) + 1 + (c : Int)))] [aI (h 17 i (f + 1 + c))] h Q
      have hc3 := g8 (f + 1 + c) (by omega)
      refine w_aload_n dX1_isOpen_29 rfl ?_
      refine w_iload_n dX1_isOpen_30 rfl ?_
      refine w_callV (d := d + 0) (S := [aI (h 17 i (f + 1 + c))]) [aI (f : Int)] dX1_isOpen_31 ml_X1_33 ok_X1_heightOf vi_X1_heightOf rfl rfl hi rfl (Nat.le_of_ble_eq_true rfl) ?_
      refine c_X1_heightOfE (d := d) i (f : Int) (h 17 i f) hi (by first | assumption | omega | decide) (by first | assumption | omega | decide) (hOf_in (by omega)) ?_
      show fwWP mX1_isOpen (d + 1) 34 [some (aR 4 i), some (aI (f : Int)), some (aI (t : Int)), some (aI ((h 17 i t) - (h 17 i f))), some (aI ((f : Int) + 1 + (c : Int)))] [aI (h 17 i f), aI (h 17 i (f + 1 + c))] h Q
      refine w_isub dX1_isOpen_34 ?_
      refine w_iload_n dX1_isOpen_35 rfl ?_
      refine w_iload_n dX1_isOpen_36 rfl ?_
      refine w_isub dX1_isOpen_37 ?_
      refine w_imul dX1_isOpen_38 ?_
      refine w_iload_n dX1_isOpen_39 rfl ?_
      refine w_iload dX1_isOpen_40 rfl ?_
      refine w_iload_n dX1_isOpen_42 rfl ?_
      refine w_isub dX1_isOpen_43 ?_
      refine w_imul dX1_isOpen_44 ?_
      have hm1 := fw_mulR (a := h 17 i (f + 1 + c) - h 17 i f) (b := (t : Int) - (f : Int)) (by omega) (by omega)
      have hm2 := fw_mulR (a := h 17 i t - h 17 i f) (b := (f : Int) + 1 + (c : Int) - (f : Int)) (by omega) (by omega)
      refine w_icmp_le 50 dX1_isOpen_45 (by decide) (by omega) (by omega) (fun c45 => ?_) (fun c45 => ?_)
      · refine w_iinc [some (aR 4 i), some (aI (f : Int)), some (aI (t : Int)), some (aI ((h 17 i t) - (h 17 i f))), some (aI (((f : Int) + 1 + (c : Int)) + 1))] dX1_isOpen_50 rfl rfl (by decide) ?_
        refine w_goto 17 dX1_isOpen_53 (by decide) ?_
        refine ih17 (by omega) _ ?_ ?_
        · exact (by omega)
        · exact (by rw [mAll, iv17_0, Bool.true_and]; unfold mSeeP; simp only [decide_eq_true_eq]; omega)
      · refine w_iconst dX1_isOpen_48 ?_
        exact w_zretE (P := mSee (h 17 i) f t) dX1_isOpen_49 rfl (by rw [fwB_f (fun q => by have := (mAll_iff _ _).mp q c (by omega); unfold mSeeP at this; simp only [decide_eq_true_eq] at this; omega)]) k
  refine lp17 0 (Nat.zero_le _) _ ?_ ?_
  · exact (by omega)
  · exact rfl
def mSeenB (H : Nat → Int) (x c : Nat) : Bool := if x < c then decide (mSee H x c) else decide (mSee H c x)
set_option maxRecDepth 100000 in
set_option maxHeartbeats 4000000 in
theorem c_X1_seenFrom {d : Nat} {h : fwH} {Q : Option fwV → fwH → Prop} (i x : Nat) (hi : i < 6) (hG : gOk h i) (hx : (x : Int) < h 4 i 1) (k : Q (some (aI (mBits (mSeenB (h 17 i) x) (h 4 i 1).toNat))) h) : fwCt mX1_seenFrom (d + 2) [aR 4 i, aI (x : Int)] h Q := by
  refine fwCt_of [some (aR 4 i), some (aI (x : Int)), none, none] rfl rfl rfl ?_
  obtain ⟨⟨g1, g2⟩, ⟨g3, g4⟩, ⟨g5, g6⟩, g7, g8⟩ := id hG
  refine w_iconst dX1_seenFrom_0 ?_
  refine w_istore_n [some (aR 4 i), some (aI (x : Int)), some (aI 0), none] dX1_seenFrom_1 rfl (by decide) ?_
  refine w_iconst dX1_seenFrom_2 ?_
  refine w_istore_n [some (aR 4 i), some (aI (x : Int)), some (aI 0), some (aI 0)] dX1_seenFrom_3 rfl (by decide) ?_
  have lp4 : ∀ c : Nat, c ≤ (h 4 i 1).toNat → ∀ (y4 bi : Int), y4 = (c : Int) → bi = mBits (mSeenB (h 17 i) x) c → fwWP mX1_seenFrom (d + 2) 4 [some (aR 4 i), some (aI (x : Int)), some (aI bi), some (aI y4)] [] h Q := by
    refine fw_up (fun c hc4 ih4 => ?_)
    intro y4 bi ey4 e_bi
    subst ey4
    subst e_bi
    show fwWP mX1_seenFrom (d + 2) 4 [some (aR 4 i), some (aI (x : Int)), some (aI (mBits (mSeenB (h 17 i) x) c)), some (aI (c : Int))] [] h Q
    refine w_iload_n dX1_seenFrom_4 rfl ?_
    refine w_aload_n dX1_seenFrom_5 rfl ?_
    refine w_geti dX1_seenFrom_6 fl_X1_15 rfl hi ?_
    refine w_icmp_ge 50 dX1_seenFrom_9 (by decide) (by omega) (by omega) (fun c9 => ?_) (fun c9 => ?_)
    · have ec4 : (h 4 i 1).toNat = c := by omega
      subst ec4
      refine w_iload_n dX1_seenFrom_50 rfl ?_
      exact w_iretE dX1_seenFrom_51 rfl (by rfl) k
    · refine w_iload_n dX1_seenFrom_12 rfl ?_
      refine w_iload_n dX1_seenFrom_13 rfl ?_
      refine w_icmp_ge 29 dX1_seenFrom_14 (by decide) (by omega) (by omega) (fun c14 => ?_) (fun c14 => ?_)
      · refine w_aload_n dX1_seenFrom_29 rfl ?_
        refine w_iload_n dX1_seenFrom_30 rfl ?_
        refine w_iload_n dX1_seenFrom_31 rfl ?_
        refine w_callV (d := d + 1) (S := []) [aI (c : Int), aI (x : Int)] dX1_seenFrom_32 ml_X1_62 ok_X1_isOpen vi_X1_isOpen rfl rfl hi rfl (Nat.le_of_ble_eq_true rfl) ?_
        refine c_X1_isOpen (d := d) i c x hi (by first | assumption | omega | decide) (by first | assumption | omega | decide) (by first | assumption | omega | decide) ?_
        show fwWP mX1_seenFrom (d + 2) 35 [some (aR 4 i), some (aI (x : Int)), some (aI (mBits (mSeenB (h 17 i) x) c)), some (aI (c : Int))] [aI (fwB (mSee (h 17 i) c x))] h Q
        refine w_ifB_eq 44 dX1_seenFrom_35 (by decide) (fun c35 => ?_) (fun c35 => ?_)
        · refine w_iinc [some (aR 4 i), some (aI (x : Int)), some (aI (mBits (mSeenB (h 17 i) x) c)), some (aI ((c : Int) + 1))] dX1_seenFrom_44 rfl rfl (by decide) ?_
          refine w_goto 4 dX1_seenFrom_47 (by decide) ?_
          refine ih4 (by omega) _ _ ?_ ?_
          · exact (by omega)
          · exact (by rw [mBits]; first | rw [if_pos (by unfold mSeenB; first | (rw [if_pos (by omega)]; exact decide_eq_true (by assumption)) | (rw [if_neg (by omega)]; exact decide_eq_true (by assumption)))] | rw [if_neg (by unfold mSeenB; first | (rw [if_pos (by omega)]; exact (by simpa using ‹¬ mSee _ _ _›)) | (rw [if_neg (by omega)]; exact (by simpa using ‹¬ mSee _ _ _›)))])
        · refine w_iload_n dX1_seenFrom_38 rfl ?_
          refine w_iconst dX1_seenFrom_39 ?_
          refine w_iload_n dX1_seenFrom_40 rfl ?_
          refine w_ishl dX1_seenFrom_41 ?_
          refine w_ior dX1_seenFrom_42 ?_
          refine w_istore_n [some (aR 4 i), some (aI (x : Int)), some (aI (fwOr (mBits (mSeenB (h 17 i) x) c) (fwShl 1 (c : Int)))), some (aI (c : Int))] dX1_seenFrom_43 rfl (by decide) ?_
          refine w_iinc [some (aR 4 i), some (aI (x : Int)), some (aI (fwOr (mBits (mSeenB (h 17 i) x) c) (fwShl 1 (c : Int)))), some (aI ((c : Int) + 1))] dX1_seenFrom_44 rfl rfl (by decide) ?_
          refine w_goto 4 dX1_seenFrom_47 (by decide) ?_
          refine ih4 (by omega) _ _ ?_ ?_
          · exact (by omega)
          · exact (by rw [mBits]; first | rw [if_pos (by unfold mSeenB; first | (rw [if_pos (by omega)]; exact decide_eq_true (by assumption)) | (rw [if_neg (by omega)]; exact decide_eq_true (by assumption)))] | rw [if_neg (by unfold mSeenB; first | (rw [if_pos (by omega)]; exact (by simpa using ‹¬ mSee _ _ _›)) | (rw [if_neg (by omega)]; exact (by simpa using ‹¬ mSee _ _ _›)))])
      · refine w_aload_n dX1_seenFrom_17 rfl ?_
        refine w_iload_n dX1_seenFrom_18 rfl ?_
        refine w_iload_n dX1_seenFrom_19 rfl ?_
        refine w_callV (d := d + 1) (S := []) [aI (x : Int), aI (c : Int)] dX1_seenFrom_20 ml_X1_62 ok_X1_isOpen vi_X1_isOpen rfl rfl hi rfl (Nat.le_of_ble_eq_true rfl) ?_
        refine c_X1_isOpen (d := d) i x c hi (by first | assumption | omega | decide) (by first | assumption | omega | decide) (by first | assumption | omega | decide) ?_
        show fwWP mX1_seenFrom (d + 2) 23 [some (aR 4 i), some (aI (x : Int)), some (aI (mBits (mSeenB (h 17 i) x) c)), some (aI (c : Int))] [aI (fwB (mSee (h 17 i) x c))] h Q
        refine w_ifB_eq 44 dX1_seenFrom_23 (by decide) (fun c23 => ?_) (fun c23 => ?_)
        · refine w_iinc [some (aR 4 i), some (aI (x : Int)), some (aI (mBits (mSeenB (h 17 i) x) c)), some (aI ((c : Int) + 1))] dX1_seenFrom_44 rfl rfl (by decide) ?_
          refine w_goto 4 dX1_seenFrom_47 (by decide) ?_
          refine ih4 (by omega) _ _ ?_ ?_
          · exact (by omega)
          · exact (by rw [mBits]; first | rw [if_pos (by unfold mSeenB; first | (rw [if_pos (by omega)]; exact decide_eq_true (by assumption)) | (rw [if_neg (by omega)]; exact decide_eq_true (by assumption)))] | rw [if_neg (by unfold mSeenB; first | (rw [if_pos (by omega)]; exact (by simpa using ‹¬ mSee _ _ _›)) | (rw [if_neg (by omega)]; exact (by simpa using ‹¬ mSee _ _ _›)))])
        · refine w_goto 38 dX1_seenFrom_26 (by decide) ?_
          refine w_iload_n dX1_seenFrom_38 rfl ?_
          refine w_iconst dX1_seenFrom_39 ?_
          refine w_iload_n dX1_seenFrom_40 rfl ?_
          refine w_ishl dX1_seenFrom_41 ?_
          refine w_ior dX1_seenFrom_42 ?_
          refine w_istore_n [some (aR 4 i), some (aI (x : Int)), some (aI (fwOr (mBits (mSeenB (h 17 i) x) c) (fwShl 1 (c : Int)))), some (aI (c : Int))] dX1_seenFrom_43 rfl (by decide) ?_
          refine w_iinc [some (aR 4 i), some (aI (x : Int)), some (aI (fwOr (mBits (mSeenB (h 17 i) x) c) (fwShl 1 (c : Int)))), some (aI ((c : Int) + 1))] dX1_seenFrom_44 rfl rfl (by decide) ?_
          refine w_goto 4 dX1_seenFrom_47 (by decide) ?_
          refine ih4 (by omega) _ _ ?_ ?_
          · exact (by omega)
          · exact (by rw [mBits]; first | rw [if_pos (by unfold mSeenB; first | (rw [if_pos (by omega)]; exact decide_eq_true (by assumption)) | (rw [if_neg (by omega)]; exact decide_eq_true (by assumption)))] | rw [if_neg (by unfold mSeenB; first | (rw [if_pos (by omega)]; exact (by simpa using ‹¬ mSee _ _ _›)) | (rw [if_neg (by omega)]; exact (by simpa using ‹¬ mSee _ _ _›)))])
  refine lp4 0 (Nat.zero_le _) _ _ ?_ ?_
  · exact (by omega)
  · exact rfl
theorem fwPop_rng (x : Int) : 0 ≤ fwPop x ∧ fwPop x < 64 := by
  have key : ∀ y : Int, 0 ≤ fwAnd y 63 ∧ fwAnd y 63 < 64 := by
    intro y
    unfold fwAnd
    obtain ⟨j, hj, e⟩ := pk_andE (Int32.ofInt y) (m := Int32.ofInt 63) 6 (by decide)
    rw [e, nI_toInt (by omega)]
    omega
  exact key _
def mLook (H : Nat → Int) (n : Nat) : Nat → Int × Int
  | 0 => (-1, 0)
  | c + 1 => if (mLook H n c).2 < fwPop (mBits (mSeenB H c) n) then ((c : Int), fwPop (mBits (mSeenB H c) n)) else mLook H n c
theorem mLook_rng (H : Nat → Int) (n : Nat) : ∀ c, 0 ≤ (mLook H n c).2 ∧ (mLook H n c).2 < 64 := by
  intro c
  induction c with
  | zero => simp [mLook]
  | succ c ih =>
    rw [mLook]
    split
    · exact fwPop_rng _
    · exact ih
set_option maxRecDepth 100000 in
set_option maxHeartbeats 4000000 in
theorem c_X1_bestLookout {d : Nat} {h : fwH} {Q : Option fwV → fwH → Prop} (i : Nat) (hi : i < 6) (hG : gOk h i) (k : Q (some (aI ((mLook (h 17 i) (h 4 i 1).toNat (h 4 i 1).toNat).1))) h) : fwCt mX1_bestLookout (d + 3) [aR 4 i] h Q := by
  refine fwCt_of [some (aR 4 i), none, none, none, none] rfl rfl rfl ?_
  obtain ⟨⟨g1, g2⟩, ⟨g3, g4⟩, ⟨g5, g6⟩, g7, g8⟩ := id hG
  refine w_iconst dX1_bestLookout_0 ?_
  refine w_istore_n [some (aR 4 i), some (aI (-1)), none, none, none] dX1_bestLookout_1 rfl (by decide) ?_
  refine w_iconst dX1_bestLookout_2 ?_
  refine w_istore_n [some (aR 4 i), some (aI (-1)), some (aI 0), none, none] dX1_bestLookout_3 rfl (by decide) ?_
  refine w_iconst dX1_bestLookout_4 ?_
  refine w_istore_n [some (aR 4 i), some (aI (-1)), some (aI 0), some (aI 0), none] dX1_bestLookout_5 rfl (by decide) ?_
  have lp6 : ∀ c : Nat, c ≤ (h 4 i 1).toNat → ∀ (y6 fo mo : Int), y6 = (c : Int) → fo = (mLook (h 17 i) (h 4 i 1).toNat c).1 → mo = (mLook (h 17 i) (h 4 i 1).toNat c).2 → fwWP mX1_bestLookout (d + 3) 6 [some (aR 4 i), some (aI fo), some (aI mo), some (aI y6), none] [] h Q := by
    refine fw_up (fun c hc6 ih6 => ?_)
    intro y6 fo mo ey6 e_fo e_mo
    subst ey6
    subst e_fo
    subst e_mo
    have hq := mLook_rng (h 17 i) (h 4 i 1).toNat c
    show fwWP mX1_bestLookout (d + 3) 6 [some (aR 4 i), some (aI ((mLook (h 17 i) (h 4 i 1).toNat c).1)), some (aI ((mLook (h 17 i) (h 4 i 1).toNat c).2)), some (aI (c : Int)), none] [] h Q
    refine w_iload_n dX1_bestLookout_6 rfl ?_
    refine w_aload_n dX1_bestLookout_7 rfl ?_
    refine w_geti dX1_bestLookout_8 fl_X1_15 rfl hi ?_
    refine w_icmp_ge 41 dX1_bestLookout_11 (by decide) (by omega) (by omega) (fun c11 => ?_) (fun c11 => ?_)
    · have ec6 : (h 4 i 1).toNat = c := by omega
      subst ec6
      refine w_iload_n dX1_bestLookout_41 rfl ?_
      exact w_iretE dX1_bestLookout_42 rfl (by rfl) k
    · refine w_aload_n dX1_bestLookout_14 rfl ?_
      refine w_iload_n dX1_bestLookout_15 rfl ?_
      refine w_callV (d := d + 2) (S := []) [aI (c : Int)] dX1_bestLookout_16 ml_X1_65 ok_X1_seenFrom vi_X1_seenFrom rfl rfl hi rfl (Nat.le_of_ble_eq_true rfl) ?_
      refine c_X1_seenFrom (d := d) i c hi (by first | assumption | omega | decide) (by first | assumption | omega | decide) ?_
      show fwWP mX1_bestLookout (d + 3) 19 [some (aR 4 i), some (aI ((mLook (h 17 i) (h 4 i 1).toNat c).1)), some (aI ((mLook (h 17 i) (h 4 i 1).toNat c).2)), some (aI (c : Int)), none] [aI (mBits (mSeenB (h 17 i) c) (h 4 i 1).toNat)] h Q
      refine w_callS (d := d + 2) (S := []) [aI (mBits (mSeenB (h 17 i) c) (h 4 i 1).toNat)] dX1_bestLookout_19 ml_X1_68 ok_J6_bitCount_0f7a4 st_J6_bitCount_0f7a4 rfl (Nat.le_of_ble_eq_true rfl) ?_
      refine c_bitCount (d := (d + 2)) (mBits (mSeenB (h 17 i) c) (h 4 i 1).toNat) ?_
      show fwWP mX1_bestLookout (d + 3) 22 [some (aR 4 i), some (aI ((mLook (h 17 i) (h 4 i 1).toNat c).1)), some (aI ((mLook (h 17 i) (h 4 i 1).toNat c).2)), some (aI (c : Int)), none] [aI (fwPop (mBits (mSeenB (h 17 i) c) (h 4 i 1).toNat))] h Q
      have hp := fwPop_rng (mBits (mSeenB (h 17 i) c) (h 4 i 1).toNat)
      refine w_istore [some (aR 4 i), some (aI ((mLook (h 17 i) (h 4 i 1).toNat c).1)), some (aI ((mLook (h 17 i) (h 4 i 1).toNat c).2)), some (aI (c : Int)), some (aI (fwPop (mBits (mSeenB (h 17 i) c) (h 4 i 1).toNat)))] dX1_bestLookout_22 rfl (by decide) ?_
      refine w_iload dX1_bestLookout_24 rfl ?_
      refine w_iload_n dX1_bestLookout_26 rfl ?_
      refine w_icmp_le 35 dX1_bestLookout_27 (by decide) (by omega) (by omega) (fun c27 => ?_) (fun c27 => ?_)
      · refine w_iinc [some (aR 4 i), some (aI ((mLook (h 17 i) (h 4 i 1).toNat c).1)), some (aI ((mLook (h 17 i) (h 4 i 1).toNat c).2)), some (aI ((c : Int) + 1)), some (aI (fwPop (mBits (mSeenB (h 17 i) c) (h 4 i 1).toNat)))] dX1_bestLookout_35 rfl rfl (by decide) ?_
        refine w_goto 6 dX1_bestLookout_38 (by decide) ?_
        refine w_drop [4] [some (aR 4 i), some (aI ((mLook (h 17 i) (h 4 i 1).toNat c).1)), some (aI ((mLook (h 17 i) (h 4 i 1).toNat c).2)), some (aI ((c : Int) + 1)), none] rfl ?_
        refine ih6 (by omega) _ _ _ ?_ ?_ ?_
        · exact (by omega)
        · exact (by rw [mLook]; first | rw [if_pos (by omega)] | rw [if_neg (by omega)])
        · exact (by rw [mLook]; first | rw [if_pos (by omega)] | rw [if_neg (by omega)])
      · refine w_iload dX1_bestLookout_30 rfl ?_
        refine w_istore_n [some (aR 4 i), some (aI ((mLook (h 17 i) (h 4 i 1).toNat c).1)), some (aI (fwPop (mBits (mSeenB (h 17 i) c) (h 4 i 1).toNat))), some (aI (c : Int)), some (aI (fwPop (mBits (mSeenB (h 17 i) c) (h 4 i 1).toNat)))] dX1_bestLookout_32 rfl (by decide) ?_
        refine w_iload_n dX1_bestLookout_33 rfl ?_
        refine w_istore_n [some (aR 4 i), some (aI (c : Int)), some (aI (fwPop (mBits (mSeenB (h 17 i) c) (h 4 i 1).toNat))), some (aI (c : Int)), some (aI (fwPop (mBits (mSeenB (h 17 i) c) (h 4 i 1).toNat)))] dX1_bestLookout_34 rfl (by decide) ?_
        refine w_iinc [some (aR 4 i), some (aI (c : Int)), some (aI (fwPop (mBits (mSeenB (h 17 i) c) (h 4 i 1).toNat))), some (aI ((c : Int) + 1)), some (aI (fwPop (mBits (mSeenB (h 17 i) c) (h 4 i 1).toNat)))] dX1_bestLookout_35 rfl rfl (by decide) ?_
        refine w_goto 6 dX1_bestLookout_38 (by decide) ?_
        refine w_drop [4] [some (aR 4 i), some (aI (c : Int)), some (aI (fwPop (mBits (mSeenB (h 17 i) c) (h 4 i 1).toNat))), some (aI ((c : Int) + 1)), none] rfl ?_
        refine ih6 (by omega) _ _ _ ?_ ?_ ?_
        · exact (by omega)
        · exact (by rw [mLook]; first | rw [if_pos (by omega)] | rw [if_neg (by omega)])
        · exact (by rw [mLook]; first | rw [if_pos (by omega)] | rw [if_neg (by omega)])
  refine lp6 0 (Nat.zero_le _) _ _ _ ?_ ?_ ?_
  · exact (by omega)
  · exact rfl
  · exact rfl
theorem fwDiv_nn {x y : Int} (hx : 0 ≤ x ∧ x < 2147483648) (hy : 0 < y ∧ y < 2147483648) : fwDiv x y = x / y := by
  obtain ⟨a, rfl⟩ : ∃ a : Nat, x = a := ⟨x.toNat, by omega⟩
  obtain ⟨b, rfl⟩ : ∃ b : Nat, y = b := ⟨y.toNat, by omega⟩
  unfold fwDiv
  have e1 : Int32.ofInt (a : Int) = nI a := rfl
  have e2 : Int32.ofInt (b : Int) = nI b := rfl
  rw [e1, e2, pk_div (by omega) (by omega) (by omega), nI_toInt (Nat.lt_of_le_of_lt (Nat.div_le_self a b) (by omega))]
  exact Int.natCast_ediv a b
/-- in how many HOURS a CELL is shaded from a side, over the first a CELLS of that side -/
def mShd (n : Int) (H : Nat → Int) (x st : Int) : Nat → Int
  | 0 => 0
  | a + 1 => if (0 ≤ x + st * ((a : Int) + 1) ∧ x + st * ((a : Int) + 1) < n) ∧ 0 < H (x + st * ((a : Int) + 1)).toNat - H x.toNat ∧ mShd n H x st a < (H (x + st * ((a : Int) + 1)).toNat - H x.toNat - 1) / ((a : Int) + 1) then (H (x + st * ((a : Int) + 1)).toNat - H x.toNat - 1) / ((a : Int) + 1) else mShd n H x st a
theorem mShd_stop {n : Int} {H : Nat → Int} {x st : Int} (hs : st = 1 ∨ st = -1) (hx : 0 ≤ x ∧ x < n) {a : Nat} (ho : ¬ (0 ≤ x + st * ((a : Int) + 1) ∧ x + st * ((a : Int) + 1) < n)) : ∀ b, mShd n H x st (a + b) = mShd n H x st a := by
  intro b
  induction b with
  | zero => rfl
  | succ b ih =>
    rw [← Nat.add_assoc, mShd, if_neg, ih]
    intro q
    have := q.1
    rcases hs with rfl | rfl <;> omega
theorem mShd_rng {n : Int} {H : Nat → Int} {x st : Int} (hn : n ≤ 10) (hx : 0 ≤ x ∧ x < n) (hH : ∀ c : Nat, c < 10 → 0 ≤ H c ∧ H c ≤ 1000) : ∀ a, 0 ≤ mShd n H x st a ∧ mShd n H x st a ≤ 1000 := by
  intro a
  induction a with
  | zero => simp [mShd]
  | succ a ih =>
    rw [mShd]
    split
    · rename_i q
      have h1 := hH (x + st * ((a : Int) + 1)).toNat (by omega)
      have h2 := hH x.toNat (by omega)
      have h3 : (H (x + st * ((a : Int) + 1)).toNat - H x.toNat - 1) / ((a : Int) + 1) ≤ H (x + st * ((a : Int) + 1)).toNat - H x.toNat - 1 := Int.ediv_le_self _ (by omega)
      omega
    · exact ih
def mSh (n : Int) (H : Nat → Int) (x st : Int) : Int := if 0 ≤ x ∧ x < n then min (mShd n H x st 9) 9 else 0
set_option maxRecDepth 100000 in
set_option maxHeartbeats 4000000 in
theorem c_X1_shadedHours {d : Nat} {h : fwH} {Q : Option fwV → fwH → Prop} (i : Nat) (x y : Int) (hi : i < 6) (hG : gOk h i) (hx : -2147483648 ≤ x ∧ x < 2147483648) (hy : y = 1 ∨ y = -1) (k : Q (some (aI (mSh (h 4 i 1) (h 17 i) x y))) h) : fwCt mX1_shadedHours (d + 0) [aR 4 i, aI x, aI y] h Q := by
  refine fwCt_of [some (aR 4 i), some (aI x), some (aI y), none, none, none, none] rfl rfl rfl ?_
  obtain ⟨⟨g1, g2⟩, ⟨g3, g4⟩, ⟨g5, g6⟩, g7, g8⟩ := id hG
  refine w_iload_n dX1_shadedHours_0 rfl ?_
  refine w_if_lt 21 dX1_shadedHours_1 (by decide) (by omega) (fun c1 => ?_) (fun c1 => ?_)
  · refine w_iconst dX1_shadedHours_21 ?_
    exact w_iretE dX1_shadedHours_22 rfl (by rw [mSh]; first | (exfalso; omega) | (rw [if_pos (by omega)]; omega) | (rw [if_neg (by omega)])) k
  · refine w_iload_n dX1_shadedHours_4 rfl ?_
    refine w_aload_n dX1_shadedHours_5 rfl ?_
    refine w_geti dX1_shadedHours_6 fl_X1_15 rfl hi ?_
    refine w_icmp_ge 21 dX1_shadedHours_9 (by decide) (by omega) (by omega) (fun c9 => ?_) (fun c9 => ?_)
    · refine w_iconst dX1_shadedHours_21 ?_
      exact w_iretE dX1_shadedHours_22 rfl (by rw [mSh]; first | (exfalso; omega) | (rw [if_pos (by omega)]; omega) | (rw [if_neg (by omega)])) k
    · refine w_iload_n dX1_shadedHours_12 rfl ?_
      refine w_aload_n dX1_shadedHours_13 rfl ?_
      refine w_getr 17 i dX1_shadedHours_14 fl_X1_9 rfl hi ?_
      refine w_alen dX1_shadedHours_17 rfl (by decide) hi ?_
      refine w_icmp_lt 23 dX1_shadedHours_18 (by decide) (by omega) (by omega) (fun c18 => ?_) (fun c18 => ?_)
      · have J116 : ∀ ho : Int, mShd (h 4 i 1) (h 17 i) x y 9 = ho → fwWP mX1_shadedHours (d + 0) 116 [some (aR 4 i), some (aI x), some (aI y), some (aI ho), none, none, none] [] h Q := by
          intro ho eho
          have hq := mShd_rng (n := h 4 i 1) (H := h 17 i) (x := x) (st := y) g2 (by omega) g8 9
          refine w_iload_n dX1_shadedHours_116 rfl ?_
          refine w_bipush dX1_shadedHours_117 rfl ?_
          refine w_icmp_ge 126 dX1_shadedHours_119 (by decide) (by omega) (by omega) (fun c119 => ?_) (fun c119 => ?_)
          · refine w_bipush dX1_shadedHours_126 rfl ?_
            exact w_iretE dX1_shadedHours_128 rfl (by rw [mSh]; first | (exfalso; omega) | (rw [if_pos (by omega)]; omega) | (rw [if_neg (by omega)])) k
          · refine w_iload_n dX1_shadedHours_122 rfl ?_
            refine w_goto 128 dX1_shadedHours_123 (by decide) ?_
            exact w_iretE dX1_shadedHours_128 rfl (by rw [mSh]; first | (exfalso; omega) | (rw [if_pos (by omega)]; omega) | (rw [if_neg (by omega)])) k
        refine w_iconst dX1_shadedHours_23 ?_
        refine w_istore_n [some (aR 4 i), some (aI x), some (aI y), some (aI 0), none, none, none] dX1_shadedHours_24 rfl (by decide) ?_
        refine w_iconst dX1_shadedHours_25 ?_
        refine w_istore [some (aR 4 i), some (aI x), some (aI y), some (aI 0), some (aI 1), none, none] dX1_shadedHours_26 rfl (by decide) ?_
        have lp28 : ∀ c : Nat, c ≤ 9 → ∀ (y28 ho : Int), y28 = (c : Int) + 1 → ho = mShd (h 4 i 1) (h 17 i) x y c → fwWP mX1_shadedHours (d + 0) 28 [some (aR 4 i), some (aI x), some (aI y), some (aI ho), some (aI y28), none, none] [] h Q := by
          refine fw_up (fun c hc28 ih28 => ?_)
          intro y28 ho ey28 e_ho
          subst ey28
          subst e_ho
          have hq := mShd_rng (n := h 4 i 1) (H := h 17 i) (x := x) (st := y) g2 (by omega) g8 c
          show fwWP mX1_shadedHours (d + 0) 28 [some (aR 4 i), some (aI x), some (aI y), some (aI (mShd (h 4 i 1) (h 17 i) x y c)), some (aI ((c : Int) + 1)), none, none] [] h Q
          refine w_iload dX1_shadedHours_28 rfl ?_
          refine w_bipush dX1_shadedHours_30 rfl ?_
          refine w_icmp_ge 116 dX1_shadedHours_32 (by decide) (by omega) (by omega) (fun c32 => ?_) (fun c32 => ?_)
          · refine w_drop [4] [some (aR 4 i), some (aI x), some (aI y), some (aI (mShd (h 4 i 1) (h 17 i) x y c)), none, none, none] rfl ?_
            exact J116 _ (by rw [show c = 9 by omega])
          · refine w_iload_n dX1_shadedHours_35 rfl ?_
            refine w_iload_n dX1_shadedHours_36 rfl ?_
            refine w_iload dX1_shadedHours_37 rfl ?_
            refine w_imul dX1_shadedHours_39 ?_
            refine w_iadd dX1_shadedHours_40 ?_
            refine w_istore [some (aR 4 i), some (aI x), some (aI y), some (aI (mShd (h 4 i 1) (h 17 i) x y c)), some (aI ((c : Int) + 1)), some (aI (x + (y * ((c : Int) + 1)))), none] dX1_shadedHours_41 rfl (by decide) ?_
            have hat : -1000 ≤ (x + y * ((c : Int) + 1)) ∧ (x + y * ((c : Int) + 1)) ≤ 1000 := by rcases hy with rfl | rfl <;> omega
            refine w_iload dX1_shadedHours_43 rfl ?_
            refine w_if_lt 116 dX1_shadedHours_45 (by decide) (by omega) (fun c45 => ?_) (fun c45 => ?_)
            · refine w_drop [4, 5] [some (aR 4 i), some (aI x), some (aI y), some (aI (mShd (h 4 i 1) (h 17 i) x y c)), none, none, none] rfl ?_
              exact J116 _ (by rw [show (9 : Nat) = c + (9 - c) by omega]; exact mShd_stop hy (by omega) (by omega) (9 - c))
            · refine w_iload dX1_shadedHours_48 rfl ?_
              refine w_aload_n dX1_shadedHours_50 rfl ?_
              refine w_geti dX1_shadedHours_51 fl_X1_15 rfl hi ?_
              refine w_icmp_ge 116 dX1_shadedHours_54 (by decide) (by omega) (by omega) (fun c54 => ?_) (fun c54 => ?_)
              · refine w_drop [4, 5] [some (aR 4 i), some (aI x), some (aI y), some (aI (mShd (h 4 i 1) (h 17 i) x y c)), none, none, none] rfl ?_
                exact J116 _ (by rw [show (9 : Nat) = c + (9 - c) by omega]; exact mShd_stop hy (by omega) (by omega) (9 - c))
              · refine w_iload dX1_shadedHours_57 rfl ?_
                refine w_aload_n dX1_shadedHours_59 rfl ?_
                refine w_getr 17 i dX1_shadedHours_60 fl_X1_9 rfl hi ?_
                refine w_alen dX1_shadedHours_63 rfl (by decide) hi ?_
                refine w_icmp_lt 70 dX1_shadedHours_64 (by decide) (by omega) (by omega) (fun c64 => ?_) (fun c64 => ?_)
                · refine w_aload_n dX1_shadedHours_70 rfl ?_
                  refine w_getr 17 i dX1_shadedHours_71 fl_X1_9 rfl hi ?_
                  refine w_iload dX1_shadedHours_74 rfl ?_
                  refine w_iald dX1_shadedHours_76 rfl hi (by omega) (by omega) ?_
                  refine w_aload_n dX1_shadedHours_77 rfl ?_
                  refine w_getr 17 i dX1_shadedHours_78 fl_X1_9 rfl hi ?_
                  refine w_iload_n dX1_shadedHours_81 rfl ?_
                  refine w_iald dX1_shadedHours_82 rfl hi (by omega) (by omega) ?_
                  refine w_isub dX1_shadedHours_83 ?_
                  refine w_istore [some (aR 4 i), some (aI x), some (aI y), some (aI (mShd (h 4 i 1) (h 17 i) x y c)), some (aI ((c : Int) + 1)), some (aI (x + (y * ((c : Int) + 1)))), some (aI ((h 17 i (x + (y * ((c : Int) + 1))).toNat) - (h 17 i (x).toNat)))] dX1_shadedHours_84 rfl (by decide) ?_
                  have hb1 := g8 (x + y * ((c : Int) + 1)).toNat (by omega)
                  have hb2 := g8 x.toNat (by omega)
                  refine w_iload dX1_shadedHours_86 rfl ?_
                  refine w_if_le 110 dX1_shadedHours_88 (by decide) (by omega) (fun c88 => ?_) (fun c88 => ?_)
                  · refine w_iinc [some (aR 4 i), some (aI x), some (aI y), some (aI (mShd (h 4 i 1) (h 17 i) x y c)), some (aI (((c : Int) + 1) + 1)), some (aI (x + (y * ((c : Int) + 1)))), some (aI ((h 17 i (x + (y * ((c : Int) + 1))).toNat) - (h 17 i (x).toNat)))] dX1_shadedHours_110 rfl rfl (by decide) ?_
                    refine w_goto 28 dX1_shadedHours_113 (by decide) ?_
                    refine w_drop [5, 6] [some (aR 4 i), some (aI x), some (aI y), some (aI (mShd (h 4 i 1) (h 17 i) x y c)), some (aI (((c : Int) + 1) + 1)), none, none] rfl ?_
                    refine ih28 (by omega) _ _ ?_ ?_
                    · exact (by omega)
                    · exact (by rw [mShd]; first | rw [if_pos ⟨by omega, by omega, by omega⟩, hdv] | (rw [if_neg (by rintro ⟨q1, q2, q3⟩; first | omega | (rw [hdv] at c99; omega))]))
                  · refine w_iload dX1_shadedHours_91 rfl ?_
                    refine w_iconst dX1_shadedHours_93 ?_
                    refine w_isub dX1_shadedHours_94 ?_
                    refine w_iload dX1_shadedHours_95 rfl ?_
                    refine w_idiv dX1_shadedHours_97 (by omega) (by omega) ?_
                    have hdv : fwDiv (h 17 i (x + y * ((c : Int) + 1)).toNat - h 17 i x.toNat - 1) ((c : Int) + 1) = (h 17 i (x + y * ((c : Int) + 1)).toNat - h 17 i x.toNat - 1) / ((c : Int) + 1) := fwDiv_nn (by omega) (by omega)
                    have hdr : (h 17 i (x + y * ((c : Int) + 1)).toNat - h 17 i x.toNat - 1) / ((c : Int) + 1) ≤ (h 17 i (x + y * ((c : Int) + 1)).toNat - h 17 i x.toNat - 1) := Int.ediv_le_self _ (by omega)
                    have hdp : 0 ≤ (h 17 i (x + y * ((c : Int) + 1)).toNat - h 17 i x.toNat - 1) / ((c : Int) + 1) := Int.ediv_nonneg (by omega) (by omega)
                    refine w_iload_n dX1_shadedHours_98 rfl ?_
                    refine w_icmp_le 110 dX1_shadedHours_99 (by decide) (by rw [hdv]; omega) (by omega) (fun c99 => ?_) (fun c99 => ?_)
                    · refine w_iinc [some (aR 4 i), some (aI x), some (aI y), some (aI (mShd (h 4 i 1) (h 17 i) x y c)), some (aI (((c : Int) + 1) + 1)), some (aI (x + (y * ((c : Int) + 1)))), some (aI ((h 17 i (x + (y * ((c : Int) + 1))).toNat) - (h 17 i (x).toNat)))] dX1_shadedHours_110 rfl rfl (by decide) ?_
                      refine w_goto 28 dX1_shadedHours_113 (by decide) ?_
                      refine w_drop [5, 6] [some (aR 4 i), some (aI x), some (aI y), some (aI (mShd (h 4 i 1) (h 17 i) x y c)), some (aI (((c : Int) + 1) + 1)), none, none] rfl ?_
                      refine ih28 (by omega) _ _ ?_ ?_
                      · exact (by omega)
                      · exact (by rw [mShd]; first | rw [if_pos ⟨by omega, by omega, by omega⟩, hdv] | (rw [if_neg (by rintro ⟨q1, q2, q3⟩; first | omega | (rw [hdv] at c99; omega))]))
                    · rw [hdv] at c99
                      refine w_iload dX1_shadedHours_102 rfl ?_
                      refine w_iconst dX1_shadedHours_104 ?_
                      refine w_isub dX1_shadedHours_105 ?_
                      refine w_iload dX1_shadedHours_106 rfl ?_
                      refine w_idiv dX1_shadedHours_108 (by omega) (by omega) ?_
                      refine w_istore_n [some (aR 4 i), some (aI x), some (aI y), some (aI (fwDiv (((h 17 i (x + (y * ((c : Int) + 1))).toNat) - (h 17 i (x).toNat)) - 1) ((c : Int) + 1))), some (aI ((c : Int) + 1)), some (aI (x + (y * ((c : Int) + 1)))), some (aI ((h 17 i (x + (y * ((c : Int) + 1))).toNat) - (h 17 i (x).toNat)))] dX1_shadedHours_109 rfl (by decide) ?_
                      refine w_iinc [some (aR 4 i), some (aI x), some (aI y), some (aI (fwDiv (((h 17 i (x + (y * ((c : Int) + 1))).toNat) - (h 17 i (x).toNat)) - 1) ((c : Int) + 1))), some (aI (((c : Int) + 1) + 1)), some (aI (x + (y * ((c : Int) + 1)))), some (aI ((h 17 i (x + (y * ((c : Int) + 1))).toNat) - (h 17 i (x).toNat)))] dX1_shadedHours_110 rfl rfl (by decide) ?_
                      refine w_goto 28 dX1_shadedHours_113 (by decide) ?_
                      refine w_drop [5, 6] [some (aR 4 i), some (aI x), some (aI y), some (aI (fwDiv (((h 17 i (x + (y * ((c : Int) + 1))).toNat) - (h 17 i (x).toNat)) - 1) ((c : Int) + 1))), some (aI (((c : Int) + 1) + 1)), none, none] rfl ?_
                      refine ih28 (by omega) _ _ ?_ ?_
                      · exact (by omega)
                      · exact (by rw [mShd]; first | rw [if_pos ⟨by omega, by omega, by omega⟩, hdv] | (rw [if_neg (by rintro ⟨q1, q2, q3⟩; first | omega | (rw [hdv] at c99; omega))]))
                · refine w_goto 116 dX1_shadedHours_67 (by decide) ?_
                  refine w_drop [4, 5] [some (aR 4 i), some (aI x), some (aI y), some (aI (mShd (h 4 i 1) (h 17 i) x y c)), none, none, none] rfl ?_
                  exact J116 _ (by rw [show (9 : Nat) = c + (9 - c) by omega]; exact mShd_stop hy (by omega) (by omega) (9 - c))
        refine lp28 0 (Nat.zero_le _) _ _ ?_ ?_
        · exact (by omega)
        · exact rfl
      · refine w_iconst dX1_shadedHours_21 ?_
        exact w_iretE dX1_shadedHours_22 rfl (by rw [mSh]; first | (exfalso; omega) | (rw [if_pos (by omega)]; omega) | (rw [if_neg (by omega)])) k
theorem mSh_rng {n : Int} {H : Nat → Int} {x st : Int} (hn : n ≤ 10) (hH : ∀ c : Nat, c < 10 → 0 ≤ H c ∧ H c ≤ 1000) : 0 ≤ mSh n H x st ∧ mSh n H x st ≤ 9 := by
  unfold mSh
  split
  · rename_i q
    have := mShd_rng (st := st) hn q hH 9
    omega
  · omega
/-- SHADE: hour h of a CELL -/
def mShade (n : Int) (H : Nat → Int) (x hr : Int) : Prop := if 0 < hr then hr ≤ mSh n H x (-1) else -hr ≤ mSh n H x 1
def mShadeB (n : Int) (H : Nat → Int) (x hr : Int) : Bool := if 0 < hr then decide (hr ≤ mSh n H x (-1)) else decide (-hr ≤ mSh n H x 1)
set_option maxRecDepth 100000 in
set_option maxHeartbeats 4000000 in
theorem c_X1_isShaded {d : Nat} {h : fwH} {Q : Option fwV → fwH → Prop} (i : Nat) (x y : Int) (hi : i < 6) (hG : gOk h i) (hx : -2147483648 ≤ x ∧ x < 2147483648) (hy : -1000 ≤ y ∧ y ≤ 1000) (k : Q (some (aI (fwB (mShadeB (h 4 i 1) (h 17 i) x y = true)))) h) : fwCt mX1_isShaded (d + 1) [aR 4 i, aI x, aI y] h Q := by
  refine fwCt_of [some (aR 4 i), some (aI x), some (aI y)] rfl rfl rfl ?_
  obtain ⟨⟨g1, g2⟩, ⟨g3, g4⟩, ⟨g5, g6⟩, g7, g8⟩ := id hG
  refine w_iload_n dX1_isShaded_0 rfl ?_
  refine w_if_le 22 dX1_isShaded_1 (by decide) (by omega) (fun c1 => ?_) (fun c1 => ?_)
  · refine w_iload_n dX1_isShaded_22 rfl ?_
    refine w_ineg dX1_isShaded_23 ?_
    refine w_aload_n dX1_isShaded_24 rfl ?_
    refine w_iload_n dX1_isShaded_25 rfl ?_
    refine w_iconst dX1_isShaded_26 ?_
    refine w_callV (d := d + 0) (S := [aI (-y)]) [aI x, aI 1] dX1_isShaded_27 ml_X1_37 ok_X1_shadedHours vi_X1_shadedHours rfl rfl hi rfl (Nat.le_of_ble_eq_true rfl) ?_
    refine c_X1_shadedHours (d := d) i x 1 hi (by first | assumption | omega | decide) (by first | assumption | omega | decide) (by first | assumption | omega | decide) ?_
    show fwWP mX1_isShaded (d + 1) 30 [some (aR 4 i), some (aI x), some (aI y)] [aI (mSh (h 4 i 1) (h 17 i) x 1), aI (-y)] h Q
    have hs2 := mSh_rng (n := (h 4 i 1)) (H := (h 17 i)) (x := x) (st := 1) (by omega) (by assumption)
    refine w_icmp_gt 37 dX1_isShaded_30 (by decide) (by omega) (by omega) (fun c30 => ?_) (fun c30 => ?_)
    · refine w_iconst dX1_isShaded_37 ?_
      exact w_zretE (P := mShadeB (h 4 i 1) (h 17 i) x y = true) dX1_isShaded_38 rfl (by unfold mShadeB; first | (rw [if_pos (by omega)]; first | (rw [fwB_t (by simp only [decide_eq_true_eq]; omega)]) | (rw [fwB_f (by simp only [decide_eq_true_eq]; omega)])) | (rw [if_neg (by omega)]; first | (rw [fwB_t (by simp only [decide_eq_true_eq]; omega)]) | (rw [fwB_f (by simp only [decide_eq_true_eq]; omega)]))) k
    · refine w_iconst dX1_isShaded_33 ?_
      refine w_goto 38 dX1_isShaded_34 (by decide) ?_
      exact w_zretE (P := mShadeB (h 4 i 1) (h 17 i) x y = true) dX1_isShaded_38 rfl (by unfold mShadeB; first | (rw [if_pos (by omega)]; first | (rw [fwB_t (by simp only [decide_eq_true_eq]; omega)]) | (rw [fwB_f (by simp only [decide_eq_true_eq]; omega)])) | (rw [if_neg (by omega)]; first | (rw [fwB_t (by simp only [decide_eq_true_eq]; omega)]) | (rw [fwB_f (by simp only [decide_eq_true_eq]; omega)]))) k
  · refine w_iload_n dX1_isShaded_4 rfl ?_
    refine w_aload_n dX1_isShaded_5 rfl ?_
    refine w_iload_n dX1_isShaded_6 rfl ?_
    refine w_iconst dX1_isShaded_7 ?_
    refine w_callV (d := d + 0) (S := [aI y]) [aI x, aI (-1)] dX1_isShaded_8 ml_X1_37 ok_X1_shadedHours vi_X1_shadedHours rfl rfl hi rfl (Nat.le_of_ble_eq_true rfl) ?_
    refine c_X1_shadedHours (d := d) i x (-1) hi (by first | assumption | omega | decide) (by first | assumption | omega | decide) (by first | assumption | omega | decide) ?_
    show fwWP mX1_isShaded (d + 1) 11 [some (aR 4 i), some (aI x), some (aI y)] [aI (mSh (h 4 i 1) (h 17 i) x (-1)), aI y] h Q
    have hs4 := mSh_rng (n := (h 4 i 1)) (H := (h 17 i)) (x := x) (st := (-1)) (by omega) (by assumption)
    refine w_icmp_gt 18 dX1_isShaded_11 (by decide) (by omega) (by omega) (fun c11 => ?_) (fun c11 => ?_)
    · refine w_iconst dX1_isShaded_18 ?_
      refine w_goto 38 dX1_isShaded_19 (by decide) ?_
      exact w_zretE (P := mShadeB (h 4 i 1) (h 17 i) x y = true) dX1_isShaded_38 rfl (by unfold mShadeB; first | (rw [if_pos (by omega)]; first | (rw [fwB_t (by simp only [decide_eq_true_eq]; omega)]) | (rw [fwB_f (by simp only [decide_eq_true_eq]; omega)])) | (rw [if_neg (by omega)]; first | (rw [fwB_t (by simp only [decide_eq_true_eq]; omega)]) | (rw [fwB_f (by simp only [decide_eq_true_eq]; omega)]))) k
    · refine w_iconst dX1_isShaded_14 ?_
      refine w_goto 38 dX1_isShaded_15 (by decide) ?_
      exact w_zretE (P := mShadeB (h 4 i 1) (h 17 i) x y = true) dX1_isShaded_38 rfl (by unfold mShadeB; first | (rw [if_pos (by omega)]; first | (rw [fwB_t (by simp only [decide_eq_true_eq]; omega)]) | (rw [fwB_f (by simp only [decide_eq_true_eq]; omega)])) | (rw [if_neg (by omega)]; first | (rw [fwB_t (by simp only [decide_eq_true_eq]; omega)]) | (rw [fwB_f (by simp only [decide_eq_true_eq]; omega)]))) k
set_option maxRecDepth 100000 in
set_option maxHeartbeats 4000000 in
theorem c_X1_lightOf {d : Nat} {h : fwH} {Q : Option fwV → fwH → Prop} (i : Nat) (x : Int) (hi : i < 6) (hG : gOk h i) (hx : -2147483648 ≤ x ∧ x < 2147483648) (k : Q (some (aI (18 - mSh (h 4 i 1) (h 17 i) x (-1) - mSh (h 4 i 1) (h 17 i) x 1))) h) : fwCt mX1_lightOf (d + 1) [aR 4 i, aI x] h Q := by
  refine fwCt_of [some (aR 4 i), some (aI x)] rfl rfl rfl ?_
  obtain ⟨⟨g1, g2⟩, ⟨g3, g4⟩, ⟨g5, g6⟩, g7, g8⟩ := id hG
  refine w_bipush dX1_lightOf_0 rfl ?_
  refine w_aload_n dX1_lightOf_2 rfl ?_
  refine w_iload_n dX1_lightOf_3 rfl ?_
  refine w_iconst dX1_lightOf_4 ?_
  refine w_callV (d := d + 0) (S := [aI 18]) [aI x, aI (-1)] dX1_lightOf_5 ml_X1_37 ok_X1_shadedHours vi_X1_shadedHours rfl rfl hi rfl (Nat.le_of_ble_eq_true rfl) ?_
  refine c_X1_shadedHours (d := d) i x (-1) hi (by first | assumption | omega | decide) (by first | assumption | omega | decide) (by first | assumption | omega | decide) ?_
  show fwWP mX1_lightOf (d + 1) 8 [some (aR 4 i), some (aI x)] [aI (mSh (h 4 i 1) (h 17 i) x (-1)), aI 18] h Q
  have hs1 := mSh_rng (n := (h 4 i 1)) (H := (h 17 i)) (x := x) (st := (-1)) (by omega) (by assumption)
  refine w_isub dX1_lightOf_8 ?_
  refine w_aload_n dX1_lightOf_9 rfl ?_
  refine w_iload_n dX1_lightOf_10 rfl ?_
  refine w_iconst dX1_lightOf_11 ?_
  refine w_callV (d := d + 0) (S := [aI (18 - (mSh (h 4 i 1) (h 17 i) x (-1)))]) [aI x, aI 1] dX1_lightOf_12 ml_X1_37 ok_X1_shadedHours vi_X1_shadedHours rfl rfl hi rfl (Nat.le_of_ble_eq_true rfl) ?_
  refine c_X1_shadedHours (d := d) i x 1 hi (by first | assumption | omega | decide) (by first | assumption | omega | decide) (by first | assumption | omega | decide) ?_
  show fwWP mX1_lightOf (d + 1) 15 [some (aR 4 i), some (aI x)] [aI (mSh (h 4 i 1) (h 17 i) x 1), aI (18 - (mSh (h 4 i 1) (h 17 i) x (-1)))] h Q
  have hs2 := mSh_rng (n := (h 4 i 1)) (H := (h 17 i)) (x := x) (st := 1) (by omega) (by assumption)
  refine w_isub dX1_lightOf_15 ?_
  exact w_iretE dX1_lightOf_16 rfl (by rfl) k
set_option maxRecDepth 100000 in
set_option maxHeartbeats 4000000 in
theorem c_X1_shadedCells {d : Nat} {h : fwH} {Q : Option fwV → fwH → Prop} (i : Nat) (y : Int) (hi : i < 6) (hG : gOk h i) (hy : -1000 ≤ y ∧ y ≤ 1000) (k : Q (some (aI (mBits (fun c => mShadeB (h 4 i 1) (h 17 i) (c : Int) y) (h 4 i 1).toNat))) h) : fwCt mX1_shadedCells (d + 2) [aR 4 i, aI y] h Q := by
  refine fwCt_of [some (aR 4 i), some (aI y), none, none] rfl rfl rfl ?_
  obtain ⟨⟨g1, g2⟩, ⟨g3, g4⟩, ⟨g5, g6⟩, g7, g8⟩ := id hG
  refine w_iconst dX1_shadedCells_0 ?_
  refine w_istore_n [some (aR 4 i), some (aI y), some (aI 0), none] dX1_shadedCells_1 rfl (by decide) ?_
  refine w_iconst dX1_shadedCells_2 ?_
  refine w_istore_n [some (aR 4 i), some (aI y), some (aI 0), some (aI 0)] dX1_shadedCells_3 rfl (by decide) ?_
  have lp4 : ∀ c : Nat, c ≤ (h 4 i 1).toNat → ∀ (y4 bi : Int), y4 = (c : Int) → bi = mBits (fun c => mShadeB (h 4 i 1) (h 17 i) (c : Int) y) c → fwWP mX1_shadedCells (d + 2) 4 [some (aR 4 i), some (aI y), some (aI bi), some (aI y4)] [] h Q := by
    refine fw_up (fun c hc4 ih4 => ?_)
    intro y4 bi ey4 e_bi
    subst ey4
    subst e_bi
    show fwWP mX1_shadedCells (d + 2) 4 [some (aR 4 i), some (aI y), some (aI (mBits (fun c => mShadeB (h 4 i 1) (h 17 i) (c : Int) y) c)), some (aI (c : Int))] [] h Q
    refine w_iload_n dX1_shadedCells_4 rfl ?_
    refine w_aload_n dX1_shadedCells_5 rfl ?_
    refine w_geti dX1_shadedCells_6 fl_X1_15 rfl hi ?_
    refine w_icmp_ge 33 dX1_shadedCells_9 (by decide) (by omega) (by omega) (fun c9 => ?_) (fun c9 => ?_)
    · have ec4 : (h 4 i 1).toNat = c := by omega
      subst ec4
      refine w_iload_n dX1_shadedCells_33 rfl ?_
      exact w_iretE dX1_shadedCells_34 rfl (by rfl) k
    · refine w_aload_n dX1_shadedCells_12 rfl ?_
      refine w_iload_n dX1_shadedCells_13 rfl ?_
      refine w_iload_n dX1_shadedCells_14 rfl ?_
      refine w_callV (d := d + 1) (S := []) [aI (c : Int), aI y] dX1_shadedCells_15 ml_X1_41 ok_X1_isShaded vi_X1_isShaded rfl rfl hi rfl (Nat.le_of_ble_eq_true rfl) ?_
      refine c_X1_isShaded (d := d) i (c : Int) y hi (by first | assumption | omega | decide) (by first | assumption | omega | decide) (by first | assumption | omega | decide) ?_
      show fwWP mX1_shadedCells (d + 2) 18 [some (aR 4 i), some (aI y), some (aI (mBits (fun c => mShadeB (h 4 i 1) (h 17 i) (c : Int) y) c)), some (aI (c : Int))] [aI (fwB (mShadeB (h 4 i 1) (h 17 i) (c : Int) y = true))] h Q
      refine w_ifB_eq 27 dX1_shadedCells_18 (by decide) (fun c18 => ?_) (fun c18 => ?_)
      · refine w_iinc [some (aR 4 i), some (aI y), some (aI (mBits (fun c => mShadeB (h 4 i 1) (h 17 i) (c : Int) y) c)), some (aI ((c : Int) + 1))] dX1_shadedCells_27 rfl rfl (by decide) ?_
        refine w_goto 4 dX1_shadedCells_30 (by decide) ?_
        refine ih4 (by omega) _ _ ?_ ?_
        · exact (by omega)
        · exact (by rw [mBits]; first | rw [if_pos (by assumption)] | rw [if_neg (by assumption)])
      · refine w_iload_n dX1_shadedCells_21 rfl ?_
        refine w_iconst dX1_shadedCells_22 ?_
        refine w_iload_n dX1_shadedCells_23 rfl ?_
        refine w_ishl dX1_shadedCells_24 ?_
        refine w_ior dX1_shadedCells_25 ?_
        refine w_istore_n [some (aR 4 i), some (aI y), some (aI (fwOr (mBits (fun c => mShadeB (h 4 i 1) (h 17 i) (c : Int) y) c) (fwShl 1 (c : Int)))), some (aI (c : Int))] dX1_shadedCells_26 rfl (by decide) ?_
        refine w_iinc [some (aR 4 i), some (aI y), some (aI (fwOr (mBits (fun c => mShadeB (h 4 i 1) (h 17 i) (c : Int) y) c) (fwShl 1 (c : Int)))), some (aI ((c : Int) + 1))] dX1_shadedCells_27 rfl rfl (by decide) ?_
        refine w_goto 4 dX1_shadedCells_30 (by decide) ?_
        refine ih4 (by omega) _ _ ?_ ?_
        · exact (by omega)
        · exact (by rw [mBits]; first | rw [if_pos (by assumption)] | rw [if_neg (by assumption)])
  refine lp4 0 (Nat.zero_le _) _ _ ?_ ?_
  · exact (by omega)
  · exact rfl
set_option maxRecDepth 100000 in
set_option maxHeartbeats 4000000 in
theorem c_X1_clear {d : Nat} {h : fwH} {Q : Option fwV → fwH → Prop} (i : Nat) (hi : i < 6) (k : Q none (fwUc h 4 i (fun _ => 0))) : fwCt mX1_clear (d + 0) [aR 4 i] h Q := by
  refine fwCt_of [some (aR 4 i)] rfl rfl rfl ?_
  refine w_aload_n dX1_clear_0 rfl ?_
  refine w_iconst dX1_clear_1 ?_
  refine w_puti dX1_clear_2 fl_X1_15 fp_4_1 rfl hi ?_
  refine w_aload_n dX1_clear_5 rfl ?_
  refine w_iconst dX1_clear_6 ?_
  refine w_puti dX1_clear_7 fl_X1_19 fp_4_2 rfl hi ?_
  refine w_aload_n dX1_clear_10 rfl ?_
  refine w_iconst dX1_clear_11 ?_
  refine w_puti dX1_clear_12 fl_X1_22 fp_4_3 rfl hi ?_
  refine w_aload_n dX1_clear_15 rfl ?_
  refine w_iconst dX1_clear_16 ?_
  refine w_putz dX1_clear_17 fl_X1_25 fp_4_4 rfl (by first | omega | exact fwB_01 _) hi ?_
  refine w_heq (fwUc h 4 i (fun _ => 0)) ?_ ?_
  · intro a b s hb hs hr
    simp only [fwUp, fwUc]
    by_cases e : a = 4 ∧ b = i
    · obtain ⟨rfl, rfl⟩ := e
      rcases (show s = 0 ∨ s = 1 ∨ s = 2 ∨ s = 3 ∨ s = 4 by have : s < 5 := hs; omega) with rfl | rfl | rfl | rfl | rfl
      · cases hr
      all_goals simp
    · simp only [e, if_false]
      repeat rw [if_neg (fun q => e ⟨q.1, q.2.1⟩)]
  · exact w_vret dX1_clear_20 rfl k
set_option maxRecDepth 100000 in
set_option maxHeartbeats 4000000 in
theorem c_X1_copyFrom {d : Nat} {h : fwH} {Q : Option fwV → fwH → Prop} (i j : Nat) (hi : i < 6) (hj : j < 6) (hij : i ≠ j) (hz : h 4 j 4 = 0 ∨ h 4 j 4 = 1) (k : Q none (fwUc (fwUc h 17 i (h 17 j)) 4 i (h 4 j))) : fwCt mX1_copyFrom (d + 0) [aR 4 i, aR 4 j] h Q := by
  refine fwCt_of [some (aR 4 i), some (aR 4 j), none] rfl rfl rfl ?_
  refine w_iconst dX1_copyFrom_0 ?_
  refine w_istore_n [some (aR 4 i), some (aR 4 j), some (aI 0)] dX1_copyFrom_1 rfl (by decide) ?_
  have lp2 : ∀ c : Nat, c ≤ 10 → ∀ (y2  : Int) (hh2 : fwH), y2 = (c : Int) → hh2 = (fwUc h 17 i (fwFl (h 17 j) (h 17 i) c)) → fwWP mX1_copyFrom (d + 0) 2 [some (aR 4 i), some (aR 4 j), some (aI y2)] [] hh2 Q := by
    refine fw_up (fun c hc2 ih2 => ?_)
    intro y2  hh2 ey2 eh2
    subst ey2
    subst eh2
    show fwWP mX1_copyFrom (d + 0) 2 [some (aR 4 i), some (aR 4 j), some (aI (c : Int))] [] (fwUc h 17 i (fwFl (h 17 j) (h 17 i) c)) Q
    refine w_iload_n dX1_copyFrom_2 rfl ?_
    refine w_bipush dX1_copyFrom_3 rfl ?_
    refine w_icmp_ge 26 dX1_copyFrom_5 (by decide) (by omega) (by omega) (fun c5 => ?_) (fun c5 => ?_)
    · have ec2 : 10 = c := by omega
      subst ec2
      refine w_aload_n dX1_copyFrom_26 rfl ?_
      refine w_aload_n dX1_copyFrom_27 rfl ?_
      refine w_getiE (v := h 4 j 1) dX1_copyFrom_28 fl_X1_15 rfl hj (by simp only [fwUp, fwUc]; simp) ?_
      refine w_puti dX1_copyFrom_31 fl_X1_15 fp_4_1 rfl hi ?_
      refine w_aload_n dX1_copyFrom_34 rfl ?_
      refine w_aload_n dX1_copyFrom_35 rfl ?_
      refine w_getiE (v := h 4 j 2) dX1_copyFrom_36 fl_X1_19 rfl hj (by simp only [fwUp, fwUc]; simp) ?_
      refine w_puti dX1_copyFrom_39 fl_X1_19 fp_4_2 rfl hi ?_
      refine w_aload_n dX1_copyFrom_42 rfl ?_
      refine w_aload_n dX1_copyFrom_43 rfl ?_
      refine w_getiE (v := h 4 j 3) dX1_copyFrom_44 fl_X1_22 rfl hj (by simp only [fwUp, fwUc]; simp) ?_
      refine w_puti dX1_copyFrom_47 fl_X1_22 fp_4_3 rfl hi ?_
      refine w_aload_n dX1_copyFrom_50 rfl ?_
      refine w_aload_n dX1_copyFrom_51 rfl ?_
      refine w_getiE (v := h 4 j 4) dX1_copyFrom_52 fl_X1_25 rfl hj (by simp only [fwUp, fwUc]; simp) ?_
      refine w_putz dX1_copyFrom_55 fl_X1_25 fp_4_4 rfl hz hi ?_
      refine w_heq (fwUc (fwUc h 17 i (h 17 j)) 4 i (h 4 j)) ?_ ?_
      · intro a b s hb hs hr
        simp only [fwUp, fwUc]
        by_cases e : a = 4 ∧ b = i
        · obtain ⟨rfl, rfl⟩ := e
          rcases (show s = 0 ∨ s = 1 ∨ s = 2 ∨ s = 3 ∨ s = 4 by have : s < 5 := hs; omega) with rfl | rfl | rfl | rfl | rfl
          · cases hr
          all_goals simp
        · by_cases e2 : a = 17 ∧ b = i
          · obtain ⟨rfl, rfl⟩ := e2
            have : s < 10 := hs
            simp [fwFl, this]
          · simp only [e, e2, if_false]
            repeat rw [if_neg (fun q => e ⟨q.1, q.2.1⟩)]
      · exact w_vret dX1_copyFrom_58 rfl k
    · refine w_aload_n dX1_copyFrom_8 rfl ?_
      refine w_getr 17 i dX1_copyFrom_9 fl_X1_9 rfl hi ?_
      refine w_iload_n dX1_copyFrom_12 rfl ?_
      refine w_aload_n dX1_copyFrom_13 rfl ?_
      refine w_getr 17 j dX1_copyFrom_14 fl_X1_9 rfl hj ?_
      refine w_iload_n dX1_copyFrom_17 rfl ?_
      refine w_ialdE (v := h 17 j c) dX1_copyFrom_18 rfl hj (by omega) (by omega) (by rw [fwUc_ne (fun q => hij q.2.symm)]; rfl) ?_
      refine w_iast dX1_copyFrom_19 rfl hi (by omega) (by omega) ?_
      refine w_iinc [some (aR 4 i), some (aR 4 j), some (aI ((c : Int) + 1))] dX1_copyFrom_20 rfl rfl (by decide) ?_
      refine w_goto 2 dX1_copyFrom_23 (by decide) ?_
      refine ih2 (by omega) _ _ ?_ ?_
      · exact (by omega)
      · exact (by rw [fwUp_uc, Int.toNat_natCast, fwFl_succ])
  refine lp2 0 (Nat.zero_le _) _ _ ?_ ?_
  · exact (by omega)
  · exact (by rw [fwFl_0, fwUc_self])
set_option maxRecDepth 100000 in
set_option maxHeartbeats 4000000 in
theorem c_X1_addCell {d : Nat} {h : fwH} {Q : Option fwV → fwH → Prop} (i : Nat) (x : Int) (hi : i < 6) (h0 : 0 ≤ h 4 i 1) (h1 : h 4 i 1 < 10) (k : Q none (fwUp (fwUp h 17 i (h 4 i 1).toNat x) 4 i 1 (h 4 i 1 + 1))) : fwCt mX1_addCell (d + 0) [aR 4 i, aI x] h Q := by
  refine fwCt_of [some (aR 4 i), some (aI x)] rfl rfl rfl ?_
  refine w_aload_n dX1_addCell_0 rfl ?_
  refine w_geti dX1_addCell_1 fl_X1_15 rfl hi ?_
  refine w_if_lt 39 dX1_addCell_4 (by decide) (by omega) (fun c4 => ?_) (fun c4 => ?_)
  · (exfalso; omega)
  · refine w_aload_n dX1_addCell_7 rfl ?_
    refine w_geti dX1_addCell_8 fl_X1_15 rfl hi ?_
    refine w_aload_n dX1_addCell_11 rfl ?_
    refine w_getr 17 i dX1_addCell_12 fl_X1_9 rfl hi ?_
    refine w_alen dX1_addCell_15 rfl (by decide) hi ?_
    refine w_icmp_ge 39 dX1_addCell_16 (by decide) (by omega) (by omega) (fun c16 => ?_) (fun c16 => ?_)
    · (exfalso; omega)
    · refine w_aload_n dX1_addCell_19 rfl ?_
      refine w_getr 17 i dX1_addCell_20 fl_X1_9 rfl hi ?_
      refine w_aload_n dX1_addCell_23 rfl ?_
      refine w_geti dX1_addCell_24 fl_X1_15 rfl hi ?_
      refine w_iload_n dX1_addCell_27 rfl ?_
      refine w_iast dX1_addCell_28 rfl hi (by omega) (by omega) ?_
      refine w_aload_n dX1_addCell_29 rfl ?_
      refine w_dup dX1_addCell_30 rfl ?_
      refine w_getiE (v := h 4 i 1) dX1_addCell_31 fl_X1_15 rfl hi rfl ?_
      refine w_iconst dX1_addCell_34 ?_
      refine w_iadd dX1_addCell_35 ?_
      refine w_puti dX1_addCell_36 fl_X1_15 fp_4_1 rfl hi ?_
      exact w_vret dX1_addCell_39 rfl k
end
section
/-! FootLower$People -/
def pOk (h : fwH) (p : Nat) : Prop := (0 ≤ h 5 p 3 ∧ h 5 p 3 ≤ 8) ∧ ∀ f : Nat, f < 8 → (0 ≤ h 18 p (7 * f) ∧ h 18 p (7 * f) < 10) ∧ (0 ≤ h 18 p (7 * f + 1) ∧ h 18 p (7 * f + 1) ≤ 99) ∧ (0 ≤ h 18 p (7 * f + 2) ∧ h 18 p (7 * f + 2) ≤ 9) ∧ (0 ≤ h 18 p (7 * f + 3) ∧ h 18 p (7 * f + 3) ≤ 9) ∧ (0 ≤ h 18 p (7 * f + 4) ∧ h 18 p (7 * f + 4) ≤ 9) ∧ (0 ≤ h 18 p (7 * f + 5) ∧ h 18 p (7 * f + 5) ≤ 7) ∧ (0 ≤ h 18 p (7 * f + 6) ∧ h 18 p (7 * f + 6) ≤ 255)
set_option maxRecDepth 100000 in
set_option maxHeartbeats 4000000 in
theorem c_X3_has {d : Nat} {h : fwH} {Q : Option fwV → fwH → Prop} (p : Nat) (x : Int) (hp : p < 5) (hP : pOk h p) (hx : -2147483648 ≤ x ∧ x < 2147483648) (k : Q (some (aI (fwB (0 ≤ x ∧ x < h 5 p 3)))) h) : fwCt mX3_has (d + 0) [aR 5 p, aI x] h Q := by
  refine fwCt_of [some (aR 5 p), some (aI x)] rfl rfl rfl ?_
  obtain ⟨⟨p1, p2⟩, p3⟩ := id hP
  refine w_iload_n dX3_has_0 rfl ?_
  refine w_if_lt 22 dX3_has_1 (by decide) (by omega) (fun c1 => ?_) (fun c1 => ?_)
  · refine w_iconst dX3_has_22 ?_
    exact w_zretE dX3_has_23 rfl (by first | (exfalso; omega) | (rw [fwB_t (by omega)]) | (rw [fwB_f (by omega)])) k
  · refine w_iload_n dX3_has_4 rfl ?_
    refine w_aload_n dX3_has_5 rfl ?_
    refine w_geti dX3_has_6 fl_X3_21 rfl hp ?_
    refine w_icmp_ge 22 dX3_has_9 (by decide) (by omega) (by omega) (fun c9 => ?_) (fun c9 => ?_)
    · refine w_iconst dX3_has_22 ?_
      exact w_zretE dX3_has_23 rfl (by first | (exfalso; omega) | (rw [fwB_t (by omega)]) | (rw [fwB_f (by omega)])) k
    · refine w_iload_n dX3_has_12 rfl ?_
      refine w_bipush dX3_has_13 rfl ?_
      refine w_icmp_ge 22 dX3_has_15 (by decide) (by omega) (by omega) (fun c15 => ?_) (fun c15 => ?_)
      · refine w_iconst dX3_has_22 ?_
        exact w_zretE dX3_has_23 rfl (by first | (exfalso; omega) | (rw [fwB_t (by omega)]) | (rw [fwB_f (by omega)])) k
      · refine w_iconst dX3_has_18 ?_
        refine w_goto 23 dX3_has_19 (by decide) ?_
        exact w_zretE dX3_has_23 rfl (by first | (exfalso; omega) | (rw [fwB_t (by omega)]) | (rw [fwB_f (by omega)])) k
set_option maxRecDepth 100000 in
set_option maxHeartbeats 4000000 in
theorem c_X3_fact {d : Nat} {h : fwH} {Q : Option fwV → fwH → Prop} (p f w : Nat) (hp : p < 5) (hf : f < 8) (hw : w < 7) (k : Q (some (aI (h 18 p (7 * f + w)))) h) : fwCt mX3_fact (d + 0) [aR 5 p, aI (f : Int), aI (w : Int)] h Q := by
  refine fwCt_of [some (aR 5 p), some (aI (f : Int)), some (aI (w : Int)), none] rfl rfl rfl ?_
  refine w_iload_n dX3_fact_0 rfl ?_
  refine w_if_lt 24 dX3_fact_1 (by decide) (by omega) (fun c1 => ?_) (fun c1 => ?_)
  · (exfalso; omega)
  · refine w_iload_n dX3_fact_4 rfl ?_
    refine w_bipush dX3_fact_5 rfl ?_
    refine w_icmp_ge 24 dX3_fact_7 (by decide) (by omega) (by omega) (fun c7 => ?_) (fun c7 => ?_)
    · (exfalso; omega)
    · refine w_iload_n dX3_fact_10 rfl ?_
      refine w_if_lt 24 dX3_fact_11 (by decide) (by omega) (fun c11 => ?_) (fun c11 => ?_)
      · (exfalso; omega)
      · refine w_iload_n dX3_fact_14 rfl ?_
        refine w_bipush dX3_fact_15 rfl ?_
        refine w_icmp_ge 24 dX3_fact_17 (by decide) (by omega) (by omega) (fun c17 => ?_) (fun c17 => ?_)
        · (exfalso; omega)
        · refine w_iconst dX3_fact_20 ?_
          refine w_goto 25 dX3_fact_21 (by decide) ?_
          refine w_istore_n [some (aR 5 p), some (aI (f : Int)), some (aI (w : Int)), some (aI 1)] dX3_fact_25 rfl (by decide) ?_
          refine w_iload_n dX3_fact_26 rfl ?_
          refine w_if_eq 44 dX3_fact_27 (by decide) (by omega) (fun c27 => ?_) (fun c27 => ?_)
          · (exfalso; omega)
          · refine w_aload_n dX3_fact_30 rfl ?_
            refine w_getr 18 p dX3_fact_31 fl_X3_9 rfl hp ?_
            refine w_iload_n dX3_fact_34 rfl ?_
            refine w_bipush dX3_fact_35 rfl ?_
            refine w_imul dX3_fact_37 ?_
            refine w_iload_n dX3_fact_38 rfl ?_
            refine w_iadd dX3_fact_39 ?_
            refine w_ialdE (v := h 18 p (7 * f + w)) dX3_fact_40 rfl hp (by omega) (by omega) (by rw [show ((f : Int) * 7 + (w : Int)).toNat = 7 * f + w by omega]) ?_
            refine w_goto 45 dX3_fact_41 (by decide) ?_
            exact w_iretE dX3_fact_45 rfl (by rfl) k
theorem c_X3_factE {d : Nat} {h : fwH} {Q : Option fwV → fwH → Prop} (p f w : Nat) (x : Int) (e : x = (f : Int)) (hp : p < 5) (hf : f < 8) (hw : w < 7) (k : Q (some (aI (h 18 p (7 * f + w)))) h) : fwCt mX3_fact d [aR 5 p, aI x, aI (w : Int)] h Q := by
  subst e
  exact c_X3_fact p f w hp hf hw k
set_option maxRecDepth 100000 in
set_option maxHeartbeats 4000000 in
theorem c_X3_setFact {d : Nat} {h : fwH} {Q : Option fwV → fwH → Prop} (p f w : Nat) (x : Int) (hp : p < 5) (hf : f < 8) (hw : w < 7) (k : Q none (fwUp h 18 p (7 * f + w) x)) : fwCt mX3_setFact (d + 0) [aR 5 p, aI (f : Int), aI (w : Int), aI x] h Q := by
  refine fwCt_of [some (aR 5 p), some (aI (f : Int)), some (aI (w : Int)), some (aI x)] rfl rfl rfl ?_
  refine w_iload_n dX3_setFact_0 rfl ?_
  refine w_if_lt 32 dX3_setFact_1 (by decide) (by omega) (fun c1 => ?_) (fun c1 => ?_)
  · (exfalso; omega)
  · refine w_iload_n dX3_setFact_4 rfl ?_
    refine w_bipush dX3_setFact_5 rfl ?_
    refine w_icmp_ge 32 dX3_setFact_7 (by decide) (by omega) (by omega) (fun c7 => ?_) (fun c7 => ?_)
    · (exfalso; omega)
    · refine w_iload_n dX3_setFact_10 rfl ?_
      refine w_if_lt 32 dX3_setFact_11 (by decide) (by omega) (fun c11 => ?_) (fun c11 => ?_)
      · (exfalso; omega)
      · refine w_iload_n dX3_setFact_14 rfl ?_
        refine w_bipush dX3_setFact_15 rfl ?_
        refine w_icmp_ge 32 dX3_setFact_17 (by decide) (by omega) (by omega) (fun c17 => ?_) (fun c17 => ?_)
        · (exfalso; omega)
        · refine w_aload_n dX3_setFact_20 rfl ?_
          refine w_getr 18 p dX3_setFact_21 fl_X3_9 rfl hp ?_
          refine w_iload_n dX3_setFact_24 rfl ?_
          refine w_bipush dX3_setFact_25 rfl ?_
          refine w_imul dX3_setFact_27 ?_
          refine w_iload_n dX3_setFact_28 rfl ?_
          refine w_iadd dX3_setFact_29 ?_
          refine w_iload_n dX3_setFact_30 rfl ?_
          refine w_iast dX3_setFact_31 rfl hp (by omega) (by omega) ?_
          rw [show ((f : Int) * 7 + (w : Int)).toNat = 7 * f + w by omega]
          exact w_vret dX3_setFact_32 rfl k
set_option maxRecDepth 100000 in
set_option maxHeartbeats 4000000 in
theorem c_X3_befriend {d : Nat} {h : fwH} {Q : Option fwV → fwH → Prop} (p f g : Nat) (hp : p < 5) (hf : f < 8) (hg : g < 8) (k : Q none (fwUp (fwUp h 18 p (7 * f + 6) (fwOr (h 18 p (7 * f + 6)) (fwShl 1 (g : Int)))) 18 p (7 * g + 6) (fwOr ((fwUp h 18 p (7 * f + 6) (fwOr (h 18 p (7 * f + 6)) (fwShl 1 (g : Int)))) 18 p (7 * g + 6)) (fwShl 1 (f : Int))))) : fwCt mX3_befriend (d + 1) [aR 5 p, aI (f : Int), aI (g : Int)] h Q := by
  refine fwCt_of [some (aR 5 p), some (aI (f : Int)), some (aI (g : Int))] rfl rfl rfl ?_
  refine w_aload_n dX3_befriend_0 rfl ?_
  refine w_iload_n dX3_befriend_1 rfl ?_
  refine w_bipush dX3_befriend_2 rfl ?_
  refine w_aload_n dX3_befriend_4 rfl ?_
  refine w_iload_n dX3_befriend_5 rfl ?_
  refine w_bipush dX3_befriend_6 rfl ?_
  refine w_callV (d := d + 0) (S := [aI 6, aI (f : Int), aR 5 p]) [aI (f : Int), aI 6] dX3_befriend_8 ml_X3_25 ok_X3_fact vi_X3_fact rfl rfl hp rfl (Nat.le_of_ble_eq_true rfl) ?_
  refine c_X3_fact (d := d) p f 6 hp (by first | assumption | omega | decide) (by first | assumption | omega | decide) ?_
  show fwWP mX3_befriend (d + 1) 11 [some (aR 5 p), some (aI (f : Int)), some (aI (g : Int))] [aI (h 18 p (7 * f + 6)), aI 6, aI (f : Int), aR 5 p] h Q
  refine w_iconst dX3_befriend_11 ?_
  refine w_iload_n dX3_befriend_12 rfl ?_
  refine w_ishl dX3_befriend_13 ?_
  refine w_ior dX3_befriend_14 ?_
  refine w_callV (d := d + 0) (S := []) [aI (f : Int), aI 6, aI (fwOr (h 18 p (7 * f + 6)) (fwShl 1 (g : Int)))] dX3_befriend_15 ml_X3_29 ok_X3_setFact vi_X3_setFact rfl rfl hp rfl (Nat.le_of_ble_eq_true rfl) ?_
  refine c_X3_setFact (d := d) p f 6 (fwOr (h 18 p (7 * f + 6)) (fwShl 1 (g : Int))) hp (by first | assumption | omega | decide) (by first | assumption | omega | decide) ?_
  show fwWP mX3_befriend (d + 1) 18 [some (aR 5 p), some (aI (f : Int)), some (aI (g : Int))] [] (fwUp h 18 p (7 * f + 6) (fwOr (h 18 p (7 * f + 6)) (fwShl 1 (g : Int)))) Q
  refine w_aload_n dX3_befriend_18 rfl ?_
  refine w_iload_n dX3_befriend_19 rfl ?_
  refine w_bipush dX3_befriend_20 rfl ?_
  refine w_aload_n dX3_befriend_22 rfl ?_
  refine w_iload_n dX3_befriend_23 rfl ?_
  refine w_bipush dX3_befriend_24 rfl ?_
  refine w_callV (d := d + 0) (S := [aI 6, aI (g : Int), aR 5 p]) [aI (g : Int), aI 6] dX3_befriend_26 ml_X3_25 ok_X3_fact vi_X3_fact rfl rfl hp rfl (Nat.le_of_ble_eq_true rfl) ?_
  refine c_X3_fact (d := d) p g 6 hp (by first | assumption | omega | decide) (by first | assumption | omega | decide) ?_
  show fwWP mX3_befriend (d + 1) 29 [some (aR 5 p), some (aI (f : Int)), some (aI (g : Int))] [aI ((fwUp h 18 p (7 * f + 6) (fwOr (h 18 p (7 * f + 6)) (fwShl 1 (g : Int)))) 18 p (7 * g + 6)), aI 6, aI (g : Int), aR 5 p] (fwUp h 18 p (7 * f + 6) (fwOr (h 18 p (7 * f + 6)) (fwShl 1 (g : Int)))) Q
  refine w_iconst dX3_befriend_29 ?_
  refine w_iload_n dX3_befriend_30 rfl ?_
  refine w_ishl dX3_befriend_31 ?_
  refine w_ior dX3_befriend_32 ?_
  refine w_callV (d := d + 0) (S := []) [aI (g : Int), aI 6, aI (fwOr ((fwUp h 18 p (7 * f + 6) (fwOr (h 18 p (7 * f + 6)) (fwShl 1 (g : Int)))) 18 p (7 * g + 6)) (fwShl 1 (f : Int)))] dX3_befriend_33 ml_X3_29 ok_X3_setFact vi_X3_setFact rfl rfl hp rfl (Nat.le_of_ble_eq_true rfl) ?_
  refine c_X3_setFact (d := d) p g 6 (fwOr ((fwUp h 18 p (7 * f + 6) (fwOr (h 18 p (7 * f + 6)) (fwShl 1 (g : Int)))) 18 p (7 * g + 6)) (fwShl 1 (f : Int))) hp (by first | assumption | omega | decide) (by first | assumption | omega | decide) ?_
  show fwWP mX3_befriend (d + 1) 36 [some (aR 5 p), some (aI (f : Int)), some (aI (g : Int))] [] (fwUp (fwUp h 18 p (7 * f + 6) (fwOr (h 18 p (7 * f + 6)) (fwShl 1 (g : Int)))) 18 p (7 * g + 6) (fwOr ((fwUp h 18 p (7 * f + 6) (fwOr (h 18 p (7 * f + 6)) (fwShl 1 (g : Int)))) 18 p (7 * g + 6)) (fwShl 1 (f : Int)))) Q
  exact w_vret dX3_befriend_36 rfl (k)
theorem fwFl_all {g f : Nat → Int} {n : Nat} {h : fwH} {k i : Nat} (hl : fwLim k ≤ n) : fwE (fwUc h k i (fwFl g f n)) (fwUc h k i g) := fwE_uc (fun s hs _ => fwFl_lt (by omega))
set_option maxRecDepth 100000 in
set_option maxHeartbeats 4000000 in
theorem c_X3_clear {d : Nat} {h : fwH} {Q : Option fwV → fwH → Prop} (p : Nat) (hp : p < 5) (k : Q none (fwUc (fwUp h 5 p 3 0) 18 p (fun _ => 0))) : fwCt mX3_clear (d + 0) [aR 5 p] h Q := by
  refine fwCt_of [some (aR 5 p), none] rfl rfl rfl ?_
  refine w_aload_n dX3_clear_0 rfl ?_
  refine w_iconst dX3_clear_1 ?_
  refine w_puti dX3_clear_2 fl_X3_21 fp_5_3 rfl hp ?_
  refine w_iconst dX3_clear_5 ?_
  refine w_istore_n [some (aR 5 p), some (aI 0)] dX3_clear_6 rfl (by decide) ?_
  have lp7 : ∀ c : Nat, c ≤ 56 → ∀ (y7  : Int) (hh7 : fwH), y7 = (c : Int) → hh7 = (fwUc (fwUp h 5 p 3 0) 18 p (fwFl (fun _ => 0) (h 18 p) c)) → fwWP mX3_clear (d + 0) 7 [some (aR 5 p), some (aI y7)] [] hh7 Q := by
    refine fw_up (fun c hc7 ih7 => ?_)
    intro y7  hh7 ey7 eh7
    subst ey7
    subst eh7
    show fwWP mX3_clear (d + 0) 7 [some (aR 5 p), some (aI (c : Int))] [] (fwUc (fwUp h 5 p 3 0) 18 p (fwFl (fun _ => 0) (h 18 p) c)) Q
    refine w_iload_n dX3_clear_7 rfl ?_
    refine w_aload_n dX3_clear_8 rfl ?_
    refine w_getr 18 p dX3_clear_9 fl_X3_9 rfl hp ?_
    refine w_alen dX3_clear_12 rfl (by decide) hp ?_
    refine w_icmp_ge 29 dX3_clear_13 (by decide) (by omega) (by omega) (fun c13 => ?_) (fun c13 => ?_)
    · have ec7 : 56 = c := by omega
      subst ec7
      refine w_heq _ (fwFl_all (by decide)) ?_
      exact w_vret dX3_clear_29 rfl k
    · refine w_aload_n dX3_clear_16 rfl ?_
      refine w_getr 18 p dX3_clear_17 fl_X3_9 rfl hp ?_
      refine w_iload_n dX3_clear_20 rfl ?_
      refine w_iconst dX3_clear_21 ?_
      refine w_iast dX3_clear_22 rfl hp (by omega) (by omega) ?_
      refine w_iinc [some (aR 5 p), some (aI ((c : Int) + 1))] dX3_clear_23 rfl rfl (by decide) ?_
      refine w_goto 7 dX3_clear_26 (by decide) ?_
      refine ih7 (by omega) _ _ ?_ ?_
      · exact (by omega)
      · exact (by rw [fwUp_uc, Int.toNat_natCast]; exact congrArg _ (fwFl_succ (fun _ => 0) (h 18 p) c))
  refine lp7 0 (Nat.zero_le _) _ _ ?_ ?_
  · exact (by omega)
  · exact (by rw [fwFl_0]; exact (fwUc_self _ 18 p).symm)
set_option maxRecDepth 100000 in
set_option maxHeartbeats 4000000 in
theorem c_X3_copyFrom {d : Nat} {h : fwH} {Q : Option fwV → fwH → Prop} (p q : Nat) (hp : p < 5) (hq : q < 5) (hpq : p ≠ q) (k : Q none (fwUp (fwUc h 18 p (h 18 q)) 5 p 3 (h 5 q 3))) : fwCt mX3_copyFrom (d + 0) [aR 5 p, aR 5 q] h Q := by
  refine fwCt_of [some (aR 5 p), some (aR 5 q), none] rfl rfl rfl ?_
  refine w_iconst dX3_copyFrom_0 ?_
  refine w_istore_n [some (aR 5 p), some (aR 5 q), some (aI 0)] dX3_copyFrom_1 rfl (by decide) ?_
  have lp2 : ∀ c : Nat, c ≤ 56 → ∀ (y2  : Int) (hh2 : fwH), y2 = (c : Int) → hh2 = (fwUc h 18 p (fwFl (h 18 q) (h 18 p) c)) → fwWP mX3_copyFrom (d + 0) 2 [some (aR 5 p), some (aR 5 q), some (aI y2)] [] hh2 Q := by
    refine fw_up (fun c hc2 ih2 => ?_)
    intro y2  hh2 ey2 eh2
    subst ey2
    subst eh2
    show fwWP mX3_copyFrom (d + 0) 2 [some (aR 5 p), some (aR 5 q), some (aI (c : Int))] [] (fwUc h 18 p (fwFl (h 18 q) (h 18 p) c)) Q
    refine w_iload_n dX3_copyFrom_2 rfl ?_
    refine w_aload_n dX3_copyFrom_3 rfl ?_
    refine w_getr 18 p dX3_copyFrom_4 fl_X3_9 rfl hp ?_
    refine w_alen dX3_copyFrom_7 rfl (by decide) hp ?_
    refine w_icmp_ge 29 dX3_copyFrom_8 (by decide) (by omega) (by omega) (fun c8 => ?_) (fun c8 => ?_)
    · have ec2 : 56 = c := by omega
      subst ec2
      refine w_heq _ (fwFl_all (by decide)) ?_
      refine w_aload_n dX3_copyFrom_29 rfl ?_
      refine w_aload_n dX3_copyFrom_30 rfl ?_
      refine w_getiE (v := h 5 q 3) dX3_copyFrom_31 fl_X3_21 rfl hq (by rfl) ?_
      refine w_puti dX3_copyFrom_34 fl_X3_21 fp_5_3 rfl hp ?_
      exact w_vret dX3_copyFrom_37 rfl k
    · refine w_aload_n dX3_copyFrom_11 rfl ?_
      refine w_getr 18 p dX3_copyFrom_12 fl_X3_9 rfl hp ?_
      refine w_iload_n dX3_copyFrom_15 rfl ?_
      refine w_aload_n dX3_copyFrom_16 rfl ?_
      refine w_getr 18 q dX3_copyFrom_17 fl_X3_9 rfl hq ?_
      refine w_iload_n dX3_copyFrom_20 rfl ?_
      refine w_ialdE (v := h 18 q c) dX3_copyFrom_21 rfl hq (by omega) (by omega) (by rw [fwUc_ne (fun z => hpq z.2.symm)]; rfl) ?_
      refine w_iast dX3_copyFrom_22 rfl hp (by omega) (by omega) ?_
      refine w_iinc [some (aR 5 p), some (aR 5 q), some (aI ((c : Int) + 1))] dX3_copyFrom_23 rfl rfl (by decide) ?_
      refine w_goto 2 dX3_copyFrom_26 (by decide) ?_
      refine ih2 (by omega) _ _ ?_ ?_
      · exact (by omega)
      · exact (by rw [fwUp_uc, Int.toNat_natCast, fwFl_succ])
  refine lp2 0 (Nat.zero_le _) _ _ ?_ ?_
  · exact (by omega)
  · exact (by rw [fwFl_0, fwUc_self])
def fwFlA (g f : Nat → Int) (a c : Nat) : Nat → Int := fun s => if a ≤ s ∧ s < a + c then g (s - a) else f s
theorem fwFlA_0 (g f : Nat → Int) (a : Nat) : fwFlA g f a 0 = f := by
  funext s
  unfold fwFlA
  rw [if_neg (by omega)]
theorem fwFlA_succ (g f : Nat → Int) (a c : Nat) : fwFu (fwFlA g f a c) (a + c) (g c) = fwFlA g f a (c + 1) := by
  funext s
  unfold fwFu fwFlA
  by_cases e : s = a + c
  · subst e
    rw [if_pos rfl, if_pos (by omega), show a + c - a = c by omega]
  · rw [if_neg e]
    by_cases e3 : a ≤ s ∧ s < a + c
    · rw [if_pos e3, if_pos (by omega)]
    · rw [if_neg e3, if_neg (by omega)]
theorem fwFlA_in {g f : Nat → Int} {a c s : Nat} (h : s < c) : fwFlA g f a c (a + s) = g s := by
  unfold fwFlA
  rw [if_pos (by omega), show a + s - a = s by omega]
theorem fwFlA_in0 {g f : Nat → Int} {c s : Nat} (h : s < c) : fwFlA g f 0 c s = g s := by
  unfold fwFlA
  rw [if_pos (by omega)]
  rfl
/-- GAIN of the FOLK f: n cells, H heights, sl snow's line, F the facts -/
def mGain (n : Int) (H : Nat → Int) (sl : Int) (F : Nat → Int) (f : Nat) : Int := F (7 * f + 2) * (18 - mSh n H (F (7 * f)) (-1) - mSh n H (F (7 * f)) 1) + F (7 * f + 3) * fwPop (mBits (fun c => decide (sl ≤ H c)) n.toNat) + F (7 * f + 4) * mMax H n.toNat
theorem fw_mulP {a b : Int} (ha : 0 ≤ a ∧ a ≤ 9) (hb : 0 ≤ b ∧ b ≤ 1000) : 0 ≤ a * b ∧ a * b ≤ 9000 := by
  rcases (show a = 0 ∨ a = 1 ∨ a = 2 ∨ a = 3 ∨ a = 4 ∨ a = 5 ∨ a = 6 ∨ a = 7 ∨ a = 8 ∨ a = 9 by omega) with rfl | rfl | rfl | rfl | rfl | rfl | rfl | rfl | rfl | rfl <;> omega
theorem mGain_rng {n : Int} {H : Nat → Int} {sl : Int} {F : Nat → Int} {f : Nat} (hn : n ≤ 10) (hH : ∀ c : Nat, c < 10 → 0 ≤ H c ∧ H c ≤ 1000) (h2 : 0 ≤ F (7 * f + 2) ∧ F (7 * f + 2) ≤ 9) (h3 : 0 ≤ F (7 * f + 3) ∧ F (7 * f + 3) ≤ 9) (h4 : 0 ≤ F (7 * f + 4) ∧ F (7 * f + 4) ≤ 9) : 0 ≤ mGain n H sl F f ∧ mGain n H sl F f ≤ 27000 := by
  unfold mGain
  have a1 := mSh_rng (n := n) (H := H) (x := F (7 * f)) (st := -1) hn hH
  have a2 := mSh_rng (n := n) (H := H) (x := F (7 * f)) (st := 1) hn hH
  have a3 := fwPop_rng (mBits (fun c => decide (sl ≤ H c)) n.toNat)
  have a4 := mMax_rng (H := H) (b := 1000) (by omega) n.toNat (fun j hj => hH j (by omega))
  have b1 := fw_mulP (a := F (7 * f + 2)) (b := 18 - mSh n H (F (7 * f)) (-1) - mSh n H (F (7 * f)) 1) h2 (by omega)
  have b2 := fw_mulP (a := F (7 * f + 3)) (b := fwPop (mBits (fun c => decide (sl ≤ H c)) n.toNat)) h3 (by omega)
  have b3 := fw_mulP (a := F (7 * f + 4)) (b := mMax H n.toNat) h4 (by omega)
  omega
set_option maxRecDepth 100000 in
set_option maxHeartbeats 4000000 in
theorem c_fillGains19 {d : Nat} {h : fwH} {Q : Option fwV → fwH → Prop} (p g a : Nat) (hp : p < 5) (hg : g < 6) (hP : pOk h p) (hG : gOk h g) (ha : a = 0) (k : Q none (fwUc h 19 p (fwFlA (mGain (h 4 g 1) (h 17 g) (h 4 g 2) (h 18 p)) (h 19 p) a (h 5 p 3).toNat))) : fwCt mX3_fillGains (d + 2) [aR 5 p, aR 4 g, aR 19 p, aI (a : Int)] h Q := by
  refine fwCt_of [some (aR 5 p), some (aR 4 g), some (aR 19 p), some (aI (a : Int)), none, none, none, none, none, none] rfl rfl rfl ?_
  obtain ⟨⟨p1, p2⟩, p3⟩ := id hP
  obtain ⟨⟨g1, g2⟩, ⟨g3, g4⟩, ⟨g5, g6⟩, g7, g8⟩ := id hG
  refine w_aload_n dX3_fillGains_0 rfl ?_
  refine w_callV (d := d + 1) (S := []) [] dX3_fillGains_1 ml_X3_37 ok_X1_snowyCells vi_X1_snowyCells rfl rfl hg rfl (Nat.le_of_ble_eq_true rfl) ?_
  refine c_X1_snowyCells (d := d) g  hg (by first | assumption | omega | decide) ?_
  show fwWP mX3_fillGains (d + 2) 4 [some (aR 5 p), some (aR 4 g), some (aR 19 p), some (aI (a : Int)), none, none, none, none, none, none] [aI (mBits (fun c => decide ((h 4 g 2) ≤ (h 17 g) c)) (h 4 g 1).toNat)] h Q
  refine w_callS (d := d + 1) (S := []) [aI (mBits (fun c => decide ((h 4 g 2) ≤ (h 17 g) c)) (h 4 g 1).toNat)] dX3_fillGains_4 ml_X3_43 ok_J6_bitCount_0f7a4 st_J6_bitCount_0f7a4 rfl (Nat.le_of_ble_eq_true rfl) ?_
  refine c_bitCount (d := (d + 1)) (mBits (fun c => decide ((h 4 g 2) ≤ (h 17 g) c)) (h 4 g 1).toNat) ?_
  show fwWP mX3_fillGains (d + 2) 7 [some (aR 5 p), some (aR 4 g), some (aR 19 p), some (aI (a : Int)), none, none, none, none, none, none] [aI (fwPop (mBits (fun c => decide ((h 4 g 2) ≤ (h 17 g) c)) (h 4 g 1).toNat))] h Q
  refine w_istore [some (aR 5 p), some (aR 4 g), some (aR 19 p), some (aI (a : Int)), some (aI (fwPop (mBits (fun c => decide ((h 4 g 2) ≤ (h 17 g) c)) (h 4 g 1).toNat))), none, none, none, none, none] dX3_fillGains_7 rfl (by decide) ?_
  refine w_aload_n dX3_fillGains_9 rfl ?_
  refine w_callV (d := d + 1) (S := []) [] dX3_fillGains_10 ml_X3_49 ok_X1_topHeight vi_X1_topHeight rfl rfl hg rfl (Nat.le_of_ble_eq_true rfl) ?_
  refine c_X1_topHeight (d := d) g hg (by first | assumption | omega | decide) ?_
  show fwWP mX3_fillGains (d + 2) 13 [some (aR 5 p), some (aR 4 g), some (aR 19 p), some (aI (a : Int)), some (aI (fwPop (mBits (fun c => decide ((h 4 g 2) ≤ (h 17 g) c)) (h 4 g 1).toNat))), none, none, none, none, none] [aI (mMax (h 17 g) (h 4 g 1).toNat)] h Q
  refine w_istore [some (aR 5 p), some (aR 4 g), some (aR 19 p), some (aI (a : Int)), some (aI (fwPop (mBits (fun c => decide ((h 4 g 2) ≤ (h 17 g) c)) (h 4 g 1).toNat))), some (aI (mMax (h 17 g) (h 4 g 1).toNat)), none, none, none, none] dX3_fillGains_13 rfl (by decide) ?_
  refine w_iconst dX3_fillGains_15 ?_
  refine w_istore [some (aR 5 p), some (aR 4 g), some (aR 19 p), some (aI (a : Int)), some (aI (fwPop (mBits (fun c => decide ((h 4 g 2) ≤ (h 17 g) c)) (h 4 g 1).toNat))), some (aI (mMax (h 17 g) (h 4 g 1).toNat)), some (aI 0), none, none, none] dX3_fillGains_16 rfl (by decide) ?_
  have lp18 : ∀ c : Nat, c ≤ (h 5 p 3).toNat → ∀ (y18  : Int) (hh18 : fwH), y18 = (c : Int) → hh18 = (fwUc h 19 p (fwFlA (mGain (h 4 g 1) (h 17 g) (h 4 g 2) (h 18 p)) (h 19 p) a c)) → fwWP mX3_fillGains (d + 2) 18 [some (aR 5 p), some (aR 4 g), some (aR 19 p), some (aI (a : Int)), some (aI (fwPop (mBits (fun c => decide ((h 4 g 2) ≤ (h 17 g) c)) (h 4 g 1).toNat))), some (aI (mMax (h 17 g) (h 4 g 1).toNat)), some (aI y18), none, none, none] [] hh18 Q := by
    refine fw_up (fun c hc18 ih18 => ?_)
    intro y18  hh18 ey18 eh18
    subst ey18
    subst eh18
    show fwWP mX3_fillGains (d + 2) 18 [some (aR 5 p), some (aR 4 g), some (aR 19 p), some (aI (a : Int)), some (aI (fwPop (mBits (fun c => decide ((h 4 g 2) ≤ (h 17 g) c)) (h 4 g 1).toNat))), some (aI (mMax (h 17 g) (h 4 g 1).toNat)), some (aI (c : Int)), none, none, none] [] (fwUc h 19 p (fwFlA (mGain (h 4 g 1) (h 17 g) (h 4 g 2) (h 18 p)) (h 19 p) a c)) Q
    refine w_iload dX3_fillGains_18 rfl ?_
    refine w_aload_n dX3_fillGains_20 rfl ?_
    refine w_getiE (v := h 5 p 3) dX3_fillGains_21 fl_X3_21 rfl hp (by first | rfl | simp [fwUp, fwUc]) ?_
    refine w_icmp_ge 113 dX3_fillGains_24 (by decide) (by omega) (by omega) (fun c24 => ?_) (fun c24 => ?_)
    · have ec18 : (h 5 p 3).toNat = c := by omega
      subst ec18
      exact w_vret dX3_fillGains_113 rfl (k)
    · have hf := p3 c (by omega)
      refine w_aload_n dX3_fillGains_27 rfl ?_
      refine w_iload dX3_fillGains_28 rfl ?_
      refine w_iconst dX3_fillGains_30 ?_
      refine w_callV (d := d + 1) (S := []) [aI (c : Int), aI 2] dX3_fillGains_31 ml_X3_25 ok_X3_fact vi_X3_fact rfl rfl hp rfl (Nat.le_of_ble_eq_true rfl) ?_
      refine c_X3_fact (d := (d + 1)) p c 2 hp (by first | assumption | omega | decide) (by first | assumption | omega | decide) ?_
      show fwWP mX3_fillGains (d + 2) 34 [some (aR 5 p), some (aR 4 g), some (aR 19 p), some (aI (a : Int)), some (aI (fwPop (mBits (fun c => decide ((h 4 g 2) ≤ (h 17 g) c)) (h 4 g 1).toNat))), some (aI (mMax (h 17 g) (h 4 g 1).toNat)), some (aI (c : Int)), none, none, none] [aI (h 18 p (7 * c + 2))] (fwUc h 19 p (fwFlA (mGain (h 4 g 1) (h 17 g) (h 4 g 2) (h 18 p)) (h 19 p) a c)) Q
      refine w_istore [some (aR 5 p), some (aR 4 g), some (aR 19 p), some (aI (a : Int)), some (aI (fwPop (mBits (fun c => decide ((h 4 g 2) ≤ (h 17 g) c)) (h 4 g 1).toNat))), some (aI (mMax (h 17 g) (h 4 g 1).toNat)), some (aI (c : Int)), some (aI (h 18 p (7 * c + 2))), none, none] dX3_fillGains_34 rfl (by decide) ?_
      have J59 : ∀ v : Int, v = h 18 p (7 * c + 2) * (18 - mSh (h 4 g 1) (h 17 g) (h 18 p (7 * c)) (-1) - mSh (h 4 g 1) (h 17 g) (h 18 p (7 * c)) 1) → fwWP mX3_fillGains (d + 2) 59 [some (aR 5 p), some (aR 4 g), some (aR 19 p), some (aI (a : Int)), some (aI (fwPop (mBits (fun c => decide ((h 4 g 2) ≤ (h 17 g) c)) (h 4 g 1).toNat))), some (aI (mMax (h 17 g) (h 4 g 1).toNat)), some (aI (c : Int)), some (aI (h 18 p (7 * c + 2))), none, none] [aI v] (fwUc h 19 p (fwFlA (mGain (h 4 g 1) (h 17 g) (h 4 g 2) (h 18 p)) (h 19 p) a c)) Q := by
        intro v ev
        subst ev
        refine w_istore [some (aR 5 p), some (aR 4 g), some (aR 19 p), some (aI (a : Int)), some (aI (fwPop (mBits (fun c => decide ((h 4 g 2) ≤ (h 17 g) c)) (h 4 g 1).toNat))), some (aI (mMax (h 17 g) (h 4 g 1).toNat)), some (aI (c : Int)), some (aI (h 18 p (7 * c + 2))), some (aI (h 18 p (7 * c + 2) * (18 - mSh (h 4 g 1) (h 17 g) (h 18 p (7 * c)) (-1) - mSh (h 4 g 1) (h 17 g) (h 18 p (7 * c)) 1))), none] dX3_fillGains_59 rfl (by decide) ?_
        refine w_iload_n dX3_fillGains_61 rfl ?_
        refine w_iload dX3_fillGains_62 rfl ?_
        refine w_iadd dX3_fillGains_64 ?_
        refine w_istore [some (aR 5 p), some (aR 4 g), some (aR 19 p), some (aI (a : Int)), some (aI (fwPop (mBits (fun c => decide ((h 4 g 2) ≤ (h 17 g) c)) (h 4 g 1).toNat))), some (aI (mMax (h 17 g) (h 4 g 1).toNat)), some (aI (c : Int)), some (aI (h 18 p (7 * c + 2))), some (aI (h 18 p (7 * c + 2) * (18 - mSh (h 4 g 1) (h 17 g) (h 18 p (7 * c)) (-1) - mSh (h 4 g 1) (h 17 g) (h 18 p (7 * c)) 1))), some (aI ((a : Int) + (c : Int)))] dX3_fillGains_65 rfl (by decide) ?_
        refine w_iload dX3_fillGains_67 rfl ?_
        refine w_if_lt 107 dX3_fillGains_69 (by decide) (by omega) (fun c69 => ?_) (fun c69 => ?_)
        · (exfalso; omega)
        · refine w_iload dX3_fillGains_72 rfl ?_
          refine w_aload_n dX3_fillGains_74 rfl ?_
          refine w_alen dX3_fillGains_75 rfl (by decide) hp ?_
          refine w_icmp_ge 107 dX3_fillGains_76 (by decide) (by omega) (by omega) (fun c76 => ?_) (fun c76 => ?_)
          · (exfalso; omega)
          · refine w_aload_n dX3_fillGains_79 rfl ?_
            refine w_iload dX3_fillGains_80 rfl ?_
            refine w_iload dX3_fillGains_82 rfl ?_
            refine w_aload_n dX3_fillGains_84 rfl ?_
            refine w_iload dX3_fillGains_85 rfl ?_
            refine w_iconst dX3_fillGains_87 ?_
            refine w_callV (d := d + 1) (S := [aI (h 18 p (7 * c + 2) * (18 - mSh (h 4 g 1) (h 17 g) (h 18 p (7 * c)) (-1) - mSh (h 4 g 1) (h 17 g) (h 18 p (7 * c)) 1)), aI ((a : Int) + (c : Int)), aR 19 p]) [aI (c : Int), aI 3] dX3_fillGains_88 ml_X3_25 ok_X3_fact vi_X3_fact rfl rfl hp rfl (Nat.le_of_ble_eq_true rfl) ?_
            refine c_X3_fact (d := (d + 1)) p c 3 hp (by first | assumption | omega | decide) (by first | assumption | omega | decide) ?_
            show fwWP mX3_fillGains (d + 2) 91 [some (aR 5 p), some (aR 4 g), some (aR 19 p), some (aI (a : Int)), some (aI (fwPop (mBits (fun c => decide ((h 4 g 2) ≤ (h 17 g) c)) (h 4 g 1).toNat))), some (aI (mMax (h 17 g) (h 4 g 1).toNat)), some (aI (c : Int)), some (aI (h 18 p (7 * c + 2))), some (aI (h 18 p (7 * c + 2) * (18 - mSh (h 4 g 1) (h 17 g) (h 18 p (7 * c)) (-1) - mSh (h 4 g 1) (h 17 g) (h 18 p (7 * c)) 1))), some (aI ((a : Int) + (c : Int)))] [aI (h 18 p (7 * c + 3)), aI (h 18 p (7 * c + 2) * (18 - mSh (h 4 g 1) (h 17 g) (h 18 p (7 * c)) (-1) - mSh (h 4 g 1) (h 17 g) (h 18 p (7 * c)) 1)), aI ((a : Int) + (c : Int)), aR 19 p] (fwUc h 19 p (fwFlA (mGain (h 4 g 1) (h 17 g) (h 4 g 2) (h 18 p)) (h 19 p) a c)) Q
            refine w_iload dX3_fillGains_91 rfl ?_
            refine w_imul dX3_fillGains_93 ?_
            refine w_iadd dX3_fillGains_94 ?_
            refine w_aload_n dX3_fillGains_95 rfl ?_
            refine w_iload dX3_fillGains_96 rfl ?_
            refine w_iconst dX3_fillGains_98 ?_
            refine w_callV (d := d + 1) (S := [aI ((h 18 p (7 * c + 2) * (18 - mSh (h 4 g 1) (h 17 g) (h 18 p (7 * c)) (-1) - mSh (h 4 g 1) (h 17 g) (h 18 p (7 * c)) 1)) + ((h 18 p (7 * c + 3)) * (fwPop (mBits (fun c => decide ((h 4 g 2) ≤ (h 17 g) c)) (h 4 g 1).toNat)))), aI ((a : Int) + (c : Int)), aR 19 p]) [aI (c : Int), aI 4] dX3_fillGains_99 ml_X3_25 ok_X3_fact vi_X3_fact rfl rfl hp rfl (Nat.le_of_ble_eq_true rfl) ?_
            refine c_X3_fact (d := (d + 1)) p c 4 hp (by first | assumption | omega | decide) (by first | assumption | omega | decide) ?_
            show fwWP mX3_fillGains (d + 2) 102 [some (aR 5 p), some (aR 4 g), some (aR 19 p), some (aI (a : Int)), some (aI (fwPop (mBits (fun c => decide ((h 4 g 2) ≤ (h 17 g) c)) (h 4 g 1).toNat))), some (aI (mMax (h 17 g) (h 4 g 1).toNat)), some (aI (c : Int)), some (aI (h 18 p (7 * c + 2))), some (aI (h 18 p (7 * c + 2) * (18 - mSh (h 4 g 1) (h 17 g) (h 18 p (7 * c)) (-1) - mSh (h 4 g 1) (h 17 g) (h 18 p (7 * c)) 1))), some (aI ((a : Int) + (c : Int)))] [aI (h 18 p (7 * c + 4)), aI ((h 18 p (7 * c + 2) * (18 - mSh (h 4 g 1) (h 17 g) (h 18 p (7 * c)) (-1) - mSh (h 4 g 1) (h 17 g) (h 18 p (7 * c)) 1)) + ((h 18 p (7 * c + 3)) * (fwPop (mBits (fun c => decide ((h 4 g 2) ≤ (h 17 g) c)) (h 4 g 1).toNat)))), aI ((a : Int) + (c : Int)), aR 19 p] (fwUc h 19 p (fwFlA (mGain (h 4 g 1) (h 17 g) (h 4 g 2) (h 18 p)) (h 19 p) a c)) Q
            refine w_iload dX3_fillGains_102 rfl ?_
            refine w_imul dX3_fillGains_104 ?_
            refine w_iadd dX3_fillGains_105 ?_
            refine w_iast dX3_fillGains_106 rfl hp (by omega) (by omega) ?_
            refine w_iinc [some (aR 5 p), some (aR 4 g), some (aR 19 p), some (aI (a : Int)), some (aI (fwPop (mBits (fun c => decide ((h 4 g 2) ≤ (h 17 g) c)) (h 4 g 1).toNat))), some (aI (mMax (h 17 g) (h 4 g 1).toNat)), some (aI ((c : Int) + 1)), some (aI (h 18 p (7 * c + 2))), some (aI (h 18 p (7 * c + 2) * (18 - mSh (h 4 g 1) (h 17 g) (h 18 p (7 * c)) (-1) - mSh (h 4 g 1) (h 17 g) (h 18 p (7 * c)) 1))), some (aI ((a : Int) + (c : Int)))] dX3_fillGains_107 rfl rfl (by decide) ?_
            refine w_goto 18 dX3_fillGains_110 (by decide) ?_
            refine w_drop [7, 8, 9] [some (aR 5 p), some (aR 4 g), some (aR 19 p), some (aI (a : Int)), some (aI (fwPop (mBits (fun c => decide ((h 4 g 2) ≤ (h 17 g) c)) (h 4 g 1).toNat))), some (aI (mMax (h 17 g) (h 4 g 1).toNat)), some (aI ((c : Int) + 1)), none, none, none] rfl ?_
            refine ih18 (by omega) _ _ ?_ ?_
            · exact (by omega)
            · exact (by rw [fwUp_uc, show ((a : Int) + (c : Int)).toNat = a + c by omega]; exact congrArg _ (fwFlA_succ (mGain (h 4 g 1) (h 17 g) (h 4 g 2) (h 18 p)) (h 19 p) a c))
      refine w_iload dX3_fillGains_36 rfl ?_
      refine w_if_ne 45 dX3_fillGains_38 (by decide) (by omega) (fun c38 => ?_) (fun c38 => ?_)
      · refine w_iload dX3_fillGains_45 rfl ?_
        refine w_aload_n dX3_fillGains_47 rfl ?_
        refine w_aload_n dX3_fillGains_48 rfl ?_
        refine w_iload dX3_fillGains_49 rfl ?_
        refine w_iconst dX3_fillGains_51 ?_
        refine w_callV (d := d + 1) (S := [aR 4 g, aI (h 18 p (7 * c + 2))]) [aI (c : Int), aI 0] dX3_fillGains_52 ml_X3_25 ok_X3_fact vi_X3_fact rfl rfl hp rfl (Nat.le_of_ble_eq_true rfl) ?_
        refine c_X3_fact (d := (d + 1)) p c 0 hp (by first | assumption | omega | decide) (by first | assumption | omega | decide) ?_
        show fwWP mX3_fillGains (d + 2) 55 [some (aR 5 p), some (aR 4 g), some (aR 19 p), some (aI (a : Int)), some (aI (fwPop (mBits (fun c => decide ((h 4 g 2) ≤ (h 17 g) c)) (h 4 g 1).toNat))), some (aI (mMax (h 17 g) (h 4 g 1).toNat)), some (aI (c : Int)), some (aI (h 18 p (7 * c + 2))), none, none] [aI (h 18 p (7 * c)), aR 4 g, aI (h 18 p (7 * c + 2))] (fwUc h 19 p (fwFlA (mGain (h 4 g 1) (h 17 g) (h 4 g 2) (h 18 p)) (h 19 p) a c)) Q
        refine w_callV (d := d + 1) (S := [aI (h 18 p (7 * c + 2))]) [aI (h 18 p (7 * c))] dX3_fillGains_55 ml_X3_52 ok_X1_lightOf vi_X1_lightOf rfl rfl hg rfl (Nat.le_of_ble_eq_true rfl) ?_
        refine c_X1_lightOf (d := d) g (h 18 p (7 * c)) hg (by first | assumption | omega | decide) (by first | assumption | omega | decide) ?_
        show fwWP mX3_fillGains (d + 2) 58 [some (aR 5 p), some (aR 4 g), some (aR 19 p), some (aI (a : Int)), some (aI (fwPop (mBits (fun c => decide ((h 4 g 2) ≤ (h 17 g) c)) (h 4 g 1).toNat))), some (aI (mMax (h 17 g) (h 4 g 1).toNat)), some (aI (c : Int)), some (aI (h 18 p (7 * c + 2))), none, none] [aI (18 - mSh (h 4 g 1) (h 17 g) (h 18 p (7 * c)) (-1) - mSh (h 4 g 1) (h 17 g) (h 18 p (7 * c)) 1), aI (h 18 p (7 * c + 2))] (fwUc h 19 p (fwFlA (mGain (h 4 g 1) (h 17 g) (h 4 g 2) (h 18 p)) (h 19 p) a c)) Q
        have hs5 := mSh_rng (n := (h 4 g 1)) (H := (h 17 g)) (x := (h 18 p (7 * c))) (st := -1) (by omega) (by assumption)
        have hs6 := mSh_rng (n := (h 4 g 1)) (H := (h 17 g)) (x := (h 18 p (7 * c))) (st := 1) (by omega) (by assumption)
        refine w_imul dX3_fillGains_58 ?_
        exact J59 _ rfl
      · refine w_iconst dX3_fillGains_41 ?_
        refine w_goto 59 dX3_fillGains_42 (by decide) ?_
        exact J59 _ (by rw [c38, Int.zero_mul])
  refine lp18 0 (Nat.zero_le _) _ _ ?_ ?_
  · exact (by omega)
  · exact (by rw [fwFlA_0, fwUc_self])
set_option maxRecDepth 100000 in
set_option maxHeartbeats 4000000 in
theorem c_fillGains20 {d : Nat} {h : fwH} {Q : Option fwV → fwH → Prop} (p g a : Nat) (hp : p < 5) (hg : g < 6) (hP : pOk h p) (hG : gOk h g) (ha : a = 0) (k : Q none (fwUc h 20 p (fwFlA (mGain (h 4 g 1) (h 17 g) (h 4 g 2) (h 18 p)) (h 20 p) a (h 5 p 3).toNat))) : fwCt mX3_fillGains (d + 2) [aR 5 p, aR 4 g, aR 20 p, aI (a : Int)] h Q := by
  refine fwCt_of [some (aR 5 p), some (aR 4 g), some (aR 20 p), some (aI (a : Int)), none, none, none, none, none, none] rfl rfl rfl ?_
  obtain ⟨⟨p1, p2⟩, p3⟩ := id hP
  obtain ⟨⟨g1, g2⟩, ⟨g3, g4⟩, ⟨g5, g6⟩, g7, g8⟩ := id hG
  refine w_aload_n dX3_fillGains_0 rfl ?_
  refine w_callV (d := d + 1) (S := []) [] dX3_fillGains_1 ml_X3_37 ok_X1_snowyCells vi_X1_snowyCells rfl rfl hg rfl (Nat.le_of_ble_eq_true rfl) ?_
  refine c_X1_snowyCells (d := d) g  hg (by first | assumption | omega | decide) ?_
  show fwWP mX3_fillGains (d + 2) 4 [some (aR 5 p), some (aR 4 g), some (aR 20 p), some (aI (a : Int)), none, none, none, none, none, none] [aI (mBits (fun c => decide ((h 4 g 2) ≤ (h 17 g) c)) (h 4 g 1).toNat)] h Q
  refine w_callS (d := d + 1) (S := []) [aI (mBits (fun c => decide ((h 4 g 2) ≤ (h 17 g) c)) (h 4 g 1).toNat)] dX3_fillGains_4 ml_X3_43 ok_J6_bitCount_0f7a4 st_J6_bitCount_0f7a4 rfl (Nat.le_of_ble_eq_true rfl) ?_
  refine c_bitCount (d := (d + 1)) (mBits (fun c => decide ((h 4 g 2) ≤ (h 17 g) c)) (h 4 g 1).toNat) ?_
  show fwWP mX3_fillGains (d + 2) 7 [some (aR 5 p), some (aR 4 g), some (aR 20 p), some (aI (a : Int)), none, none, none, none, none, none] [aI (fwPop (mBits (fun c => decide ((h 4 g 2) ≤ (h 17 g) c)) (h 4 g 1).toNat))] h Q
  refine w_istore [some (aR 5 p), some (aR 4 g), some (aR 20 p), some (aI (a : Int)), some (aI (fwPop (mBits (fun c => decide ((h 4 g 2) ≤ (h 17 g) c)) (h 4 g 1).toNat))), none, none, none, none, none] dX3_fillGains_7 rfl (by decide) ?_
  refine w_aload_n dX3_fillGains_9 rfl ?_
  refine w_callV (d := d + 1) (S := []) [] dX3_fillGains_10 ml_X3_49 ok_X1_topHeight vi_X1_topHeight rfl rfl hg rfl (Nat.le_of_ble_eq_true rfl) ?_
  refine c_X1_topHeight (d := d) g hg (by first | assumption | omega | decide) ?_
  show fwWP mX3_fillGains (d + 2) 13 [some (aR 5 p), some (aR 4 g), some (aR 20 p), some (aI (a : Int)), some (aI (fwPop (mBits (fun c => decide ((h 4 g 2) ≤ (h 17 g) c)) (h 4 g 1).toNat))), none, none, none, none, none] [aI (mMax (h 17 g) (h 4 g 1).toNat)] h Q
  refine w_istore [some (aR 5 p), some (aR 4 g), some (aR 20 p), some (aI (a : Int)), some (aI (fwPop (mBits (fun c => decide ((h 4 g 2) ≤ (h 17 g) c)) (h 4 g 1).toNat))), some (aI (mMax (h 17 g) (h 4 g 1).toNat)), none, none, none, none] dX3_fillGains_13 rfl (by decide) ?_
  refine w_iconst dX3_fillGains_15 ?_
  refine w_istore [some (aR 5 p), some (aR 4 g), some (aR 20 p), some (aI (a : Int)), some (aI (fwPop (mBits (fun c => decide ((h 4 g 2) ≤ (h 17 g) c)) (h 4 g 1).toNat))), some (aI (mMax (h 17 g) (h 4 g 1).toNat)), some (aI 0), none, none, none] dX3_fillGains_16 rfl (by decide) ?_
  have lp18 : ∀ c : Nat, c ≤ (h 5 p 3).toNat → ∀ (y18  : Int) (hh18 : fwH), y18 = (c : Int) → hh18 = (fwUc h 20 p (fwFlA (mGain (h 4 g 1) (h 17 g) (h 4 g 2) (h 18 p)) (h 20 p) a c)) → fwWP mX3_fillGains (d + 2) 18 [some (aR 5 p), some (aR 4 g), some (aR 20 p), some (aI (a : Int)), some (aI (fwPop (mBits (fun c => decide ((h 4 g 2) ≤ (h 17 g) c)) (h 4 g 1).toNat))), some (aI (mMax (h 17 g) (h 4 g 1).toNat)), some (aI y18), none, none, none] [] hh18 Q := by
    refine fw_up (fun c hc18 ih18 => ?_)
    intro y18  hh18 ey18 eh18
    subst ey18
    subst eh18
    show fwWP mX3_fillGains (d + 2) 18 [some (aR 5 p), some (aR 4 g), some (aR 20 p), some (aI (a : Int)), some (aI (fwPop (mBits (fun c => decide ((h 4 g 2) ≤ (h 17 g) c)) (h 4 g 1).toNat))), some (aI (mMax (h 17 g) (h 4 g 1).toNat)), some (aI (c : Int)), none, none, none] [] (fwUc h 20 p (fwFlA (mGain (h 4 g 1) (h 17 g) (h 4 g 2) (h 18 p)) (h 20 p) a c)) Q
    refine w_iload dX3_fillGains_18 rfl ?_
    refine w_aload_n dX3_fillGains_20 rfl ?_
    refine w_getiE (v := h 5 p 3) dX3_fillGains_21 fl_X3_21 rfl hp (by first | rfl | simp [fwUp, fwUc]) ?_
    refine w_icmp_ge 113 dX3_fillGains_24 (by decide) (by omega) (by omega) (fun c24 => ?_) (fun c24 => ?_)
    · have ec18 : (h 5 p 3).toNat = c := by omega
      subst ec18
      exact w_vret dX3_fillGains_113 rfl (k)
    · have hf := p3 c (by omega)
      refine w_aload_n dX3_fillGains_27 rfl ?_
      refine w_iload dX3_fillGains_28 rfl ?_
      refine w_iconst dX3_fillGains_30 ?_
      refine w_callV (d := d + 1) (S := []) [aI (c : Int), aI 2] dX3_fillGains_31 ml_X3_25 ok_X3_fact vi_X3_fact rfl rfl hp rfl (Nat.le_of_ble_eq_true rfl) ?_
      refine c_X3_fact (d := (d + 1)) p c 2 hp (by first | assumption | omega | decide) (by first | assumption | omega | decide) ?_
      show fwWP mX3_fillGains (d + 2) 34 [some (aR 5 p), some (aR 4 g), some (aR 20 p), some (aI (a : Int)), some (aI (fwPop (mBits (fun c => decide ((h 4 g 2) ≤ (h 17 g) c)) (h 4 g 1).toNat))), some (aI (mMax (h 17 g) (h 4 g 1).toNat)), some (aI (c : Int)), none, none, none] [aI (h 18 p (7 * c + 2))] (fwUc h 20 p (fwFlA (mGain (h 4 g 1) (h 17 g) (h 4 g 2) (h 18 p)) (h 20 p) a c)) Q
      refine w_istore [some (aR 5 p), some (aR 4 g), some (aR 20 p), some (aI (a : Int)), some (aI (fwPop (mBits (fun c => decide ((h 4 g 2) ≤ (h 17 g) c)) (h 4 g 1).toNat))), some (aI (mMax (h 17 g) (h 4 g 1).toNat)), some (aI (c : Int)), some (aI (h 18 p (7 * c + 2))), none, none] dX3_fillGains_34 rfl (by decide) ?_
      have J59 : ∀ v : Int, v = h 18 p (7 * c + 2) * (18 - mSh (h 4 g 1) (h 17 g) (h 18 p (7 * c)) (-1) - mSh (h 4 g 1) (h 17 g) (h 18 p (7 * c)) 1) → fwWP mX3_fillGains (d + 2) 59 [some (aR 5 p), some (aR 4 g), some (aR 20 p), some (aI (a : Int)), some (aI (fwPop (mBits (fun c => decide ((h 4 g 2) ≤ (h 17 g) c)) (h 4 g 1).toNat))), some (aI (mMax (h 17 g) (h 4 g 1).toNat)), some (aI (c : Int)), some (aI (h 18 p (7 * c + 2))), none, none] [aI v] (fwUc h 20 p (fwFlA (mGain (h 4 g 1) (h 17 g) (h 4 g 2) (h 18 p)) (h 20 p) a c)) Q := by
        intro v ev
        subst ev
        refine w_istore [some (aR 5 p), some (aR 4 g), some (aR 20 p), some (aI (a : Int)), some (aI (fwPop (mBits (fun c => decide ((h 4 g 2) ≤ (h 17 g) c)) (h 4 g 1).toNat))), some (aI (mMax (h 17 g) (h 4 g 1).toNat)), some (aI (c : Int)), some (aI (h 18 p (7 * c + 2))), some (aI (h 18 p (7 * c + 2) * (18 - mSh (h 4 g 1) (h 17 g) (h 18 p (7 * c)) (-1) - mSh (h 4 g 1) (h 17 g) (h 18 p (7 * c)) 1))), none] dX3_fillGains_59 rfl (by decide) ?_
        refine w_iload_n dX3_fillGains_61 rfl ?_
        refine w_iload dX3_fillGains_62 rfl ?_
        refine w_iadd dX3_fillGains_64 ?_
        refine w_istore [some (aR 5 p), some (aR 4 g), some (aR 20 p), some (aI (a : Int)), some (aI (fwPop (mBits (fun c => decide ((h 4 g 2) ≤ (h 17 g) c)) (h 4 g 1).toNat))), some (aI (mMax (h 17 g) (h 4 g 1).toNat)), some (aI (c : Int)), some (aI (h 18 p (7 * c + 2))), some (aI (h 18 p (7 * c + 2) * (18 - mSh (h 4 g 1) (h 17 g) (h 18 p (7 * c)) (-1) - mSh (h 4 g 1) (h 17 g) (h 18 p (7 * c)) 1))), some (aI ((a : Int) + (c : Int)))] dX3_fillGains_65 rfl (by decide) ?_
        refine w_iload dX3_fillGains_67 rfl ?_
        refine w_if_lt 107 dX3_fillGains_69 (by decide) (by omega) (fun c69 => ?_) (fun c69 => ?_)
        · (exfalso; omega)
        · refine w_iload dX3_fillGains_72 rfl ?_
          refine w_aload_n dX3_fillGains_74 rfl ?_
          refine w_alen dX3_fillGains_75 rfl (by decide) hp ?_
          refine w_icmp_ge 107 dX3_fillGains_76 (by decide) (by omega) (by omega) (fun c76 => ?_) (fun c76 => ?_)
          · (exfalso; omega)
          · refine w_aload_n dX3_fillGains_79 rfl ?_
            refine w_iload dX3_fillGains_80 rfl ?_
            refine w_iload dX3_fillGains_82 rfl ?_
            refine w_aload_n dX3_fillGains_84 rfl ?_
            refine w_iload dX3_fillGains_85 rfl ?_
            refine w_iconst dX3_fillGains_87 ?_
            refine w_callV (d := d + 1) (S := [aI (h 18 p (7 * c + 2) * (18 - mSh (h 4 g 1) (h 17 g) (h 18 p (7 * c)) (-1) - mSh (h 4 g 1) (h 17 g) (h 18 p (7 * c)) 1)), aI ((a : Int) + (c : Int)), aR 20 p]) [aI (c : Int), aI 3] dX3_fillGains_88 ml_X3_25 ok_X3_fact vi_X3_fact rfl rfl hp rfl (Nat.le_of_ble_eq_true rfl) ?_
            refine c_X3_fact (d := (d + 1)) p c 3 hp (by first | assumption | omega | decide) (by first | assumption | omega | decide) ?_
            show fwWP mX3_fillGains (d + 2) 91 [some (aR 5 p), some (aR 4 g), some (aR 20 p), some (aI (a : Int)), some (aI (fwPop (mBits (fun c => decide ((h 4 g 2) ≤ (h 17 g) c)) (h 4 g 1).toNat))), some (aI (mMax (h 17 g) (h 4 g 1).toNat)), some (aI (c : Int)), some (aI (h 18 p (7 * c + 2))), some (aI (h 18 p (7 * c + 2) * (18 - mSh (h 4 g 1) (h 17 g) (h 18 p (7 * c)) (-1) - mSh (h 4 g 1) (h 17 g) (h 18 p (7 * c)) 1))), some (aI ((a : Int) + (c : Int)))] [aI (h 18 p (7 * c + 3)), aI (h 18 p (7 * c + 2) * (18 - mSh (h 4 g 1) (h 17 g) (h 18 p (7 * c)) (-1) - mSh (h 4 g 1) (h 17 g) (h 18 p (7 * c)) 1)), aI ((a : Int) + (c : Int)), aR 20 p] (fwUc h 20 p (fwFlA (mGain (h 4 g 1) (h 17 g) (h 4 g 2) (h 18 p)) (h 20 p) a c)) Q
            refine w_iload dX3_fillGains_91 rfl ?_
            refine w_imul dX3_fillGains_93 ?_
            refine w_iadd dX3_fillGains_94 ?_
            refine w_aload_n dX3_fillGains_95 rfl ?_
            refine w_iload dX3_fillGains_96 rfl ?_
            refine w_iconst dX3_fillGains_98 ?_
            refine w_callV (d := d + 1) (S := [aI ((h 18 p (7 * c + 2) * (18 - mSh (h 4 g 1) (h 17 g) (h 18 p (7 * c)) (-1) - mSh (h 4 g 1) (h 17 g) (h 18 p (7 * c)) 1)) + ((h 18 p (7 * c + 3)) * (fwPop (mBits (fun c => decide ((h 4 g 2) ≤ (h 17 g) c)) (h 4 g 1).toNat)))), aI ((a : Int) + (c : Int)), aR 20 p]) [aI (c : Int), aI 4] dX3_fillGains_99 ml_X3_25 ok_X3_fact vi_X3_fact rfl rfl hp rfl (Nat.le_of_ble_eq_true rfl) ?_
            refine c_X3_fact (d := (d + 1)) p c 4 hp (by first | assumption | omega | decide) (by first | assumption | omega | decide) ?_
            show fwWP mX3_fillGains (d + 2) 102 [some (aR 5 p), some (aR 4 g), some (aR 20 p), some (aI (a : Int)), some (aI (fwPop (mBits (fun c => decide ((h 4 g 2) ≤ (h 17 g) c)) (h 4 g 1).toNat))), some (aI (mMax (h 17 g) (h 4 g 1).toNat)), some (aI (c : Int)), some (aI (h 18 p (7 * c + 2))), some (aI (h 18 p (7 * c + 2) * (18 - mSh (h 4 g 1) (h 17 g) (h 18 p (7 * c)) (-1) - mSh (h 4 g 1) (h 17 g) (h 18 p (7 * c)) 1))), some (aI ((a : Int) + (c : Int)))] [aI (h 18 p (7 * c + 4)), aI ((h 18 p (7 * c + 2) * (18 - mSh (h 4 g 1) (h 17 g) (h 18 p (7 * c)) (-1) - mSh (h 4 g 1) (h 17 g) (h 18 p (7 * c)) 1)) + ((h 18 p (7 * c + 3)) * (fwPop (mBits (fun c => decide ((h 4 g 2) ≤ (h 17 g) c)) (h 4 g 1).toNat)))), aI ((a : Int) + (c : Int)), aR 20 p] (fwUc h 20 p (fwFlA (mGain (h 4 g 1) (h 17 g) (h 4 g 2) (h 18 p)) (h 20 p) a c)) Q
            refine w_iload dX3_fillGains_102 rfl ?_
            refine w_imul dX3_fillGains_104 ?_
            refine w_iadd dX3_fillGains_105 ?_
            refine w_iast dX3_fillGains_106 rfl hp (by omega) (by omega) ?_
            refine w_iinc [some (aR 5 p), some (aR 4 g), some (aR 20 p), some (aI (a : Int)), some (aI (fwPop (mBits (fun c => decide ((h 4 g 2) ≤ (h 17 g) c)) (h 4 g 1).toNat))), some (aI (mMax (h 17 g) (h 4 g 1).toNat)), some (aI ((c : Int) + 1)), some (aI (h 18 p (7 * c + 2))), some (aI (h 18 p (7 * c + 2) * (18 - mSh (h 4 g 1) (h 17 g) (h 18 p (7 * c)) (-1) - mSh (h 4 g 1) (h 17 g) (h 18 p (7 * c)) 1))), some (aI ((a : Int) + (c : Int)))] dX3_fillGains_107 rfl rfl (by decide) ?_
            refine w_goto 18 dX3_fillGains_110 (by decide) ?_
            refine w_drop [7, 8, 9] [some (aR 5 p), some (aR 4 g), some (aR 20 p), some (aI (a : Int)), some (aI (fwPop (mBits (fun c => decide ((h 4 g 2) ≤ (h 17 g) c)) (h 4 g 1).toNat))), some (aI (mMax (h 17 g) (h 4 g 1).toNat)), some (aI ((c : Int) + 1)), none, none, none] rfl ?_
            refine ih18 (by omega) _ _ ?_ ?_
            · exact (by omega)
            · exact (by rw [fwUp_uc, show ((a : Int) + (c : Int)).toNat = a + c by omega]; exact congrArg _ (fwFlA_succ (mGain (h 4 g 1) (h 17 g) (h 4 g 2) (h 18 p)) (h 20 p) a c))
      refine w_iload dX3_fillGains_36 rfl ?_
      refine w_if_ne 45 dX3_fillGains_38 (by decide) (by omega) (fun c38 => ?_) (fun c38 => ?_)
      · refine w_iload dX3_fillGains_45 rfl ?_
        refine w_aload_n dX3_fillGains_47 rfl ?_
        refine w_aload_n dX3_fillGains_48 rfl ?_
        refine w_iload dX3_fillGains_49 rfl ?_
        refine w_iconst dX3_fillGains_51 ?_
        refine w_callV (d := d + 1) (S := [aR 4 g, aI (h 18 p (7 * c + 2))]) [aI (c : Int), aI 0] dX3_fillGains_52 ml_X3_25 ok_X3_fact vi_X3_fact rfl rfl hp rfl (Nat.le_of_ble_eq_true rfl) ?_
        refine c_X3_fact (d := (d + 1)) p c 0 hp (by first | assumption | omega | decide) (by first | assumption | omega | decide) ?_
        show fwWP mX3_fillGains (d + 2) 55 [some (aR 5 p), some (aR 4 g), some (aR 20 p), some (aI (a : Int)), some (aI (fwPop (mBits (fun c => decide ((h 4 g 2) ≤ (h 17 g) c)) (h 4 g 1).toNat))), some (aI (mMax (h 17 g) (h 4 g 1).toNat)), some (aI (c : Int)), some (aI (h 18 p (7 * c + 2))), none, none] [aI (h 18 p (7 * c)), aR 4 g, aI (h 18 p (7 * c + 2))] (fwUc h 20 p (fwFlA (mGain (h 4 g 1) (h 17 g) (h 4 g 2) (h 18 p)) (h 20 p) a c)) Q
        refine w_callV (d := d + 1) (S := [aI (h 18 p (7 * c + 2))]) [aI (h 18 p (7 * c))] dX3_fillGains_55 ml_X3_52 ok_X1_lightOf vi_X1_lightOf rfl rfl hg rfl (Nat.le_of_ble_eq_true rfl) ?_
        refine c_X1_lightOf (d := d) g (h 18 p (7 * c)) hg (by first | assumption | omega | decide) (by first | assumption | omega | decide) ?_
        show fwWP mX3_fillGains (d + 2) 58 [some (aR 5 p), some (aR 4 g), some (aR 20 p), some (aI (a : Int)), some (aI (fwPop (mBits (fun c => decide ((h 4 g 2) ≤ (h 17 g) c)) (h 4 g 1).toNat))), some (aI (mMax (h 17 g) (h 4 g 1).toNat)), some (aI (c : Int)), some (aI (h 18 p (7 * c + 2))), none, none] [aI (18 - mSh (h 4 g 1) (h 17 g) (h 18 p (7 * c)) (-1) - mSh (h 4 g 1) (h 17 g) (h 18 p (7 * c)) 1), aI (h 18 p (7 * c + 2))] (fwUc h 20 p (fwFlA (mGain (h 4 g 1) (h 17 g) (h 4 g 2) (h 18 p)) (h 20 p) a c)) Q
        have hs5 := mSh_rng (n := (h 4 g 1)) (H := (h 17 g)) (x := (h 18 p (7 * c))) (st := -1) (by omega) (by assumption)
        have hs6 := mSh_rng (n := (h 4 g 1)) (H := (h 17 g)) (x := (h 18 p (7 * c))) (st := 1) (by omega) (by assumption)
        refine w_imul dX3_fillGains_58 ?_
        exact J59 _ rfl
      · refine w_iconst dX3_fillGains_41 ?_
        refine w_goto 59 dX3_fillGains_42 (by decide) ?_
        exact J59 _ (by rw [c38, Int.zero_mul])
  refine lp18 0 (Nat.zero_le _) _ _ ?_ ?_
  · exact (by omega)
  · exact (by rw [fwFlA_0, fwUc_self])
set_option maxRecDepth 100000 in
set_option maxHeartbeats 4000000 in
theorem c_fillGains26 {d : Nat} {h : fwH} {Q : Option fwV → fwH → Prop} (p g a : Nat) (hp : p < 5) (hg : g < 6) (hP : pOk h p) (hG : gOk h g) (ha : a + 8 ≤ 80) (k : Q none (fwUc h 26 0 (fwFlA (mGain (h 4 g 1) (h 17 g) (h 4 g 2) (h 18 p)) (h 26 0) a (h 5 p 3).toNat))) : fwCt mX3_fillGains (d + 2) [aR 5 p, aR 4 g, aR 26 0, aI (a : Int)] h Q := by
  refine fwCt_of [some (aR 5 p), some (aR 4 g), some (aR 26 0), some (aI (a : Int)), none, none, none, none, none, none] rfl rfl rfl ?_
  obtain ⟨⟨p1, p2⟩, p3⟩ := id hP
  obtain ⟨⟨g1, g2⟩, ⟨g3, g4⟩, ⟨g5, g6⟩, g7, g8⟩ := id hG
  refine w_aload_n dX3_fillGains_0 rfl ?_
  refine w_callV (d := d + 1) (S := []) [] dX3_fillGains_1 ml_X3_37 ok_X1_snowyCells vi_X1_snowyCells rfl rfl hg rfl (Nat.le_of_ble_eq_true rfl) ?_
  refine c_X1_snowyCells (d := d) g  hg (by first | assumption | omega | decide) ?_
  show fwWP mX3_fillGains (d + 2) 4 [some (aR 5 p), some (aR 4 g), some (aR 26 0), some (aI (a : Int)), none, none, none, none, none, none] [aI (mBits (fun c => decide ((h 4 g 2) ≤ (h 17 g) c)) (h 4 g 1).toNat)] h Q
  refine w_callS (d := d + 1) (S := []) [aI (mBits (fun c => decide ((h 4 g 2) ≤ (h 17 g) c)) (h 4 g 1).toNat)] dX3_fillGains_4 ml_X3_43 ok_J6_bitCount_0f7a4 st_J6_bitCount_0f7a4 rfl (Nat.le_of_ble_eq_true rfl) ?_
  refine c_bitCount (d := (d + 1)) (mBits (fun c => decide ((h 4 g 2) ≤ (h 17 g) c)) (h 4 g 1).toNat) ?_
  show fwWP mX3_fillGains (d + 2) 7 [some (aR 5 p), some (aR 4 g), some (aR 26 0), some (aI (a : Int)), none, none, none, none, none, none] [aI (fwPop (mBits (fun c => decide ((h 4 g 2) ≤ (h 17 g) c)) (h 4 g 1).toNat))] h Q
  refine w_istore [some (aR 5 p), some (aR 4 g), some (aR 26 0), some (aI (a : Int)), some (aI (fwPop (mBits (fun c => decide ((h 4 g 2) ≤ (h 17 g) c)) (h 4 g 1).toNat))), none, none, none, none, none] dX3_fillGains_7 rfl (by decide) ?_
  refine w_aload_n dX3_fillGains_9 rfl ?_
  refine w_callV (d := d + 1) (S := []) [] dX3_fillGains_10 ml_X3_49 ok_X1_topHeight vi_X1_topHeight rfl rfl hg rfl (Nat.le_of_ble_eq_true rfl) ?_
  refine c_X1_topHeight (d := d) g hg (by first | assumption | omega | decide) ?_
  show fwWP mX3_fillGains (d + 2) 13 [some (aR 5 p), some (aR 4 g), some (aR 26 0), some (aI (a : Int)), some (aI (fwPop (mBits (fun c => decide ((h 4 g 2) ≤ (h 17 g) c)) (h 4 g 1).toNat))), none, none, none, none, none] [aI (mMax (h 17 g) (h 4 g 1).toNat)] h Q
  refine w_istore [some (aR 5 p), some (aR 4 g), some (aR 26 0), some (aI (a : Int)), some (aI (fwPop (mBits (fun c => decide ((h 4 g 2) ≤ (h 17 g) c)) (h 4 g 1).toNat))), some (aI (mMax (h 17 g) (h 4 g 1).toNat)), none, none, none, none] dX3_fillGains_13 rfl (by decide) ?_
  refine w_iconst dX3_fillGains_15 ?_
  refine w_istore [some (aR 5 p), some (aR 4 g), some (aR 26 0), some (aI (a : Int)), some (aI (fwPop (mBits (fun c => decide ((h 4 g 2) ≤ (h 17 g) c)) (h 4 g 1).toNat))), some (aI (mMax (h 17 g) (h 4 g 1).toNat)), some (aI 0), none, none, none] dX3_fillGains_16 rfl (by decide) ?_
  have lp18 : ∀ c : Nat, c ≤ (h 5 p 3).toNat → ∀ (y18  : Int) (hh18 : fwH), y18 = (c : Int) → hh18 = (fwUc h 26 0 (fwFlA (mGain (h 4 g 1) (h 17 g) (h 4 g 2) (h 18 p)) (h 26 0) a c)) → fwWP mX3_fillGains (d + 2) 18 [some (aR 5 p), some (aR 4 g), some (aR 26 0), some (aI (a : Int)), some (aI (fwPop (mBits (fun c => decide ((h 4 g 2) ≤ (h 17 g) c)) (h 4 g 1).toNat))), some (aI (mMax (h 17 g) (h 4 g 1).toNat)), some (aI y18), none, none, none] [] hh18 Q := by
    refine fw_up (fun c hc18 ih18 => ?_)
    intro y18  hh18 ey18 eh18
    subst ey18
    subst eh18
    show fwWP mX3_fillGains (d + 2) 18 [some (aR 5 p), some (aR 4 g), some (aR 26 0), some (aI (a : Int)), some (aI (fwPop (mBits (fun c => decide ((h 4 g 2) ≤ (h 17 g) c)) (h 4 g 1).toNat))), some (aI (mMax (h 17 g) (h 4 g 1).toNat)), some (aI (c : Int)), none, none, none] [] (fwUc h 26 0 (fwFlA (mGain (h 4 g 1) (h 17 g) (h 4 g 2) (h 18 p)) (h 26 0) a c)) Q
    refine w_iload dX3_fillGains_18 rfl ?_
    refine w_aload_n dX3_fillGains_20 rfl ?_
    refine w_getiE (v := h 5 p 3) dX3_fillGains_21 fl_X3_21 rfl hp (by first | rfl | simp [fwUp, fwUc]) ?_
    refine w_icmp_ge 113 dX3_fillGains_24 (by decide) (by omega) (by omega) (fun c24 => ?_) (fun c24 => ?_)
    · have ec18 : (h 5 p 3).toNat = c := by omega
      subst ec18
      exact w_vret dX3_fillGains_113 rfl (k)
    · have hf := p3 c (by omega)
      refine w_aload_n dX3_fillGains_27 rfl ?_
      refine w_iload dX3_fillGains_28 rfl ?_
      refine w_iconst dX3_fillGains_30 ?_
      refine w_callV (d := d + 1) (S := []) [aI (c : Int), aI 2] dX3_fillGains_31 ml_X3_25 ok_X3_fact vi_X3_fact rfl rfl hp rfl (Nat.le_of_ble_eq_true rfl) ?_
      refine c_X3_fact (d := (d + 1)) p c 2 hp (by first | assumption | omega | decide) (by first | assumption | omega | decide) ?_
      show fwWP mX3_fillGains (d + 2) 34 [some (aR 5 p), some (aR 4 g), some (aR 26 0), some (aI (a : Int)), some (aI (fwPop (mBits (fun c => decide ((h 4 g 2) ≤ (h 17 g) c)) (h 4 g 1).toNat))), some (aI (mMax (h 17 g) (h 4 g 1).toNat)), some (aI (c : Int)), none, none, none] [aI (h 18 p (7 * c + 2))] (fwUc h 26 0 (fwFlA (mGain (h 4 g 1) (h 17 g) (h 4 g 2) (h 18 p)) (h 26 0) a c)) Q
      refine w_istore [some (aR 5 p), some (aR 4 g), some (aR 26 0), some (aI (a : Int)), some (aI (fwPop (mBits (fun c => decide ((h 4 g 2) ≤ (h 17 g) c)) (h 4 g 1).toNat))), some (aI (mMax (h 17 g) (h 4 g 1).toNat)), some (aI (c : Int)), some (aI (h 18 p (7 * c + 2))), none, none] dX3_fillGains_34 rfl (by decide) ?_
      have J59 : ∀ v : Int, v = h 18 p (7 * c + 2) * (18 - mSh (h 4 g 1) (h 17 g) (h 18 p (7 * c)) (-1) - mSh (h 4 g 1) (h 17 g) (h 18 p (7 * c)) 1) → fwWP mX3_fillGains (d + 2) 59 [some (aR 5 p), some (aR 4 g), some (aR 26 0), some (aI (a : Int)), some (aI (fwPop (mBits (fun c => decide ((h 4 g 2) ≤ (h 17 g) c)) (h 4 g 1).toNat))), some (aI (mMax (h 17 g) (h 4 g 1).toNat)), some (aI (c : Int)), some (aI (h 18 p (7 * c + 2))), none, none] [aI v] (fwUc h 26 0 (fwFlA (mGain (h 4 g 1) (h 17 g) (h 4 g 2) (h 18 p)) (h 26 0) a c)) Q := by
        intro v ev
        subst ev
        refine w_istore [some (aR 5 p), some (aR 4 g), some (aR 26 0), some (aI (a : Int)), some (aI (fwPop (mBits (fun c => decide ((h 4 g 2) ≤ (h 17 g) c)) (h 4 g 1).toNat))), some (aI (mMax (h 17 g) (h 4 g 1).toNat)), some (aI (c : Int)), some (aI (h 18 p (7 * c + 2))), some (aI (h 18 p (7 * c + 2) * (18 - mSh (h 4 g 1) (h 17 g) (h 18 p (7 * c)) (-1) - mSh (h 4 g 1) (h 17 g) (h 18 p (7 * c)) 1))), none] dX3_fillGains_59 rfl (by decide) ?_
        refine w_iload_n dX3_fillGains_61 rfl ?_
        refine w_iload dX3_fillGains_62 rfl ?_
        refine w_iadd dX3_fillGains_64 ?_
        refine w_istore [some (aR 5 p), some (aR 4 g), some (aR 26 0), some (aI (a : Int)), some (aI (fwPop (mBits (fun c => decide ((h 4 g 2) ≤ (h 17 g) c)) (h 4 g 1).toNat))), some (aI (mMax (h 17 g) (h 4 g 1).toNat)), some (aI (c : Int)), some (aI (h 18 p (7 * c + 2))), some (aI (h 18 p (7 * c + 2) * (18 - mSh (h 4 g 1) (h 17 g) (h 18 p (7 * c)) (-1) - mSh (h 4 g 1) (h 17 g) (h 18 p (7 * c)) 1))), some (aI ((a : Int) + (c : Int)))] dX3_fillGains_65 rfl (by decide) ?_
        refine w_iload dX3_fillGains_67 rfl ?_
        refine w_if_lt 107 dX3_fillGains_69 (by decide) (by omega) (fun c69 => ?_) (fun c69 => ?_)
        · (exfalso; omega)
        · refine w_iload dX3_fillGains_72 rfl ?_
          refine w_aload_n dX3_fillGains_74 rfl ?_
          refine w_alen dX3_fillGains_75 rfl (by decide) (by decide) ?_
          refine w_icmp_ge 107 dX3_fillGains_76 (by decide) (by omega) (by omega) (fun c76 => ?_) (fun c76 => ?_)
          · (exfalso; omega)
          · refine w_aload_n dX3_fillGains_79 rfl ?_
            refine w_iload dX3_fillGains_80 rfl ?_
            refine w_iload dX3_fillGains_82 rfl ?_
            refine w_aload_n dX3_fillGains_84 rfl ?_
            refine w_iload dX3_fillGains_85 rfl ?_
            refine w_iconst dX3_fillGains_87 ?_
            refine w_callV (d := d + 1) (S := [aI (h 18 p (7 * c + 2) * (18 - mSh (h 4 g 1) (h 17 g) (h 18 p (7 * c)) (-1) - mSh (h 4 g 1) (h 17 g) (h 18 p (7 * c)) 1)), aI ((a : Int) + (c : Int)), aR 26 0]) [aI (c : Int), aI 3] dX3_fillGains_88 ml_X3_25 ok_X3_fact vi_X3_fact rfl rfl hp rfl (Nat.le_of_ble_eq_true rfl) ?_
            refine c_X3_fact (d := (d + 1)) p c 3 hp (by first | assumption | omega | decide) (by first | assumption | omega | decide) ?_
            show fwWP mX3_fillGains (d + 2) 91 [some (aR 5 p), some (aR 4 g), some (aR 26 0), some (aI (a : Int)), some (aI (fwPop (mBits (fun c => decide ((h 4 g 2) ≤ (h 17 g) c)) (h 4 g 1).toNat))), some (aI (mMax (h 17 g) (h 4 g 1).toNat)), some (aI (c : Int)), some (aI (h 18 p (7 * c + 2))), some (aI (h 18 p (7 * c + 2) * (18 - mSh (h 4 g 1) (h 17 g) (h 18 p (7 * c)) (-1) - mSh (h 4 g 1) (h 17 g) (h 18 p (7 * c)) 1))), some (aI ((a : Int) + (c : Int)))] [aI (h 18 p (7 * c + 3)), aI (h 18 p (7 * c + 2) * (18 - mSh (h 4 g 1) (h 17 g) (h 18 p (7 * c)) (-1) - mSh (h 4 g 1) (h 17 g) (h 18 p (7 * c)) 1)), aI ((a : Int) + (c : Int)), aR 26 0] (fwUc h 26 0 (fwFlA (mGain (h 4 g 1) (h 17 g) (h 4 g 2) (h 18 p)) (h 26 0) a c)) Q
            refine w_iload dX3_fillGains_91 rfl ?_
            refine w_imul dX3_fillGains_93 ?_
            refine w_iadd dX3_fillGains_94 ?_
            refine w_aload_n dX3_fillGains_95 rfl ?_
            refine w_iload dX3_fillGains_96 rfl ?_
            refine w_iconst dX3_fillGains_98 ?_
            refine w_callV (d := d + 1) (S := [aI ((h 18 p (7 * c + 2) * (18 - mSh (h 4 g 1) (h 17 g) (h 18 p (7 * c)) (-1) - mSh (h 4 g 1) (h 17 g) (h 18 p (7 * c)) 1)) + ((h 18 p (7 * c + 3)) * (fwPop (mBits (fun c => decide ((h 4 g 2) ≤ (h 17 g) c)) (h 4 g 1).toNat)))), aI ((a : Int) + (c : Int)), aR 26 0]) [aI (c : Int), aI 4] dX3_fillGains_99 ml_X3_25 ok_X3_fact vi_X3_fact rfl rfl hp rfl (Nat.le_of_ble_eq_true rfl) ?_
            refine c_X3_fact (d := (d + 1)) p c 4 hp (by first | assumption | omega | decide) (by first | assumption | omega | decide) ?_
            show fwWP mX3_fillGains (d + 2) 102 [some (aR 5 p), some (aR 4 g), some (aR 26 0), some (aI (a : Int)), some (aI (fwPop (mBits (fun c => decide ((h 4 g 2) ≤ (h 17 g) c)) (h 4 g 1).toNat))), some (aI (mMax (h 17 g) (h 4 g 1).toNat)), some (aI (c : Int)), some (aI (h 18 p (7 * c + 2))), some (aI (h 18 p (7 * c + 2) * (18 - mSh (h 4 g 1) (h 17 g) (h 18 p (7 * c)) (-1) - mSh (h 4 g 1) (h 17 g) (h 18 p (7 * c)) 1))), some (aI ((a : Int) + (c : Int)))] [aI (h 18 p (7 * c + 4)), aI ((h 18 p (7 * c + 2) * (18 - mSh (h 4 g 1) (h 17 g) (h 18 p (7 * c)) (-1) - mSh (h 4 g 1) (h 17 g) (h 18 p (7 * c)) 1)) + ((h 18 p (7 * c + 3)) * (fwPop (mBits (fun c => decide ((h 4 g 2) ≤ (h 17 g) c)) (h 4 g 1).toNat)))), aI ((a : Int) + (c : Int)), aR 26 0] (fwUc h 26 0 (fwFlA (mGain (h 4 g 1) (h 17 g) (h 4 g 2) (h 18 p)) (h 26 0) a c)) Q
            refine w_iload dX3_fillGains_102 rfl ?_
            refine w_imul dX3_fillGains_104 ?_
            refine w_iadd dX3_fillGains_105 ?_
            refine w_iast dX3_fillGains_106 rfl (by decide) (by omega) (by omega) ?_
            refine w_iinc [some (aR 5 p), some (aR 4 g), some (aR 26 0), some (aI (a : Int)), some (aI (fwPop (mBits (fun c => decide ((h 4 g 2) ≤ (h 17 g) c)) (h 4 g 1).toNat))), some (aI (mMax (h 17 g) (h 4 g 1).toNat)), some (aI ((c : Int) + 1)), some (aI (h 18 p (7 * c + 2))), some (aI (h 18 p (7 * c + 2) * (18 - mSh (h 4 g 1) (h 17 g) (h 18 p (7 * c)) (-1) - mSh (h 4 g 1) (h 17 g) (h 18 p (7 * c)) 1))), some (aI ((a : Int) + (c : Int)))] dX3_fillGains_107 rfl rfl (by decide) ?_
            refine w_goto 18 dX3_fillGains_110 (by decide) ?_
            refine w_drop [7, 8, 9] [some (aR 5 p), some (aR 4 g), some (aR 26 0), some (aI (a : Int)), some (aI (fwPop (mBits (fun c => decide ((h 4 g 2) ≤ (h 17 g) c)) (h 4 g 1).toNat))), some (aI (mMax (h 17 g) (h 4 g 1).toNat)), some (aI ((c : Int) + 1)), none, none, none] rfl ?_
            refine ih18 (by omega) _ _ ?_ ?_
            · exact (by omega)
            · exact (by rw [fwUp_uc, show ((a : Int) + (c : Int)).toNat = a + c by omega]; exact congrArg _ (fwFlA_succ (mGain (h 4 g 1) (h 17 g) (h 4 g 2) (h 18 p)) (h 26 0) a c))
      refine w_iload dX3_fillGains_36 rfl ?_
      refine w_if_ne 45 dX3_fillGains_38 (by decide) (by omega) (fun c38 => ?_) (fun c38 => ?_)
      · refine w_iload dX3_fillGains_45 rfl ?_
        refine w_aload_n dX3_fillGains_47 rfl ?_
        refine w_aload_n dX3_fillGains_48 rfl ?_
        refine w_iload dX3_fillGains_49 rfl ?_
        refine w_iconst dX3_fillGains_51 ?_
        refine w_callV (d := d + 1) (S := [aR 4 g, aI (h 18 p (7 * c + 2))]) [aI (c : Int), aI 0] dX3_fillGains_52 ml_X3_25 ok_X3_fact vi_X3_fact rfl rfl hp rfl (Nat.le_of_ble_eq_true rfl) ?_
        refine c_X3_fact (d := (d + 1)) p c 0 hp (by first | assumption | omega | decide) (by first | assumption | omega | decide) ?_
        show fwWP mX3_fillGains (d + 2) 55 [some (aR 5 p), some (aR 4 g), some (aR 26 0), some (aI (a : Int)), some (aI (fwPop (mBits (fun c => decide ((h 4 g 2) ≤ (h 17 g) c)) (h 4 g 1).toNat))), some (aI (mMax (h 17 g) (h 4 g 1).toNat)), some (aI (c : Int)), some (aI (h 18 p (7 * c + 2))), none, none] [aI (h 18 p (7 * c)), aR 4 g, aI (h 18 p (7 * c + 2))] (fwUc h 26 0 (fwFlA (mGain (h 4 g 1) (h 17 g) (h 4 g 2) (h 18 p)) (h 26 0) a c)) Q
        refine w_callV (d := d + 1) (S := [aI (h 18 p (7 * c + 2))]) [aI (h 18 p (7 * c))] dX3_fillGains_55 ml_X3_52 ok_X1_lightOf vi_X1_lightOf rfl rfl hg rfl (Nat.le_of_ble_eq_true rfl) ?_
        refine c_X1_lightOf (d := d) g (h 18 p (7 * c)) hg (by first | assumption | omega | decide) (by first | assumption | omega | decide) ?_
        show fwWP mX3_fillGains (d + 2) 58 [some (aR 5 p), some (aR 4 g), some (aR 26 0), some (aI (a : Int)), some (aI (fwPop (mBits (fun c => decide ((h 4 g 2) ≤ (h 17 g) c)) (h 4 g 1).toNat))), some (aI (mMax (h 17 g) (h 4 g 1).toNat)), some (aI (c : Int)), some (aI (h 18 p (7 * c + 2))), none, none] [aI (18 - mSh (h 4 g 1) (h 17 g) (h 18 p (7 * c)) (-1) - mSh (h 4 g 1) (h 17 g) (h 18 p (7 * c)) 1), aI (h 18 p (7 * c + 2))] (fwUc h 26 0 (fwFlA (mGain (h 4 g 1) (h 17 g) (h 4 g 2) (h 18 p)) (h 26 0) a c)) Q
        have hs5 := mSh_rng (n := (h 4 g 1)) (H := (h 17 g)) (x := (h 18 p (7 * c))) (st := -1) (by omega) (by assumption)
        have hs6 := mSh_rng (n := (h 4 g 1)) (H := (h 17 g)) (x := (h 18 p (7 * c))) (st := 1) (by omega) (by assumption)
        refine w_imul dX3_fillGains_58 ?_
        exact J59 _ rfl
      · refine w_iconst dX3_fillGains_41 ?_
        refine w_goto 59 dX3_fillGains_42 (by decide) ?_
        exact J59 _ (by rw [c38, Int.zero_mul])
  refine lp18 0 (Nat.zero_le _) _ _ ?_ ?_
  · exact (by omega)
  · exact (by rw [fwFlA_0, fwUc_self])
set_option maxRecDepth 100000 in
set_option maxHeartbeats 4000000 in
theorem c_X3_gainOn {d : Nat} {h : fwH} {Q : Option fwV → fwH → Prop} (p g f : Nat) (hp : p < 5) (hg : g < 6) (hP : pOk h p) (hG : gOk h g) (hf : (f : Int) < h 5 p 3) (k : ∀ A, Q (some (aI (mGain (h 4 g 1) (h 17 g) (h 4 g 2) (h 18 p) f))) (fwUc h 20 p A)) : fwCt mX3_gainOn (d + 3) [aR 5 p, aR 4 g, aI (f : Int)] h Q := by
  refine fwCt_of [some (aR 5 p), some (aR 4 g), some (aI (f : Int))] rfl rfl rfl ?_
  obtain ⟨⟨p1, p2⟩, p3⟩ := id hP
  obtain ⟨⟨g1, g2⟩, ⟨g3, g4⟩, ⟨g5, g6⟩, g7, g8⟩ := id hG
  refine w_aload_n dX3_gainOn_0 rfl ?_
  refine w_aload_n dX3_gainOn_1 rfl ?_
  refine w_aload_n dX3_gainOn_2 rfl ?_
  refine w_getr 20 p dX3_gainOn_3 fl_X3_18 rfl hp ?_
  refine w_iconst dX3_gainOn_6 ?_
  refine w_callV (d := d + 2) (S := []) [aR 4 g, aR 20 p, aI 0] dX3_gainOn_7 ml_X3_33 ok_X3_fillGains vi_X3_fillGains rfl rfl hp rfl (Nat.le_of_ble_eq_true rfl) ?_
  refine c_fillGains20 (d := d) p g 0 hp hg (by first | assumption | omega | decide) (by first | assumption | omega | decide) (by first | assumption | omega | decide) ?_
  show fwWP mX3_gainOn (d + 3) 10 [some (aR 5 p), some (aR 4 g), some (aI (f : Int))] [] (fwUc h 20 p (fwFlA (mGain (h 4 g 1) (h 17 g) (h 4 g 2) (h 18 p)) (h 20 p) 0 (h 5 p 3).toNat)) Q
  refine w_iload_n dX3_gainOn_10 rfl ?_
  refine w_if_lt 29 dX3_gainOn_11 (by decide) (by omega) (fun c11 => ?_) (fun c11 => ?_)
  · (exfalso; omega)
  · refine w_iload_n dX3_gainOn_14 rfl ?_
    refine w_bipush dX3_gainOn_15 rfl ?_
    refine w_icmp_ge 29 dX3_gainOn_17 (by decide) (by omega) (by omega) (fun c17 => ?_) (fun c17 => ?_)
    · (exfalso; omega)
    · refine w_aload_n dX3_gainOn_20 rfl ?_
      refine w_getr 20 p dX3_gainOn_21 fl_X3_18 rfl hp ?_
      refine w_iload_n dX3_gainOn_24 rfl ?_
      refine w_ialdE (v := mGain (h 4 g 1) (h 17 g) (h 4 g 2) (h 18 p) f) dX3_gainOn_25 rfl hp (by omega) (by omega) (by rw [fwUc_at]; exact fwFlA_in0 (by omega)) ?_
      refine w_goto 30 dX3_gainOn_26 (by decide) ?_
      exact w_iret dX3_gainOn_30 rfl (k _)
set_option maxRecDepth 100000 in
set_option maxHeartbeats 4000000 in
theorem c_X3_gainsOn {d : Nat} {h : fwH} {Q : Option fwV → fwH → Prop} (p g : Nat) (hp : p < 5) (hg : g < 6) (hP : pOk h p) (hG : gOk h g) (k : ∀ A, Q (some (aI (mSum (mGain (h 4 g 1) (h 17 g) (h 4 g 2) (h 18 p)) (h 5 p 3).toNat))) (fwUc h 20 p A)) : fwCt mX3_gainsOn (d + 3) [aR 5 p, aR 4 g] h Q := by
  refine fwCt_of [some (aR 5 p), some (aR 4 g), none, none] rfl rfl rfl ?_
  obtain ⟨⟨p1, p2⟩, p3⟩ := id hP
  obtain ⟨⟨g1, g2⟩, ⟨g3, g4⟩, ⟨g5, g6⟩, g7, g8⟩ := id hG
  refine w_aload_n dX3_gainsOn_0 rfl ?_
  refine w_aload_n dX3_gainsOn_1 rfl ?_
  refine w_aload_n dX3_gainsOn_2 rfl ?_
  refine w_getr 20 p dX3_gainsOn_3 fl_X3_18 rfl hp ?_
  refine w_iconst dX3_gainsOn_6 ?_
  refine w_callV (d := d + 2) (S := []) [aR 4 g, aR 20 p, aI 0] dX3_gainsOn_7 ml_X3_33 ok_X3_fillGains vi_X3_fillGains rfl rfl hp rfl (Nat.le_of_ble_eq_true rfl) ?_
  refine c_fillGains20 (d := d) p g 0 hp hg (by first | assumption | omega | decide) (by first | assumption | omega | decide) (by first | assumption | omega | decide) ?_
  show fwWP mX3_gainsOn (d + 3) 10 [some (aR 5 p), some (aR 4 g), none, none] [] (fwUc h 20 p (fwFlA (mGain (h 4 g 1) (h 17 g) (h 4 g 2) (h 18 p)) (h 20 p) 0 (h 5 p 3).toNat)) Q
  refine w_iconst dX3_gainsOn_10 ?_
  refine w_istore_n [some (aR 5 p), some (aR 4 g), some (aI 0), none] dX3_gainsOn_11 rfl (by decide) ?_
  refine w_iconst dX3_gainsOn_12 ?_
  refine w_istore_n [some (aR 5 p), some (aR 4 g), some (aI 0), some (aI 0)] dX3_gainsOn_13 rfl (by decide) ?_
  have lp14 : ∀ c : Nat, c ≤ (h 5 p 3).toNat → ∀ (y14 su : Int), y14 = (c : Int) → su = mSum (mGain (h 4 g 1) (h 17 g) (h 4 g 2) (h 18 p)) c → fwWP mX3_gainsOn (d + 3) 14 [some (aR 5 p), some (aR 4 g), some (aI su), some (aI y14)] [] (fwUc h 20 p (fwFlA (mGain (h 4 g 1) (h 17 g) (h 4 g 2) (h 18 p)) (h 20 p) 0 (h 5 p 3).toNat)) Q := by
    refine fw_up (fun c hc14 ih14 => ?_)
    intro y14 su ey14 e_su
    subst ey14
    subst e_su
    show fwWP mX3_gainsOn (d + 3) 14 [some (aR 5 p), some (aR 4 g), some (aI (mSum (mGain (h 4 g 1) (h 17 g) (h 4 g 2) (h 18 p)) c)), some (aI (c : Int))] [] (fwUc h 20 p (fwFlA (mGain (h 4 g 1) (h 17 g) (h 4 g 2) (h 18 p)) (h 20 p) 0 (h 5 p 3).toNat)) Q
    refine w_iload_n dX3_gainsOn_14 rfl ?_
    refine w_aload_n dX3_gainsOn_15 rfl ?_
    refine w_getiE (v := h 5 p 3) dX3_gainsOn_16 fl_X3_21 rfl hp rfl ?_
    refine w_icmp_ge 43 dX3_gainsOn_19 (by decide) (by omega) (by omega) (fun c19 => ?_) (fun c19 => ?_)
    · have ec14 : (h 5 p 3).toNat = c := by omega
      subst ec14
      refine w_iload_n dX3_gainsOn_43 rfl ?_
      exact w_iret dX3_gainsOn_44 rfl (k _)
    · refine w_iload_n dX3_gainsOn_22 rfl ?_
      refine w_bipush dX3_gainsOn_23 rfl ?_
      refine w_icmp_ge 43 dX3_gainsOn_25 (by decide) (by omega) (by omega) (fun c25 => ?_) (fun c25 => ?_)
      · (exfalso; omega)
      · refine w_iload_n dX3_gainsOn_28 rfl ?_
        refine w_aload_n dX3_gainsOn_29 rfl ?_
        refine w_getr 20 p dX3_gainsOn_30 fl_X3_18 rfl hp ?_
        refine w_iload_n dX3_gainsOn_33 rfl ?_
        refine w_ialdE (v := mGain (h 4 g 1) (h 17 g) (h 4 g 2) (h 18 p) c) dX3_gainsOn_34 rfl hp (by omega) (by omega) (by rw [fwUc_at]; exact fwFlA_in0 (by omega)) ?_
        refine w_iadd dX3_gainsOn_35 ?_
        refine w_istore_n [some (aR 5 p), some (aR 4 g), some (aI ((mSum (mGain (h 4 g 1) (h 17 g) (h 4 g 2) (h 18 p)) c) + (mGain (h 4 g 1) (h 17 g) (h 4 g 2) (h 18 p) c))), some (aI (c : Int))] dX3_gainsOn_36 rfl (by decide) ?_
        refine w_iinc [some (aR 5 p), some (aR 4 g), some (aI ((mSum (mGain (h 4 g 1) (h 17 g) (h 4 g 2) (h 18 p)) c) + (mGain (h 4 g 1) (h 17 g) (h 4 g 2) (h 18 p) c))), some (aI ((c : Int) + 1))] dX3_gainsOn_37 rfl rfl (by decide) ?_
        refine w_goto 14 dX3_gainsOn_40 (by decide) ?_
        refine ih14 (by omega) _ _ ?_ ?_
        · exact (by omega)
        · exact rfl
  refine lp14 0 (Nat.zero_le _) _ _ ?_ ?_
  · exact (by omega)
  · exact rfl
theorem gOk_set {h : fwH} {g : Nat} {H' : Nat → Int} (hG : gOk h g) (hH : ∀ c : Nat, c < 10 → 0 ≤ H' c ∧ H' c ≤ 1000) : gOk (fwUc h 17 g H') g := by
  obtain ⟨a1, a2, a3, a4, a5⟩ := hG
  refine ⟨a1, a2, a3, a4, ?_⟩
  rw [fwUc_at]
  exact hH
theorem fwFu_rng {H : Nat → Int} {t : Nat} {v : Int} (hH : ∀ c : Nat, c < 10 → 0 ≤ H c ∧ H c ≤ 1000) (hv : 0 ≤ v ∧ v ≤ 1000) : ∀ c : Nat, c < 10 → 0 ≤ fwFu H t v c ∧ fwFu H t v c ≤ 1000 := by
  intro c hc
  unfold fwFu
  split
  · exact hv
  · exact hH c hc
theorem fwFu_back (H : Nat → Int) (t : Nat) (y : Int) : fwFu (fwFu H t (H t + y)) t (fwFu H t (H t + y) t + -y) = H := by
  funext s
  unfold fwFu
  by_cases e : s = t
  · subst e
    simp
    omega
  · simp [e]
/-- who gains by feet on TOP -/
def mGers (n : Int) (H : Nat → Int) (sl ls : Int) (F : Nat → Int) (sz : Nat) (y : Int) : Int :=
  if H (mTop H ls n.toNat).toNat + y < 0 then 0 else mBits (fun f => decide (mGain n H sl F f < mGain n (fwFu H (mTop H ls n.toNat).toNat (H (mTop H ls n.toNat).toNat + y)) sl F f)) sz
set_option maxRecDepth 100000 in
set_option maxHeartbeats 4000000 in
theorem c_X3_gainersBy0 {d : Nat} {h : fwH} {Q : Option fwV → fwH → Prop} (y : Int) (hP : pOk h 0) (hG : gOk h 0) (hn : 1 ≤ h 4 0 1) (hM : ∀ c : Nat, c < 10 → h 17 0 c ≤ 999) (hy : y = 1 ∨ y = -1) (k : ∀ A B, Q (some (aI (mGers (h 4 0 1) (h 17 0) (h 4 0 2) (h 4 0 4) (h 18 0) (h 5 0 3).toNat y))) (fwUc (fwUc h 19 0 A) 20 0 B)) : fwCt mX3_gainersBy (d + 3) [aR 5 0, aR 4 0, aI y] h Q := by
  refine fwCt_of [some (aR 5 0), some (aR 4 0), some (aI y), none, none, none] rfl rfl rfl ?_
  obtain ⟨⟨p1, p2⟩, p3⟩ := id hP
  obtain ⟨⟨g1, g2⟩, ⟨g3, g4⟩, ⟨g5, g6⟩, g7, g8⟩ := id hG
  refine w_aload_n dX3_gainersBy_0 rfl ?_
  refine w_callV (d := d + 2) (S := []) [] dX3_gainersBy_1 ml_X3_55 ok_X1_topCell vi_X1_topCell rfl rfl (by decide) rfl (Nat.le_of_ble_eq_true rfl) ?_
  refine c_X1_topCell (d := (d + 1)) 0 (by decide) (by first | assumption | omega | decide) ?_
  show fwWP mX3_gainersBy (d + 3) 4 [some (aR 5 0), some (aR 4 0), some (aI y), none, none, none] [aI (mTop (h 17 0) (h 4 0 4) (h 4 0 1).toNat)] h Q
  refine w_istore_n [some (aR 5 0), some (aR 4 0), some (aI y), some (aI (mTop (h 17 0) (h 4 0 4) (h 4 0 1).toNat)), none, none] dX3_gainersBy_4 rfl (by decide) ?_
  have ht := mTop_rng (h 17 0) (h 4 0 4) (h 4 0 1).toNat
  have hb0 := g8 (mTop (h 17 0) (h 4 0 4) (h 4 0 1).toNat).toNat (by omega)
  have hb9 := hM (mTop (h 17 0) (h 4 0 4) (h 4 0 1).toNat).toNat (by omega)
  refine w_aload_n dX3_gainersBy_5 rfl ?_
  refine w_iload_n dX3_gainersBy_6 rfl ?_
  refine w_callV (d := d + 2) (S := []) [aI (mTop (h 17 0) (h 4 0 4) (h 4 0 1).toNat)] dX3_gainersBy_7 ml_X3_58 ok_X1_heightOf vi_X1_heightOf rfl rfl (by decide) rfl (Nat.le_of_ble_eq_true rfl) ?_
  refine c_X1_heightOfE (d := (d + 2)) 0 (mTop (h 17 0) (h 4 0 4) (h 4 0 1).toNat) (h 17 0 (mTop (h 17 0) (h 4 0 4) (h 4 0 1).toNat).toNat) (by decide) (by first | assumption | omega | decide) (by first | assumption | omega | decide) (by unfold hOf; rw [if_pos (by omega)]) ?_
  show fwWP mX3_gainersBy (d + 3) 10 [some (aR 5 0), some (aR 4 0), some (aI y), some (aI (mTop (h 17 0) (h 4 0 4) (h 4 0 1).toNat)), none, none] [aI (h 17 0 (mTop (h 17 0) (h 4 0 4) (h 4 0 1).toNat).toNat)] h Q
  refine w_iload_n dX3_gainersBy_10 rfl ?_
  refine w_iadd dX3_gainersBy_11 ?_
  refine w_if_ge 17 dX3_gainersBy_12 (by decide) (by omega) (fun c12 => ?_) (fun c12 => ?_)
  · refine w_aload_n dX3_gainersBy_17 rfl ?_
    refine w_aload_n dX3_gainersBy_18 rfl ?_
    refine w_aload_n dX3_gainersBy_19 rfl ?_
    refine w_getr 19 0 dX3_gainersBy_20 fl_X3_15 rfl (by decide) ?_
    refine w_iconst dX3_gainersBy_23 ?_
    refine w_callV (d := d + 2) (S := []) [aR 4 0, aR 19 0, aI 0] dX3_gainersBy_24 ml_X3_33 ok_X3_fillGains vi_X3_fillGains rfl rfl (by decide) rfl (Nat.le_of_ble_eq_true rfl) ?_
    refine c_fillGains19 (d := d) 0 0 0 (by decide) (by decide) (by first | assumption | omega | decide) (by first | assumption | omega | decide) (by first | assumption | omega | decide) ?_
    show fwWP mX3_gainersBy (d + 3) 27 [some (aR 5 0), some (aR 4 0), some (aI y), some (aI (mTop (h 17 0) (h 4 0 4) (h 4 0 1).toNat)), none, none] [] (fwUc h 19 0 (fwFlA (mGain (h 4 0 1) (h 17 0) (h 4 0 2) (h 18 0)) (h 19 0) 0 (h 5 0 3).toNat)) Q
    refine w_aload_n dX3_gainersBy_27 rfl ?_
    refine w_iload_n dX3_gainersBy_28 rfl ?_
    refine w_iload_n dX3_gainersBy_29 rfl ?_
    refine w_callV (d := d + 2) (S := []) [aI (mTop (h 17 0) (h 4 0 4) (h 4 0 1).toNat), aI y] dX3_gainersBy_30 ml_X3_61 ok_X1_change vi_X1_change rfl rfl (by decide) rfl (Nat.le_of_ble_eq_true rfl) ?_
    refine c_X1_changeE (d := (d + 1)) 0 (mTop (h 17 0) (h 4 0 4) (h 4 0 1).toNat) y (by decide) (by first | assumption | omega | decide) (by first | assumption | omega | decide) (show mTop (h 17 0) (h 4 0 4) (h 4 0 1).toNat < h 4 0 1 by first | assumption | omega | decide) ?_
    show fwWP mX3_gainersBy (d + 3) 33 [some (aR 5 0), some (aR 4 0), some (aI y), some (aI (mTop (h 17 0) (h 4 0 4) (h 4 0 1).toNat)), none, none] [] (fwUc (fwUc h 19 0 (fwFlA (mGain (h 4 0 1) (h 17 0) (h 4 0 2) (h 18 0)) (h 19 0) 0 (h 5 0 3).toNat)) 17 0 (fwFu (h 17 0) (mTop (h 17 0) (h 4 0 4) (h 4 0 1).toNat).toNat (h 17 0 (mTop (h 17 0) (h 4 0 4) (h 4 0 1).toNat).toNat + y))) Q
    rw [show fwUc (fwUc h 19 0 (fwFlA (mGain (h 4 0 1) (h 17 0) (h 4 0 2) (h 18 0)) (h 19 0) 0 (h 5 0 3).toNat)) 17 0 (fwFu (h 17 0) (mTop (h 17 0) (h 4 0 4) (h 4 0 1).toNat).toNat (h 17 0 (mTop (h 17 0) (h 4 0 4) (h 4 0 1).toNat).toNat + y)) = (fwUc (fwUc h 17 0 (fwFu (h 17 0) (mTop (h 17 0) (h 4 0 4) (h 4 0 1).toNat).toNat (h 17 0 (mTop (h 17 0) (h 4 0 4) (h 4 0 1).toNat).toNat + y))) 19 0 (fwFlA (mGain (h 4 0 1) (h 17 0) (h 4 0 2) (h 18 0)) (h 19 0) 0 (h 5 0 3).toNat)) from by funext a b; simp only [fwUc]; (repeat' split); all_goals first | rfl | (exfalso; omega)]
    have g8b := fwFu_rng (H := h 17 0) (t := (mTop (h 17 0) (h 4 0 4) (h 4 0 1).toNat).toNat) (v := h 17 0 (mTop (h 17 0) (h 4 0 4) (h 4 0 1).toNat).toNat + y) g8 (by omega)
    have hG2 := gOk_set hG g8b
    refine w_aload_n dX3_gainersBy_33 rfl ?_
    refine w_aload_n dX3_gainersBy_34 rfl ?_
    refine w_aload_n dX3_gainersBy_35 rfl ?_
    refine w_getr 20 0 dX3_gainersBy_36 fl_X3_18 rfl (by decide) ?_
    refine w_iconst dX3_gainersBy_39 ?_
    refine w_callV (d := d + 2) (S := []) [aR 4 0, aR 20 0, aI 0] dX3_gainersBy_40 ml_X3_33 ok_X3_fillGains vi_X3_fillGains rfl rfl (by decide) rfl (Nat.le_of_ble_eq_true rfl) ?_
    refine c_fillGains20 (d := d) 0 0 0 (by decide) (by decide) (by first | assumption | omega | decide) (by first | assumption | omega | decide) (by first | assumption | omega | decide) ?_
    show fwWP mX3_gainersBy (d + 3) 43 [some (aR 5 0), some (aR 4 0), some (aI y), some (aI (mTop (h 17 0) (h 4 0 4) (h 4 0 1).toNat)), none, none] [] (fwUc (fwUc (fwUc h 17 0 (fwFu (h 17 0) (mTop (h 17 0) (h 4 0 4) (h 4 0 1).toNat).toNat (h 17 0 (mTop (h 17 0) (h 4 0 4) (h 4 0 1).toNat).toNat + y))) 19 0 (fwFlA (mGain (h 4 0 1) (h 17 0) (h 4 0 2) (h 18 0)) (h 19 0) 0 (h 5 0 3).toNat)) 20 0 (fwFlA (mGain (h 4 0 1) (fwFu (h 17 0) (mTop (h 17 0) (h 4 0 4) (h 4 0 1).toNat).toNat (h 17 0 (mTop (h 17 0) (h 4 0 4) (h 4 0 1).toNat).toNat + y)) (h 4 0 2) (h 18 0)) (h 20 0) 0 (h 5 0 3).toNat)) Q
    refine w_aload_n dX3_gainersBy_43 rfl ?_
    refine w_iload_n dX3_gainersBy_44 rfl ?_
    refine w_iload_n dX3_gainersBy_45 rfl ?_
    refine w_ineg dX3_gainersBy_46 ?_
    refine w_callV (d := d + 2) (S := []) [aI (mTop (h 17 0) (h 4 0 4) (h 4 0 1).toNat), aI (-y)] dX3_gainersBy_47 ml_X3_61 ok_X1_change vi_X1_change rfl rfl (by decide) rfl (Nat.le_of_ble_eq_true rfl) ?_
    refine c_X1_changeE (d := (d + 1)) 0 (mTop (h 17 0) (h 4 0 4) (h 4 0 1).toNat) (-y) (by decide) (by first | assumption | omega | decide) (by first | assumption | omega | decide) (show mTop (h 17 0) (h 4 0 4) (h 4 0 1).toNat < h 4 0 1 by first | assumption | omega | decide) ?_
    show fwWP mX3_gainersBy (d + 3) 50 [some (aR 5 0), some (aR 4 0), some (aI y), some (aI (mTop (h 17 0) (h 4 0 4) (h 4 0 1).toNat)), none, none] [] (fwUc (fwUc (fwUc (fwUc h 17 0 (fwFu (h 17 0) (mTop (h 17 0) (h 4 0 4) (h 4 0 1).toNat).toNat (h 17 0 (mTop (h 17 0) (h 4 0 4) (h 4 0 1).toNat).toNat + y))) 19 0 (fwFlA (mGain (h 4 0 1) (h 17 0) (h 4 0 2) (h 18 0)) (h 19 0) 0 (h 5 0 3).toNat)) 20 0 (fwFlA (mGain (h 4 0 1) (fwFu (h 17 0) (mTop (h 17 0) (h 4 0 4) (h 4 0 1).toNat).toNat (h 17 0 (mTop (h 17 0) (h 4 0 4) (h 4 0 1).toNat).toNat + y)) (h 4 0 2) (h 18 0)) (h 20 0) 0 (h 5 0 3).toNat)) 17 0 (fwFu ((fwFu (h 17 0) (mTop (h 17 0) (h 4 0 4) (h 4 0 1).toNat).toNat (h 17 0 (mTop (h 17 0) (h 4 0 4) (h 4 0 1).toNat).toNat + y))) (mTop (h 17 0) (h 4 0 4) (h 4 0 1).toNat).toNat ((fwFu (h 17 0) (mTop (h 17 0) (h 4 0 4) (h 4 0 1).toNat).toNat (h 17 0 (mTop (h 17 0) (h 4 0 4) (h 4 0 1).toNat).toNat + y)) (mTop (h 17 0) (h 4 0 4) (h 4 0 1).toNat).toNat + (-y)))) Q
    rw [show fwUc (fwUc (fwUc (fwUc h 17 0 (fwFu (h 17 0) (mTop (h 17 0) (h 4 0 4) (h 4 0 1).toNat).toNat (h 17 0 (mTop (h 17 0) (h 4 0 4) (h 4 0 1).toNat).toNat + y))) 19 0 (fwFlA (mGain (h 4 0 1) (h 17 0) (h 4 0 2) (h 18 0)) (h 19 0) 0 (h 5 0 3).toNat)) 20 0 (fwFlA (mGain (h 4 0 1) (fwFu (h 17 0) (mTop (h 17 0) (h 4 0 4) (h 4 0 1).toNat).toNat (h 17 0 (mTop (h 17 0) (h 4 0 4) (h 4 0 1).toNat).toNat + y)) (h 4 0 2) (h 18 0)) (h 20 0) 0 (h 5 0 3).toNat)) 17 0 (fwFu ((fwFu (h 17 0) (mTop (h 17 0) (h 4 0 4) (h 4 0 1).toNat).toNat (h 17 0 (mTop (h 17 0) (h 4 0 4) (h 4 0 1).toNat).toNat + y))) (mTop (h 17 0) (h 4 0 4) (h 4 0 1).toNat).toNat ((fwFu (h 17 0) (mTop (h 17 0) (h 4 0 4) (h 4 0 1).toNat).toNat (h 17 0 (mTop (h 17 0) (h 4 0 4) (h 4 0 1).toNat).toNat + y)) (mTop (h 17 0) (h 4 0 4) (h 4 0 1).toNat).toNat + (-y))) = (fwUc (fwUc (fwUc h 17 0 (fwFu ((fwFu (h 17 0) (mTop (h 17 0) (h 4 0 4) (h 4 0 1).toNat).toNat (h 17 0 (mTop (h 17 0) (h 4 0 4) (h 4 0 1).toNat).toNat + y))) (mTop (h 17 0) (h 4 0 4) (h 4 0 1).toNat).toNat ((fwFu (h 17 0) (mTop (h 17 0) (h 4 0 4) (h 4 0 1).toNat).toNat (h 17 0 (mTop (h 17 0) (h 4 0 4) (h 4 0 1).toNat).toNat + y)) (mTop (h 17 0) (h 4 0 4) (h 4 0 1).toNat).toNat + (-y)))) 19 0 (fwFlA (mGain (h 4 0 1) (h 17 0) (h 4 0 2) (h 18 0)) (h 19 0) 0 (h 5 0 3).toNat)) 20 0 (fwFlA (mGain (h 4 0 1) (fwFu (h 17 0) (mTop (h 17 0) (h 4 0 4) (h 4 0 1).toNat).toNat (h 17 0 (mTop (h 17 0) (h 4 0 4) (h 4 0 1).toNat).toNat + y)) (h 4 0 2) (h 18 0)) (h 20 0) 0 (h 5 0 3).toNat)) from by funext a b; simp only [fwUc]; (repeat' split); all_goals first | rfl | (exfalso; omega)]
    rw [fwFu_back, fwUc_self]
    refine w_iconst dX3_gainersBy_50 ?_
    refine w_istore [some (aR 5 0), some (aR 4 0), some (aI y), some (aI (mTop (h 17 0) (h 4 0 4) (h 4 0 1).toNat)), some (aI 0), none] dX3_gainersBy_51 rfl (by decide) ?_
    refine w_iconst dX3_gainersBy_53 ?_
    refine w_istore [some (aR 5 0), some (aR 4 0), some (aI y), some (aI (mTop (h 17 0) (h 4 0 4) (h 4 0 1).toNat)), some (aI 0), some (aI 0)] dX3_gainersBy_54 rfl (by decide) ?_
    have lp56 : ∀ c : Nat, c ≤ (h 5 0 3).toNat → ∀ (y56 bi : Int), y56 = (c : Int) → bi = mBits (fun f => decide (mGain (h 4 0 1) (h 17 0) (h 4 0 2) (h 18 0) f < mGain (h 4 0 1) (fwFu (h 17 0) (mTop (h 17 0) (h 4 0 4) (h 4 0 1).toNat).toNat (h 17 0 (mTop (h 17 0) (h 4 0 4) (h 4 0 1).toNat).toNat + y)) (h 4 0 2) (h 18 0) f)) c → fwWP mX3_gainersBy (d + 3) 56 [some (aR 5 0), some (aR 4 0), some (aI y), some (aI (mTop (h 17 0) (h 4 0 4) (h 4 0 1).toNat)), some (aI bi), some (aI y56)] [] (fwUc (fwUc h 19 0 (fwFlA (mGain (h 4 0 1) (h 17 0) (h 4 0 2) (h 18 0)) (h 19 0) 0 (h 5 0 3).toNat)) 20 0 (fwFlA (mGain (h 4 0 1) (fwFu (h 17 0) (mTop (h 17 0) (h 4 0 4) (h 4 0 1).toNat).toNat (h 17 0 (mTop (h 17 0) (h 4 0 4) (h 4 0 1).toNat).toNat + y)) (h 4 0 2) (h 18 0)) (h 20 0) 0 (h 5 0 3).toNat)) Q := by
      refine fw_up (fun c hc56 ih56 => ?_)
      intro y56 bi ey56 e_bi
      subst ey56
      subst e_bi
      show fwWP mX3_gainersBy (d + 3) 56 [some (aR 5 0), some (aR 4 0), some (aI y), some (aI (mTop (h 17 0) (h 4 0 4) (h 4 0 1).toNat)), some (aI (mBits (fun f => decide (mGain (h 4 0 1) (h 17 0) (h 4 0 2) (h 18 0) f < mGain (h 4 0 1) (fwFu (h 17 0) (mTop (h 17 0) (h 4 0 4) (h 4 0 1).toNat).toNat (h 17 0 (mTop (h 17 0) (h 4 0 4) (h 4 0 1).toNat).toNat + y)) (h 4 0 2) (h 18 0) f)) c)), some (aI (c : Int))] [] (fwUc (fwUc h 19 0 (fwFlA (mGain (h 4 0 1) (h 17 0) (h 4 0 2) (h 18 0)) (h 19 0) 0 (h 5 0 3).toNat)) 20 0 (fwFlA (mGain (h 4 0 1) (fwFu (h 17 0) (mTop (h 17 0) (h 4 0 4) (h 4 0 1).toNat).toNat (h 17 0 (mTop (h 17 0) (h 4 0 4) (h 4 0 1).toNat).toNat + y)) (h 4 0 2) (h 18 0)) (h 20 0) 0 (h 5 0 3).toNat)) Q
      refine w_iload dX3_gainersBy_56 rfl ?_
      refine w_aload_n dX3_gainersBy_58 rfl ?_
      refine w_getiE (v := h 5 0 3) dX3_gainersBy_59 fl_X3_21 rfl (by decide) (by first | rfl | simp [fwUp, fwUc]) ?_
      refine w_icmp_ge 104 dX3_gainersBy_62 (by decide) (by omega) (by omega) (fun c62 => ?_) (fun c62 => ?_)
      · have ec56 : (h 5 0 3).toNat = c := by omega
        subst ec56
        refine w_iload dX3_gainersBy_104 rfl ?_
        exact w_iretE dX3_gainersBy_106 rfl (by rw [mGers, if_neg (by omega)]) (k _ _)
      · refine w_iload dX3_gainersBy_65 rfl ?_
        refine w_bipush dX3_gainersBy_67 rfl ?_
        refine w_icmp_ge 104 dX3_gainersBy_69 (by decide) (by omega) (by omega) (fun c69 => ?_) (fun c69 => ?_)
        · (exfalso; omega)
        · refine w_aload_n dX3_gainersBy_72 rfl ?_
          refine w_getr 20 0 dX3_gainersBy_73 fl_X3_18 rfl (by decide) ?_
          refine w_iload dX3_gainersBy_76 rfl ?_
          refine w_ialdE (v := mGain (h 4 0 1) (fwFu (h 17 0) (mTop (h 17 0) (h 4 0 4) (h 4 0 1).toNat).toNat (h 17 0 (mTop (h 17 0) (h 4 0 4) (h 4 0 1).toNat).toNat + y)) (h 4 0 2) (h 18 0) c) dX3_gainersBy_78 rfl (by decide) (by omega) (by omega) (by rw [fwUc_at]; exact fwFlA_in0 (by omega)) ?_
          refine w_aload_n dX3_gainersBy_79 rfl ?_
          refine w_getr 19 0 dX3_gainersBy_80 fl_X3_15 rfl (by decide) ?_
          refine w_iload dX3_gainersBy_83 rfl ?_
          refine w_ialdE (v := mGain (h 4 0 1) (h 17 0) (h 4 0 2) (h 18 0) c) dX3_gainersBy_85 rfl (by decide) (by omega) (by omega) (by first | (rw [fwUc_ne (by omega), fwUc_at]; exact fwFlA_in0 (by omega)) | (rw [fwUc_at]; exact fwFlA_in0 (by omega))) ?_
          have hf := p3 c (by omega)
          have hr1 := mGain_rng (n := h 4 0 1) (H := h 17 0) (sl := h 4 0 2) (F := h 18 0) (f := c) (by omega) g8 (by omega) (by omega) (by omega)
          have hr2 := mGain_rng (n := h 4 0 1) (H := fwFu (h 17 0) (mTop (h 17 0) (h 4 0 4) (h 4 0 1).toNat).toNat (h 17 0 (mTop (h 17 0) (h 4 0 4) (h 4 0 1).toNat).toNat + y)) (sl := h 4 0 2) (F := h 18 0) (f := c) (by omega) g8b (by omega) (by omega) (by omega)
          refine w_icmp_le 98 dX3_gainersBy_86 (by decide) (by omega) (by omega) (fun c86 => ?_) (fun c86 => ?_)
          · refine w_iinc [some (aR 5 0), some (aR 4 0), some (aI y), some (aI (mTop (h 17 0) (h 4 0 4) (h 4 0 1).toNat)), some (aI (mBits (fun f => decide (mGain (h 4 0 1) (h 17 0) (h 4 0 2) (h 18 0) f < mGain (h 4 0 1) (fwFu (h 17 0) (mTop (h 17 0) (h 4 0 4) (h 4 0 1).toNat).toNat (h 17 0 (mTop (h 17 0) (h 4 0 4) (h 4 0 1).toNat).toNat + y)) (h 4 0 2) (h 18 0) f)) c)), some (aI ((c : Int) + 1))] dX3_gainersBy_98 rfl rfl (by decide) ?_
            refine w_goto 56 dX3_gainersBy_101 (by decide) ?_
            refine ih56 (by omega) _ _ ?_ ?_
            · exact (by omega)
            · exact (by rw [mBits]; first | rw [if_pos (by simp only [decide_eq_true_eq]; omega)] | rw [if_neg (by simp only [decide_eq_true_eq]; omega)])
          · refine w_iload dX3_gainersBy_89 rfl ?_
            refine w_iconst dX3_gainersBy_91 ?_
            refine w_iload dX3_gainersBy_92 rfl ?_
            refine w_ishl dX3_gainersBy_94 ?_
            refine w_ior dX3_gainersBy_95 ?_
            refine w_istore [some (aR 5 0), some (aR 4 0), some (aI y), some (aI (mTop (h 17 0) (h 4 0 4) (h 4 0 1).toNat)), some (aI (fwOr (mBits (fun f => decide (mGain (h 4 0 1) (h 17 0) (h 4 0 2) (h 18 0) f < mGain (h 4 0 1) (fwFu (h 17 0) (mTop (h 17 0) (h 4 0 4) (h 4 0 1).toNat).toNat (h 17 0 (mTop (h 17 0) (h 4 0 4) (h 4 0 1).toNat).toNat + y)) (h 4 0 2) (h 18 0) f)) c) (fwShl 1 (c : Int)))), some (aI (c : Int))] dX3_gainersBy_96 rfl (by decide) ?_
            refine w_iinc [some (aR 5 0), some (aR 4 0), some (aI y), some (aI (mTop (h 17 0) (h 4 0 4) (h 4 0 1).toNat)), some (aI (fwOr (mBits (fun f => decide (mGain (h 4 0 1) (h 17 0) (h 4 0 2) (h 18 0) f < mGain (h 4 0 1) (fwFu (h 17 0) (mTop (h 17 0) (h 4 0 4) (h 4 0 1).toNat).toNat (h 17 0 (mTop (h 17 0) (h 4 0 4) (h 4 0 1).toNat).toNat + y)) (h 4 0 2) (h 18 0) f)) c) (fwShl 1 (c : Int)))), some (aI ((c : Int) + 1))] dX3_gainersBy_98 rfl rfl (by decide) ?_
            refine w_goto 56 dX3_gainersBy_101 (by decide) ?_
            refine ih56 (by omega) _ _ ?_ ?_
            · exact (by omega)
            · exact (by rw [mBits]; first | rw [if_pos (by simp only [decide_eq_true_eq]; omega)] | rw [if_neg (by simp only [decide_eq_true_eq]; omega)])
    refine lp56 0 (Nat.zero_le _) _ _ ?_ ?_
    · exact (by omega)
    · exact rfl
  · refine w_iconst dX3_gainersBy_15 ?_
    have k9 := k (h 19 0) (h 20 0)
    rw [mGers, if_pos (by omega), show fwUc (fwUc h 19 0 (h 19 0)) 20 0 (h 20 0) = h by rw [fwUc_self]; exact fwUc_self h 20 0] at k9
    exact w_iret dX3_gainersBy_16 rfl k9
set_option maxRecDepth 100000 in
set_option maxHeartbeats 4000000 in
theorem c_X3_gainersBy5 {d : Nat} {h : fwH} {Q : Option fwV → fwH → Prop} (y : Int) (hP : pOk h 0) (hG : gOk h 5) (hn : 1 ≤ h 4 5 1) (hM : ∀ c : Nat, c < 10 → h 17 5 c ≤ 999) (hy : y = 1 ∨ y = -1) (k : ∀ A B, Q (some (aI (mGers (h 4 5 1) (h 17 5) (h 4 5 2) (h 4 5 4) (h 18 0) (h 5 0 3).toNat y))) (fwUc (fwUc h 19 0 A) 20 0 B)) : fwCt mX3_gainersBy (d + 3) [aR 5 0, aR 4 5, aI y] h Q := by
  refine fwCt_of [some (aR 5 0), some (aR 4 5), some (aI y), none, none, none] rfl rfl rfl ?_
  obtain ⟨⟨p1, p2⟩, p3⟩ := id hP
  obtain ⟨⟨g1, g2⟩, ⟨g3, g4⟩, ⟨g5, g6⟩, g7, g8⟩ := id hG
  refine w_aload_n dX3_gainersBy_0 rfl ?_
  refine w_callV (d := d + 2) (S := []) [] dX3_gainersBy_1 ml_X3_55 ok_X1_topCell vi_X1_topCell rfl rfl (by decide) rfl (Nat.le_of_ble_eq_true rfl) ?_
  refine c_X1_topCell (d := (d + 1)) 5 (by decide) (by first | assumption | omega | decide) ?_
  show fwWP mX3_gainersBy (d + 3) 4 [some (aR 5 0), some (aR 4 5), some (aI y), none, none, none] [aI (mTop (h 17 5) (h 4 5 4) (h 4 5 1).toNat)] h Q
  refine w_istore_n [some (aR 5 0), some (aR 4 5), some (aI y), some (aI (mTop (h 17 5) (h 4 5 4) (h 4 5 1).toNat)), none, none] dX3_gainersBy_4 rfl (by decide) ?_
  have ht := mTop_rng (h 17 5) (h 4 5 4) (h 4 5 1).toNat
  have hb0 := g8 (mTop (h 17 5) (h 4 5 4) (h 4 5 1).toNat).toNat (by omega)
  have hb9 := hM (mTop (h 17 5) (h 4 5 4) (h 4 5 1).toNat).toNat (by omega)
  refine w_aload_n dX3_gainersBy_5 rfl ?_
  refine w_iload_n dX3_gainersBy_6 rfl ?_
  refine w_callV (d := d + 2) (S := []) [aI (mTop (h 17 5) (h 4 5 4) (h 4 5 1).toNat)] dX3_gainersBy_7 ml_X3_58 ok_X1_heightOf vi_X1_heightOf rfl rfl (by decide) rfl (Nat.le_of_ble_eq_true rfl) ?_
  refine c_X1_heightOfE (d := (d + 2)) 5 (mTop (h 17 5) (h 4 5 4) (h 4 5 1).toNat) (h 17 5 (mTop (h 17 5) (h 4 5 4) (h 4 5 1).toNat).toNat) (by decide) (by first | assumption | omega | decide) (by first | assumption | omega | decide) (by unfold hOf; rw [if_pos (by omega)]) ?_
  show fwWP mX3_gainersBy (d + 3) 10 [some (aR 5 0), some (aR 4 5), some (aI y), some (aI (mTop (h 17 5) (h 4 5 4) (h 4 5 1).toNat)), none, none] [aI (h 17 5 (mTop (h 17 5) (h 4 5 4) (h 4 5 1).toNat).toNat)] h Q
  refine w_iload_n dX3_gainersBy_10 rfl ?_
  refine w_iadd dX3_gainersBy_11 ?_
  refine w_if_ge 17 dX3_gainersBy_12 (by decide) (by omega) (fun c12 => ?_) (fun c12 => ?_)
  · refine w_aload_n dX3_gainersBy_17 rfl ?_
    refine w_aload_n dX3_gainersBy_18 rfl ?_
    refine w_aload_n dX3_gainersBy_19 rfl ?_
    refine w_getr 19 0 dX3_gainersBy_20 fl_X3_15 rfl (by decide) ?_
    refine w_iconst dX3_gainersBy_23 ?_
    refine w_callV (d := d + 2) (S := []) [aR 4 5, aR 19 0, aI 0] dX3_gainersBy_24 ml_X3_33 ok_X3_fillGains vi_X3_fillGains rfl rfl (by decide) rfl (Nat.le_of_ble_eq_true rfl) ?_
    refine c_fillGains19 (d := d) 0 5 0 (by decide) (by decide) (by first | assumption | omega | decide) (by first | assumption | omega | decide) (by first | assumption | omega | decide) ?_
    show fwWP mX3_gainersBy (d + 3) 27 [some (aR 5 0), some (aR 4 5), some (aI y), some (aI (mTop (h 17 5) (h 4 5 4) (h 4 5 1).toNat)), none, none] [] (fwUc h 19 0 (fwFlA (mGain (h 4 5 1) (h 17 5) (h 4 5 2) (h 18 0)) (h 19 0) 0 (h 5 0 3).toNat)) Q
    refine w_aload_n dX3_gainersBy_27 rfl ?_
    refine w_iload_n dX3_gainersBy_28 rfl ?_
    refine w_iload_n dX3_gainersBy_29 rfl ?_
    refine w_callV (d := d + 2) (S := []) [aI (mTop (h 17 5) (h 4 5 4) (h 4 5 1).toNat), aI y] dX3_gainersBy_30 ml_X3_61 ok_X1_change vi_X1_change rfl rfl (by decide) rfl (Nat.le_of_ble_eq_true rfl) ?_
    refine c_X1_changeE (d := (d + 1)) 5 (mTop (h 17 5) (h 4 5 4) (h 4 5 1).toNat) y (by decide) (by first | assumption | omega | decide) (by first | assumption | omega | decide) (show mTop (h 17 5) (h 4 5 4) (h 4 5 1).toNat < h 4 5 1 by first | assumption | omega | decide) ?_
    show fwWP mX3_gainersBy (d + 3) 33 [some (aR 5 0), some (aR 4 5), some (aI y), some (aI (mTop (h 17 5) (h 4 5 4) (h 4 5 1).toNat)), none, none] [] (fwUc (fwUc h 19 0 (fwFlA (mGain (h 4 5 1) (h 17 5) (h 4 5 2) (h 18 0)) (h 19 0) 0 (h 5 0 3).toNat)) 17 5 (fwFu (h 17 5) (mTop (h 17 5) (h 4 5 4) (h 4 5 1).toNat).toNat (h 17 5 (mTop (h 17 5) (h 4 5 4) (h 4 5 1).toNat).toNat + y))) Q
    rw [show fwUc (fwUc h 19 0 (fwFlA (mGain (h 4 5 1) (h 17 5) (h 4 5 2) (h 18 0)) (h 19 0) 0 (h 5 0 3).toNat)) 17 5 (fwFu (h 17 5) (mTop (h 17 5) (h 4 5 4) (h 4 5 1).toNat).toNat (h 17 5 (mTop (h 17 5) (h 4 5 4) (h 4 5 1).toNat).toNat + y)) = (fwUc (fwUc h 17 5 (fwFu (h 17 5) (mTop (h 17 5) (h 4 5 4) (h 4 5 1).toNat).toNat (h 17 5 (mTop (h 17 5) (h 4 5 4) (h 4 5 1).toNat).toNat + y))) 19 0 (fwFlA (mGain (h 4 5 1) (h 17 5) (h 4 5 2) (h 18 0)) (h 19 0) 0 (h 5 0 3).toNat)) from by funext a b; simp only [fwUc]; (repeat' split); all_goals first | rfl | (exfalso; omega)]
    have g8b := fwFu_rng (H := h 17 5) (t := (mTop (h 17 5) (h 4 5 4) (h 4 5 1).toNat).toNat) (v := h 17 5 (mTop (h 17 5) (h 4 5 4) (h 4 5 1).toNat).toNat + y) g8 (by omega)
    have hG2 := gOk_set hG g8b
    refine w_aload_n dX3_gainersBy_33 rfl ?_
    refine w_aload_n dX3_gainersBy_34 rfl ?_
    refine w_aload_n dX3_gainersBy_35 rfl ?_
    refine w_getr 20 0 dX3_gainersBy_36 fl_X3_18 rfl (by decide) ?_
    refine w_iconst dX3_gainersBy_39 ?_
    refine w_callV (d := d + 2) (S := []) [aR 4 5, aR 20 0, aI 0] dX3_gainersBy_40 ml_X3_33 ok_X3_fillGains vi_X3_fillGains rfl rfl (by decide) rfl (Nat.le_of_ble_eq_true rfl) ?_
    refine c_fillGains20 (d := d) 0 5 0 (by decide) (by decide) (by first | assumption | omega | decide) (by first | assumption | omega | decide) (by first | assumption | omega | decide) ?_
    show fwWP mX3_gainersBy (d + 3) 43 [some (aR 5 0), some (aR 4 5), some (aI y), some (aI (mTop (h 17 5) (h 4 5 4) (h 4 5 1).toNat)), none, none] [] (fwUc (fwUc (fwUc h 17 5 (fwFu (h 17 5) (mTop (h 17 5) (h 4 5 4) (h 4 5 1).toNat).toNat (h 17 5 (mTop (h 17 5) (h 4 5 4) (h 4 5 1).toNat).toNat + y))) 19 0 (fwFlA (mGain (h 4 5 1) (h 17 5) (h 4 5 2) (h 18 0)) (h 19 0) 0 (h 5 0 3).toNat)) 20 0 (fwFlA (mGain (h 4 5 1) (fwFu (h 17 5) (mTop (h 17 5) (h 4 5 4) (h 4 5 1).toNat).toNat (h 17 5 (mTop (h 17 5) (h 4 5 4) (h 4 5 1).toNat).toNat + y)) (h 4 5 2) (h 18 0)) (h 20 0) 0 (h 5 0 3).toNat)) Q
    refine w_aload_n dX3_gainersBy_43 rfl ?_
    refine w_iload_n dX3_gainersBy_44 rfl ?_
    refine w_iload_n dX3_gainersBy_45 rfl ?_
    refine w_ineg dX3_gainersBy_46 ?_
    refine w_callV (d := d + 2) (S := []) [aI (mTop (h 17 5) (h 4 5 4) (h 4 5 1).toNat), aI (-y)] dX3_gainersBy_47 ml_X3_61 ok_X1_change vi_X1_change rfl rfl (by decide) rfl (Nat.le_of_ble_eq_true rfl) ?_
    refine c_X1_changeE (d := (d + 1)) 5 (mTop (h 17 5) (h 4 5 4) (h 4 5 1).toNat) (-y) (by decide) (by first | assumption | omega | decide) (by first | assumption | omega | decide) (show mTop (h 17 5) (h 4 5 4) (h 4 5 1).toNat < h 4 5 1 by first | assumption | omega | decide) ?_
    show fwWP mX3_gainersBy (d + 3) 50 [some (aR 5 0), some (aR 4 5), some (aI y), some (aI (mTop (h 17 5) (h 4 5 4) (h 4 5 1).toNat)), none, none] [] (fwUc (fwUc (fwUc (fwUc h 17 5 (fwFu (h 17 5) (mTop (h 17 5) (h 4 5 4) (h 4 5 1).toNat).toNat (h 17 5 (mTop (h 17 5) (h 4 5 4) (h 4 5 1).toNat).toNat + y))) 19 0 (fwFlA (mGain (h 4 5 1) (h 17 5) (h 4 5 2) (h 18 0)) (h 19 0) 0 (h 5 0 3).toNat)) 20 0 (fwFlA (mGain (h 4 5 1) (fwFu (h 17 5) (mTop (h 17 5) (h 4 5 4) (h 4 5 1).toNat).toNat (h 17 5 (mTop (h 17 5) (h 4 5 4) (h 4 5 1).toNat).toNat + y)) (h 4 5 2) (h 18 0)) (h 20 0) 0 (h 5 0 3).toNat)) 17 5 (fwFu ((fwFu (h 17 5) (mTop (h 17 5) (h 4 5 4) (h 4 5 1).toNat).toNat (h 17 5 (mTop (h 17 5) (h 4 5 4) (h 4 5 1).toNat).toNat + y))) (mTop (h 17 5) (h 4 5 4) (h 4 5 1).toNat).toNat ((fwFu (h 17 5) (mTop (h 17 5) (h 4 5 4) (h 4 5 1).toNat).toNat (h 17 5 (mTop (h 17 5) (h 4 5 4) (h 4 5 1).toNat).toNat + y)) (mTop (h 17 5) (h 4 5 4) (h 4 5 1).toNat).toNat + (-y)))) Q
    rw [show fwUc (fwUc (fwUc (fwUc h 17 5 (fwFu (h 17 5) (mTop (h 17 5) (h 4 5 4) (h 4 5 1).toNat).toNat (h 17 5 (mTop (h 17 5) (h 4 5 4) (h 4 5 1).toNat).toNat + y))) 19 0 (fwFlA (mGain (h 4 5 1) (h 17 5) (h 4 5 2) (h 18 0)) (h 19 0) 0 (h 5 0 3).toNat)) 20 0 (fwFlA (mGain (h 4 5 1) (fwFu (h 17 5) (mTop (h 17 5) (h 4 5 4) (h 4 5 1).toNat).toNat (h 17 5 (mTop (h 17 5) (h 4 5 4) (h 4 5 1).toNat).toNat + y)) (h 4 5 2) (h 18 0)) (h 20 0) 0 (h 5 0 3).toNat)) 17 5 (fwFu ((fwFu (h 17 5) (mTop (h 17 5) (h 4 5 4) (h 4 5 1).toNat).toNat (h 17 5 (mTop (h 17 5) (h 4 5 4) (h 4 5 1).toNat).toNat + y))) (mTop (h 17 5) (h 4 5 4) (h 4 5 1).toNat).toNat ((fwFu (h 17 5) (mTop (h 17 5) (h 4 5 4) (h 4 5 1).toNat).toNat (h 17 5 (mTop (h 17 5) (h 4 5 4) (h 4 5 1).toNat).toNat + y)) (mTop (h 17 5) (h 4 5 4) (h 4 5 1).toNat).toNat + (-y))) = (fwUc (fwUc (fwUc h 17 5 (fwFu ((fwFu (h 17 5) (mTop (h 17 5) (h 4 5 4) (h 4 5 1).toNat).toNat (h 17 5 (mTop (h 17 5) (h 4 5 4) (h 4 5 1).toNat).toNat + y))) (mTop (h 17 5) (h 4 5 4) (h 4 5 1).toNat).toNat ((fwFu (h 17 5) (mTop (h 17 5) (h 4 5 4) (h 4 5 1).toNat).toNat (h 17 5 (mTop (h 17 5) (h 4 5 4) (h 4 5 1).toNat).toNat + y)) (mTop (h 17 5) (h 4 5 4) (h 4 5 1).toNat).toNat + (-y)))) 19 0 (fwFlA (mGain (h 4 5 1) (h 17 5) (h 4 5 2) (h 18 0)) (h 19 0) 0 (h 5 0 3).toNat)) 20 0 (fwFlA (mGain (h 4 5 1) (fwFu (h 17 5) (mTop (h 17 5) (h 4 5 4) (h 4 5 1).toNat).toNat (h 17 5 (mTop (h 17 5) (h 4 5 4) (h 4 5 1).toNat).toNat + y)) (h 4 5 2) (h 18 0)) (h 20 0) 0 (h 5 0 3).toNat)) from by funext a b; simp only [fwUc]; (repeat' split); all_goals first | rfl | (exfalso; omega)]
    rw [fwFu_back, fwUc_self]
    refine w_iconst dX3_gainersBy_50 ?_
    refine w_istore [some (aR 5 0), some (aR 4 5), some (aI y), some (aI (mTop (h 17 5) (h 4 5 4) (h 4 5 1).toNat)), some (aI 0), none] dX3_gainersBy_51 rfl (by decide) ?_
    refine w_iconst dX3_gainersBy_53 ?_
    refine w_istore [some (aR 5 0), some (aR 4 5), some (aI y), some (aI (mTop (h 17 5) (h 4 5 4) (h 4 5 1).toNat)), some (aI 0), some (aI 0)] dX3_gainersBy_54 rfl (by decide) ?_
    have lp56 : ∀ c : Nat, c ≤ (h 5 0 3).toNat → ∀ (y56 bi : Int), y56 = (c : Int) → bi = mBits (fun f => decide (mGain (h 4 5 1) (h 17 5) (h 4 5 2) (h 18 0) f < mGain (h 4 5 1) (fwFu (h 17 5) (mTop (h 17 5) (h 4 5 4) (h 4 5 1).toNat).toNat (h 17 5 (mTop (h 17 5) (h 4 5 4) (h 4 5 1).toNat).toNat + y)) (h 4 5 2) (h 18 0) f)) c → fwWP mX3_gainersBy (d + 3) 56 [some (aR 5 0), some (aR 4 5), some (aI y), some (aI (mTop (h 17 5) (h 4 5 4) (h 4 5 1).toNat)), some (aI bi), some (aI y56)] [] (fwUc (fwUc h 19 0 (fwFlA (mGain (h 4 5 1) (h 17 5) (h 4 5 2) (h 18 0)) (h 19 0) 0 (h 5 0 3).toNat)) 20 0 (fwFlA (mGain (h 4 5 1) (fwFu (h 17 5) (mTop (h 17 5) (h 4 5 4) (h 4 5 1).toNat).toNat (h 17 5 (mTop (h 17 5) (h 4 5 4) (h 4 5 1).toNat).toNat + y)) (h 4 5 2) (h 18 0)) (h 20 0) 0 (h 5 0 3).toNat)) Q := by
      refine fw_up (fun c hc56 ih56 => ?_)
      intro y56 bi ey56 e_bi
      subst ey56
      subst e_bi
      show fwWP mX3_gainersBy (d + 3) 56 [some (aR 5 0), some (aR 4 5), some (aI y), some (aI (mTop (h 17 5) (h 4 5 4) (h 4 5 1).toNat)), some (aI (mBits (fun f => decide (mGain (h 4 5 1) (h 17 5) (h 4 5 2) (h 18 0) f < mGain (h 4 5 1) (fwFu (h 17 5) (mTop (h 17 5) (h 4 5 4) (h 4 5 1).toNat).toNat (h 17 5 (mTop (h 17 5) (h 4 5 4) (h 4 5 1).toNat).toNat + y)) (h 4 5 2) (h 18 0) f)) c)), some (aI (c : Int))] [] (fwUc (fwUc h 19 0 (fwFlA (mGain (h 4 5 1) (h 17 5) (h 4 5 2) (h 18 0)) (h 19 0) 0 (h 5 0 3).toNat)) 20 0 (fwFlA (mGain (h 4 5 1) (fwFu (h 17 5) (mTop (h 17 5) (h 4 5 4) (h 4 5 1).toNat).toNat (h 17 5 (mTop (h 17 5) (h 4 5 4) (h 4 5 1).toNat).toNat + y)) (h 4 5 2) (h 18 0)) (h 20 0) 0 (h 5 0 3).toNat)) Q
      refine w_iload dX3_gainersBy_56 rfl ?_
      refine w_aload_n dX3_gainersBy_58 rfl ?_
      refine w_getiE (v := h 5 0 3) dX3_gainersBy_59 fl_X3_21 rfl (by decide) (by first | rfl | simp [fwUp, fwUc]) ?_
      refine w_icmp_ge 104 dX3_gainersBy_62 (by decide) (by omega) (by omega) (fun c62 => ?_) (fun c62 => ?_)
      · have ec56 : (h 5 0 3).toNat = c := by omega
        subst ec56
        refine w_iload dX3_gainersBy_104 rfl ?_
        exact w_iretE dX3_gainersBy_106 rfl (by rw [mGers, if_neg (by omega)]) (k _ _)
      · refine w_iload dX3_gainersBy_65 rfl ?_
        refine w_bipush dX3_gainersBy_67 rfl ?_
        refine w_icmp_ge 104 dX3_gainersBy_69 (by decide) (by omega) (by omega) (fun c69 => ?_) (fun c69 => ?_)
        · (exfalso; omega)
        · refine w_aload_n dX3_gainersBy_72 rfl ?_
          refine w_getr 20 0 dX3_gainersBy_73 fl_X3_18 rfl (by decide) ?_
          refine w_iload dX3_gainersBy_76 rfl ?_
          refine w_ialdE (v := mGain (h 4 5 1) (fwFu (h 17 5) (mTop (h 17 5) (h 4 5 4) (h 4 5 1).toNat).toNat (h 17 5 (mTop (h 17 5) (h 4 5 4) (h 4 5 1).toNat).toNat + y)) (h 4 5 2) (h 18 0) c) dX3_gainersBy_78 rfl (by decide) (by omega) (by omega) (by rw [fwUc_at]; exact fwFlA_in0 (by omega)) ?_
          refine w_aload_n dX3_gainersBy_79 rfl ?_
          refine w_getr 19 0 dX3_gainersBy_80 fl_X3_15 rfl (by decide) ?_
          refine w_iload dX3_gainersBy_83 rfl ?_
          refine w_ialdE (v := mGain (h 4 5 1) (h 17 5) (h 4 5 2) (h 18 0) c) dX3_gainersBy_85 rfl (by decide) (by omega) (by omega) (by first | (rw [fwUc_ne (by omega), fwUc_at]; exact fwFlA_in0 (by omega)) | (rw [fwUc_at]; exact fwFlA_in0 (by omega))) ?_
          have hf := p3 c (by omega)
          have hr1 := mGain_rng (n := h 4 5 1) (H := h 17 5) (sl := h 4 5 2) (F := h 18 0) (f := c) (by omega) g8 (by omega) (by omega) (by omega)
          have hr2 := mGain_rng (n := h 4 5 1) (H := fwFu (h 17 5) (mTop (h 17 5) (h 4 5 4) (h 4 5 1).toNat).toNat (h 17 5 (mTop (h 17 5) (h 4 5 4) (h 4 5 1).toNat).toNat + y)) (sl := h 4 5 2) (F := h 18 0) (f := c) (by omega) g8b (by omega) (by omega) (by omega)
          refine w_icmp_le 98 dX3_gainersBy_86 (by decide) (by omega) (by omega) (fun c86 => ?_) (fun c86 => ?_)
          · refine w_iinc [some (aR 5 0), some (aR 4 5), some (aI y), some (aI (mTop (h 17 5) (h 4 5 4) (h 4 5 1).toNat)), some (aI (mBits (fun f => decide (mGain (h 4 5 1) (h 17 5) (h 4 5 2) (h 18 0) f < mGain (h 4 5 1) (fwFu (h 17 5) (mTop (h 17 5) (h 4 5 4) (h 4 5 1).toNat).toNat (h 17 5 (mTop (h 17 5) (h 4 5 4) (h 4 5 1).toNat).toNat + y)) (h 4 5 2) (h 18 0) f)) c)), some (aI ((c : Int) + 1))] dX3_gainersBy_98 rfl rfl (by decide) ?_
            refine w_goto 56 dX3_gainersBy_101 (by decide) ?_
            refine ih56 (by omega) _ _ ?_ ?_
            · exact (by omega)
            · exact (by rw [mBits]; first | rw [if_pos (by simp only [decide_eq_true_eq]; omega)] | rw [if_neg (by simp only [decide_eq_true_eq]; omega)])
          · refine w_iload dX3_gainersBy_89 rfl ?_
            refine w_iconst dX3_gainersBy_91 ?_
            refine w_iload dX3_gainersBy_92 rfl ?_
            refine w_ishl dX3_gainersBy_94 ?_
            refine w_ior dX3_gainersBy_95 ?_
            refine w_istore [some (aR 5 0), some (aR 4 5), some (aI y), some (aI (mTop (h 17 5) (h 4 5 4) (h 4 5 1).toNat)), some (aI (fwOr (mBits (fun f => decide (mGain (h 4 5 1) (h 17 5) (h 4 5 2) (h 18 0) f < mGain (h 4 5 1) (fwFu (h 17 5) (mTop (h 17 5) (h 4 5 4) (h 4 5 1).toNat).toNat (h 17 5 (mTop (h 17 5) (h 4 5 4) (h 4 5 1).toNat).toNat + y)) (h 4 5 2) (h 18 0) f)) c) (fwShl 1 (c : Int)))), some (aI (c : Int))] dX3_gainersBy_96 rfl (by decide) ?_
            refine w_iinc [some (aR 5 0), some (aR 4 5), some (aI y), some (aI (mTop (h 17 5) (h 4 5 4) (h 4 5 1).toNat)), some (aI (fwOr (mBits (fun f => decide (mGain (h 4 5 1) (h 17 5) (h 4 5 2) (h 18 0) f < mGain (h 4 5 1) (fwFu (h 17 5) (mTop (h 17 5) (h 4 5 4) (h 4 5 1).toNat).toNat (h 17 5 (mTop (h 17 5) (h 4 5 4) (h 4 5 1).toNat).toNat + y)) (h 4 5 2) (h 18 0) f)) c) (fwShl 1 (c : Int)))), some (aI ((c : Int) + 1))] dX3_gainersBy_98 rfl rfl (by decide) ?_
            refine w_goto 56 dX3_gainersBy_101 (by decide) ?_
            refine ih56 (by omega) _ _ ?_ ?_
            · exact (by omega)
            · exact (by rw [mBits]; first | rw [if_pos (by simp only [decide_eq_true_eq]; omega)] | rw [if_neg (by simp only [decide_eq_true_eq]; omega)])
    refine lp56 0 (Nat.zero_le _) _ _ ?_ ?_
    · exact (by omega)
    · exact rfl
  · refine w_iconst dX3_gainersBy_15 ?_
    have k9 := k (h 19 0) (h 20 0)
    rw [mGers, if_pos (by omega), show fwUc (fwUc h 19 0 (h 19 0)) 20 0 (h 20 0) = h by rw [fwUc_self]; exact fwUc_self h 20 0] at k9
    exact w_iret dX3_gainersBy_16 rfl k9
theorem fwAnd_rng1 (y : Int) : 0 ≤ fwAnd y 1 ∧ fwAnd y 1 ≤ 1 := by
  unfold fwAnd
  obtain ⟨j, hj, e⟩ := pk_andE (Int32.ofInt y) (m := Int32.ofInt 1) 1 (by decide)
  rw [e, nI_toInt (by omega)]
  omega
def mNames (F : Nat → Int) (x : Int) : Nat → Int
  | 0 => 0
  | f + 1 => if fwAnd (fwShr x f) 1 = 1 then mNames F x f + F (7 * f + 1) else mNames F x f
set_option maxRecDepth 100000 in
set_option maxHeartbeats 4000000 in
theorem c_X3_namesOf {d : Nat} {h : fwH} {Q : Option fwV → fwH → Prop} (p : Nat) (x : Int) (hp : p < 5) (hP : pOk h p) (k : Q (some (aI (mNames (h 18 p) x (h 5 p 3).toNat))) h) : fwCt mX3_namesOf (d + 1) [aR 5 p, aI x] h Q := by
  refine fwCt_of [some (aR 5 p), some (aI x), none, none] rfl rfl rfl ?_
  obtain ⟨⟨p1, p2⟩, p3⟩ := id hP
  refine w_iconst dX3_namesOf_0 ?_
  refine w_istore_n [some (aR 5 p), some (aI x), some (aI 0), none] dX3_namesOf_1 rfl (by decide) ?_
  refine w_iconst dX3_namesOf_2 ?_
  refine w_istore_n [some (aR 5 p), some (aI x), some (aI 0), some (aI 0)] dX3_namesOf_3 rfl (by decide) ?_
  have lp4 : ∀ c : Nat, c ≤ (h 5 p 3).toNat → ∀ (y4 su : Int), y4 = (c : Int) → su = mNames (h 18 p) x c → fwWP mX3_namesOf (d + 1) 4 [some (aR 5 p), some (aI x), some (aI su), some (aI y4)] [] h Q := by
    refine fw_up (fun c hc4 ih4 => ?_)
    intro y4 su ey4 e_su
    subst ey4
    subst e_su
    show fwWP mX3_namesOf (d + 1) 4 [some (aR 5 p), some (aI x), some (aI (mNames (h 18 p) x c)), some (aI (c : Int))] [] h Q
    refine w_iload_n dX3_namesOf_4 rfl ?_
    refine w_aload_n dX3_namesOf_5 rfl ?_
    refine w_geti dX3_namesOf_6 fl_X3_21 rfl hp ?_
    refine w_icmp_ge 36 dX3_namesOf_9 (by decide) (by omega) (by omega) (fun c9 => ?_) (fun c9 => ?_)
    · have ec4 : (h 5 p 3).toNat = c := by omega
      subst ec4
      refine w_iload_n dX3_namesOf_36 rfl ?_
      exact w_iretE dX3_namesOf_37 rfl (by rfl) k
    · refine w_iload_n dX3_namesOf_12 rfl ?_
      refine w_iload_n dX3_namesOf_13 rfl ?_
      refine w_ishr dX3_namesOf_14 ?_
      refine w_iconst dX3_namesOf_15 ?_
      refine w_iand dX3_namesOf_16 ?_
      have hb := fwAnd_rng1 (fwShr x (c : Int))
      refine w_iconst dX3_namesOf_17 ?_
      refine w_icmp_ne 30 dX3_namesOf_18 (by decide) (by omega) (by omega) (fun c18 => ?_) (fun c18 => ?_)
      · refine w_iinc [some (aR 5 p), some (aI x), some (aI (mNames (h 18 p) x c)), some (aI ((c : Int) + 1))] dX3_namesOf_30 rfl rfl (by decide) ?_
        refine w_goto 4 dX3_namesOf_33 (by decide) ?_
        refine ih4 (by omega) _ _ ?_ ?_
        · exact (by omega)
        · exact (by rw [mNames]; first | rw [if_pos (by omega)] | rw [if_neg (by omega)])
      · refine w_iload_n dX3_namesOf_21 rfl ?_
        refine w_aload_n dX3_namesOf_22 rfl ?_
        refine w_iload_n dX3_namesOf_23 rfl ?_
        refine w_iconst dX3_namesOf_24 ?_
        refine w_callV (d := d + 0) (S := [aI (mNames (h 18 p) x c)]) [aI (c : Int), aI 1] dX3_namesOf_25 ml_X3_25 ok_X3_fact vi_X3_fact rfl rfl hp rfl (Nat.le_of_ble_eq_true rfl) ?_
        refine c_X3_fact (d := d) p c 1 hp (by first | assumption | omega | decide) (by first | assumption | omega | decide) ?_
        show fwWP mX3_namesOf (d + 1) 28 [some (aR 5 p), some (aI x), some (aI (mNames (h 18 p) x c)), some (aI (c : Int))] [aI (h 18 p (7 * c + 1)), aI (mNames (h 18 p) x c)] h Q
        refine w_iadd dX3_namesOf_28 ?_
        refine w_istore_n [some (aR 5 p), some (aI x), some (aI ((mNames (h 18 p) x c) + (h 18 p (7 * c + 1)))), some (aI (c : Int))] dX3_namesOf_29 rfl (by decide) ?_
        refine w_iinc [some (aR 5 p), some (aI x), some (aI ((mNames (h 18 p) x c) + (h 18 p (7 * c + 1)))), some (aI ((c : Int) + 1))] dX3_namesOf_30 rfl rfl (by decide) ?_
        refine w_goto 4 dX3_namesOf_33 (by decide) ?_
        refine ih4 (by omega) _ _ ?_ ?_
        · exact (by omega)
        · exact (by rw [mNames]; first | rw [if_pos (by omega)] | rw [if_neg (by omega)])
  refine lp4 0 (Nat.zero_le _) _ _ ?_ ?_
  · exact (by omega)
  · exact rfl
theorem fwR32 (x : Int32) : -2147483648 ≤ x.toInt ∧ x.toInt < 2147483648 := ⟨x.le_toInt, x.toInt_lt⟩
theorem fwOr_rng (x y : Int) : -2147483648 ≤ fwOr x y ∧ fwOr x y < 2147483648 := fwR32 _
theorem fwAnd_rng (x y : Int) : -2147483648 ≤ fwAnd x y ∧ fwAnd x y < 2147483648 := fwR32 _
/-- one pass of talk -/
def mPass (F : Nat → Int) (ba s : Int) : Nat → Int
  | 0 => s
  | f + 1 => if (0 < F (7 * f + 5) ∧ F (7 * f + 5) ≤ fwPop (fwAnd (F (7 * f + 6)) (mPass F ba s f))) ∧ fwAnd (fwShr ba f) 1 = 0 then fwOr (mPass F ba s f) (fwShl 1 f) else mPass F ba s f
theorem mPass_rng (F : Nat → Int) (ba : Int) {s : Int} (hs : -2147483648 ≤ s ∧ s < 2147483648) : ∀ f, -2147483648 ≤ mPass F ba s f ∧ mPass F ba s f < 2147483648 := by
  intro f
  induction f with
  | zero => exact hs
  | succ f ih =>
    rw [mPass]
    split
    · exact fwOr_rng _ _
    · exact ih
def mSg (F : Nat → Int) (ba : Int) (n : Nat) : Nat → Int → Int
  | 0, s => s
  | k + 1, s => if mPass F ba s n = s then s else mSg F ba n k (mPass F ba s n)
def mSign (F : Nat → Int) (n : Nat) (su ba : Int) : Int := mSg F ba n 8 (fwAnd su (fwXor ba (-1)))
set_option maxRecDepth 100000 in
set_option maxHeartbeats 4000000 in
theorem c_X3_signersOf {d : Nat} {h : fwH} {Q : Option fwV → fwH → Prop} (p : Nat) (x y : Int) (hp : p < 5) (hP : pOk h p) (k : Q (some (aI (mSign (h 18 p) (h 5 p 3).toNat x y))) h) : fwCt mX3_signersOf (d + 1) [aR 5 p, aI x, aI y] h Q := by
  refine fwCt_of [some (aR 5 p), some (aI x), some (aI y), none, none, none, none, none, none] rfl rfl rfl ?_
  obtain ⟨⟨p1, p2⟩, p3⟩ := id hP
  refine w_iload_n dX3_signersOf_0 rfl ?_
  refine w_iload_n dX3_signersOf_1 rfl ?_
  refine w_iconst dX3_signersOf_2 ?_
  refine w_ixor dX3_signersOf_3 ?_
  refine w_iand dX3_signersOf_4 ?_
  refine w_istore_n [some (aR 5 p), some (aI x), some (aI y), some (aI (fwAnd x (fwXor y (-1)))), none, none, none, none, none] dX3_signersOf_5 rfl (by decide) ?_
  refine w_iconst dX3_signersOf_6 ?_
  refine w_istore [some (aR 5 p), some (aI x), some (aI y), some (aI (fwAnd x (fwXor y (-1)))), some (aI 0), none, none, none, none] dX3_signersOf_7 rfl (by decide) ?_
  have lp9 : ∀ c : Nat, c ≤ 8 → ∀ (y9 sg : Int), y9 = (c : Int) → ((-2147483648 ≤ sg ∧ sg < 2147483648) ∧ mSg (h 18 p) y (h 5 p 3).toNat (8 - c) sg = mSg (h 18 p) y (h 5 p 3).toNat 8 (fwAnd x (fwXor y (-1)))) → fwWP mX3_signersOf (d + 1) 9 [some (aR 5 p), some (aI x), some (aI y), some (aI sg), some (aI y9), none, none, none, none] [] h Q := by
    refine fw_up (fun c hc9 ih9 => ?_)
    intro y9 sg ey9 e_sg
    subst ey9
    show fwWP mX3_signersOf (d + 1) 9 [some (aR 5 p), some (aI x), some (aI y), some (aI sg), some (aI (c : Int)), none, none, none, none] [] h Q
    refine w_iload dX3_signersOf_9 rfl ?_
    refine w_bipush dX3_signersOf_11 rfl ?_
    refine w_icmp_ge 112 dX3_signersOf_13 (by decide) (by omega) (by omega) (fun c13 => ?_) (fun c13 => ?_)
    · refine w_iload_n dX3_signersOf_112 rfl ?_
      have ec : c = 8 := by omega
      subst ec
      have e9 := e_sg.2
      rw [Nat.sub_self, mSg] at e9
      exact w_iretE dX3_signersOf_113 rfl (by rw [mSign]; exact e9) k
    · refine w_iload_n dX3_signersOf_16 rfl ?_
      refine w_istore [some (aR 5 p), some (aI x), some (aI y), some (aI sg), some (aI (c : Int)), some (aI sg), none, none, none] dX3_signersOf_17 rfl (by decide) ?_
      refine w_iconst dX3_signersOf_19 ?_
      refine w_istore [some (aR 5 p), some (aI x), some (aI y), some (aI sg), some (aI (c : Int)), some (aI sg), some (aI 0), none, none] dX3_signersOf_20 rfl (by decide) ?_
      have lp22 : ∀ f : Nat, f ≤ (h 5 p 3).toNat → ∀ (y22 rr : Int), y22 = (f : Int) → rr = mPass (h 18 p) y sg f → fwWP mX3_signersOf (d + 1) 22 [some (aR 5 p), some (aI x), some (aI y), some (aI rr), some (aI (c : Int)), some (aI sg), some (aI y22), none, none] [] h Q := by
        refine fw_up (fun f hc22 ih22 => ?_)
        intro y22 rr ey22 e_rr
        subst ey22
        subst e_rr
        have hpr := mPass_rng (h 18 p) y e_sg.1 f
        show fwWP mX3_signersOf (d + 1) 22 [some (aR 5 p), some (aI x), some (aI y), some (aI (mPass (h 18 p) y sg f)), some (aI (c : Int)), some (aI sg), some (aI (f : Int)), none, none] [] h Q
        refine w_iload dX3_signersOf_22 rfl ?_
        refine w_aload_n dX3_signersOf_24 rfl ?_
        refine w_geti dX3_signersOf_25 fl_X3_21 rfl hp ?_
        refine w_icmp_ge 97 dX3_signersOf_28 (by decide) (by omega) (by omega) (fun c28 => ?_) (fun c28 => ?_)
        · have ec22 : (h 5 p 3).toNat = f := by omega
          subst ec22
          obtain ⟨q, hq⟩ : ∃ q : Nat, 8 - c = q + 1 := ⟨7 - c, by omega⟩
          have e9 := e_sg.2
          rw [hq, mSg] at e9
          refine w_iload_n dX3_signersOf_97 rfl ?_
          refine w_iload dX3_signersOf_98 rfl ?_
          refine w_icmp_ne 106 dX3_signersOf_100 (by decide) (by omega) (by omega) (fun c100 => ?_) (fun c100 => ?_)
          · rw [if_neg (by omega)] at e9
            have hq2 : 8 - (c + 1) = q := by omega
            refine w_iinc [some (aR 5 p), some (aI x), some (aI y), some (aI (mPass (h 18 p) y sg (h 5 p 3).toNat)), some (aI ((c : Int) + 1)), some (aI sg), some (aI (((h 5 p 3).toNat : Nat) : Int)), none, none] dX3_signersOf_106 rfl rfl (by decide) ?_
            refine w_goto 9 dX3_signersOf_109 (by decide) ?_
            refine w_drop [5, 6] [some (aR 5 p), some (aI x), some (aI y), some (aI (mPass (h 18 p) y sg (h 5 p 3).toNat)), some (aI ((c : Int) + 1)), none, none, none, none] rfl ?_
            refine ih9 (by omega) _ _ ?_ ?_
            · exact (by omega)
            · exact ⟨by omega, by rw [hq2]; exact e9⟩
          · refine w_goto 112 dX3_signersOf_103 (by decide) ?_
            refine w_iload_n dX3_signersOf_112 rfl ?_
            rw [if_pos (by omega)] at e9
            exact w_iretE dX3_signersOf_113 rfl (by rw [mSign, ← e9]; omega) k
        · have hf := p3 f (by omega)
          refine w_aload_n dX3_signersOf_31 rfl ?_
          refine w_iload dX3_signersOf_32 rfl ?_
          refine w_iconst dX3_signersOf_34 ?_
          refine w_callV (d := d + 0) (S := []) [aI (f : Int), aI 5] dX3_signersOf_35 ml_X3_25 ok_X3_fact vi_X3_fact rfl rfl hp rfl (Nat.le_of_ble_eq_true rfl) ?_
          refine c_X3_fact (d := d) p f 5 hp (by first | assumption | omega | decide) (by first | assumption | omega | decide) ?_
          show fwWP mX3_signersOf (d + 1) 38 [some (aR 5 p), some (aI x), some (aI y), some (aI (mPass (h 18 p) y sg f)), some (aI (c : Int)), some (aI sg), some (aI (f : Int)), none, none] [aI (h 18 p (7 * f + 5))] h Q
          refine w_istore [some (aR 5 p), some (aI x), some (aI y), some (aI (mPass (h 18 p) y sg f)), some (aI (c : Int)), some (aI sg), some (aI (f : Int)), some (aI (h 18 p (7 * f + 5))), none] dX3_signersOf_38 rfl (by decide) ?_
          have J68 : ∀ v : Int, v = fwB (0 < h 18 p (7 * f + 5) ∧ h 18 p (7 * f + 5) ≤ fwPop (fwAnd (h 18 p (7 * f + 6)) (mPass (h 18 p) y sg f))) → fwWP mX3_signersOf (d + 1) 68 [some (aR 5 p), some (aI x), some (aI y), some (aI (mPass (h 18 p) y sg f)), some (aI (c : Int)), some (aI sg), some (aI (f : Int)), some (aI (h 18 p (7 * f + 5))), none] [aI v] h Q := by
            intro v ev
            subst ev
            refine w_istore [some (aR 5 p), some (aI x), some (aI y), some (aI (mPass (h 18 p) y sg f)), some (aI (c : Int)), some (aI sg), some (aI (f : Int)), some (aI (h 18 p (7 * f + 5))), some (aI (fwB (0 < h 18 p (7 * f + 5) ∧ h 18 p (7 * f + 5) ≤ fwPop (fwAnd (h 18 p (7 * f + 6)) (mPass (h 18 p) y sg f)))))] dX3_signersOf_68 rfl (by decide) ?_
            refine w_iload dX3_signersOf_70 rfl ?_
            refine w_ifB_eq 91 dX3_signersOf_72 (by decide) (fun c72 => ?_) (fun c72 => ?_)
            · refine w_iinc [some (aR 5 p), some (aI x), some (aI y), some (aI (mPass (h 18 p) y sg f)), some (aI (c : Int)), some (aI sg), some (aI ((f : Int) + 1)), some (aI (h 18 p (7 * f + 5))), some (aI (fwB (0 < h 18 p (7 * f + 5) ∧ h 18 p (7 * f + 5) ≤ fwPop (fwAnd (h 18 p (7 * f + 6)) (mPass (h 18 p) y sg f)))))] dX3_signersOf_91 rfl rfl (by decide) ?_
              refine w_goto 22 dX3_signersOf_94 (by decide) ?_
              refine w_drop [7, 8] [some (aR 5 p), some (aI x), some (aI y), some (aI (mPass (h 18 p) y sg f)), some (aI (c : Int)), some (aI sg), some (aI ((f : Int) + 1)), none, none] rfl ?_
              refine ih22 (by omega) _ _ ?_ ?_
              · exact (by omega)
              · exact (by rw [mPass]; first | rw [if_pos (by omega)] | rw [if_neg (by omega)])
            · refine w_iload_n dX3_signersOf_75 rfl ?_
              refine w_iload dX3_signersOf_76 rfl ?_
              refine w_ishr dX3_signersOf_78 ?_
              refine w_iconst dX3_signersOf_79 ?_
              have hb := fwAnd_rng1 (fwShr y (f : Int))
              refine w_iand dX3_signersOf_80 ?_
              refine w_if_ne 91 dX3_signersOf_81 (by decide) (by omega) (fun c81 => ?_) (fun c81 => ?_)
              · refine w_iinc [some (aR 5 p), some (aI x), some (aI y), some (aI (mPass (h 18 p) y sg f)), some (aI (c : Int)), some (aI sg), some (aI ((f : Int) + 1)), some (aI (h 18 p (7 * f + 5))), some (aI (fwB (0 < h 18 p (7 * f + 5) ∧ h 18 p (7 * f + 5) ≤ fwPop (fwAnd (h 18 p (7 * f + 6)) (mPass (h 18 p) y sg f)))))] dX3_signersOf_91 rfl rfl (by decide) ?_
                refine w_goto 22 dX3_signersOf_94 (by decide) ?_
                refine w_drop [7, 8] [some (aR 5 p), some (aI x), some (aI y), some (aI (mPass (h 18 p) y sg f)), some (aI (c : Int)), some (aI sg), some (aI ((f : Int) + 1)), none, none] rfl ?_
                refine ih22 (by omega) _ _ ?_ ?_
                · exact (by omega)
                · exact (by rw [mPass]; first | rw [if_pos (by omega)] | rw [if_neg (by omega)])
              · refine w_iload_n dX3_signersOf_84 rfl ?_
                refine w_iconst dX3_signersOf_85 ?_
                refine w_iload dX3_signersOf_86 rfl ?_
                refine w_ishl dX3_signersOf_88 ?_
                refine w_ior dX3_signersOf_89 ?_
                refine w_istore_n [some (aR 5 p), some (aI x), some (aI y), some (aI (fwOr (mPass (h 18 p) y sg f) (fwShl 1 (f : Int)))), some (aI (c : Int)), some (aI sg), some (aI (f : Int)), some (aI (h 18 p (7 * f + 5))), some (aI (fwB (0 < h 18 p (7 * f + 5) ∧ h 18 p (7 * f + 5) ≤ fwPop (fwAnd (h 18 p (7 * f + 6)) (mPass (h 18 p) y sg f)))))] dX3_signersOf_90 rfl (by decide) ?_
                refine w_iinc [some (aR 5 p), some (aI x), some (aI y), some (aI (fwOr (mPass (h 18 p) y sg f) (fwShl 1 (f : Int)))), some (aI (c : Int)), some (aI sg), some (aI ((f : Int) + 1)), some (aI (h 18 p (7 * f + 5))), some (aI (fwB (0 < h 18 p (7 * f + 5) ∧ h 18 p (7 * f + 5) ≤ fwPop (fwAnd (h 18 p (7 * f + 6)) (mPass (h 18 p) y sg f)))))] dX3_signersOf_91 rfl rfl (by decide) ?_
                refine w_goto 22 dX3_signersOf_94 (by decide) ?_
                refine w_drop [7, 8] [some (aR 5 p), some (aI x), some (aI y), some (aI (fwOr (mPass (h 18 p) y sg f) (fwShl 1 (f : Int)))), some (aI (c : Int)), some (aI sg), some (aI ((f : Int) + 1)), none, none] rfl ?_
                refine ih22 (by omega) _ _ ?_ ?_
                · exact (by omega)
                · exact (by rw [mPass]; first | rw [if_pos (by omega)] | rw [if_neg (by omega)])
          refine w_iload dX3_signersOf_40 rfl ?_
          refine w_if_le 67 dX3_signersOf_42 (by decide) (by omega) (fun c42 => ?_) (fun c42 => ?_)
          · refine w_iconst dX3_signersOf_67 ?_
            exact J68 _ (by first | omega | (rw [fwB_t (by omega)]) | (rw [fwB_f (by omega)]))
          · refine w_aload_n dX3_signersOf_45 rfl ?_
            refine w_iload dX3_signersOf_46 rfl ?_
            refine w_bipush dX3_signersOf_48 rfl ?_
            refine w_callV (d := d + 0) (S := []) [aI (f : Int), aI 6] dX3_signersOf_50 ml_X3_25 ok_X3_fact vi_X3_fact rfl rfl hp rfl (Nat.le_of_ble_eq_true rfl) ?_
            refine c_X3_fact (d := d) p f 6 hp (by first | assumption | omega | decide) (by first | assumption | omega | decide) ?_
            show fwWP mX3_signersOf (d + 1) 53 [some (aR 5 p), some (aI x), some (aI y), some (aI (mPass (h 18 p) y sg f)), some (aI (c : Int)), some (aI sg), some (aI (f : Int)), some (aI (h 18 p (7 * f + 5))), none] [aI (h 18 p (7 * f + 6))] h Q
            refine w_iload_n dX3_signersOf_53 rfl ?_
            refine w_iand dX3_signersOf_54 ?_
            refine w_callS (d := d + 0) (S := []) [aI (fwAnd (h 18 p (7 * f + 6)) (mPass (h 18 p) y sg f))] dX3_signersOf_55 ml_X3_43 ok_J6_bitCount_0f7a4 st_J6_bitCount_0f7a4 rfl (Nat.le_of_ble_eq_true rfl) ?_
            refine c_bitCount (d := d) (fwAnd (h 18 p (7 * f + 6)) (mPass (h 18 p) y sg f)) ?_
            show fwWP mX3_signersOf (d + 1) 58 [some (aR 5 p), some (aI x), some (aI y), some (aI (mPass (h 18 p) y sg f)), some (aI (c : Int)), some (aI sg), some (aI (f : Int)), some (aI (h 18 p (7 * f + 5))), none] [aI (fwPop (fwAnd (h 18 p (7 * f + 6)) (mPass (h 18 p) y sg f)))] h Q
            have hpp := fwPop_rng (fwAnd (h 18 p (7 * f + 6)) (mPass (h 18 p) y sg f))
            refine w_iload dX3_signersOf_58 rfl ?_
            refine w_icmp_lt 67 dX3_signersOf_60 (by decide) (by omega) (by omega) (fun c60 => ?_) (fun c60 => ?_)
            · refine w_iconst dX3_signersOf_67 ?_
              exact J68 _ (by first | omega | (rw [fwB_t (by omega)]) | (rw [fwB_f (by omega)]))
            · refine w_iconst dX3_signersOf_63 ?_
              refine w_goto 68 dX3_signersOf_64 (by decide) ?_
              exact J68 _ (by first | omega | (rw [fwB_t (by omega)]) | (rw [fwB_f (by omega)]))
      refine lp22 0 (Nat.zero_le _) _ _ ?_ ?_
      · exact (by omega)
      · exact rfl
  refine lp9 0 (Nat.zero_le _) _ _ ?_ ?_
  · exact (by omega)
  · exact ⟨fwAnd_rng _ _, rfl⟩
end
section
/-! FootLower$Slots -/
def fwI32 (x : Int) : Int := (Int32.ofInt x).toInt
theorem fwI32_rng (x : Int) : -2147483648 ≤ fwI32 x ∧ fwI32 x < 2147483648 := fwR32 _
section FWS
variable {M : fwM} {d pc : Nat} {L : List (Option fwV)} {S : List fwV} {h : fwH} {Q : Option fwV → fwH → Prop}
theorem w_l2iC {x : Int} (hd : decode M.2.1 pc = .ok (.l2i, 1)) (k : fwWP M d (pc + 1) L (aI (fwI32 x) :: S) h Q) : fwWP M d pc L (aJ x :: S) h Q := by
  intro l p e s m args below meth c ad D tc H locs ls C X
  exact lv_l2i C.1 C.2.1 hd (v := Int32.ofInt (fwI32 x)) (by unfold fwI32; rw [Int32.ofInt_toInt]; exact Int64.toInt32_ofInt) (k l p e s m args below meth c ad D tc H locs ls C X)
/-- the rows' row -/
theorem w_aald32 {x : Int} (hd : decode M.2.1 pc = .ok (.aaload, 1)) (h0 : 0 ≤ x) (h1 : x < 4) (kk : fwWP M d (pc + 1) L (aR 33 x.toNat :: S) h Q) : fwWP M d pc L (aI x :: aR 32 0 :: S) h Q := by
  intro l p e s m args below meth c ad D tc H locs ls C X
  obtain ⟨hx, hb, -, hown, hts, -, -, hK, hI, -⟩ := id C
  obtain ⟨q0, hq, hw⟩ := fw_get (k := 32) (i := 0) (by decide)
  have he := hw ad tc h
  rw [fwCel_a (a := (5, 4)) rfl rfl] at he
  have h9 : x.toNat < 4 := by omega
  have hin : vp_in (Int32.ofInt x) 4 := fwI_in h0 h1 (by decide)
  have hlt : (Int32.ofInt x).toNatClampNeg < 4 := by rw [fwI_cl h0 (by omega)]; exact h9
  refine W.aald (v := .ref (ad 33 x.toNat)) (ty := .array .long) hx hb (X.1 q0 _ he) ((hK.2 5 _ rfl).1 4 (fun j => va_rf (if j < 4 then some (ad (fwEl 32 j).1 (fwEl 32 j).2) else none))) rfl (fun q => by cases q) (by show ¬ (_ ∨ (arrV _ _ _).slots.size ≤ _); rw [arrV_size]; exact hin) ?_ rfl rfl hd (kk l p e s m args below meth c ad D tc H locs ls C X)
  show (arrV _ _ _).slots[_]? = _
  rw [arrV_read _ _ hlt, fwI_cl h0 (by omega)]
  show some (va_rf (if x.toNat < 4 then some (ad (fwEl 32 x.toNat).1 (fwEl 32 x.toNat).2) else none)) = _
  rw [if_pos h9]
  rfl
theorem fwCopyL : Cond.methodLink RX8 42 arraycopyName ∈ fwTb := by decide +kernel
theorem fwCopyN : Cond.native arraycopyName ∈ fwTb := by decide +kernel
theorem fwCopyS : Cond.static arraycopyName ∈ fwTb := by decide +kernel
theorem fwCopyI : Cond.initialized "java/lang/System" ∈ fwTb := by decide +kernel
theorem w_copy33 {a b : Nat} {sp dp n : Int} (hd : decode (mX8_move).2.1 pc = .ok (.invokestatic 42, 3)) (ha : a < 4) (hb9 : b < 4) (h1 : 0 ≤ sp) (h2 : 0 ≤ dp) (h3 : 0 ≤ n) (h4 : sp + n ≤ 60) (h5 : dp + n ≤ 60) (hS : fwCat S ≤ 8)
    (kk : fwWP mX8_move (d + 1) (pc + 3) L S (fwUc h 33 b (va_cpy (h 33 a) (h 33 b) sp.toNat dp.toNat n.toNat)) Q) : fwWP mX8_move (d + 1) pc L (aI n :: aI dp :: aR 33 b :: aI sp :: aR 33 a :: S) h Q := by
  intro l p e s m args below meth c ad D tc H locs ls C X
  obtain ⟨hx, hb, hml, hown, hts, -, -, hK, hI, -⟩ := id C
  obtain ⟨q0, hq, hw⟩ := fw_get (k := 33) (i := a) ha
  obtain ⟨q1, hq1, hw1⟩ := fw_get (k := 33) (i := b) hb9
  have he := hw ad tc h
  have he1 := hw1 ad tc h
  rw [fwCel_a (a := (3, 60)) rfl rfl] at he he1
  have n1 : ∀ z : Int, 0 ≤ z → z ≤ 60 → ¬ Int32.ofInt z < 0 := fun z a1 a2 => by rw [fwI_0, fwI_lt ⟨by omega, by omega⟩ ⟨by decide, by decide⟩]; omega
  have c1 : (Int32.ofInt sp).toNatClampNeg = sp.toNat := fwI_cl h1 (by omega)
  have c2 : (Int32.ofInt dp).toNatClampNeg = dp.toNat := fwI_cl h2 (by omega)
  have c3 : (Int32.ofInt n).toNatClampNeg = n.toNat := fwI_cl h3 (by omega)
  have hw5 : nativeFrameWords "java/lang/System" "arraycopy" 5 ≤ 40 := by decide +kernel
  have hloc : ((S.map (fwMv ad)).map fun v => v.category).sum + (nativeFrameWords "java/lang/System" "arraycopy" 5 + 11) ≤ (fwRm (d + 1)).locals := by
    rw [fwCat_eq]
    show fwCat S + (nativeFrameWords "java/lang/System" "arraycopy" 5 + 11) ≤ 64 * (d + 1)
    omega
  refine va_copyl hx hb (hml.trans X.2.2.1.symm) hown (hts _ fwCopyL) (hts _ fwCopyN) (hts _ fwCopyS) (hts _ fwCopyI) hK X.1 (fw_D hI tc h) X.2.1 q0 q1 3 3 he he1 rfl rfl rfl (n1 sp h1 (by omega)) (n1 dp h2 (by omega)) (n1 n h3 (by omega)) (by rw [c1, c3]; show _ ≤ 60; omega) (by rw [c2, c3]; show _ ≤ 60; omega) (fun i hi => rfl) (Nat.le_add_left 1 d) hloc hd (fun H1 locs1 hP1 _ hS1 => ?_)
  rw [c1, c2, c3] at hP1
  refine kk l p e s m args below meth c ad D tc H1 locs1 ls C ⟨?_, hS1, X.2.2⟩
  rw [← fw_set hq1, fwCel_a (a := (3, 60)) rfl rfl]
  have e9 : (fun j => Int64.ofInt (va_cpy (h 33 a) (h 33 b) sp.toNat dp.toNat n.toNat j)) = va_cpy (fun j => Int64.ofInt (h 33 a j)) (fun j => Int64.ofInt (h 33 b j)) sp.toNat dp.toNat n.toNat := by
    funext j
    unfold va_cpy
    split <;> rfl
  show va_P D vwCl ((fwWd ad tc h).set q1 (ad 33 b, .inl (tc 3, 60, .inr (.inl (fun j => Int64.ofInt (va_cpy (h 33 a) (h 33 b) sp.toNat dp.toNat n.toNat j)))))) H1
  rw [e9]
  exact hP1
end FWS
def sOk (h : fwH) : Prop := ∀ s : Nat, s < 4 → (-1 ≤ h 35 0 s ∧ h 35 0 s ≤ 60) ∧ (0 ≤ h 34 0 s ∧ h 34 0 s ≤ 3) ∧ ∀ j : Nat, j < 60 → -9223372036854775808 ≤ h 33 s j ∧ h 33 s j < 9223372036854775808
set_option maxRecDepth 100000 in
set_option maxHeartbeats 4000000 in
theorem c_X8_has {d : Nat} {h : fwH} {Q : Option fwV → fwH → Prop} (x : Int) (hx : -2147483648 ≤ x ∧ x < 2147483648) (k : Q (some (aI (fwB (0 ≤ x ∧ x < 4)))) h) : fwCt mX8_has (d + 0) [aR 11 0, aI x] h Q := by
  refine fwCt_of [some (aR 11 0), some (aI x)] rfl rfl rfl ?_
  refine w_iload_n dX8_has_0 rfl ?_
  refine w_if_lt 13 dX8_has_1 (by decide) (by omega) (fun c1 => ?_) (fun c1 => ?_)
  · refine w_iconst dX8_has_13 ?_
    exact w_zretE dX8_has_14 rfl (by first | (exfalso; omega) | (rw [fwB_t (by omega)]) | (rw [fwB_f (by omega)])) k
  · refine w_iload_n dX8_has_4 rfl ?_
    refine w_iconst dX8_has_5 ?_
    refine w_icmp_ge 13 dX8_has_6 (by decide) (by omega) (by omega) (fun c6 => ?_) (fun c6 => ?_)
    · refine w_iconst dX8_has_13 ?_
      exact w_zretE dX8_has_14 rfl (by first | (exfalso; omega) | (rw [fwB_t (by omega)]) | (rw [fwB_f (by omega)])) k
    · refine w_iconst dX8_has_9 ?_
      refine w_goto 14 dX8_has_10 (by decide) ?_
      exact w_zretE dX8_has_14 rfl (by first | (exfalso; omega) | (rw [fwB_t (by omega)]) | (rw [fwB_f (by omega)])) k
def mSz (S : Nat → Int) (x : Int) : Int := if 0 ≤ x ∧ x < 4 then S x.toNat else -1
theorem mSz_in (S : Nat → Int) {c : Nat} (hc : c < 4) : mSz S (c : Int) = S c := by
  unfold mSz
  rw [if_pos (by omega)]
  rfl
theorem mSz_rng {h : fwH} (hs : sOk h) (x : Int) : -1 ≤ mSz (h 35 0) x ∧ mSz (h 35 0) x ≤ 60 := by
  unfold mSz
  split
  · exact (hs _ (by omega)).1
  · omega
set_option maxRecDepth 100000 in
set_option maxHeartbeats 4000000 in
theorem c_X8_sizeOf {d : Nat} {h : fwH} {Q : Option fwV → fwH → Prop} (x : Int) (hx : -2147483648 ≤ x ∧ x < 2147483648) (k : Q (some (aI (mSz (h 35 0) x))) h) : fwCt mX8_sizeOf (d + 0) [aR 11 0, aI x] h Q := by
  refine fwCt_of [some (aR 11 0), some (aI x)] rfl rfl rfl ?_
  refine w_iload_n dX8_sizeOf_0 rfl ?_
  refine w_if_lt 18 dX8_sizeOf_1 (by decide) (by omega) (fun c1 => ?_) (fun c1 => ?_)
  · refine w_iconst dX8_sizeOf_18 ?_
    exact w_iretE dX8_sizeOf_19 rfl (by rw [mSz]; first | (exfalso; omega) | rw [if_pos (by omega)] | rw [if_neg (by omega)]) k
  · refine w_iload_n dX8_sizeOf_4 rfl ?_
    refine w_iconst dX8_sizeOf_5 ?_
    refine w_icmp_ge 18 dX8_sizeOf_6 (by decide) (by omega) (by omega) (fun c6 => ?_) (fun c6 => ?_)
    · refine w_iconst dX8_sizeOf_18 ?_
      exact w_iretE dX8_sizeOf_19 rfl (by rw [mSz]; first | (exfalso; omega) | rw [if_pos (by omega)] | rw [if_neg (by omega)]) k
    · refine w_aload_n dX8_sizeOf_9 rfl ?_
      refine w_getr 35 0 dX8_sizeOf_10 fl_X8_20 rfl (by decide) ?_
      refine w_iload_n dX8_sizeOf_13 rfl ?_
      refine w_iald dX8_sizeOf_14 rfl (by decide) (by omega) (by omega) ?_
      refine w_goto 19 dX8_sizeOf_15 (by decide) ?_
      exact w_iretE dX8_sizeOf_19 rfl (by rw [mSz]; first | (exfalso; omega) | rw [if_pos (by omega)] | rw [if_neg (by omega)]) k
set_option maxRecDepth 100000 in
set_option maxHeartbeats 4000000 in
theorem c_X8_isLaid {d : Nat} {h : fwH} {Q : Option fwV → fwH → Prop} (x : Int) (hx : -2147483648 ≤ x ∧ x < 2147483648) (hs : sOk h) (k : Q (some (aI (fwB (mSz (h 35 0) x ≠ -1)))) h) : fwCt mX8_isLaid (d + 1) [aR 11 0, aI x] h Q := by
  refine fwCt_of [some (aR 11 0), some (aI x)] rfl rfl rfl ?_
  refine w_aload_n dX8_isLaid_0 rfl ?_
  refine w_iload_n dX8_isLaid_1 rfl ?_
  refine w_callV (d := d + 0) (S := []) [aI x] dX8_isLaid_2 ml_X8_23 ok_X8_sizeOf vi_X8_sizeOf rfl rfl (by decide) rfl (Nat.le_of_ble_eq_true rfl) ?_
  refine c_X8_sizeOf (d := d) x (by first | assumption | omega | decide) ?_
  show fwWP mX8_isLaid (d + 1) 5 [some (aR 11 0), some (aI x)] [aI (mSz (h 35 0) x)] h Q
  have hz1 := mSz_rng hs x
  refine w_iconst dX8_isLaid_5 ?_
  refine w_icmp_eq 13 dX8_isLaid_6 (by decide) (by omega) (by omega) (fun c6 => ?_) (fun c6 => ?_)
  · refine w_iconst dX8_isLaid_13 ?_
    exact w_zretE dX8_isLaid_14 rfl (by first | (exfalso; omega) | (rw [fwB_t (by omega)]) | (rw [fwB_f (by omega)])) k
  · refine w_iconst dX8_isLaid_9 ?_
    refine w_goto 14 dX8_isLaid_10 (by decide) ?_
    exact w_zretE dX8_isLaid_14 rfl (by first | (exfalso; omega) | (rw [fwB_t (by omega)]) | (rw [fwB_f (by omega)])) k
set_option maxRecDepth 100000 in
set_option maxHeartbeats 4000000 in
theorem c_X8_widthOf {d : Nat} {h : fwH} {Q : Option fwV → fwH → Prop} (x : Int) (hx : -2147483648 ≤ x ∧ x < 2147483648) (k : Q (some (aI (mSz (h 34 0) x))) h) : fwCt mX8_widthOf (d + 1) [aR 11 0, aI x] h Q := by
  refine fwCt_of [some (aR 11 0), some (aI x)] rfl rfl rfl ?_
  refine w_aload_n dX8_widthOf_0 rfl ?_
  refine w_iload_n dX8_widthOf_1 rfl ?_
  refine w_callV (d := d + 0) (S := []) [aI x] dX8_widthOf_2 ml_X8_27 ok_X8_has vi_X8_has rfl rfl (by decide) rfl (Nat.le_of_ble_eq_true rfl) ?_
  refine c_X8_has (d := d) x (by first | assumption | omega | decide) ?_
  show fwWP mX8_widthOf (d + 1) 5 [some (aR 11 0), some (aI x)] [aI (fwB (0 ≤ x ∧ x < 4))] h Q
  refine w_ifB_eq 17 dX8_widthOf_5 (by decide) (fun c5 => ?_) (fun c5 => ?_)
  · refine w_iconst dX8_widthOf_17 ?_
    exact w_iretE dX8_widthOf_18 rfl (by rw [mSz]; first | (exfalso; omega) | rw [if_pos (by omega)] | rw [if_neg (by omega)]) k
  · refine w_aload_n dX8_widthOf_8 rfl ?_
    refine w_getr 34 0 dX8_widthOf_9 fl_X8_16 rfl (by decide) ?_
    refine w_iload_n dX8_widthOf_12 rfl ?_
    refine w_iald dX8_widthOf_13 rfl (by decide) (by omega) (by omega) ?_
    refine w_goto 18 dX8_widthOf_14 (by decide) ?_
    exact w_iretE dX8_widthOf_18 rfl (by rw [mSz]; first | (exfalso; omega) | rw [if_pos (by omega)] | rw [if_neg (by omega)]) k
def mLaid (S : Nat → Int) : Nat → Int
  | 0 => 0
  | c + 1 => if S c ≠ -1 then mLaid S c + 1 else mLaid S c
set_option maxRecDepth 100000 in
set_option maxHeartbeats 4000000 in
theorem c_X8_rows {d : Nat} {h : fwH} {Q : Option fwV → fwH → Prop}  (hs : sOk h) (k : Q (some (aI (mLaid (h 35 0) 4))) h) : fwCt mX8_rows (d + 2) [aR 11 0] h Q := by
  refine fwCt_of [some (aR 11 0), none, none] rfl rfl rfl ?_
  refine w_iconst dX8_rows_0 ?_
  refine w_istore_n [some (aR 11 0), some (aI 0), none] dX8_rows_1 rfl (by decide) ?_
  refine w_iconst dX8_rows_2 ?_
  refine w_istore_n [some (aR 11 0), some (aI 0), some (aI 0)] dX8_rows_3 rfl (by decide) ?_
  have lp4 : ∀ c : Nat, c ≤ 4 → ∀ (y4 su : Int), y4 = (c : Int) → su = mLaid (h 35 0) c → fwWP mX8_rows (d + 2) 4 [some (aR 11 0), some (aI su), some (aI y4)] [] h Q := by
    refine fw_up (fun c hc4 ih4 => ?_)
    intro y4 su ey4 e_su
    subst ey4
    subst e_su
    show fwWP mX8_rows (d + 2) 4 [some (aR 11 0), some (aI (mLaid (h 35 0) c)), some (aI (c : Int))] [] h Q
    refine w_iload_n dX8_rows_4 rfl ?_
    refine w_iconst dX8_rows_5 ?_
    refine w_icmp_ge 26 dX8_rows_6 (by decide) (by omega) (by omega) (fun c6 => ?_) (fun c6 => ?_)
    · have ec4 : 4 = c := by omega
      subst ec4
      refine w_iload_n dX8_rows_26 rfl ?_
      exact w_iretE dX8_rows_27 rfl (by rfl) k
    · refine w_aload_n dX8_rows_9 rfl ?_
      refine w_iload_n dX8_rows_10 rfl ?_
      refine w_callV (d := d + 1) (S := []) [aI (c : Int)] dX8_rows_11 ml_X8_31 ok_X8_isLaid vi_X8_isLaid rfl rfl (by decide) rfl (Nat.le_of_ble_eq_true rfl) ?_
      refine c_X8_isLaid (d := d) (c : Int) (by first | assumption | omega | decide) (by first | assumption | omega | decide) ?_
      show fwWP mX8_rows (d + 2) 14 [some (aR 11 0), some (aI (mLaid (h 35 0) c)), some (aI (c : Int))] [aI (fwB (mSz (h 35 0) (c : Int) ≠ -1))] h Q
      have e9 := mSz_in (h 35 0) (c := c) (by omega)
      refine w_ifB_eq 20 dX8_rows_14 (by decide) (fun c14 => ?_) (fun c14 => ?_)
      · refine w_iinc [some (aR 11 0), some (aI (mLaid (h 35 0) c)), some (aI ((c : Int) + 1))] dX8_rows_20 rfl rfl (by decide) ?_
        refine w_goto 4 dX8_rows_23 (by decide) ?_
        refine ih4 (by omega) _ _ ?_ ?_
        · exact (by omega)
        · exact (by rw [mLaid]; first | rw [if_pos (by omega)] | rw [if_neg (by omega)])
      · refine w_iinc [some (aR 11 0), some (aI ((mLaid (h 35 0) c) + 1)), some (aI (c : Int))] dX8_rows_17 rfl rfl (by decide) ?_
        refine w_iinc [some (aR 11 0), some (aI ((mLaid (h 35 0) c) + 1)), some (aI ((c : Int) + 1))] dX8_rows_20 rfl rfl (by decide) ?_
        refine w_goto 4 dX8_rows_23 (by decide) ?_
        refine ih4 (by omega) _ _ ?_ ?_
        · exact (by omega)
        · exact (by rw [mLaid]; first | rw [if_pos (by omega)] | rw [if_neg (by omega)])
  refine lp4 0 (Nat.zero_le _) _ _ ?_ ?_
  · exact (by omega)
  · exact rfl
set_option maxRecDepth 100000 in
set_option maxHeartbeats 4000000 in
theorem c_X8_spans {d : Nat} {h : fwH} {Q : Option fwV → fwH → Prop} (x y z : Int) (hx : -2147483648 ≤ x ∧ x < 2147483648) (hy : -2147483648 ≤ y ∧ y < 2147483648) (hz : -2147483648 ≤ z ∧ z < 2147483648) (hs : sOk h) (k : Q (some (aI (fwB (0 ≤ y ∧ 0 ≤ z ∧ z ≤ mSz (h 35 0) x ∧ y ≤ mSz (h 35 0) x - z)))) h) : fwCt mX8_spans (d + 1) [aR 11 0, aI x, aI y, aI z] h Q := by
  refine fwCt_of [some (aR 11 0), some (aI x), some (aI y), some (aI z)] rfl rfl rfl ?_
  refine w_iload_n dX8_spans_0 rfl ?_
  refine w_if_lt 32 dX8_spans_1 (by decide) (by omega) (fun c1 => ?_) (fun c1 => ?_)
  · refine w_iconst dX8_spans_32 ?_
    exact w_zretE dX8_spans_33 rfl (by first | (exfalso; omega) | (rw [fwB_t (by omega)]) | (rw [fwB_f (by omega)])) k
  · refine w_iload_n dX8_spans_4 rfl ?_
    refine w_if_lt 32 dX8_spans_5 (by decide) (by omega) (fun c5 => ?_) (fun c5 => ?_)
    · refine w_iconst dX8_spans_32 ?_
      exact w_zretE dX8_spans_33 rfl (by first | (exfalso; omega) | (rw [fwB_t (by omega)]) | (rw [fwB_f (by omega)])) k
    · refine w_iload_n dX8_spans_8 rfl ?_
      refine w_aload_n dX8_spans_9 rfl ?_
      refine w_iload_n dX8_spans_10 rfl ?_
      refine w_callV (d := d + 0) (S := [aI z]) [aI x] dX8_spans_11 ml_X8_23 ok_X8_sizeOf vi_X8_sizeOf rfl rfl (by decide) rfl (Nat.le_of_ble_eq_true rfl) ?_
      refine c_X8_sizeOf (d := d) x (by first | assumption | omega | decide) ?_
      show fwWP mX8_spans (d + 1) 14 [some (aR 11 0), some (aI x), some (aI y), some (aI z)] [aI (mSz (h 35 0) x), aI z] h Q
      have hz3 := mSz_rng hs x
      refine w_icmp_gt 32 dX8_spans_14 (by decide) (by omega) (by omega) (fun c14 => ?_) (fun c14 => ?_)
      · refine w_iconst dX8_spans_32 ?_
        exact w_zretE dX8_spans_33 rfl (by first | (exfalso; omega) | (rw [fwB_t (by omega)]) | (rw [fwB_f (by omega)])) k
      · refine w_iload_n dX8_spans_17 rfl ?_
        refine w_aload_n dX8_spans_18 rfl ?_
        refine w_iload_n dX8_spans_19 rfl ?_
        refine w_callV (d := d + 0) (S := [aI y]) [aI x] dX8_spans_20 ml_X8_23 ok_X8_sizeOf vi_X8_sizeOf rfl rfl (by decide) rfl (Nat.le_of_ble_eq_true rfl) ?_
        refine c_X8_sizeOf (d := d) x (by first | assumption | omega | decide) ?_
        show fwWP mX8_spans (d + 1) 23 [some (aR 11 0), some (aI x), some (aI y), some (aI z)] [aI (mSz (h 35 0) x), aI y] h Q
        have hz5 := mSz_rng hs x
        refine w_iload_n dX8_spans_23 rfl ?_
        refine w_isub dX8_spans_24 ?_
        refine w_icmp_gt 32 dX8_spans_25 (by decide) (by omega) (by omega) (fun c25 => ?_) (fun c25 => ?_)
        · refine w_iconst dX8_spans_32 ?_
          exact w_zretE dX8_spans_33 rfl (by first | (exfalso; omega) | (rw [fwB_t (by omega)]) | (rw [fwB_f (by omega)])) k
        · refine w_iconst dX8_spans_28 ?_
          refine w_goto 33 dX8_spans_29 (by decide) ?_
          exact w_zretE dX8_spans_33 rfl (by first | (exfalso; omega) | (rw [fwB_t (by omega)]) | (rw [fwB_f (by omega)])) k
set_option maxRecDepth 100000 in
set_option maxHeartbeats 4000000 in
theorem c_X8_numberAt {d : Nat} {h : fwH} {Q : Option fwV → fwH → Prop} (x y : Int) (hx : 0 ≤ x ∧ x < 4) (hy : 0 ≤ y ∧ y < 60) (k : Q (some (aJ (h 33 x.toNat y.toNat))) h) : fwCt mX8_numberAt (d + 1) [aR 11 0, aI x, aI y] h Q := by
  refine fwCt_of [some (aR 11 0), some (aI x), some (aI y)] rfl rfl rfl ?_
  refine w_aload_n dX8_numberAt_0 rfl ?_
  refine w_iload_n dX8_numberAt_1 rfl ?_
  refine w_callV (d := d + 0) (S := []) [aI x] dX8_numberAt_2 ml_X8_27 ok_X8_has vi_X8_has rfl rfl (by decide) rfl (Nat.le_of_ble_eq_true rfl) ?_
  refine c_X8_has (d := d) x (by first | assumption | omega | decide) ?_
  show fwWP mX8_numberAt (d + 1) 5 [some (aR 11 0), some (aI x), some (aI y)] [aI (fwB (0 ≤ x ∧ x < 4))] h Q
  refine w_ifB_eq 29 dX8_numberAt_5 (by decide) (fun c5 => ?_) (fun c5 => ?_)
  · (exfalso; omega)
  · refine w_iload_n dX8_numberAt_8 rfl ?_
    refine w_if_lt 29 dX8_numberAt_9 (by decide) (by omega) (fun c9 => ?_) (fun c9 => ?_)
    · (exfalso; omega)
    · refine w_iload_n dX8_numberAt_12 rfl ?_
      refine w_bipush dX8_numberAt_13 rfl ?_
      refine w_icmp_ge 29 dX8_numberAt_15 (by decide) (by omega) (by omega) (fun c15 => ?_) (fun c15 => ?_)
      · (exfalso; omega)
      · refine w_aload_n dX8_numberAt_18 rfl ?_
        refine w_getr 32 0 dX8_numberAt_19 fl_X8_11 rfl (by decide) ?_
        refine w_iload_n dX8_numberAt_22 rfl ?_
        refine w_aald32 dX8_numberAt_23 (by omega) (by omega) ?_
        refine w_iload_n dX8_numberAt_24 rfl ?_
        refine w_lald dX8_numberAt_25 rfl (show (x).toNat < 4 by omega) (by omega) (by omega) ?_
        refine w_goto 30 dX8_numberAt_26 (by decide) ?_
        exact w_lret dX8_numberAt_30 rfl k
theorem c_X8_numberN {d : Nat} {h : fwH} {Q : Option fwV → fwH → Prop} (s j : Nat) (x y : Int) (ex : x = (s : Int)) (ey : y = (j : Int)) (hs : s < 4) (hj : j < 60) (k : Q (some (aJ (h 33 s j))) h) : fwCt mX8_numberAt (d + 1) [aR 11 0, aI x, aI y] h Q := by
  subst ex
  subst ey
  exact c_X8_numberAt (s : Int) (j : Int) (by omega) (by omega) k
theorem w_lc_lt {M : fwM} {d pc : Nat} {L : List (Option fwV)} {S : List fwV} {h : fwH} {Q : Option fwV → fwH → Prop} {x y off : Int} (tgt : Nat) (h1 : decode M.2.1 pc = .ok (.lcmp, 1)) (h2 : decode M.2.1 (pc + 1) = .ok (.ifCond .lt off, 3)) (ht : ((pc + 1 : Nat) : Int) + off = (tgt : Int)) (hx : -9223372036854775808 ≤ x ∧ x < 9223372036854775808) (hy : -9223372036854775808 ≤ y ∧ y < 9223372036854775808) (kt : x < y → fwWP M d tgt L S h Q) (kf : y ≤ x → fwWP M d (pc + 4) L S h Q) : fwWP M d pc L (aJ y :: aJ x :: S) h Q := by
  refine w_lcmp h1 hx hy ?_
  have e : fwLc x y = 1 ∧ y < x ∨ fwLc x y = 0 ∧ x = y ∨ fwLc x y = -1 ∧ x < y := by unfold fwLc; split; omega; split <;> omega
  exact w_if_lt tgt h2 ht (by omega) (fun q => kt (by omega)) (fun q => kf (by omega))
theorem w_lc_ge {M : fwM} {d pc : Nat} {L : List (Option fwV)} {S : List fwV} {h : fwH} {Q : Option fwV → fwH → Prop} {x y off : Int} (tgt : Nat) (h1 : decode M.2.1 pc = .ok (.lcmp, 1)) (h2 : decode M.2.1 (pc + 1) = .ok (.ifCond .ge off, 3)) (ht : ((pc + 1 : Nat) : Int) + off = (tgt : Int)) (hx : -9223372036854775808 ≤ x ∧ x < 9223372036854775808) (hy : -9223372036854775808 ≤ y ∧ y < 9223372036854775808) (kt : y ≤ x → fwWP M d tgt L S h Q) (kf : x < y → fwWP M d (pc + 4) L S h Q) : fwWP M d pc L (aJ y :: aJ x :: S) h Q := by
  refine w_lcmp h1 hx hy ?_
  have e : fwLc x y = 1 ∧ y < x ∨ fwLc x y = 0 ∧ x = y ∨ fwLc x y = -1 ∧ x < y := by unfold fwLc; split; omega; split <;> omega
  exact w_if_ge tgt h2 ht (by omega) (fun q => kt (by omega)) (fun q => kf (by omega))
theorem w_lc_le {M : fwM} {d pc : Nat} {L : List (Option fwV)} {S : List fwV} {h : fwH} {Q : Option fwV → fwH → Prop} {x y off : Int} (tgt : Nat) (h1 : decode M.2.1 pc = .ok (.lcmp, 1)) (h2 : decode M.2.1 (pc + 1) = .ok (.ifCond .le off, 3)) (ht : ((pc + 1 : Nat) : Int) + off = (tgt : Int)) (hx : -9223372036854775808 ≤ x ∧ x < 9223372036854775808) (hy : -9223372036854775808 ≤ y ∧ y < 9223372036854775808) (kt : x ≤ y → fwWP M d tgt L S h Q) (kf : y < x → fwWP M d (pc + 4) L S h Q) : fwWP M d pc L (aJ y :: aJ x :: S) h Q := by
  refine w_lcmp h1 hx hy ?_
  have e : fwLc x y = 1 ∧ y < x ∨ fwLc x y = 0 ∧ x = y ∨ fwLc x y = -1 ∧ x < y := by unfold fwLc; split; omega; split <;> omega
  exact w_if_le tgt h2 ht (by omega) (fun q => kt (by omega)) (fun q => kf (by omega))
theorem w_lc_gt {M : fwM} {d pc : Nat} {L : List (Option fwV)} {S : List fwV} {h : fwH} {Q : Option fwV → fwH → Prop} {x y off : Int} (tgt : Nat) (h1 : decode M.2.1 pc = .ok (.lcmp, 1)) (h2 : decode M.2.1 (pc + 1) = .ok (.ifCond .gt off, 3)) (ht : ((pc + 1 : Nat) : Int) + off = (tgt : Int)) (hx : -9223372036854775808 ≤ x ∧ x < 9223372036854775808) (hy : -9223372036854775808 ≤ y ∧ y < 9223372036854775808) (kt : y < x → fwWP M d tgt L S h Q) (kf : x ≤ y → fwWP M d (pc + 4) L S h Q) : fwWP M d pc L (aJ y :: aJ x :: S) h Q := by
  refine w_lcmp h1 hx hy ?_
  have e : fwLc x y = 1 ∧ y < x ∨ fwLc x y = 0 ∧ x = y ∨ fwLc x y = -1 ∧ x < y := by unfold fwLc; split; omega; split <;> omega
  exact w_if_gt tgt h2 ht (by omega) (fun q => kt (by omega)) (fun q => kf (by omega))
theorem w_lc_eq {M : fwM} {d pc : Nat} {L : List (Option fwV)} {S : List fwV} {h : fwH} {Q : Option fwV → fwH → Prop} {x y off : Int} (tgt : Nat) (h1 : decode M.2.1 pc = .ok (.lcmp, 1)) (h2 : decode M.2.1 (pc + 1) = .ok (.ifCond .eq off, 3)) (ht : ((pc + 1 : Nat) : Int) + off = (tgt : Int)) (hx : -9223372036854775808 ≤ x ∧ x < 9223372036854775808) (hy : -9223372036854775808 ≤ y ∧ y < 9223372036854775808) (kt : x = y → fwWP M d tgt L S h Q) (kf : x ≠ y → fwWP M d (pc + 4) L S h Q) : fwWP M d pc L (aJ y :: aJ x :: S) h Q := by
  refine w_lcmp h1 hx hy ?_
  have e : fwLc x y = 1 ∧ y < x ∨ fwLc x y = 0 ∧ x = y ∨ fwLc x y = -1 ∧ x < y := by unfold fwLc; split; omega; split <;> omega
  exact w_if_eq tgt h2 ht (by omega) (fun q => kt (by omega)) (fun q => kf (by omega))
theorem w_lc_ne {M : fwM} {d pc : Nat} {L : List (Option fwV)} {S : List fwV} {h : fwH} {Q : Option fwV → fwH → Prop} {x y off : Int} (tgt : Nat) (h1 : decode M.2.1 pc = .ok (.lcmp, 1)) (h2 : decode M.2.1 (pc + 1) = .ok (.ifCond .ne off, 3)) (ht : ((pc + 1 : Nat) : Int) + off = (tgt : Int)) (hx : -9223372036854775808 ≤ x ∧ x < 9223372036854775808) (hy : -9223372036854775808 ≤ y ∧ y < 9223372036854775808) (kt : x ≠ y → fwWP M d tgt L S h Q) (kf : x = y → fwWP M d (pc + 4) L S h Q) : fwWP M d pc L (aJ y :: aJ x :: S) h Q := by
  refine w_lcmp h1 hx hy ?_
  have e : fwLc x y = 1 ∧ y < x ∨ fwLc x y = 0 ∧ x = y ∨ fwLc x y = -1 ∧ x < y := by unfold fwLc; split; omega; split <;> omega
  exact w_if_ne tgt h2 ht (by omega) (fun q => kt (by omega)) (fun q => kf (by omega))
set_option maxRecDepth 100000 in
set_option maxHeartbeats 4000000 in
theorem c_X8_lay {d : Nat} {h : fwH} {Q : Option fwV → fwH → Prop} (x y z : Int) (hx : 0 ≤ x ∧ x < 4) (hz : 0 ≤ z ∧ z ≤ 60) (k : Q none (fwUc (fwUp (fwUp h 34 0 x.toNat y) 35 0 x.toNat z) 33 x.toNat (fun _ => 0))) : fwCt mX8_lay (d + 1) [aR 11 0, aI x, aI y, aI z] h Q := by
  refine fwCt_of [some (aR 11 0), some (aI x), some (aI y), some (aI z), none] rfl rfl rfl ?_
  refine w_aload_n dX8_lay_0 rfl ?_
  refine w_iload_n dX8_lay_1 rfl ?_
  refine w_callV (d := d + 0) (S := []) [aI x] dX8_lay_2 ml_X8_27 ok_X8_has vi_X8_has rfl rfl (by decide) rfl (Nat.le_of_ble_eq_true rfl) ?_
  refine c_X8_has (d := d) x (by first | assumption | omega | decide) ?_
  show fwWP mX8_lay (d + 1) 5 [some (aR 11 0), some (aI x), some (aI y), some (aI z), none] [aI (fwB (0 ≤ x ∧ x < 4))] h Q
  refine w_ifB_eq 18 dX8_lay_5 (by decide) (fun c5 => ?_) (fun c5 => ?_)
  · (exfalso; omega)
  · refine w_iload_n dX8_lay_8 rfl ?_
    refine w_if_lt 18 dX8_lay_9 (by decide) (by omega) (fun c9 => ?_) (fun c9 => ?_)
    · (exfalso; omega)
    · refine w_iload_n dX8_lay_12 rfl ?_
      refine w_bipush dX8_lay_13 rfl ?_
      refine w_icmp_le 19 dX8_lay_15 (by decide) (by omega) (by omega) (fun c15 => ?_) (fun c15 => ?_)
      · refine w_aload_n dX8_lay_19 rfl ?_
        refine w_getr 34 0 dX8_lay_20 fl_X8_16 rfl (by decide) ?_
        refine w_iload_n dX8_lay_23 rfl ?_
        refine w_iload_n dX8_lay_24 rfl ?_
        refine w_iast dX8_lay_25 rfl (by decide) (by omega) (by omega) ?_
        refine w_aload_n dX8_lay_26 rfl ?_
        refine w_getr 35 0 dX8_lay_27 fl_X8_20 rfl (by decide) ?_
        refine w_iload_n dX8_lay_30 rfl ?_
        refine w_iload_n dX8_lay_31 rfl ?_
        refine w_iast dX8_lay_32 rfl (by decide) (by omega) (by omega) ?_
        refine w_iconst dX8_lay_33 ?_
        refine w_istore [some (aR 11 0), some (aI x), some (aI y), some (aI z), some (aI 0)] dX8_lay_34 rfl (by decide) ?_
        have lp36 : ∀ c : Nat, c ≤ 60 → ∀ (y36  : Int) (hh36 : fwH), y36 = (c : Int) → hh36 = (fwUc (fwUp (fwUp h 34 0 x.toNat y) 35 0 x.toNat z) 33 x.toNat (fwFl (fun _ => 0) (h 33 x.toNat) c)) → fwWP mX8_lay (d + 1) 36 [some (aR 11 0), some (aI x), some (aI y), some (aI z), some (aI y36)] [] hh36 Q := by
          refine fw_up (fun c hc36 ih36 => ?_)
          intro y36  hh36 ey36 eh36
          subst ey36
          subst eh36
          show fwWP mX8_lay (d + 1) 36 [some (aR 11 0), some (aI x), some (aI y), some (aI z), some (aI (c : Int))] [] (fwUc (fwUp (fwUp h 34 0 x.toNat y) 35 0 x.toNat z) 33 x.toNat (fwFl (fun _ => 0) (h 33 x.toNat) c)) Q
          refine w_iload dX8_lay_36 rfl ?_
          refine w_bipush dX8_lay_38 rfl ?_
          refine w_icmp_ge 59 dX8_lay_40 (by decide) (by omega) (by omega) (fun c40 => ?_) (fun c40 => ?_)
          · have ec36 : 60 = c := by omega
            subst ec36
            refine w_heq _ (fwFl_all (by decide)) ?_
            exact w_vret dX8_lay_59 rfl k
          · refine w_aload_n dX8_lay_43 rfl ?_
            refine w_getr 32 0 dX8_lay_44 fl_X8_11 rfl (by decide) ?_
            refine w_iload_n dX8_lay_47 rfl ?_
            refine w_aald32 dX8_lay_48 (by omega) (by omega) ?_
            refine w_iload dX8_lay_49 rfl ?_
            refine w_lconst (z := 0) dX8_lay_51 rfl ?_
            refine w_last dX8_lay_52 rfl (show (x).toNat < 4 by omega) (by omega) (by omega) ?_
            refine w_iinc [some (aR 11 0), some (aI x), some (aI y), some (aI z), some (aI ((c : Int) + 1))] dX8_lay_53 rfl rfl (by decide) ?_
            refine w_goto 36 dX8_lay_56 (by decide) ?_
            refine ih36 (by omega) _ _ ?_ ?_
            · exact (by omega)
            · exact (by rw [fwUp_uc, Int.toNat_natCast]; exact congrArg _ (fwFl_succ (fun _ => 0) (h 33 x.toNat) c))
        refine lp36 0 (Nat.zero_le _) _ _ ?_ ?_
        · exact (by omega)
        · exact (by rw [fwFl_0]; exact (fwUc_self _ 33 x.toNat).symm)
      · (exfalso; omega)
def mCut (v w : Int) : Int := if w = 0 then fwB8 v else if w = 1 then fwS16 v else if w = 2 then fwI32 v else v
theorem fwB8_rng (x : Int) : -128 ≤ fwB8 x ∧ fwB8 x < 128 := ⟨Int8.le_toInt _, Int8.toInt_lt _⟩
theorem fwS16_rng (x : Int) : -32768 ≤ fwS16 x ∧ fwS16 x < 32768 := ⟨Int16.le_toInt _, Int16.toInt_lt _⟩
set_option maxRecDepth 100000 in
set_option maxHeartbeats 4000000 in
theorem c_X8_cut {d : Nat} {h : fwH} {Q : Option fwV → fwH → Prop} (v x : Int) (hx : 0 ≤ x ∧ x ≤ 3) (k : Q (some (aJ (mCut v x))) h) : fwCt mX8_cut (d + 0) [aJ v, aI x] h Q := by
  refine fwCt_of [some (aJ v), none, some (aI x)] rfl rfl rfl ?_
  refine w_iload_n dX8_cut_0 rfl ?_
  rcases (show x = 0 ∨ x = 1 ∨ x = 2 ∨ x = 3 by omega) with rfl | rfl | rfl | rfl
  · refine w_tabIn (off := 27) 28 dX8_cut_1 (by omega) (by omega) (by omega) rfl (by decide) ?_
    refine w_lload_n dX8_cut_28 rfl ?_
    refine w_l2i dX8_cut_29 ?_
    refine w_i2b dX8_cut_30 ?_
    have hr := fwB8_rng v
    refine w_i2l dX8_cut_31 (by omega) ?_
    exact w_lretE dX8_cut_32 rfl (by rw [mCut]; first | rw [if_pos (by omega)] | rw [if_neg (by omega), if_pos (by omega)] | rw [if_neg (by omega), if_neg (by omega), if_pos (by omega)] | rw [if_neg (by omega), if_neg (by omega), if_neg (by omega)]) k
  · refine w_tabIn (off := 32) 33 dX8_cut_1 (by omega) (by omega) (by omega) rfl (by decide) ?_
    refine w_lload_n dX8_cut_33 rfl ?_
    refine w_l2i dX8_cut_34 ?_
    refine w_i2s dX8_cut_35 ?_
    have hr := fwS16_rng v
    refine w_i2l dX8_cut_36 (by omega) ?_
    exact w_lretE dX8_cut_37 rfl (by rw [mCut]; first | rw [if_pos (by omega)] | rw [if_neg (by omega), if_pos (by omega)] | rw [if_neg (by omega), if_neg (by omega), if_pos (by omega)] | rw [if_neg (by omega), if_neg (by omega), if_neg (by omega)]) k
  · refine w_tabIn (off := 37) 38 dX8_cut_1 (by omega) (by omega) (by omega) rfl (by decide) ?_
    refine w_lload_n dX8_cut_38 rfl ?_
    refine w_l2iC dX8_cut_39 ?_
    have hr := fwI32_rng v
    refine w_i2l dX8_cut_40 (by omega) ?_
    exact w_lretE dX8_cut_41 rfl (by rw [mCut]; first | rw [if_pos (by omega)] | rw [if_neg (by omega), if_pos (by omega)] | rw [if_neg (by omega), if_neg (by omega), if_pos (by omega)] | rw [if_neg (by omega), if_neg (by omega), if_neg (by omega)]) k
  · refine w_tabOut 42 dX8_cut_1 (by omega) (by omega) (by decide) ?_
    refine w_lload_n dX8_cut_42 rfl ?_
    exact w_lretE dX8_cut_43 rfl (by rw [mCut]; first | rw [if_pos (by omega)] | rw [if_neg (by omega), if_pos (by omega)] | rw [if_neg (by omega), if_neg (by omega), if_pos (by omega)] | rw [if_neg (by omega), if_neg (by omega), if_neg (by omega)]) k
set_option maxRecDepth 100000 in
set_option maxHeartbeats 4000000 in
theorem c_X8_put {d : Nat} {h : fwH} {Q : Option fwV → fwH → Prop} (x y v : Int) (hs : sOk h) (hx : 0 ≤ x ∧ x < 4) (hy : 0 ≤ y ∧ y < 60) (k : Q none (fwUp h 33 x.toNat y.toNat (mCut v (h 34 0 x.toNat)))) : fwCt mX8_put (d + 1) [aR 11 0, aI x, aI y, aJ v] h Q := by
  refine fwCt_of [some (aR 11 0), some (aI x), some (aI y), some (aJ v), none] rfl rfl rfl ?_
  refine w_aload_n dX8_put_0 rfl ?_
  refine w_iload_n dX8_put_1 rfl ?_
  refine w_callV (d := d + 0) (S := []) [aI x] dX8_put_2 ml_X8_27 ok_X8_has vi_X8_has rfl rfl (by decide) rfl (Nat.le_of_ble_eq_true rfl) ?_
  refine c_X8_has (d := d) x (by first | assumption | omega | decide) ?_
  show fwWP mX8_put (d + 1) 5 [some (aR 11 0), some (aI x), some (aI y), some (aJ v), none] [aI (fwB (0 ≤ x ∧ x < 4))] h Q
  refine w_ifB_eq 36 dX8_put_5 (by decide) (fun c5 => ?_) (fun c5 => ?_)
  · (exfalso; omega)
  · refine w_iload_n dX8_put_8 rfl ?_
    refine w_if_lt 36 dX8_put_9 (by decide) (by omega) (fun c9 => ?_) (fun c9 => ?_)
    · (exfalso; omega)
    · refine w_iload_n dX8_put_12 rfl ?_
      refine w_bipush dX8_put_13 rfl ?_
      refine w_icmp_ge 36 dX8_put_15 (by decide) (by omega) (by omega) (fun c15 => ?_) (fun c15 => ?_)
      · (exfalso; omega)
      · refine w_aload_n dX8_put_18 rfl ?_
        refine w_getr 32 0 dX8_put_19 fl_X8_11 rfl (by decide) ?_
        refine w_iload_n dX8_put_22 rfl ?_
        refine w_aald32 dX8_put_23 (by omega) (by omega) ?_
        refine w_iload_n dX8_put_24 rfl ?_
        refine w_lload_n dX8_put_25 rfl ?_
        refine w_aload_n dX8_put_26 rfl ?_
        refine w_getr 34 0 dX8_put_27 fl_X8_16 rfl (by decide) ?_
        refine w_iload_n dX8_put_30 rfl ?_
        refine w_iald dX8_put_31 rfl (by decide) (by omega) (by omega) ?_
        have hw := (hs x.toNat (by omega)).2.1
        refine w_callS (d := d + 0) (S := [aI y, aR 33 ((x).toNat)]) [aJ v, aI (h 34 0 (x).toNat)] dX8_put_32 ml_X8_34 ok_X8_cut st_X8_cut rfl (Nat.le_of_ble_eq_true rfl) ?_
        refine c_X8_cut (d := d) v (h 34 0 (x).toNat) (by first | assumption | omega | decide) ?_
        show fwWP mX8_put (d + 1) 35 [some (aR 11 0), some (aI x), some (aI y), some (aJ v), none] [aJ (mCut v (h 34 0 (x).toNat)), aI y, aR 33 ((x).toNat)] h Q
        refine w_last dX8_put_35 rfl (show (x).toNat < 4 by omega) (by omega) (by omega) ?_
        exact w_vret dX8_put_36 rfl (k)
set_option maxRecDepth 100000 in
set_option maxHeartbeats 4000000 in
theorem c_X8_move {d : Nat} {h : fwH} {Q : Option fwV → fwH → Prop} (x y z u n : Int) (hs : sOk h) (hx : 0 ≤ x ∧ x < 4) (hz : 0 ≤ z ∧ z < 4) (hy : 0 ≤ y ∧ 0 ≤ n ∧ n ≤ mSz (h 35 0) x ∧ y ≤ mSz (h 35 0) x - n) (hu : 0 ≤ u ∧ 0 ≤ n ∧ n ≤ mSz (h 35 0) z ∧ u ≤ mSz (h 35 0) z - n) (k : Q none (fwUc h 33 z.toNat (va_cpy (h 33 x.toNat) (h 33 z.toNat) y.toNat u.toNat n.toNat))) : fwCt mX8_move (d + 2) [aR 11 0, aI x, aI y, aI z, aI u, aI n] h Q := by
  refine fwCt_of [some (aR 11 0), some (aI x), some (aI y), some (aI z), some (aI u), some (aI n)] rfl rfl rfl ?_
  have hz1 := mSz_rng hs x
  have hz2 := mSz_rng hs z
  refine w_aload_n dX8_move_0 rfl ?_
  refine w_iload_n dX8_move_1 rfl ?_
  refine w_callV (d := d + 1) (S := []) [aI x] dX8_move_2 ml_X8_27 ok_X8_has vi_X8_has rfl rfl (by decide) rfl (Nat.le_of_ble_eq_true rfl) ?_
  refine c_X8_has (d := (d + 1)) x (by first | assumption | omega | decide) ?_
  show fwWP mX8_move (d + 2) 5 [some (aR 11 0), some (aI x), some (aI y), some (aI z), some (aI u), some (aI n)] [aI (fwB (0 ≤ x ∧ x < 4))] h Q
  refine w_ifB_eq 59 dX8_move_5 (by decide) (fun c5 => ?_) (fun c5 => ?_)
  · (exfalso; omega)
  · refine w_aload_n dX8_move_8 rfl ?_
    refine w_iload_n dX8_move_9 rfl ?_
    refine w_callV (d := d + 1) (S := []) [aI z] dX8_move_10 ml_X8_27 ok_X8_has vi_X8_has rfl rfl (by decide) rfl (Nat.le_of_ble_eq_true rfl) ?_
    refine c_X8_has (d := (d + 1)) z (by first | assumption | omega | decide) ?_
    show fwWP mX8_move (d + 2) 13 [some (aR 11 0), some (aI x), some (aI y), some (aI z), some (aI u), some (aI n)] [aI (fwB (0 ≤ z ∧ z < 4))] h Q
    refine w_ifB_eq 59 dX8_move_13 (by decide) (fun c13 => ?_) (fun c13 => ?_)
    · (exfalso; omega)
    · refine w_aload_n dX8_move_16 rfl ?_
      refine w_iload_n dX8_move_17 rfl ?_
      refine w_iload_n dX8_move_18 rfl ?_
      refine w_iload dX8_move_19 rfl ?_
      refine w_callV (d := d + 1) (S := []) [aI x, aI y, aI n] dX8_move_21 ml_X8_38 ok_X8_spans vi_X8_spans rfl rfl (by decide) rfl (Nat.le_of_ble_eq_true rfl) ?_
      refine c_X8_spans (d := d) x y n (by first | assumption | omega | decide) (by first | assumption | omega | decide) (by first | assumption | omega | decide) (by first | assumption | omega | decide) ?_
      show fwWP mX8_move (d + 2) 24 [some (aR 11 0), some (aI x), some (aI y), some (aI z), some (aI u), some (aI n)] [aI (fwB (0 ≤ y ∧ 0 ≤ n ∧ n ≤ mSz (h 35 0) x ∧ y ≤ mSz (h 35 0) x - n))] h Q
      refine w_ifB_eq 59 dX8_move_24 (by decide) (fun c24 => ?_) (fun c24 => ?_)
      · (exfalso; omega)
      · refine w_aload_n dX8_move_27 rfl ?_
        refine w_iload_n dX8_move_28 rfl ?_
        refine w_iload dX8_move_29 rfl ?_
        refine w_iload dX8_move_31 rfl ?_
        refine w_callV (d := d + 1) (S := []) [aI z, aI u, aI n] dX8_move_33 ml_X8_38 ok_X8_spans vi_X8_spans rfl rfl (by decide) rfl (Nat.le_of_ble_eq_true rfl) ?_
        refine c_X8_spans (d := d) z u n (by first | assumption | omega | decide) (by first | assumption | omega | decide) (by first | assumption | omega | decide) (by first | assumption | omega | decide) ?_
        show fwWP mX8_move (d + 2) 36 [some (aR 11 0), some (aI x), some (aI y), some (aI z), some (aI u), some (aI n)] [aI (fwB (0 ≤ u ∧ 0 ≤ n ∧ n ≤ mSz (h 35 0) z ∧ u ≤ mSz (h 35 0) z - n))] h Q
        refine w_ifB_eq 59 dX8_move_36 (by decide) (fun c36 => ?_) (fun c36 => ?_)
        · (exfalso; omega)
        · have hz1 := mSz_rng hs x
          have hz2 := mSz_rng hs z
          refine w_aload_n dX8_move_39 rfl ?_
          refine w_getr 32 0 dX8_move_40 fl_X8_11 rfl (by decide) ?_
          refine w_iload_n dX8_move_43 rfl ?_
          refine w_aald32 dX8_move_44 (by omega) (by omega) ?_
          refine w_iload_n dX8_move_45 rfl ?_
          refine w_aload_n dX8_move_46 rfl ?_
          refine w_getr 32 0 dX8_move_47 fl_X8_11 rfl (by decide) ?_
          refine w_iload_n dX8_move_50 rfl ?_
          refine w_aald32 dX8_move_51 (by omega) (by omega) ?_
          refine w_iload dX8_move_52 rfl ?_
          refine w_iload dX8_move_54 rfl ?_
          refine w_copy33 (d := d + 1) (S := []) dX8_move_56 (by omega) (by omega) (by omega) (by omega) (by omega) (by omega) (by omega) (Nat.le_of_ble_eq_true rfl) ?_
          exact w_vret dX8_move_59 rfl (k)
end
