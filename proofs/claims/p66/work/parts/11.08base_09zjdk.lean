section
theorem fwB_01 (P : Prop) [Decidable P] : fwB P = 0 ∨ fwB P = 1 := by unfold fwB; split <;> simp
theorem fwB_t {P : Prop} [Decidable P] (h : P) : fwB P = 1 := if_pos h
theorem fwB_f {P : Prop} [Decidable P] (h : ¬ P) : fwB P = 0 := if_neg h
theorem fwB_rng (P : Prop) [Decidable P] : 0 ≤ fwB P ∧ fwB P ≤ 1 := by unfold fwB; split <;> simp
section FWE
variable {M : fwM} {d pc : Nat} {L : List (Option fwV)} {S : List fwV} {h : fwH} {Q : Option fwV → fwH → Prop}
theorem w_getiE {idx k i j : Nat} {v : Int} (hd : decode M.2.1 pc = .ok (.getfield idx, 3)) (hf : fwFL M.1.cls idx k j) (hr : fwRf k j i = none) (hi : i < fwNk k) (hv : h k i j = v) (kk : fwWP M d (pc + 3) L (aI v :: S) h Q) : fwWP M d pc L (aR k i :: S) h Q := by
  subst hv
  exact w_geti hd hf hr hi kk
theorem w_ialdE {k i n : Nat} {x v : Int} (hd : decode M.2.1 pc = .ok (.iaload, 1)) (ha : fwAk k = some (0, n)) (hi : i < fwNk k) (h0 : 0 ≤ x) (h1 : x < n) (hv : h k i x.toNat = v) (kk : fwWP M d (pc + 1) L (aI v :: S) h Q) : fwWP M d pc L (aI x :: aR k i :: S) h Q := by
  subst hv
  exact w_iald hd ha hi h0 h1 kk
theorem w_baldE {k i n : Nat} {x v : Int} (hd : decode M.2.1 pc = .ok (.baload, 1)) (ha : fwAk k = some (1, n)) (hi : i < fwNk k) (h0 : 0 ≤ x) (h1 : x < n) (hv : h k i x.toNat = v) (kk : fwWP M d (pc + 1) L (aI v :: S) h Q) : fwWP M d pc L (aI x :: aR k i :: S) h Q := by
  subst hv
  exact w_bald hd ha hi h0 h1 kk
theorem w_zaldE {k i n : Nat} {x v : Int} (hd : decode M.2.1 pc = .ok (.baload, 1)) (ha : fwAk k = some (2, n)) (hi : i < fwNk k) (h0 : 0 ≤ x) (h1 : x < n) (hv : h k i x.toNat = v) (kk : fwWP M d (pc + 1) L (aI v :: S) h Q) : fwWP M d pc L (aI x :: aR k i :: S) h Q := by
  subst hv
  exact w_zald hd ha hi h0 h1 kk
theorem w_laldE {k i n : Nat} {x v : Int} (hd : decode M.2.1 pc = .ok (.laload, 1)) (ha : fwAk k = some (3, n)) (hi : i < fwNk k) (h0 : 0 ≤ x) (h1 : x < n) (hv : h k i x.toNat = v) (kk : fwWP M d (pc + 1) L (aJ v :: S) h Q) : fwWP M d pc L (aI x :: aR k i :: S) h Q := by
  subst hv
  exact w_lald hd ha hi h0 h1 kk
theorem w_iretE {x r : Int} (hd : decode M.2.1 pc = .ok (.ireturn, 1)) (hr : M.2.2.2 = some .int) (e : x = r) (k : Q (some (aI r)) h) : fwWP M d pc L [aI x] h Q := by
  subst e
  exact w_iret hd hr k
theorem w_zretE {x : Int} {P : Prop} [Decidable P] (hd : decode M.2.1 pc = .ok (.ireturn, 1)) (hr : M.2.2.2 = some .boolean) (e : x = fwB P) (k : Q (some (aI (fwB P))) h) : fwWP M d pc L [aI x] h Q := by
  subst e
  exact w_zret hd hr (fwB_01 P) k
theorem w_lretE {x r : Int} (hd : decode M.2.1 pc = .ok (.lreturn, 1)) (hr : M.2.2.2 = some .long) (e : x = r) (k : Q (some (aJ r)) h) : fwWP M d pc L [aJ x] h Q := by
  subst e
  exact w_lret hd hr k
end FWE
/-- a loop that counts up to n -/
theorem fw_up {P : Nat → Prop} {n : Nat} (step : ∀ c, c ≤ n → (c < n → P (c + 1)) → P c) : ∀ c, c ≤ n → P c := by
  have key : ∀ k c, c ≤ n → n - c ≤ k → P c := by
    intro k
    induction k with
    | zero => intro c hc h0; exact step c hc (fun h => by omega)
    | succ k ih => intro c hc h0; exact step c hc (fun h => ih (c + 1) h (by omega))
  intro c hc
  exact key (n - c) c hc (Nat.le_refl _)
/-- a loop whose measure falls -/
theorem fw_down {α : Type} {P : α → Prop} (μ : α → Nat) (step : ∀ a, (∀ b, μ b < μ a → P b) → P a) : ∀ a, P a := by
  have key : ∀ k a, μ a ≤ k → P a := by
    intro k
    induction k with
    | zero => intro a h0; exact step a (fun b h => by omega)
    | succ k ih => intro a h0; exact step a (fun b h => ih b (by omega))
  intro a
  exact key (μ a) a (Nat.le_refl _)
/-- locals that are not needed any more -/
theorem fw_setnone {L : List (Option fwV)} {i j : Nat} {v : fwV} (h : (L.set i none)[j]? = some (some v)) : L[j]? = some (some v) := by
  rw [List.getElem?_set] at h
  split at h
  · split at h <;> cases h
  · exact h
theorem fw_dropL : ∀ (ds : List Nat) (L : List (Option fwV)) (j : Nat) (v : fwV), (ds.foldl (fun L i => L.set i none) L)[j]? = some (some v) → L[j]? = some (some v) := by
  intro ds
  induction ds with
  | nil => intro L j v h; exact h
  | cons a t ih => intro L j v h; exact fw_setnone (ih _ j v h)
theorem w_drop {M : fwM} {d pc : Nat} {L : List (Option fwV)} {S : List fwV} {h : fwH} {Q : Option fwV → fwH → Prop} (ds : List Nat) (L' : List (Option fwV)) (hL : ds.foldl (fun L i => L.set i none) L = L') (k : fwWP M d pc L' S h Q) : fwWP M d pc L S h Q := by
  intro l p e s m args below meth c ad D tc H locs ls C X
  refine k l p e s m args below meth c ad D tc H locs ls C ⟨X.1, X.2.1, X.2.2.1, X.2.2.2.1, fun i v hi => X.2.2.2.2 i v ?_⟩
  rw [← hL] at hi
  exact fw_dropL ds L i v hi
end
section
/-! heaps that the machine can't tell apart -/
theorem fw_arrV {c : ClassId} {N : Nat} {f g : Nat → Value} (h : ∀ j, j < N → f j = g j) : arrV c N f = arrV c N g := by
  unfold arrV
  congr 2
  funext j
  exact h j.1 j.2
def fwLim (k : Nat) : Nat := match fwOk k with
  | some c => fwFn c
  | none => match fwAk k with
    | some a => a.2
    | none => 0
def fwE (h h' : fwH) : Prop := ∀ k i s, i < fwNk k → s < fwLim k → fwRf k s i = none → h k i s = h' k i s
theorem fw_celE {ad : Nat → Nat → Nat} {tc : Nat → ClassId} {D : va_G} {f g : Nat → Int} {k i : Nat} {H : Heap} (he : ∀ s, s < fwLim k → fwRf k s i = none → f s = g s) (h : va_at D vwCl (ad k i, fwCel ad tc f k i) H) : va_at D vwCl (ad k i, fwCel ad tc g k i) H := by
  cases ho : fwOk k with
  | some c =>
    rw [fwCel_o ho] at h ⊢
    have e : (List.range (fwFn c)).map (fwFv ad f k i) = (List.range (fwFn c)).map (fwFv ad g k i) := by
      apply List.map_congr_left
      intro s hs
      unfold fwFv
      cases hr : fwRf k s i with
      | some q => rfl
      | none => rw [he s (by unfold fwLim; rw [ho]; exact List.mem_range.mp hs) hr]
    rw [← e]
    exact h
  | none =>
    cases ha : fwAk k with
    | none =>
      unfold fwCel at h ⊢
      rw [ho] at h ⊢
      dsimp only at h ⊢
      rw [ha] at h ⊢
      exact h
    | some a =>
      rw [fwCel_a ho ha] at h ⊢
      have hl : fwLim k = a.2 := by unfold fwLim; rw [ho]; dsimp only; rw [ha]
      have hr : ∀ s, fwRf k s i = none := by
        intro s
        have hk : 13 ≤ k := by
          rcases Nat.lt_or_ge k 13 with q | q
          · exfalso
            have : ∀ k, k < 13 → fwAk k = none := by decide +kernel
            rw [this k q] at ha
            cases ha
          · exact q
        unfold fwRf
        rw [List.getD_eq_getElem?_getD (l := fwTs), List.getElem?_eq_none (show fwTs.length ≤ k from hk)]
        rfl
      unfold fwArr at h ⊢
      show H[ad k i]? = some (vp_cell _ _)
      have h1 : H[ad k i]? = some (vp_cell _ _) := h
      rw [h1]
      by_cases h2 : a.1 ≤ 2
      · rw [if_pos h2, if_pos h2, vp_cell_i, vp_cell_i]
        exact congrArg some (fw_arrV (fun j hj => by rw [he j (by omega) (hr j)]))
      · rw [if_neg h2, if_neg h2]
        by_cases h3 : a.1 = 3
        · rw [if_pos h3, if_pos h3, vp_cell_l, vp_cell_l]
          exact congrArg some (fw_arrV (fun j hj => by rw [he j (by omega) (hr j)]))
        · rw [if_neg h3, if_neg h3]
theorem fw_wdE {ad : Nat → Nat → Nat} {tc : Nat → ClassId} {D : va_G} {h h' : fwH} {H : Heap} (he : fwE h h') (hP : va_P D vwCl (fwWd ad tc h) H) : va_P D vwCl (fwWd ad tc h') H := by
  intro n q hq
  unfold fwWd at hq
  rw [List.getElem?_map] at hq
  cases h1 : fwPr[n]? with
  | none => rw [h1] at hq; cases hq
  | some a =>
    rw [h1] at hq
    cases hq
    have h2 : (fwWd ad tc h)[n]? = some (ad a.1 a.2, fwCel ad tc (h a.1 a.2) a.1 a.2) := by
      unfold fwWd
      rw [List.getElem?_map, h1]
      rfl
    exact fw_celE (fun s hs hr => he a.1 a.2 s (fwPr_in a (List.mem_of_getElem? h1)) hs hr) (hP n _ h2)
theorem w_heq {M : fwM} {d pc : Nat} {L : List (Option fwV)} {S : List fwV} {h : fwH} {Q : Option fwV → fwH → Prop} (h' : fwH) (he : fwE h h') (k : fwWP M d pc L S h' Q) : fwWP M d pc L S h Q := by
  intro l p e s m args below meth c ad D tc H locs ls C X
  exact k l p e s m args below meth c ad D tc H locs ls C ⟨fw_wdE he X.1, X.2⟩
def fwFu (g : Nat → Int) (j : Nat) (x : Int) : Nat → Int := fun s => if s = j then x else g s
theorem fwUp_fu (h : fwH) (k i j : Nat) (x : Int) : fwUp h k i j x = fwUc h k i (fwFu (h k i) j x) := fwUp_Uc h k i j x
theorem fwUc_uc (h : fwH) (k i : Nat) (g g' : Nat → Int) : fwUc (fwUc h k i g) k i g' = fwUc h k i g' := by
  funext k' i'
  unfold fwUc
  by_cases e : k' = k ∧ i' = i
  · rw [if_pos e, if_pos e]
  · rw [if_neg e, if_neg e, if_neg e]
theorem fwUc_at (h : fwH) (k i : Nat) (g : Nat → Int) : fwUc h k i g k i = g := by
  unfold fwUc
  rw [if_pos ⟨rfl, rfl⟩]
theorem fwUc_ne {h : fwH} {k i k' i' : Nat} {g : Nat → Int} (hn : ¬ (k' = k ∧ i' = i)) : fwUc h k i g k' i' = h k' i' := if_neg hn
theorem fwUc_self (h : fwH) (k i : Nat) : fwUc h k i (h k i) = h := by
  funext k' i'
  unfold fwUc
  by_cases e : k' = k ∧ i' = i
  · rw [if_pos e, e.1, e.2]
  · rw [if_neg e]
theorem fwUc_comm (h : fwH) {k i k' i' : Nat} (g g' : Nat → Int) (hn : ¬ (k = k' ∧ i = i')) : fwUc (fwUc h k i g) k' i' g' = fwUc (fwUc h k' i' g') k i g := by
  funext a b
  unfold fwUc
  by_cases e : a = k ∧ b = i
  · obtain ⟨rfl, rfl⟩ := e
    rw [if_neg (fun q => hn q)]
    simp
  · by_cases e2 : a = k' ∧ b = i'
    · rw [if_pos e2, if_neg e, if_pos e2]
    · rw [if_neg e2, if_neg e, if_neg e, if_neg e2]
theorem fwE_uc {h : fwH} {k i : Nat} {g g' : Nat → Int} (he : ∀ s, s < fwLim k → fwRf k s i = none → g s = g' s) : fwE (fwUc h k i g) (fwUc h k i g') := by
  intro k' i' s hi hs hr
  unfold fwUc
  by_cases e : k' = k ∧ i' = i
  · obtain ⟨rfl, rfl⟩ := e
    simp only [and_self, if_true]
    exact he s hs hr
  · rw [if_neg e, if_neg e]
theorem fwE.rf {h : fwH} : fwE h h := fun _ _ _ _ _ _ => rfl
theorem fwE.tr {h h1 h2 : fwH} (a : fwE h h1) (b : fwE h1 h2) : fwE h h2 := fun k i s x y z => (a k i s x y z).trans (b k i s x y z)
theorem fwE.uc {h h' : fwH} (a : fwE h h') (k i : Nat) (g : Nat → Int) : fwE (fwUc h k i g) (fwUc h' k i g) := by
  intro k' i' s x y z
  unfold fwUc
  by_cases e : k' = k ∧ i' = i
  · rw [if_pos e, if_pos e]
  · rw [if_neg e, if_neg e]
    exact a k' i' s x y z
theorem fwUp_uc (h : fwH) (k i : Nat) (g : Nat → Int) (j : Nat) (x : Int) : fwUp (fwUc h k i g) k i j x = fwUc h k i (fwFu g j x) := by
  rw [fwUp_fu, fwUc_uc, fwUc_at]
/-- a row that is filled from its beginning on -/
def fwFl (g f : Nat → Int) (c : Nat) : Nat → Int := fun s => if s < c then g s else f s
theorem fwFl_0 (g f : Nat → Int) : fwFl g f 0 = f := by funext s; simp [fwFl]
theorem fwFl_succ (g f : Nat → Int) (c : Nat) : fwFu (fwFl g f c) c (g c) = fwFl g f (c + 1) := by
  funext s
  unfold fwFu fwFl
  by_cases e : s = c
  · subst e
    rw [if_pos rfl, if_pos (by omega)]
  · rw [if_neg e]
    by_cases e3 : s < c
    · rw [if_pos e3, if_pos (by omega)]
    · rw [if_neg e3, if_neg (by omega)]
theorem fwFl_lt {g f : Nat → Int} {c s : Nat} (h : s < c) : fwFl g f c s = g s := if_pos h
theorem fwFl_ge {g f : Nat → Int} {c s : Nat} (h : c ≤ s) : fwFl g f c s = f s := if_neg (by omega)
end
section
/-! JDK: Math, Integer.bitCount, Strings -/
def fwPop (x0 : Int) : Int :=
  let x1 := x0 - fwAnd (fwUsh x0 1) 1431655765
  let x2 := fwAnd x1 858993459 + fwAnd (fwUsh x1 2) 858993459
  let x3 := fwAnd (x2 + fwUsh x2 4) 252645135
  let x4 := x3 + fwUsh x3 8
  let x5 := x4 + fwUsh x4 16
  fwAnd x5 63
set_option maxRecDepth 100000 in
set_option maxHeartbeats 4000000 in
theorem c_bitCount {d : Nat} {h : fwH} {Q : Option fwV → fwH → Prop} (x : Int)  (k : Q (some (aI (fwPop x))) h) : fwCt mJ6_bitCount_0f7a4 (d + 0) [aI x] h Q := by
  refine fwCt_of [some (aI x)] rfl rfl rfl ?_
  refine w_iload_n dJ6_bitCount_0f7a4_0 rfl ?_
  refine w_iload_n dJ6_bitCount_0f7a4_1 rfl ?_
  refine w_iconst dJ6_bitCount_0f7a4_2 ?_
  refine w_iushr dJ6_bitCount_0f7a4_3 ?_
  refine w_ldcw (n := 1431655765) dJ6_bitCount_0f7a4_4 cs_J6_265 ?_
  refine w_iand dJ6_bitCount_0f7a4_7 ?_
  refine w_isub dJ6_bitCount_0f7a4_8 ?_
  refine w_istore_n [some (aI (x - (fwAnd (fwUsh x 1) 1431655765)))] dJ6_bitCount_0f7a4_9 rfl (by decide) ?_
  refine w_iload_n dJ6_bitCount_0f7a4_10 rfl ?_
  refine w_ldcw (n := 858993459) dJ6_bitCount_0f7a4_11 cs_J6_266 ?_
  refine w_iand dJ6_bitCount_0f7a4_14 ?_
  refine w_iload_n dJ6_bitCount_0f7a4_15 rfl ?_
  refine w_iconst dJ6_bitCount_0f7a4_16 ?_
  refine w_iushr dJ6_bitCount_0f7a4_17 ?_
  refine w_ldcw (n := 858993459) dJ6_bitCount_0f7a4_18 cs_J6_266 ?_
  refine w_iand dJ6_bitCount_0f7a4_21 ?_
  refine w_iadd dJ6_bitCount_0f7a4_22 ?_
  refine w_istore_n [some (aI ((fwAnd (x - (fwAnd (fwUsh x 1) 1431655765)) 858993459) + (fwAnd (fwUsh (x - (fwAnd (fwUsh x 1) 1431655765)) 2) 858993459)))] dJ6_bitCount_0f7a4_23 rfl (by decide) ?_
  refine w_iload_n dJ6_bitCount_0f7a4_24 rfl ?_
  refine w_iload_n dJ6_bitCount_0f7a4_25 rfl ?_
  refine w_iconst dJ6_bitCount_0f7a4_26 ?_
  refine w_iushr dJ6_bitCount_0f7a4_27 ?_
  refine w_iadd dJ6_bitCount_0f7a4_28 ?_
  refine w_ldcw (n := 252645135) dJ6_bitCount_0f7a4_29 cs_J6_267 ?_
  refine w_iand dJ6_bitCount_0f7a4_32 ?_
  refine w_istore_n [some (aI (fwAnd (((fwAnd (x - (fwAnd (fwUsh x 1) 1431655765)) 858993459) + (fwAnd (fwUsh (x - (fwAnd (fwUsh x 1) 1431655765)) 2) 858993459)) + (fwUsh ((fwAnd (x - (fwAnd (fwUsh x 1) 1431655765)) 858993459) + (fwAnd (fwUsh (x - (fwAnd (fwUsh x 1) 1431655765)) 2) 858993459)) 4)) 252645135))] dJ6_bitCount_0f7a4_33 rfl (by decide) ?_
  refine w_iload_n dJ6_bitCount_0f7a4_34 rfl ?_
  refine w_iload_n dJ6_bitCount_0f7a4_35 rfl ?_
  refine w_bipush dJ6_bitCount_0f7a4_36 rfl ?_
  refine w_iushr dJ6_bitCount_0f7a4_38 ?_
  refine w_iadd dJ6_bitCount_0f7a4_39 ?_
  refine w_istore_n [some (aI ((fwAnd (((fwAnd (x - (fwAnd (fwUsh x 1) 1431655765)) 858993459) + (fwAnd (fwUsh (x - (fwAnd (fwUsh x 1) 1431655765)) 2) 858993459)) + (fwUsh ((fwAnd (x - (fwAnd (fwUsh x 1) 1431655765)) 858993459) + (fwAnd (fwUsh (x - (fwAnd (fwUsh x 1) 1431655765)) 2) 858993459)) 4)) 252645135) + (fwUsh (fwAnd (((fwAnd (x - (fwAnd (fwUsh x 1) 1431655765)) 858993459) + (fwAnd (fwUsh (x - (fwAnd (fwUsh x 1) 1431655765)) 2) 858993459)) + (fwUsh ((fwAnd (x - (fwAnd (fwUsh x 1) 1431655765)) 858993459) + (fwAnd (fwUsh (x - (fwAnd (fwUsh x 1) 1431655765)) 2) 858993459)) 4)) 252645135) 8)))] dJ6_bitCount_0f7a4_40 rfl (by decide) ?_
  refine w_iload_n dJ6_bitCount_0f7a4_41 rfl ?_
  refine w_iload_n dJ6_bitCount_0f7a4_42 rfl ?_
  refine w_bipush dJ6_bitCount_0f7a4_43 rfl ?_
  refine w_iushr dJ6_bitCount_0f7a4_45 ?_
  refine w_iadd dJ6_bitCount_0f7a4_46 ?_
  refine w_istore_n [some (aI (((fwAnd (((fwAnd (x - (fwAnd (fwUsh x 1) 1431655765)) 858993459) + (fwAnd (fwUsh (x - (fwAnd (fwUsh x 1) 1431655765)) 2) 858993459)) + (fwUsh ((fwAnd (x - (fwAnd (fwUsh x 1) 1431655765)) 858993459) + (fwAnd (fwUsh (x - (fwAnd (fwUsh x 1) 1431655765)) 2) 858993459)) 4)) 252645135) + (fwUsh (fwAnd (((fwAnd (x - (fwAnd (fwUsh x 1) 1431655765)) 858993459) + (fwAnd (fwUsh (x - (fwAnd (fwUsh x 1) 1431655765)) 2) 858993459)) + (fwUsh ((fwAnd (x - (fwAnd (fwUsh x 1) 1431655765)) 858993459) + (fwAnd (fwUsh (x - (fwAnd (fwUsh x 1) 1431655765)) 2) 858993459)) 4)) 252645135) 8)) + (fwUsh ((fwAnd (((fwAnd (x - (fwAnd (fwUsh x 1) 1431655765)) 858993459) + (fwAnd (fwUsh (x - (fwAnd (fwUsh x 1) 1431655765)) 2) 858993459)) + (fwUsh ((fwAnd (x - (fwAnd (fwUsh x 1) 1431655765)) 858993459) + (fwAnd (fwUsh (x - (fwAnd (fwUsh x 1) 1431655765)) 2) 858993459)) 4)) 252645135) + (fwUsh (fwAnd (((fwAnd (x - (fwAnd (fwUsh x 1) 1431655765)) 858993459) + (fwAnd (fwUsh (x - (fwAnd (fwUsh x 1) 1431655765)) 2) 858993459)) + (fwUsh ((fwAnd (x - (fwAnd (fwUsh x 1) 1431655765)) 858993459) + (fwAnd (fwUsh (x - (fwAnd (fwUsh x 1) 1431655765)) 2) 858993459)) 4)) 252645135) 8)) 16)))] dJ6_bitCount_0f7a4_47 rfl (by decide) ?_
  refine w_iload_n dJ6_bitCount_0f7a4_48 rfl ?_
  refine w_bipush dJ6_bitCount_0f7a4_49 rfl ?_
  refine w_iand dJ6_bitCount_0f7a4_51 ?_
  exact w_iretE dJ6_bitCount_0f7a4_52 rfl (by rfl) k
theorem w_max {M : fwM} {d pc : Nat} {L : List (Option fwV)} {S : List fwV} {h : fwH} {Q : Option fwV → fwH → Prop} {idx : Nat} {x y : Int} (hd : decode M.2.1 pc = .ok (.invokestatic idx, 3)) (hl : Cond.methodLink M.1.cls idx (mJ9_max_7cf53).1 ∈ fwTb) (hx : -2147483648 ≤ x ∧ x < 2147483648) (hy : -2147483648 ≤ y ∧ y < 2147483648) (hS : fwCat S ≤ 8) (k : fwWP M (d + 1) (pc + 3) L (aI (max x y) :: S) h Q) : fwWP M (d + 1) pc L (aI y :: aI x :: S) h Q := by
  intro l p e s m args below meth c ad D tc H locs ls C X
  have hcd : Cond.code Lib.Math.max.name Lib.Math.max.code 2 (some .int) ∈ fwTb := fwTb_4 (i := 231) (by decide +kernel) rfl
  refine va_mmax C.1 C.2.1 (C.2.2.1.trans X.2.2.1.symm) C.2.2.2.1 (C.2.2.2.2.1 _ hl) (C.2.2.2.2.1 _ st_J9_max_7cf53) (C.2.2.2.2.1 _ (ok_J9_max_7cf53).2.1) (C.2.2.2.2.1 _ hcd) (Nat.le_add_left 1 d) (by rw [fwCat_eq]; show _ ≤ 64 * (d + 1); omega) (Nat.le_refl _) (Nat.le_refl _) hd ?_
  have e9 : (if Int32.ofInt x < Int32.ofInt y then Int32.ofInt y else Int32.ofInt x) = Int32.ofInt (max x y) := by
    simp only [fwI_lt hx hy, fwI_lt hy hx]
    split
    · rw [show max x y = y by omega]
    · rw [show max x y = x by omega]
  rw [e9]
  exact k l p e s m args below meth c ad D tc H locs ls C X
theorem w_min {M : fwM} {d pc : Nat} {L : List (Option fwV)} {S : List fwV} {h : fwH} {Q : Option fwV → fwH → Prop} {idx : Nat} {x y : Int} (hd : decode M.2.1 pc = .ok (.invokestatic idx, 3)) (hl : Cond.methodLink M.1.cls idx (mJ9_min_7cf53).1 ∈ fwTb) (hx : -2147483648 ≤ x ∧ x < 2147483648) (hy : -2147483648 ≤ y ∧ y < 2147483648) (hS : fwCat S ≤ 8) (k : fwWP M (d + 1) (pc + 3) L (aI (min x y) :: S) h Q) : fwWP M (d + 1) pc L (aI y :: aI x :: S) h Q := by
  intro l p e s m args below meth c ad D tc H locs ls C X
  have hcd : Cond.code Lib.Math.min.name Lib.Math.min.code 2 (some .int) ∈ fwTb := fwTb_4 (i := 204) (by decide +kernel) rfl
  refine va_mmin C.1 C.2.1 (C.2.2.1.trans X.2.2.1.symm) C.2.2.2.1 (C.2.2.2.2.1 _ hl) (C.2.2.2.2.1 _ st_J9_min_7cf53) (C.2.2.2.2.1 _ (ok_J9_min_7cf53).2.1) (C.2.2.2.2.1 _ hcd) (Nat.le_add_left 1 d) (by rw [fwCat_eq]; show _ ≤ 64 * (d + 1); omega) (Nat.le_refl _) (Nat.le_refl _) hd ?_
  have e9 : (if Int32.ofInt y < Int32.ofInt x then Int32.ofInt y else Int32.ofInt x) = Int32.ofInt (min x y) := by
    simp only [fwI_lt hx hy, fwI_lt hy hx]
    split
    · rw [show min x y = y by omega]
    · rw [show min x y = x by omega]
  rw [e9]
  exact k l p e s m args below meth c ad D tc H locs ls C X
theorem w_abs {M : fwM} {d pc : Nat} {L : List (Option fwV)} {S : List fwV} {h : fwH} {Q : Option fwV → fwH → Prop} {idx : Nat} {x : Int} (hd : decode M.2.1 pc = .ok (.invokestatic idx, 3)) (hl : Cond.methodLink M.1.cls idx (mJ9_abs_0f7a4).1 ∈ fwTb) (hx : -2147483648 ≤ x ∧ x < 2147483648) (hS : fwCat S ≤ 8) (k : fwWP M (d + 1) (pc + 3) L (aI (if 0 ≤ x then x else -x) :: S) h Q) : fwWP M (d + 1) pc L (aI x :: S) h Q := by
  intro l p e s m args below meth c ad D tc H locs ls C X
  have hcd : Cond.code Lib.Math.abs.name Lib.Math.abs.code 1 (some .int) ∈ fwTb := fwTb_7 (i := 127) (by decide +kernel) rfl
  refine va_mabs C.1 C.2.1 (C.2.2.1.trans X.2.2.1.symm) C.2.2.2.1 (C.2.2.2.2.1 _ hl) (C.2.2.2.2.1 _ st_J9_abs_0f7a4) (C.2.2.2.2.1 _ (ok_J9_abs_0f7a4).2.1) (C.2.2.2.2.1 _ hcd) (Nat.le_add_left 1 d) (by rw [fwCat_eq]; show _ ≤ 64 * (d + 1); omega) (Nat.le_refl _) (Nat.le_refl _) hd ?_
  have e9 : (if 0 ≤ Int32.ofInt x then Int32.ofInt x else 0 - Int32.ofInt x) = Int32.ofInt (if 0 ≤ x then x else -x) := by
    have h1 : (0 ≤ Int32.ofInt x) ↔ 0 ≤ x := by rw [fwI_0, fwI_le ⟨by decide, by decide⟩ hx]
    simp only [h1]
    split
    · rfl
    · rw [fwI_0, fwI_sub, show (0 : Int) - x = -x by omega]
  rw [e9]
  exact k l p e s m args below meth c ad D tc H locs ls C X
set_option maxRecDepth 100000 in
set_option maxHeartbeats 4000000 in
theorem c_coder {d : Nat} {h : fwH} {Q : Option fwV → fwH → Prop} (i : Nat) (hi : i < 26) (k : Q (some (aI 0)) h) : fwCt mJ0_coder_7d493 (d + 0) [aR 50 i] h Q := by
  refine fwCt_of [some (aR 50 i)] rfl rfl rfl ?_
  refine w_compact dJ0_coder_7d493_0 fj_J0_38 ?_
  refine w_if_eq 13 dJ0_coder_7d493_3 (by decide) (by omega) (fun c3 => ?_) (fun c3 => ?_)
  · omega
  · refine w_aload_n dJ0_coder_7d493_6 rfl ?_
    refine w_strCoder dJ0_coder_7d493_7 fj_J0_15 (by omega) ?_
    refine w_goto 14 dJ0_coder_7d493_10 (by decide) ?_
    exact w_tret dJ0_coder_7d493_14 rfl rfl k
set_option maxRecDepth 100000 in
set_option maxHeartbeats 4000000 in
theorem c_isLatin1 {d : Nat} {h : fwH} {Q : Option fwV → fwH → Prop} (i : Nat) (hi : i < 26) (k : Q (some (aI 1)) h) : fwCt mJ0_isLatin1_aae02 (d + 0) [aR 50 i] h Q := by
  refine fwCt_of [some (aR 50 i)] rfl rfl rfl ?_
  refine w_compact dJ0_isLatin1_aae02_0 fj_J0_38 ?_
  refine w_if_eq 17 dJ0_isLatin1_aae02_3 (by decide) (by omega) (fun c3 => ?_) (fun c3 => ?_)
  · omega
  · refine w_aload_n dJ0_isLatin1_aae02_6 rfl ?_
    refine w_strCoder dJ0_isLatin1_aae02_7 fj_J0_15 (by omega) ?_
    refine w_if_ne 17 dJ0_isLatin1_aae02_10 (by decide) (by omega) (fun c10 => ?_) (fun c10 => ?_)
    · omega
    · refine w_iconst dJ0_isLatin1_aae02_13 ?_
      refine w_goto 18 dJ0_isLatin1_aae02_14 (by decide) ?_
      exact w_tret dJ0_isLatin1_aae02_18 rfl rfl k
theorem fwShr_0 {x : Int} (hx : -2147483648 ≤ x ∧ x < 2147483648) : fwShr x 0 = x := by
  unfold fwShr
  have : Int32.ofInt x >>> (Int32.ofInt 0 &&& 31) = Int32.ofInt x := sb_shr0 _
  rw [this, fwI_rt hx]
set_option maxRecDepth 100000 in
set_option maxHeartbeats 4000000 in
theorem c_length {d : Nat} {h : fwH} {Q : Option fwV → fwH → Prop} (i : Nat) (hi : i < 26) (k : Q (some (aI ((fwSb i).length : Int))) h) : fwCt mJ0_length_8abf5 (d + 1) [aR 50 i] h Q := by
  refine fwCt_of [some (aR 50 i)] rfl rfl rfl ?_
  refine w_aload_n dJ0_length_8abf5_0 rfl ?_
  refine w_strValue dJ0_length_8abf5_1 fj_J0_9 (by omega) ?_
  refine w_strLen dJ0_length_8abf5_4 (by omega) ?_
  refine w_aload_n dJ0_length_8abf5_5 rfl ?_
  refine w_callT (d := d + 0) (S := [aI ((fwSb i).length : Int)]) [] dJ0_length_8abf5_6 ml_J0_335 ok_J0_coder_7d493 vi_J0_coder_7d493 rfl (by omega) rfl (Nat.le_of_ble_eq_true rfl) ?_
  refine c_coder (d := d) i (by omega) ?_
  show fwWP mJ0_length_8abf5 (d + 1) 9 [some (aR 50 i)] [aI 0, aI ((fwSb i).length : Int)] h Q
  refine w_ishr dJ0_length_8abf5_9 ?_
  exact w_iretE dJ0_length_8abf5_10 rfl (by have h5 := fwSb_len i hi; exact fwShr_0 (by omega)) k
set_option maxHeartbeats 4000000 in
set_option maxRecDepth 100000 in
theorem c_checkIndex3 (l : Launch) (d : Nat) (x n : Int) (v : Value) (hv9 : v = .null ∨ ∃ t, v = .ref t) (h0 : 0 ≤ x) (h1 : x < n) (h2 : n < 2147483648) : Met l (mJ3_checkIndex_8e157).1 (fwWs mJ3_checkIndex_8e157) (fwRm d) (fun a _ => a = ([.int (Int32.ofInt x), .int (Int32.ofInt n), v] : List Value).toArray) (QcRead (Int32.ofInt x)) 0 0 (fun _ => False) := by
  refine Met.ofW (cc := cJ3_checkIndex_8e157) (maxL := 3) (ret := some .int) (by decide) rfl ?_
  intro p e s m args below meth c s₁ B hml hv
  subst hv
  have hx := B.exec
  have hb := B.bytes
  have hr := B.returns
  have hlocks := B.notSynchronized
  have hle : (lg_sl [.int (Int32.ofInt x), .int (Int32.ofInt n), v]).length ≤ 3 := by
    rcases hv9 with rfl | ⟨t, rfl⟩ <;> exact Nat.le_of_ble_eq_true rfl
  have hl := lv_entry [.int (Int32.ofInt x), .int (Int32.ofInt n), v] (n := 3) hle
  rw [lg_entry_eq]
  generalize (lg_sl ([.int (Int32.ofInt x), .int (Int32.ofInt n), v]) ++ List.replicate (3 - (lg_sl ([.int (Int32.ofInt x), .int (Int32.ofInt n), v])).length) Slot.unset).toArray = ls at hl ⊢
  refine lv_iload_n hx hb dJ3_checkIndex_8e157_0 rfl (lv_at hl 0 rfl) ?_
  refine lv_if_lt (tgt := 9) hx hb dJ3_checkIndex_8e157_1 (by decide) (fun q => ?_) (fun _ => ?_)
  · exfalso
    rw [fwI_0, fwI_lt ⟨by omega, by omega⟩ ⟨by decide, by decide⟩] at q
    omega
  refine lv_iload_n hx hb dJ3_checkIndex_8e157_4 rfl (lv_at hl 0 rfl) ?_
  refine lv_iload_n hx hb dJ3_checkIndex_8e157_5 rfl (lv_at hl 1 rfl) ?_
  refine lv_icmp_lt (tgt := 16) hx hb dJ3_checkIndex_8e157_6 (by decide) (fun _ => ?_) (fun q => ?_)
  · refine lv_iload_n hx hb dJ3_checkIndex_8e157_16 rfl (lv_at hl 0 rfl) ?_
    exact W.iret hx hb hr (fun t ht _ => ⟨rfl, ht⟩) (fun _ z => by cases z) dJ3_checkIndex_8e157_17
  · exfalso
    rw [fwI_lt ⟨by omega, by omega⟩ ⟨by omega, by omega⟩] at q
    omega
set_option maxHeartbeats 4000000 in
set_option maxRecDepth 100000 in
theorem c_checkIndex {d : Nat} {h : fwH} {Q : Option fwV → fwH → Prop} (x n : Int) (h0 : 0 ≤ x) (h1 : x < n) (h2 : n < 2147483648) (k : Q none h) : fwCt mJ0_checkIndex_df160 (d + 1) [aI x, aI n] h Q := by
  refine fwCt_of [some (aI x), some (aI n)] rfl rfl rfl ?_
  refine w_iload_n dJ0_checkIndex_df160_0 rfl ?_
  refine w_iload_n dJ0_checkIndex_df160_1 rfl ?_
  intro l p e s m args below meth c ad D tc H locs ls C X
  obtain ⟨hx, hb, hml, hown, hts, hre, hlocks, hK, hI, hC⟩ := id C
  have go : ∀ v : Value, (v = .null ∨ ∃ t, v = .ref t) → va_Z "jdk/internal/util/Preconditions" "SIOOBE_FORMATTER" "Ljava/util/function/BiFunction;" v (fwA ad) s s.heap → W p l e (fwRm (d + 1)) s m args below meth c H locs 0 0 (MQ below (fwQ ad D tc Q) args s 0 0 (fwA ad)) (F0 m 2 ls (([aI n, aI x] : List fwV).map (fwMv ad))) := by
    intro v hv hZ
    refine va_gets hx hb hZ X.2.1 hown (hts _ fj_J0_1053) (fun _ z => z) dJ0_checkIndex_df160_2 ?_
    have hr := W.runS (l := l) (e := e) (below := below) (meth := meth) (locs := locs) (cells := 0) (slots := 0) (H := H) (R := fwRm (d + 1)) (As := [.int (Int32.ofInt x), .int (Int32.ofInt n), v]) (rest := []) (g := F0 m 5 ls [v, .int (Int32.ofInt n), .int (Int32.ofInt x)]) (index := 1059) ⟨hx, hb, hml, hown, hts⟩ (c_checkIndex3 l d x n v hv h0 h1 h2) ⟨fw_callB hts ml_J0_1059 ok_J3_checkIndex_8e157, hts _ st_J3_checkIndex_8e157⟩ preEq rfl rfl X.2.2.1 rfl (lv_room (Nat.le_of_ble_eq_true rfl)) dJ0_checkIndex_df160_5 ⟨Nat.le_refl _, Nat.le_refl _⟩
    refine W.callR hr ?_
    refine lv_pop hx hb dJ0_checkIndex_df160_8 rfl ?_
    exact W.vret hx hb hre (fun t ht _ => fw_end k X.1 X.2.1 ht) X.2.1.2.2 dJ0_checkIndex_df160_9 hlocks
  rcases hC.2.2.2.2.2.1 with hZ | ⟨t, hZ⟩
  · exact go _ (Or.inl rfl) hZ
  · exact go _ (Or.inr ⟨t, rfl⟩) hZ
theorem fwCh : ∀ i, i < 26 → ∀ j, j < (fwSb i).length → fwC16 (fwAnd ((fwSb i).getD j 0) 255) = (fwSb i).getD j 0 ∧ narrow .char (.int (Int32.ofInt ((fwSb i).getD j 0))) = .int (Int32.ofInt ((fwSb i).getD j 0)) := by decide +kernel
set_option maxRecDepth 100000 in
set_option maxHeartbeats 4000000 in
theorem c_charAt1 {d : Nat} {h : fwH} {Q : Option fwV → fwH → Prop} (i : Nat) (x : Int) (hi : i < 26) (h0 : 0 ≤ x) (h1 : x < (fwSb i).length) (k : Q (some (aI ((fwSb i).getD x.toNat 0))) h) : fwCt mJ1_charAt_3b067 (d + 2) [aR 51 i, aI x] h Q := by
  refine fwCt_of [some (aR 51 i), some (aI x)] rfl rfl rfl ?_
  have h5 := fwSb_len i hi
  refine w_iload_n dJ1_charAt_3b067_0 rfl ?_
  refine w_aload_n dJ1_charAt_3b067_1 rfl ?_
  refine w_strLen dJ1_charAt_3b067_2 (by omega) ?_
  refine w_callS (d := d + 1) (S := []) [aI x, aI ((fwSb i).length : Int)] dJ1_charAt_3b067_3 ml_J1_9 ok_J0_checkIndex_df160 st_J0_checkIndex_df160 rfl (Nat.le_of_ble_eq_true rfl) ?_
  refine c_checkIndex (d := d) x ((fwSb i).length : Int) (by omega) (by omega) (by omega) ?_
  show fwWP mJ1_charAt_3b067 (d + 2) 6 [some (aR 51 i), some (aI x)] [] h Q
  refine w_aload_n dJ1_charAt_3b067_6 rfl ?_
  refine w_iload_n dJ1_charAt_3b067_7 rfl ?_
  refine w_strByte dJ1_charAt_3b067_8 (by omega) (by omega) (by omega) ?_
  refine w_sipush dJ1_charAt_3b067_9 rfl ?_
  refine w_iand dJ1_charAt_3b067_12 ?_
  refine w_i2c dJ1_charAt_3b067_13 ?_
  have h9 := fwCh i hi x.toNat (by omega)
  rw [h9.1]
  exact w_tret dJ1_charAt_3b067_14 rfl h9.2 k
set_option maxRecDepth 100000 in
set_option maxHeartbeats 4000000 in
theorem c_charAt {d : Nat} {h : fwH} {Q : Option fwV → fwH → Prop} (i : Nat) (x : Int) (hi : i < 26) (h0 : 0 ≤ x) (h1 : x < (fwSb i).length) (k : Q (some (aI ((fwSb i).getD x.toNat 0))) h) : fwCt mJ0_charAt_5068e (d + 3) [aR 50 i, aI x] h Q := by
  refine fwCt_of [some (aR 50 i), some (aI x)] rfl rfl rfl ?_
  refine w_aload_n dJ0_charAt_5068e_0 rfl ?_
  refine w_callT (d := d + 2) (S := []) [] dJ0_charAt_5068e_1 ml_J0_492 ok_J0_isLatin1_aae02 vi_J0_isLatin1_aae02 rfl (by omega) rfl (Nat.le_of_ble_eq_true rfl) ?_
  refine c_isLatin1 (d := (d + 2)) i (by omega) ?_
  show fwWP mJ0_charAt_5068e (d + 3) 4 [some (aR 50 i), some (aI x)] [aI 1] h Q
  refine w_if_eq 16 dJ0_charAt_5068e_4 (by decide) (by omega) (fun c4 => ?_) (fun c4 => ?_)
  · omega
  · refine w_aload_n dJ0_charAt_5068e_7 rfl ?_
    refine w_strValue dJ0_charAt_5068e_8 fj_J0_9 (by omega) ?_
    refine w_iload_n dJ0_charAt_5068e_11 rfl ?_
    refine w_callS (d := d + 2) (S := []) [aR 51 i, aI x] dJ0_charAt_5068e_12 ml_J0_495 ok_J1_charAt_3b067 st_J1_charAt_3b067 rfl (Nat.le_of_ble_eq_true rfl) ?_
    refine c_charAt1 (d := d) i x (by omega) (by omega) (by omega) ?_
    show fwWP mJ0_charAt_5068e (d + 3) 15 [some (aR 50 i), some (aI x)] [aI ((fwSb i).getD (x).toNat 0)] h Q
    have h9 := fwCh i hi x.toNat (by omega)
    exact w_tret dJ0_charAt_5068e_15 rfl h9.2 k
end
