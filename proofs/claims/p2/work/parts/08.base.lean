theorem fwB_01 (P : Prop) [Decidable P] : fwB P = 0 ∨ fwB P = 1 := by unfold fwB; split <;> simp
theorem fwB_t {P : Prop} [Decidable P] (h : P) : fwB P = 1 := if_pos h
theorem fwB_f {P : Prop} [Decidable P] (h : ¬ P) : fwB P = 0 := if_neg h
theorem fwB_rng (P : Prop) [Decidable P] : 0 ≤ fwB P ∧ fwB P ≤ 1 := by unfold fwB; split <;> simp
section FWE
variable {M : fwM} {d pc : Nat} {L : List (Option fwV)} {S : List fwV} {h : fwH} {Q : Option fwV → fwH → Prop}
theorem w_getiE {idx k i j : Nat} {v : Int} (hd : decode M.2.1 pc = .ok (.getfield idx, 3)) (hf : fwFL M.1.cls idx k j) (hr : fwRf k j i = none) (hi : i < fwNk k) (hv : h k i j = v) (kk : fwWP M d (pc + 3) L (aI v :: S) h Q) : fwWP M d pc L (aR k i :: S) h Q := by
  subst hv
  exact w_geti hd hf hr hi kk
theorem w_ialdE {k i n : Nat} {x v : Int} (hd : decode M.2.1 pc = .ok (.iaload, 1)) (ha : fwAk k = some (0, n)) (hi : i < fwNk k) (h0 : 0 ≤ x) (h1 : x < n) (hv : h k i x.toNat = v) (kk : fwWP M d (pc + 1) L (aI v :: S) h Q) : fwWP M d pc L (aI x :: aR k i :: S) h Q := by
  subst hv
  exact w_iald hd ha hi h0 h1 kk
theorem w_baldE {k i n : Nat} {x v : Int} (hd : decode M.2.1 pc = .ok (.baload, 1)) (ha : fwAk k = some (1, n)) (hi : i < fwNk k) (h0 : 0 ≤ x) (h1 : x < n) (hv : h k i x.toNat = v) (kk : fwWP M d (pc + 1) L (aI v :: S) h Q) : fwWP M d pc L (aI x :: aR k i :: S) h Q := by
  subst hv
  exact w_bald hd ha hi h0 h1 kk
theorem w_zaldE {k i n : Nat} {x v : Int} (hd : decode M.2.1 pc = .ok (.baload, 1)) (ha : fwAk k = some (2, n)) (hi : i < fwNk k) (h0 : 0 ≤ x) (h1 : x < n) (hv : h k i x.toNat = v) (kk : fwWP M d (pc + 1) L (aI v :: S) h Q) : fwWP M d pc L (aI x :: aR k i :: S) h Q := by
  subst hv
  exact w_zald hd ha hi h0 h1 kk
theorem w_laldE {k i n : Nat} {x v : Int} (hd : decode M.2.1 pc = .ok (.laload, 1)) (ha : fwAk k = some (3, n)) (hi : i < fwNk k) (h0 : 0 ≤ x) (h1 : x < n) (hv : h k i x.toNat = v) (kk : fwWP M d (pc + 1) L (aJ v :: S) h Q) : fwWP M d pc L (aI x :: aR k i :: S) h Q := by
  subst hv
  exact w_lald hd ha hi h0 h1 kk
theorem w_iretE {x r : Int} (hd : decode M.2.1 pc = .ok (.ireturn, 1)) (hr : M.2.2.2 = some .int) (e : x = r) (k : Q (some (aI r)) h) : fwWP M d pc L [aI x] h Q := by
  subst e
  exact w_iret hd hr k
theorem w_zretE {x : Int} {P : Prop} [Decidable P] (hd : decode M.2.1 pc = .ok (.ireturn, 1)) (hr : M.2.2.2 = some .boolean) (e : x = fwB P) (k : Q (some (aI (fwB P))) h) : fwWP M d pc L [aI x] h Q := by
  subst e
  exact w_zret hd hr (fwB_01 P) k
theorem w_lretE {x r : Int} (hd : decode M.2.1 pc = .ok (.lreturn, 1)) (hr : M.2.2.2 = some .long) (e : x = r) (k : Q (some (aJ r)) h) : fwWP M d pc L [aJ x] h Q := by
  subst e
  exact w_lret hd hr k
end FWE
/-- a loop that counts up to n -/
theorem fw_up {P : Nat → Prop} {n : Nat} (step : ∀ c, c ≤ n → (c < n → P (c + 1)) → P c) : ∀ c, c ≤ n → P c := by
  have key : ∀ k c, c ≤ n → n - c ≤ k → P c := by
    intro k
    induction k with
    | zero => intro c hc h0; exact step c hc (fun h => by omega)
    | succ k ih => intro c hc h0; exact step c hc (fun h => ih (c + 1) h (by omega))
  intro c hc
  exact key (n - c) c hc (Nat.le_refl _)
/-- a loop whose measure falls -/
theorem fw_down {α : Type} {P : α → Prop} (μ : α → Nat) (step : ∀ a, (∀ b, μ b < μ a → P b) → P a) : ∀ a, P a := by
  have key : ∀ k a, μ a ≤ k → P a := by
    intro k
    induction k with
    | zero => intro a h0; exact step a (fun b h => by omega)
    | succ k ih => intro a h0; exact step a (fun b h => ih b (by omega))
  intro a
  exact key (μ a) a (Nat.le_refl _)
/-- locals that are not needed any more -/
theorem fw_setnone {L : List (Option fwV)} {i j : Nat} {v : fwV} (h : (L.set i none)[j]? = some (some v)) : L[j]? = some (some v) := by
  rw [List.getElem?_set] at h
  split at h
  · split at h <;> cases h
  · exact h
theorem fw_dropL : ∀ (ds : List Nat) (L : List (Option fwV)) (j : Nat) (v : fwV), (ds.foldl (fun L i => L.set i none) L)[j]? = some (some v) → L[j]? = some (some v) := by
  intro ds
  induction ds with
  | nil => intro L j v h; exact h
  | cons a t ih => intro L j v h; exact fw_setnone (ih _ j v h)
theorem w_drop {M : fwM} {d pc : Nat} {L : List (Option fwV)} {S : List fwV} {h : fwH} {Q : Option fwV → fwH → Prop} (ds : List Nat) (L' : List (Option fwV)) (hL : ds.foldl (fun L i => L.set i none) L = L') (k : fwWP M d pc L' S h Q) : fwWP M d pc L S h Q := by
  intro l p e s m args below meth c ad D tc H locs ls C X
  refine k l p e s m args below meth c ad D tc H locs ls C ⟨X.1, X.2.1, X.2.2.1, X.2.2.2.1, fun i v hi => X.2.2.2.2 i v ?_⟩
  rw [← hL] at hi
  exact fw_dropL ds L i v hi
