section
/-! the classes' words, all among the tables' -/
theorem fwInX0 : ∀ w ∈ u_ws RX0 TX0 2, w ∈ fwTb := by
  intro w hw
  obtain ⟨k, hk, rfl⟩ := List.mem_map.mp hw
  have hk := List.mem_range.mp hk
  match k, hk with
  | 0, _ => exact fwTb_2 (i := 66) rfl rfl
  | 1, _ => exact fwTb_2 (i := 68) rfl rfl
  | k + 2, hk => exact absurd hk (by omega)
theorem fwInX1 : ∀ w ∈ u_ws RX1 TX1 5, w ∈ fwTb := by
  intro w hw
  obtain ⟨k, hk, rfl⟩ := List.mem_map.mp hw
  have hk := List.mem_range.mp hk
  match k, hk with
  | 0, _ => exact fwTb_1 (i := 94) rfl rfl
  | 1, _ => exact fwTb_1 (i := 96) rfl rfl
  | 2, _ => exact fwTb_1 (i := 98) rfl rfl
  | 3, _ => exact fwTb_1 (i := 100) rfl rfl
  | 4, _ => exact fwTb_1 (i := 102) rfl rfl
  | k + 5, hk => exact absurd hk (by omega)
theorem fwInX2 : ∀ w ∈ u_ws RX2 TX2 7, w ∈ fwTb := by
  intro w hw
  obtain ⟨k, hk, rfl⟩ := List.mem_map.mp hw
  have hk := List.mem_range.mp hk
  match k, hk with
  | 0, _ => exact fwTb_1 (i := 159) rfl rfl
  | 1, _ => exact fwTb_1 (i := 161) rfl rfl
  | 2, _ => exact fwTb_1 (i := 163) rfl rfl
  | 3, _ => exact fwTb_1 (i := 165) rfl rfl
  | 4, _ => exact fwTb_1 (i := 167) rfl rfl
  | 5, _ => exact fwTb_1 (i := 169) rfl rfl
  | 6, _ => exact fwTb_1 (i := 171) rfl rfl
  | k + 7, hk => exact absurd hk (by omega)
theorem fwInX3 : ∀ w ∈ u_ws RX3 TX3 4, w ∈ fwTb := by
  intro w hw
  obtain ⟨k, hk, rfl⟩ := List.mem_map.mp hw
  have hk := List.mem_range.mp hk
  match k, hk with
  | 0, _ => exact fwTb_1 (i := 122) rfl rfl
  | 1, _ => exact fwTb_1 (i := 124) rfl rfl
  | 2, _ => exact fwTb_1 (i := 126) rfl rfl
  | 3, _ => exact fwTb_1 (i := 128) rfl rfl
  | k + 4, hk => exact absurd hk (by omega)
theorem fwInX4 : ∀ w ∈ u_ws RX4 TX4 5, w ∈ fwTb := by
  intro w hw
  obtain ⟨k, hk, rfl⟩ := List.mem_map.mp hw
  have hk := List.mem_range.mp hk
  match k, hk with
  | 0, _ => exact fwTb_1 (i := 238) rfl rfl
  | 1, _ => exact fwTb_2 (i := 0) rfl rfl
  | 2, _ => exact fwTb_2 (i := 2) rfl rfl
  | 3, _ => exact fwTb_2 (i := 4) rfl rfl
  | 4, _ => exact fwTb_2 (i := 6) rfl rfl
  | k + 5, hk => exact absurd hk (by omega)
theorem fwInX5 : ∀ w ∈ u_ws RX5 TX5 8, w ∈ fwTb := by
  intro w hw
  obtain ⟨k, hk, rfl⟩ := List.mem_map.mp hw
  have hk := List.mem_range.mp hk
  match k, hk with
  | 0, _ => exact fwTb_1 (i := 185) rfl rfl
  | 1, _ => exact fwTb_1 (i := 187) rfl rfl
  | 2, _ => exact fwTb_1 (i := 189) rfl rfl
  | 3, _ => exact fwTb_1 (i := 191) rfl rfl
  | 4, _ => exact fwTb_1 (i := 193) rfl rfl
  | 5, _ => exact fwTb_1 (i := 195) rfl rfl
  | 6, _ => exact fwTb_1 (i := 197) rfl rfl
  | 7, _ => exact fwTb_1 (i := 199) rfl rfl
  | k + 8, hk => exact absurd hk (by omega)
theorem fwInX6 : ∀ w ∈ u_ws RX6 TX6 9, w ∈ fwTb := by
  intro w hw
  obtain ⟨k, hk, rfl⟩ := List.mem_map.mp hw
  have hk := List.mem_range.mp hk
  match k, hk with
  | 0, _ => exact fwTb_2 (i := 88) rfl rfl
  | 1, _ => exact fwTb_2 (i := 90) rfl rfl
  | 2, _ => exact fwTb_2 (i := 92) rfl rfl
  | 3, _ => exact fwTb_2 (i := 94) rfl rfl
  | 4, _ => exact fwTb_2 (i := 96) rfl rfl
  | 5, _ => exact fwTb_2 (i := 98) rfl rfl
  | 6, _ => exact fwTb_2 (i := 100) rfl rfl
  | 7, _ => exact fwTb_2 (i := 102) rfl rfl
  | 8, _ => exact fwTb_2 (i := 104) rfl rfl
  | k + 9, hk => exact absurd hk (by omega)
theorem fwInX7 : ∀ w ∈ u_ws RX7 TX7 7, w ∈ fwTb := by
  intro w hw
  obtain ⟨k, hk, rfl⟩ := List.mem_map.mp hw
  have hk := List.mem_range.mp hk
  match k, hk with
  | 0, _ => exact fwTb_2 (i := 43) rfl rfl
  | 1, _ => exact fwTb_2 (i := 45) rfl rfl
  | 2, _ => exact fwTb_2 (i := 47) rfl rfl
  | 3, _ => exact fwTb_2 (i := 49) rfl rfl
  | 4, _ => exact fwTb_2 (i := 51) rfl rfl
  | 5, _ => exact fwTb_2 (i := 53) rfl rfl
  | 6, _ => exact fwTb_2 (i := 55) rfl rfl
  | k + 7, hk => exact absurd hk (by omega)
theorem fwInX8 : ∀ w ∈ u_ws RX8 TX8 3, w ∈ fwTb := by
  intro w hw
  obtain ⟨k, hk, rfl⟩ := List.mem_map.mp hw
  have hk := List.mem_range.mp hk
  match k, hk with
  | 0, _ => exact fwTb_1 (i := 216) rfl rfl
  | 1, _ => exact fwTb_1 (i := 218) rfl rfl
  | 2, _ => exact fwTb_1 (i := 220) rfl rfl
  | k + 3, hk => exact absurd hk (by omega)
theorem fwInX9 : ∀ w ∈ u_ws RX9 TX9 6, w ∈ fwTb := by
  intro w hw
  obtain ⟨k, hk, rfl⟩ := List.mem_map.mp hw
  have hk := List.mem_range.mp hk
  match k, hk with
  | 0, _ => exact fwTb_1 (i := 46) rfl rfl
  | 1, _ => exact fwTb_1 (i := 48) rfl rfl
  | 2, _ => exact fwTb_1 (i := 50) rfl rfl
  | 3, _ => exact fwTb_1 (i := 52) rfl rfl
  | 4, _ => exact fwTb_1 (i := 54) rfl rfl
  | 5, _ => exact fwTb_1 (i := 56) rfl rfl
  | k + 6, hk => exact absurd hk (by omega)
theorem fwInX10 : ∀ w ∈ u_ws RX10 TX10 4, w ∈ fwTb := by
  intro w hw
  obtain ⟨k, hk, rfl⟩ := List.mem_map.mp hw
  have hk := List.mem_range.mp hk
  match k, hk with
  | 0, _ => exact fwTb_2 (i := 21) rfl rfl
  | 1, _ => exact fwTb_2 (i := 23) rfl rfl
  | 2, _ => exact fwTb_2 (i := 25) rfl rfl
  | 3, _ => exact fwTb_2 (i := 27) rfl rfl
  | k + 4, hk => exact absurd hk (by omega)
theorem fwInX11 : ∀ w ∈ u_ws RX11 TX11 12, w ∈ fwTb := by
  intro w hw
  obtain ⟨k, hk, rfl⟩ := List.mem_map.mp hw
  have hk := List.mem_range.mp hk
  match k, hk with
  | 0, _ => exact fwTb_2 (i := 119) rfl rfl
  | 1, _ => exact fwTb_2 (i := 121) rfl rfl
  | 2, _ => exact fwTb_2 (i := 123) rfl rfl
  | 3, _ => exact fwTb_2 (i := 125) rfl rfl
  | 4, _ => exact fwTb_2 (i := 127) rfl rfl
  | 5, _ => exact fwTb_2 (i := 129) rfl rfl
  | 6, _ => exact fwTb_2 (i := 131) rfl rfl
  | 7, _ => exact fwTb_2 (i := 133) rfl rfl
  | 8, _ => exact fwTb_2 (i := 135) rfl rfl
  | 9, _ => exact fwTb_2 (i := 137) rfl rfl
  | 10, _ => exact fwTb_2 (i := 139) rfl rfl
  | 11, _ => exact fwTb_2 (i := 141) rfl rfl
  | k + 12, hk => exact absurd hk (by omega)
theorem fwInX12 : ∀ w ∈ u_ws RX12 TX12 26, w ∈ fwTb := by
  intro w hw
  obtain ⟨k, hk, rfl⟩ := List.mem_map.mp hw
  have hk := List.mem_range.mp hk
  match k, hk with
  | 0, _ => exact fwTb_6 (i := 156) rfl rfl
  | 1, _ => exact fwTb_6 (i := 158) rfl rfl
  | 2, _ => exact fwTb_6 (i := 160) rfl rfl
  | 3, _ => exact fwTb_6 (i := 162) rfl rfl
  | 4, _ => exact fwTb_6 (i := 164) rfl rfl
  | 5, _ => exact fwTb_6 (i := 166) rfl rfl
  | 6, _ => exact fwTb_6 (i := 168) rfl rfl
  | 7, _ => exact fwTb_6 (i := 170) rfl rfl
  | 8, _ => exact fwTb_6 (i := 172) rfl rfl
  | 9, _ => exact fwTb_6 (i := 174) rfl rfl
  | 10, _ => exact fwTb_6 (i := 176) rfl rfl
  | 11, _ => exact fwTb_6 (i := 178) rfl rfl
  | 12, _ => exact fwTb_6 (i := 180) rfl rfl
  | 13, _ => exact fwTb_6 (i := 182) rfl rfl
  | 14, _ => exact fwTb_6 (i := 184) rfl rfl
  | 15, _ => exact fwTb_6 (i := 186) rfl rfl
  | 16, _ => exact fwTb_6 (i := 188) rfl rfl
  | 17, _ => exact fwTb_6 (i := 190) rfl rfl
  | 18, _ => exact fwTb_6 (i := 192) rfl rfl
  | 19, _ => exact fwTb_6 (i := 194) rfl rfl
  | 20, _ => exact fwTb_6 (i := 196) rfl rfl
  | 21, _ => exact fwTb_6 (i := 198) rfl rfl
  | 22, _ => exact fwTb_6 (i := 200) rfl rfl
  | 23, _ => exact fwTb_6 (i := 202) rfl rfl
  | 24, _ => exact fwTb_6 (i := 204) rfl rfl
  | 25, _ => exact fwTb_6 (i := 206) rfl rfl
  | k + 26, hk => exact absurd hk (by omega)
def fwClOk (q : vw_C) (n : Nat) : Prop := q.2.2 = n ∧ (∀ w ∈ u_ws q.1 q.2.1 q.2.2, w ∈ fwTb) ∧ (∃ ty0 : Nat → FieldType, ∀ k, k < q.2.2 → parseFieldDescriptor (q.2.1 k).2.2.1 = some (ty0 k)) ∧ (∀ a, a < q.2.2 → ∀ b, b < q.2.2 → a ≠ b → (q.2.1 a).2.1 ≠ (q.2.1 b).2.1)
theorem fw_cls : ∀ (c : Nat) (q : vw_C), vwCl[c]? = some q → fwClOk q (fwFn c) := by
  intro c q h
  match c, h with
  | 0, h => cases h; exact ⟨rfl, fwInX0, ⟨tyX0, tyX0_ok⟩, nmX0⟩
  | 1, h => cases h; exact ⟨rfl, fwInX1, ⟨tyX1, tyX1_ok⟩, nmX1⟩
  | 2, h => cases h; exact ⟨rfl, fwInX2, ⟨tyX2, tyX2_ok⟩, nmX2⟩
  | 3, h => cases h; exact ⟨rfl, fwInX3, ⟨tyX3, tyX3_ok⟩, nmX3⟩
  | 4, h => cases h; exact ⟨rfl, fwInX4, ⟨tyX4, tyX4_ok⟩, nmX4⟩
  | 5, h => cases h; exact ⟨rfl, fwInX5, ⟨tyX5, tyX5_ok⟩, nmX5⟩
  | 6, h => cases h; exact ⟨rfl, fwInX6, ⟨tyX6, tyX6_ok⟩, nmX6⟩
  | 7, h => cases h; exact ⟨rfl, fwInX7, ⟨tyX7, tyX7_ok⟩, nmX7⟩
  | 8, h => cases h; exact ⟨rfl, fwInX8, ⟨tyX8, tyX8_ok⟩, nmX8⟩
  | 9, h => cases h; exact ⟨rfl, fwInX9, ⟨tyX9, tyX9_ok⟩, nmX9⟩
  | 10, h => cases h; exact ⟨rfl, fwInX10, ⟨tyX10, tyX10_ok⟩, nmX10⟩
  | 11, h => cases h; exact ⟨rfl, fwInX11, ⟨tyX11, tyX11_ok⟩, nmX11⟩
  | 12, h => cases h; exact ⟨rfl, fwInX12, ⟨tyX12, tyX12_ok⟩, nmX12⟩
  | n + 13, h => simp [vwCl] at h
/-- entry idx of the class own names the field j of the kind k -/
def fwFL (own : String) (idx k j : Nat) : Prop := ∃ (c : Nat) (q : vw_C), fwOk k = some c ∧ vwCl[c]? = some q ∧ j < fwFn c ∧ (Cond.fieldLink own idx (q.2.1 j).1 (q.2.1 j).2.1 (q.2.1 j).2.2.1 ∈ fwTb ∨ Cond.fieldLinkNest own idx (q.2.1 j).1 (q.2.1 j).2.1 (q.2.1 j).2.2.1 "FootLower" ∈ lw_tbl)
/-- the field j of the kind k may be written, and is of the type ty -/
def fwFP (k j : Nat) (ty : FieldType) : Prop := ∀ (c : Nat) (q : vw_C), fwOk k = some c → vwCl[c]? = some q → (q.2.1 j).2.2.2 = false ∧ parseFieldDescriptor (q.2.1 j).2.2.1 = some ty
theorem fwCel_o {ad : Nat → Nat → Nat} {tc : Nat → ClassId} {f : Nat → Int} {k i c : Nat} (h : fwOk k = some c) : fwCel ad tc f k i = .inr (c, (List.range (fwFn c)).map (fwFv ad f k i)) := by
  unfold fwCel
  rw [h]
theorem fwCel_a {ad : Nat → Nat → Nat} {tc : Nat → ClassId} {f : Nat → Int} {k i : Nat} {a : Nat × Nat} (h : fwOk k = none) (h2 : fwAk k = some a) : fwCel ad tc f k i = .inl (tc a.1, a.2, fwArr ad f k a.1 a.2) := by
  unfold fwCel
  rw [h]
  dsimp only
  rw [h2]
theorem fwAk_o : ∀ (k : Nat) (a : Nat × Nat), fwAk k = some a → fwOk k = none ∧ a.2 ≤ 65536 := by
  intro k a h
  have hk : k < 50 := by
    rcases Nat.lt_or_ge k 50 with q | q
    · exact q
    · exfalso
      unfold fwAk at h
      rw [List.getD_eq_getElem?_getD, List.getElem?_eq_none (show fwAs.length ≤ k from q)] at h
      cases h
  have key : ∀ k, k < 50 → (fwAk k).all (fun a => decide (fwOk k = none) && decide (a.2 ≤ 65536)) = true := by decide +kernel
  have := key k hk
  rw [h] at this
  simpa using this
theorem fwFv_j {ad : Nat → Nat → Nat} {f : Nat → Int} {k i j n : Nat} (h : j < n) : ((List.range n).map (fwFv ad f k i))[j]? = some (fwFv ad f k i j) := by
  rw [List.getElem?_map, List.getElem?_range h]
  rfl
section FWM
variable {M : fwM} {d pc : Nat} {L : List (Option fwV)} {S : List fwV} {h : fwH} {Q : Option fwV → fwH → Prop}
theorem fw_getv {idx k i j : Nat} (v : fwV) (hd : decode M.2.1 pc = .ok (.getfield idx, 3)) (hf : fwFL M.1.cls idx k j) (hv : ∀ ad : Nat → Nat → Nat, fwFv ad (h k i) k i j = fwMv ad v) (hi : i < fwNk k) (kk : fwWP M d (pc + 3) L (v :: S) h Q) : fwWP M d pc L (aR k i :: S) h Q := by
  intro l p e s m args below meth c ad D tc H locs ls C X
  obtain ⟨hx, hb, -, hown, hts, -, -, hK, hI, hC⟩ := id C
  obtain ⟨q0, hq, hw⟩ := fw_get hi
  obtain ⟨ci, q, ho, hc, hj, hl⟩ := hf
  obtain ⟨hn, hin, -, -⟩ := fw_cls ci q hc
  have he := hw ad tc h
  rw [fwCel_o ho] at he
  have hv2 : ((List.range (fwFn ci)).map (fwFv ad (h k i) k i))[j]? = some (fwMv ad v) := by rw [fwFv_j hj, hv]
  rcases hl with hl | hl
  · exact va_get (C := q.1) (T := q.2.1) (N := q.2.2) hx hb hts hin hown hK X.1 q0 he hc j (by rw [hn]; exact hj) (hts _ hl) (fun _ z => z) hv2 hd (kk l p e s m args below meth c ad D tc H locs ls C X)
  · exact va_getN (C := q.1) (T := q.2.1) (N := q.2.2) hx hb hts hin hown hK X.1 q0 he hc j (by rw [hn]; exact hj) ((hC.2.2.2.2.2.2 _ _ _ _ _ _ hl).use rfl) (fun _ z => z) hv2 hd (kk l p e s m args below meth c ad D tc H locs ls C X)
/-- a number's field -/
theorem w_geti {idx k i j : Nat} (hd : decode M.2.1 pc = .ok (.getfield idx, 3)) (hf : fwFL M.1.cls idx k j) (hr : fwRf k j i = none) (hi : i < fwNk k) (kk : fwWP M d (pc + 3) L (aI (h k i j) :: S) h Q) : fwWP M d pc L (aR k i :: S) h Q :=
  fw_getv (aI (h k i j)) hd hf (fun ad => by unfold fwFv; rw [hr]; rfl) hi kk
/-- a reference's field -/
theorem w_getr {idx k i j : Nat} (k' i' : Nat) (hd : decode M.2.1 pc = .ok (.getfield idx, 3)) (hf : fwFL M.1.cls idx k j) (hr : fwRf k j i = some (k', i')) (hi : i < fwNk k) (kk : fwWP M d (pc + 3) L (aR k' i' :: S) h Q) : fwWP M d pc L (aR k i :: S) h Q :=
  fw_getv (aR k' i') hd hf (fun ad => by unfold fwFv; rw [hr]; rfl) hi kk
theorem fw_putv {idx k i j : Nat} {x : Int} {ty : FieldType} (hd : decode M.2.1 pc = .ok (.putfield idx, 3)) (hf : fwFL M.1.cls idx k j) (hp : fwFP k j ty) (hr : fwRf k j i = none) (hna : narrow ty (.int (Int32.ofInt x)) = .int (Int32.ofInt x)) (hfi : fits ty (.int (Int32.ofInt x)) = true) (hi : i < fwNk k) (kk : fwWP M d (pc + 3) L S (fwUp h k i j x) Q) : fwWP M d pc L (aI x :: aR k i :: S) h Q := by
  intro l p e s m args below meth c ad D tc H locs ls C X
  obtain ⟨hx, hb, -, hown, hts, -, -, hK, hI, hC⟩ := id C
  obtain ⟨q0, hq, hw⟩ := fw_get hi
  obtain ⟨ci, q, ho, hc, hj, hl⟩ := hf
  obtain ⟨hn, hin, ⟨ty0, hty⟩, hnm⟩ := fw_cls ci q hc
  obtain ⟨hfin, hds⟩ := hp ci q ho hc
  have he := hw ad tc h
  rw [fwCel_o ho] at he
  have e9 : (List.range (fwFn ci)).map (fwFv ad (fun j' => if j' = j then x else h k i j') k i) = ((List.range (fwFn ci)).map (fwFv ad (h k i) k i)).set j (.int (Int32.ofInt x)) := by
    apply List.ext_getElem?
    intro n
    by_cases hjn : j = n
    · subst hjn
      rw [fwFv_j hj, List.getElem?_set_self (by simpa using hj)]
      unfold fwFv
      rw [hr]
      simp
    · rw [List.getElem?_set_ne hjn, List.getElem?_map, List.getElem?_map]
      cases hn9 : (List.range (fwFn ci))[n]? with
      | none => rfl
      | some n' =>
        obtain ⟨h1, h2⟩ := List.getElem?_eq_some_iff.mp hn9
        rw [List.getElem_range] at h2
        subst h2
        simp [fwFv, Ne.symm hjn]
  have hset : ∀ (H1 : Heap), va_P D vwCl ((fwWd ad tc h).set q0 (ad k i, .inr (ci, ((List.range (fwFn ci)).map (fwFv ad (h k i) k i)).set j (.int (Int32.ofInt x))))) H1 → va_P D vwCl (fwWd ad tc (fwUp h k i j x)) H1 := by
    intro H1 h1
    rw [fwUp_Uc, ← fw_set hq, fwCel_o ho, e9]
    exact h1
  have hl9 : j < ((List.range (fwFn ci)).map (fwFv ad (h k i) k i)).length := by simpa using hj
  rcases hl with hl | hl
  · exact va_put (C := q.1) (T := q.2.1) (N := q.2.2) hx hb hts hin ty0 hty hnm hown hK X.1 (fw_D hI tc h) X.2.1 q0 he hc j (by rw [hn]; exact hj) (hts _ hl) (fun _ z => z) hfin hds hna hfi hl9 hd (fun H1 locs1 hP1 _ hS1 => kk l p e s m args below meth c ad D tc H1 locs1 ls C ⟨hset H1 hP1, hS1, X.2.2⟩)
  · exact va_putN (C := q.1) (T := q.2.1) (N := q.2.2) hx hb hts hin ty0 hty hnm hown hK X.1 (fw_D hI tc h) X.2.1 q0 he hc j (by rw [hn]; exact hj) ((hC.2.2.2.2.2.2 _ _ _ _ _ _ hl).use rfl) (fun _ z => z) hfin hds hna hfi hl9 hd (fun H1 locs1 hP1 _ hS1 => kk l p e s m args below meth c ad D tc H1 locs1 ls C ⟨hset H1 hP1, hS1, X.2.2⟩)
theorem w_puti {idx k i j : Nat} {x : Int} (hd : decode M.2.1 pc = .ok (.putfield idx, 3)) (hf : fwFL M.1.cls idx k j) (hp : fwFP k j .int) (hr : fwRf k j i = none) (hi : i < fwNk k) (kk : fwWP M d (pc + 3) L S (fwUp h k i j x) Q) : fwWP M d pc L (aI x :: aR k i :: S) h Q :=
  fw_putv hd hf hp hr (vp_nar_int _) rfl hi kk
theorem w_putz {idx k i j : Nat} {x : Int} (hd : decode M.2.1 pc = .ok (.putfield idx, 3)) (hf : fwFL M.1.cls idx k j) (hp : fwFP k j .boolean) (hr : fwRf k j i = none) (hx : x = 0 ∨ x = 1) (hi : i < fwNk k) (kk : fwWP M d (pc + 3) L S (fwUp h k i j x) Q) : fwWP M d pc L (aI x :: aR k i :: S) h Q :=
  fw_putv hd hf hp hr (by rcases hx with rfl | rfl <;> rfl) (by rcases hx with rfl | rfl <;> rfl) hi kk
theorem fwUp_cel {ad : Nat → Nat → Nat} {tc : Nat → ClassId} {D : va_G} {k i j q0 : Nat} {x : Int} {e9 : va_E} {H1 : Heap} (hq : fwPr[q0]? = some (k, i)) (he : e9 = fwCel ad tc (fun j' => if j' = j then x else h k i j') k i) (h1 : va_P D vwCl ((fwWd ad tc h).set q0 (ad k i, e9)) H1) : va_P D vwCl (fwWd ad tc (fwUp h k i j x)) H1 := by
  rw [fwUp_Uc, ← fw_set hq, ← he]
  exact h1
/-! arrays -/
theorem w_iald {k i n : Nat} {x : Int} (hd : decode M.2.1 pc = .ok (.iaload, 1)) (ha : fwAk k = some (0, n)) (hi : i < fwNk k) (h0 : 0 ≤ x) (h1 : x < n) (kk : fwWP M d (pc + 1) L (aI (h k i x.toNat) :: S) h Q) : fwWP M d pc L (aI x :: aR k i :: S) h Q := by
  intro l p e s m args below meth c ad D tc H locs ls C X
  obtain ⟨hx, hb, -, hown, hts, -, -, hK, hI, hC⟩ := id C
  obtain ⟨q0, hq, hw⟩ := fw_get hi
  obtain ⟨ho, hn⟩ := fwAk_o k _ ha
  have he := hw ad tc h
  rw [fwCel_a ho ha] at he
  refine va_iald hx hb hK X.1 q0 0 he rfl (fwI_in h0 h1 (by dsimp only at hn; omega)) hd ?_
  rw [fwI_cl h0 (by dsimp only at hn; omega)]
  exact kk l p e s m args below meth c ad D tc H locs ls C X
theorem w_bald {k i n : Nat} {x : Int} (hd : decode M.2.1 pc = .ok (.baload, 1)) (ha : fwAk k = some (1, n)) (hi : i < fwNk k) (h0 : 0 ≤ x) (h1 : x < n) (kk : fwWP M d (pc + 1) L (aI (h k i x.toNat) :: S) h Q) : fwWP M d pc L (aI x :: aR k i :: S) h Q := by
  intro l p e s m args below meth c ad D tc H locs ls C X
  obtain ⟨hx, hb, -, hown, hts, -, -, hK, hI, hC⟩ := id C
  obtain ⟨q0, hq, hw⟩ := fw_get hi
  obtain ⟨ho, hn⟩ := fwAk_o k _ ha
  have he := hw ad tc h
  rw [fwCel_a ho ha] at he
  refine va_bald hx hb hK X.1 q0 1 he rfl (fwI_in h0 h1 (by dsimp only at hn; omega)) hd ?_
  rw [fwI_cl h0 (by dsimp only at hn; omega)]
  exact kk l p e s m args below meth c ad D tc H locs ls C X
theorem w_zald {k i n : Nat} {x : Int} (hd : decode M.2.1 pc = .ok (.baload, 1)) (ha : fwAk k = some (2, n)) (hi : i < fwNk k) (h0 : 0 ≤ x) (h1 : x < n) (kk : fwWP M d (pc + 1) L (aI (h k i x.toNat) :: S) h Q) : fwWP M d pc L (aI x :: aR k i :: S) h Q := by
  intro l p e s m args below meth c ad D tc H locs ls C X
  obtain ⟨hx, hb, -, hown, hts, -, -, hK, hI, hC⟩ := id C
  obtain ⟨q0, hq, hw⟩ := fw_get hi
  obtain ⟨ho, hn⟩ := fwAk_o k _ ha
  have he := hw ad tc h
  rw [fwCel_a ho ha] at he
  refine va_zald hx hb hK X.1 q0 2 he rfl (fwI_in h0 h1 (by dsimp only at hn; omega)) hd ?_
  rw [fwI_cl h0 (by dsimp only at hn; omega)]
  exact kk l p e s m args below meth c ad D tc H locs ls C X
theorem w_lald {k i n : Nat} {x : Int} (hd : decode M.2.1 pc = .ok (.laload, 1)) (ha : fwAk k = some (3, n)) (hi : i < fwNk k) (h0 : 0 ≤ x) (h1 : x < n) (kk : fwWP M d (pc + 1) L (aJ (h k i x.toNat) :: S) h Q) : fwWP M d pc L (aI x :: aR k i :: S) h Q := by
  intro l p e s m args below meth c ad D tc H locs ls C X
  obtain ⟨hx, hb, -, hown, hts, -, -, hK, hI, hC⟩ := id C
  obtain ⟨q0, hq, hw⟩ := fw_get hi
  obtain ⟨ho, hn⟩ := fwAk_o k _ ha
  have he := hw ad tc h
  rw [fwCel_a ho ha] at he
  refine va_lald hx hb hK X.1 q0 3 he rfl (fwI_in h0 h1 (by dsimp only at hn; omega)) hd ?_
  rw [fwI_cl h0 (by dsimp only at hn; omega)]
  exact kk l p e s m args below meth c ad D tc H locs ls C X
/-- the images' row -/
theorem w_aald22 {x : Int} (hd : decode M.2.1 pc = .ok (.aaload, 1)) (h0 : 0 ≤ x) (h1 : x < 3) (kk : fwWP M d (pc + 1) L (aR 3 (2 + x.toNat) :: S) h Q) : fwWP M d pc L (aI x :: aR 22 0 :: S) h Q := by
  intro l p e s m args below meth c ad D tc H locs ls C X
  obtain ⟨hx, hb, -, hown, hts, -, -, hK, hI, hC⟩ := id C
  obtain ⟨q0, hq, hw⟩ := fw_get (k := 22) (i := 0) (by decide)
  have he := hw ad tc h
  rw [fwCel_a (a := (4, 3)) rfl rfl] at he
  refine va_aldq hx hb hK X.1 q0 4 he rfl (fwI_in h0 h1 (by decide)) hd ?_
  rw [fwI_cl h0 (by omega)]
  have h9 : x.toNat < 3 := by omega
  dsimp only
  rw [if_pos h9]
  exact kk l p e s m args below meth c ad D tc H locs ls C X
theorem w_alen {k i t n : Nat} (hd : decode M.2.1 pc = .ok (.arraylength, 1)) (ha : fwAk k = some (t, n)) (ht : t < 6) (hi : i < fwNk k) (kk : fwWP M d (pc + 1) L (aI n :: S) h Q) : fwWP M d pc L (aR k i :: S) h Q := by
  intro l p e s m args below meth c ad D tc H locs ls C X
  obtain ⟨hx, hb, -, hown, hts, -, -, hK, hI, hC⟩ := id C
  obtain ⟨q0, hq, hw⟩ := fw_get hi
  obtain ⟨ho, hn⟩ := fwAk_o k _ ha
  have he := hw ad tc h
  rw [fwCel_a ho ha] at he
  obtain ⟨ty, hty⟩ : ∃ ty, (fwTy tc)[t]? = some (tc t, ty) := by
    rcases (show t = 0 ∨ t = 1 ∨ t = 2 ∨ t = 3 ∨ t = 4 ∨ t = 5 by omega) with rfl | rfl | rfl | rfl | rfl | rfl <;> exact ⟨_, rfl⟩
  exact va_alen hx hb hK X.1 q0 t he hty (v := Int32.ofInt n) rfl hd (kk l p e s m args below meth c ad D tc H locs ls C X)
theorem fwArr_up {ad : Nat → Nat → Nat} {f : Nat → Int} {j : Nat} {x : Int} : upd (fun j => Int32.ofInt (f j)) j (Int32.ofInt x) = (fun j' => Int32.ofInt (if j' = j then x else f j')) := by
  funext q
  unfold upd
  by_cases e : q = j
  · simp [e]
  · simp [e]
theorem w_iast {k i n : Nat} {x y : Int} (hd : decode M.2.1 pc = .ok (.iastore, 1)) (ha : fwAk k = some (0, n)) (hi : i < fwNk k) (h0 : 0 ≤ x) (h1 : x < n) (kk : fwWP M d (pc + 1) L S (fwUp h k i x.toNat y) Q) : fwWP M d pc L (aI y :: aI x :: aR k i :: S) h Q := by
  intro l p e s m args below meth c ad D tc H locs ls C X
  obtain ⟨hx, hb, -, hown, hts, -, -, hK, hI, hC⟩ := id C
  obtain ⟨q0, hq, hw⟩ := fw_get hi
  obtain ⟨ho, hn⟩ := fwAk_o k _ ha
  have he := hw ad tc h
  rw [fwCel_a ho ha] at he
  refine va_iast hx hb hK X.1 (fw_D hI tc h) X.2.1 q0 0 he rfl (fwI_in h0 h1 (by dsimp only at hn; omega)) hd (fun H1 locs1 hP1 _ hS1 => ?_)
  rw [fwI_cl h0 (by dsimp only at hn; omega), fwArr_up (ad := ad)] at hP1
  exact kk l p e s m args below meth c ad D tc H1 locs1 ls C ⟨fwUp_cel hq (by rw [fwCel_a ho ha]; rfl) hP1, hS1, X.2.2⟩
theorem w_bast {k i n : Nat} {x y : Int} (hd : decode M.2.1 pc = .ok (.bastore, 1)) (ha : fwAk k = some (1, n)) (hi : i < fwNk k) (h0 : 0 ≤ x) (h1 : x < n) (hy : -128 ≤ y ∧ y < 128) (kk : fwWP M d (pc + 1) L S (fwUp h k i x.toNat y) Q) : fwWP M d pc L (aI y :: aI x :: aR k i :: S) h Q := by
  intro l p e s m args below meth c ad D tc H locs ls C X
  obtain ⟨hx, hb, -, hown, hts, -, -, hK, hI, hC⟩ := id C
  obtain ⟨q0, hq, hw⟩ := fw_get hi
  obtain ⟨ho, hn⟩ := fwAk_o k _ ha
  have he := hw ad tc h
  rw [fwCel_a ho ha] at he
  refine va_bast hx hb hK X.1 (fw_D hI tc h) X.2.1 q0 1 he rfl (fwI_in h0 h1 (by dsimp only at hn; omega)) hd (fun H1 locs1 hP1 _ hS1 => ?_)
  have e9 : vp_nar .byte (Int32.ofInt y) = Int32.ofInt y := by
    rw [vp_nar_byte]
    apply Int32.toInt_inj.mp
    rw [fwI_rt ⟨by omega, by omega⟩]
    simp only [Int32.toInt8_ofInt, Int8.toInt_toInt32, Int8.toInt_ofInt]
    exact Int.bmod_eq_of_le (by simp [Int8.size]; omega) (by simp [Int8.size]; omega)
  rw [fwI_cl h0 (by dsimp only at hn; omega), e9, fwArr_up (ad := ad)] at hP1
  exact kk l p e s m args below meth c ad D tc H1 locs1 ls C ⟨fwUp_cel hq (by rw [fwCel_a ho ha]; rfl) hP1, hS1, X.2.2⟩
theorem w_zast {k i n : Nat} {x y : Int} (hd : decode M.2.1 pc = .ok (.bastore, 1)) (ha : fwAk k = some (2, n)) (hi : i < fwNk k) (h0 : 0 ≤ x) (h1 : x < n) (hy : y = 0 ∨ y = 1) (kk : fwWP M d (pc + 1) L S (fwUp h k i x.toNat y) Q) : fwWP M d pc L (aI y :: aI x :: aR k i :: S) h Q := by
  intro l p e s m args below meth c ad D tc H locs ls C X
  obtain ⟨hx, hb, -, hown, hts, -, -, hK, hI, hC⟩ := id C
  obtain ⟨q0, hq, hw⟩ := fw_get hi
  obtain ⟨ho, hn⟩ := fwAk_o k _ ha
  have he := hw ad tc h
  rw [fwCel_a ho ha] at he
  refine va_zast hx hb hK X.1 (fw_D hI tc h) X.2.1 q0 2 he rfl (fwI_in h0 h1 (by dsimp only at hn; omega)) hd (fun H1 locs1 hP1 _ hS1 => ?_)
  have e9 : vp_nar .boolean (Int32.ofInt y) = Int32.ofInt y := by
    rcases hy with rfl | rfl <;> rfl
  rw [fwI_cl h0 (by dsimp only at hn; omega), e9, fwArr_up (ad := ad)] at hP1
  exact kk l p e s m args below meth c ad D tc H1 locs1 ls C ⟨fwUp_cel hq (by rw [fwCel_a ho ha]; rfl) hP1, hS1, X.2.2⟩
theorem w_last {k i n : Nat} {x y : Int} (hd : decode M.2.1 pc = .ok (.lastore, 1)) (ha : fwAk k = some (3, n)) (hi : i < fwNk k) (h0 : 0 ≤ x) (h1 : x < n) (kk : fwWP M d (pc + 1) L S (fwUp h k i x.toNat y) Q) : fwWP M d pc L (aJ y :: aI x :: aR k i :: S) h Q := by
  intro l p e s m args below meth c ad D tc H locs ls C X
  obtain ⟨hx, hb, -, hown, hts, -, -, hK, hI, hC⟩ := id C
  obtain ⟨q0, hq, hw⟩ := fw_get hi
  obtain ⟨ho, hn⟩ := fwAk_o k _ ha
  have he := hw ad tc h
  rw [fwCel_a ho ha] at he
  refine va_last hx hb hK X.1 (fw_D hI tc h) X.2.1 q0 3 he rfl (fwI_in h0 h1 (by dsimp only at hn; omega)) hd (fun H1 locs1 hP1 _ hS1 => ?_)
  have e9 : vp_updL (fun j => Int64.ofInt (h k i j)) x.toNat (Int64.ofInt y) = (fun j' => Int64.ofInt (if j' = x.toNat then y else h k i j')) := by
    funext q
    unfold vp_updL
    by_cases e : q = x.toNat
    · simp [e]
    · simp [e]
  rw [fwI_cl h0 (by dsimp only at hn; omega), e9] at hP1
  exact kk l p e s m args below meth c ad D tc H1 locs1 ls C ⟨fwUp_cel hq (by rw [fwCel_a ho ha]; rfl) hP1, hS1, X.2.2⟩
/-! ends -/
theorem fw_end {ad : Nat → Nat → Nat} {D : va_G} {tc : Nat → ClassId} {s t : State} {H : Heap} {locs : List Loc} {args : Array Value} {r : Option fwV} (hQ : Q r h) (hP : va_P D vwCl (fwWd ad tc h) H) (hS : va_S (fwA ad) s.heap H locs) (ht : t.heap = H) : fwQ ad D tc Q args s (.returned (r.map (fwMv ad))) t :=
  ⟨⟨r, h, rfl, hQ, by rw [ht]; exact hP⟩, hS.F ht⟩
theorem w_iret {x : Int} (hd : decode M.2.1 pc = .ok (.ireturn, 1)) (hr : M.2.2.2 = some .int) (k : Q (some (aI x)) h) : fwWP M d pc L [aI x] h Q := by
  intro l p e s m args below meth c ad D tc H locs ls C X
  obtain ⟨hx, hb, -, hown, hts, hre, hlocks, hK, hI, -⟩ := id C
  exact W.iret hx hb (hre.trans hr) (fun t ht _ => fw_end k X.1 X.2.1 ht) X.2.1.2.2 hd hlocks
theorem w_zret {x : Int} (hd : decode M.2.1 pc = .ok (.ireturn, 1)) (hr : M.2.2.2 = some .boolean) (hz : x = 0 ∨ x = 1) (k : Q (some (aI x)) h) : fwWP M d pc L [aI x] h Q := by
  intro l p e s m args below meth c ad D tc H locs ls C X
  obtain ⟨hx, hb, -, hown, hts, hre, hlocks, hK, hI, -⟩ := id C
  exact W.zret hx hb (hre.trans hr) (by rcases hz with rfl | rfl <;> rfl) (fun t ht _ => fw_end k X.1 X.2.1 ht) X.2.1.2.2 hd hlocks
theorem w_tret {x : Int} {ty : FieldType} (hd : decode M.2.1 pc = .ok (.ireturn, 1)) (hr : M.2.2.2 = some ty) (hz : narrow ty (.int (Int32.ofInt x)) = .int (Int32.ofInt x)) (k : Q (some (aI x)) h) : fwWP M d pc L [aI x] h Q := by
  intro l p e s m args below meth c ad D tc H locs ls C X
  obtain ⟨hx, hb, -, hown, hts, hre, hlocks, hK, hI, -⟩ := id C
  exact W.zret hx hb (hre.trans hr) hz (fun t ht _ => fw_end k X.1 X.2.1 ht) X.2.1.2.2 hd hlocks
theorem w_lret {x : Int} (hd : decode M.2.1 pc = .ok (.lreturn, 1)) (hr : M.2.2.2 = some .long) (k : Q (some (aJ x)) h) : fwWP M d pc L [aJ x] h Q := by
  intro l p e s m args below meth c ad D tc H locs ls C X
  obtain ⟨hx, hb, -, hown, hts, hre, hlocks, hK, hI, -⟩ := id C
  exact W.lret hx hb (hre.trans hr) (fun t ht _ => fw_end k X.1 X.2.1 ht) X.2.1.2.2 hd hlocks
theorem w_aret {kd nr : Nat} {ty : FieldType} (hd : decode M.2.1 pc = .ok (.areturn, 1)) (hr : M.2.2.2 = some ty) (hz : (∃ n, ty = .object n) ∨ ∃ t, ty = .array t) (k : Q (some (aR kd nr)) h) : fwWP M d pc L [aR kd nr] h Q := by
  intro l p e s m args below meth c ad D tc H locs ls C X
  obtain ⟨hx, hb, -, hown, hts, hre, hlocks, hK, hI, -⟩ := id C
  exact W.aret hx hb (hre.trans hr) hz (Or.inr ⟨_, rfl⟩) (fun t ht _ => fw_end k X.1 X.2.1 ht) X.2.1.2.2 hd hlocks
theorem w_vret (hd : decode M.2.1 pc = .ok (.return_, 1)) (hr : M.2.2.2 = none) (k : Q none h) : fwWP M d pc L [] h Q := by
  intro l p e s m args below meth c ad D tc H locs ls C X
  obtain ⟨hx, hb, -, hown, hts, hre, hlocks, hK, hI, -⟩ := id C
  exact W.vret hx hb (hre.trans hr) (fun t ht _ => fw_end k X.1 X.2.1 ht) X.2.1.2.2 hd hlocks
end FWM
end
section
def fwCat (S : List fwV) : Nat := (S.map (fun v => if fwIsJ (some v) then 2 else 1)).sum
theorem fwCat_eq (ad : Nat → Nat → Nat) (S : List fwV) : ((S.map (fwMv ad)).map fun v => v.category).sum = fwCat S := by
  unfold fwCat
  rw [List.map_map]
  congr 1
  apply List.map_congr_left
  intro v _
  rcases v with x | x | q <;> rfl
theorem fwCs.same {ad : Nat → Nat → Nat} {u U : State} (h : fwCs ad u u.heap) (hv : U.vm = u.vm) (hh : U.heap = u.heap) : fwCs ad U U.heap := by
  obtain ⟨h1, h2, h3, h4, h5, h7, h6⟩ := h
  rw [hh]
  have al : u.vm.Alike U.vm := by rw [hv]; exact Vm.Alike.refl _
  exact ⟨fun i hi => ⟨va_O.moved al (h1 i hi).1, va_OF.moved al (h1 i hi).2.1, va_OF.moved al (h1 i hi).2.2.1, va_T.moved al (h1 i hi).2.2.2⟩,
    fun i own k tx by_ hi => (h2 i own k tx by_ hi).same hv, va_Z.moved al h3, va_T.moved al h4, va_Z.moved al h5, va_Zq.moved al h7, fun a i b n d h9 hw => (h6 a i b n d h9 hw).same rfl hv.symm⟩
theorem fwPc_blind {ad : Nat → Nat → Nat} {D : va_G} {tc : Nat → ClassId} {vs : List fwV} {h : fwH} : FrameBlind (fwPc ad D tc vs h) := by
  intro a U g mk q
  obtain ⟨q1, q2, q3, q4, q5⟩ := q
  exact ⟨q1, q2, va_K.moved (u := U) (U := U.calling g mk a) (Vm.Alike.refl U.vm) q3, q4, fwCs.same q5 rfl rfl⟩
/-- what a method is: its words among the tables', how many values it takes -/
def fwMok (M : fwM) (n : Nat) : Prop := Cond.code M.1 M.2.1 M.2.2.1 M.2.2.2 ∈ fwTb ∧ Cond.initialized M.1.cls ∈ fwTb ∧ (M.1.cls ≠ "java/lang/invoke/MethodHandle" ∧ M.1.cls ≠ "java/lang/invoke/VarHandle" ∧ (parseMethodDescriptor M.1.desc).map (fun d => d.parameters.length) = some n) ∧ M.2.2.1 ≤ 45
def fwMvi (M : fwM) : Prop := Cond.instanceMethod M.1 ∈ fwTb ∧ Cond.selects M.1.cls M.1 M.1 ∈ fwTb
section FWC
variable {p : Program} {l : Launch} {e : Env} {R : Room} {s : State} {m : MethodId} {args : Array Value} {below : List Frame} {meth : Method} {c : Code} {H : Heap} {locs : List Loc} {Qf : State → Prop}
variable {pc : Nat} {ls : Array Slot} {rest st0 : List Value} {a : Array Value} {ad : Nat → Nat → Nat} {D : va_G} {tc : Nat → ClassId} {Q' : Option fwV → fwH → Prop}
theorem fw_run (hr : va_Run p l e R s m args below meth c H locs 0 0 0 0 (F0 m pc ls st0) rest (fwQ ad D tc Q' a) (fwA ad)) (hS : va_S (fwA ad) s.heap H locs)
    (kk : ∀ (r : Option fwV) (h' : fwH) (H1 : Heap) (locs1 : List Loc), Q' r h' → va_P D vwCl (fwWd ad tc h') H1 → va_S (fwA ad) s.heap H1 locs1 → W p l e R s m args below meth c H1 locs1 0 0 Qf (F0 m (pc + 3) ls ((r.map (fwMv ad)).toList ++ rest))) : W p l e R s m args below meth c H locs 0 0 Qf (F0 m pc ls st0) := by
  intro T hT X
  obtain ⟨v, st₀, t, T', L, h0, X', hL, e1, e2, ⟨⟨r, h', hv, hq, hp⟩, hz, hk⟩, st⟩ := hr T hT X
  cases hv
  rw [h0] at hz hk
  obtain ⟨t2, a1, b1⟩ := kk r h' T'.heap (locs ++ L) hq (by rw [e1]; exact hp)
    ⟨Nat.le_trans hS.1 (by rw [e1]; exact hz), fun q h1 h2 => by rw [e1, hk q (Nat.lt_of_lt_of_le h1 hS.1) h2]; exact hS.2.1 q h1 h2, fun q hq => by
      rcases List.mem_append.mp hq with h | h
      · exact hS.2.2 q h
      · exact hL q h⟩ T' rfl X'
  exact ⟨t2, st t2 a1, b1⟩
theorem fw_callB {M' : fwM} {own : String} {idx d n : Nat} (hts : ∀ w ∈ fwTb, w.before args s = true) (hl : Cond.methodLink own idx M'.1 ∈ fwTb) (hm : fwMok M' n) : CallB (fwRm (d + 1)) s args own idx M'.1 M'.2.1 M'.2.2.1 M'.2.2.2 (fwWs M') (fwRm d) 0 0 n := by
  obtain ⟨h1, h2, h3, h4⟩ := hm
  refine callB_of (Ts := fwTb) n hts ?_ rfl rfl rfl (hts _ h2) (hts _ hl) h3 ⟨?_, ?_⟩
  · intro w hw
    have hw2 : w ∈ fwTb := by
      rcases List.mem_cons.mp hw with rfl | hw
      · exact h1
      · exact hw
    exact ⟨hw2, good_of_word (fw_good w hw2)⟩
  · exact Nat.le_refl _
  · show 8 + (M'.2.2.1 + 11) + 64 * d ≤ 64 * (d + 1)
    omega
end FWC
section FWD
variable {M : fwM} {d pc : Nat} {L : List (Option fwV)} {S : List fwV} {h : fwH} {Q : Option fwV → fwH → Prop}
theorem w_callV {M' : fwM} {idx k i n ci : Nat} (as : List fwV) (hd : decode M.2.1 pc = .ok (.invokevirtual idx, 3)) (hl : Cond.methodLink M.1.cls idx M'.1 ∈ fwTb) (hm : fwMok M' n) (hv : fwMvi M') (ho : fwOk k = some ci) (hcn : (vwCl[ci]?).map (fun q => q.1) = some M'.1.cls) (hi : i < fwNk k) (hn : as.length = n) (hS : fwCat S ≤ 8)
    (kk : fwCt M' d (aR k i :: as) h (fun r h' => fwWP M (d + 1) (pc + 3) L (r.toList ++ S) h' Q)) : fwWP M (d + 1) pc L (as.reverse ++ aR k i :: S) h Q := by
  intro l p e s m args below meth c ad D tc H locs ls C X
  obtain ⟨hx, hb, hml, hown, hts, hre, hlocks, hK, hI, hC⟩ := id C
  obtain ⟨q0, hq, hw⟩ := fw_get hi
  have he := hw ad tc h
  rw [fwCel_o ho] at he
  obtain ⟨q, hc, hcn2⟩ : ∃ q, vwCl[ci]? = some q ∧ q.1 = M'.1.cls := by
    cases hc : vwCl[ci]? with
    | none => rw [hc] at hcn; cases hcn
    | some q => rw [hc] at hcn; exact ⟨q, rfl, Option.some.inj hcn⟩
  have hrec := va_recv hK X.1 hc he
  rw [hcn2] at hrec
  have hst : (as.reverse ++ aR k i :: S).map (fwMv ad) = (as.map (fwMv ad)).reverse ++ .ref (ad k i) :: S.map (fwMv ad) := by
    rw [List.map_append, List.map_reverse]
    rfl
  have hr := va_runV (l := l) (e := e) (below := below) (meth := meth) (locs := locs) (cells := 0) (slots := 0) (R := fwRm (d + 1)) (As := as.map (fwMv ad)) (rest := S.map (fwMv ad)) (g := F0 m pc ls ((as.reverse ++ aR k i :: S).map (fwMv ad))) (index := idx) ⟨hx, hb, hml, hown, hts⟩ (kk l ad D tc) ⟨fw_callB hts hl hm, hts _ hv.1, hts _ hv.2⟩
    ⟨fwPc_blind, hrec, fun U hU hW => ⟨rfl, by rw [hU]; exact X.1, va_K.moved hW.alike hK, hI, hC.go X.2.1 hU hW⟩⟩ rfl (by rw [List.length_map]; exact hn) X.2.2.1 hst (lv_room (by rw [fwCat_eq]; exact hS)) hd ⟨Nat.le_refl _, Nat.le_refl _⟩
  refine fw_run hr X.2.1 (fun r h' H1 locs1 hq9 hP1 hS1 => ?_)
  have := hq9 l p e s m args below meth c ad D tc H1 locs1 ls C ⟨hP1, hS1, X.2.2⟩
  rw [List.map_append] at this
  cases r <;> exact this
theorem w_callS {M' : fwM} {idx n : Nat} (as : List fwV) (hd : decode M.2.1 pc = .ok (.invokestatic idx, 3)) (hl : Cond.methodLink M.1.cls idx M'.1 ∈ fwTb) (hm : fwMok M' n) (hv : Cond.static M'.1 ∈ fwTb) (hn : as.length = n) (hS : fwCat S ≤ 8)
    (kk : fwCt M' d as h (fun r h' => fwWP M (d + 1) (pc + 3) L (r.toList ++ S) h' Q)) : fwWP M (d + 1) pc L (as.reverse ++ S) h Q := by
  intro l p e s m args below meth c ad D tc H locs ls C X
  obtain ⟨hx, hb, hml, hown, hts, hre, hlocks, hK, hI, hC⟩ := id C
  have hst : (as.reverse ++ S).map (fwMv ad) = (as.map (fwMv ad)).reverse ++ S.map (fwMv ad) := by
    rw [List.map_append, List.map_reverse]
  have hr := va_runS (l := l) (e := e) (below := below) (meth := meth) (locs := locs) (cells := 0) (slots := 0) (R := fwRm (d + 1)) (As := as.map (fwMv ad)) (rest := S.map (fwMv ad)) (g := F0 m pc ls ((as.reverse ++ S).map (fwMv ad))) (index := idx) ⟨hx, hb, hml, hown, hts⟩ (kk l ad D tc) ⟨fw_callB hts hl hm, hts _ hv⟩
    ⟨fwPc_blind, fun U hU hW => ⟨rfl, by rw [hU]; exact X.1, va_K.moved hW.alike hK, hI, hC.go X.2.1 hU hW⟩⟩ rfl (by rw [List.length_map]; exact hn) X.2.2.1 hst (lv_room (by rw [fwCat_eq]; exact hS)) hd ⟨Nat.le_refl _, Nat.le_refl _⟩
  refine fw_run hr X.2.1 (fun r h' H1 locs1 hq9 hP1 hS1 => ?_)
  have := hq9 l p e s m args below meth c ad D tc H1 locs1 ls C ⟨hP1, hS1, X.2.2⟩
  rw [List.map_append] at this
  cases r <;> exact this
/-- a call on a String constant -/
theorem w_callT {M' : fwM} {idx i n : Nat} (as : List fwV) (hd : decode M.2.1 pc = .ok (.invokevirtual idx, 3)) (hl : Cond.methodLink M.1.cls idx M'.1 ∈ fwTb) (hm : fwMok M' n) (hv : fwMvi M') (hcn : M'.1.cls = "java/lang/String") (hi : i < 26) (hn : as.length = n) (hS : fwCat S ≤ 8)
    (kk : fwCt M' d (aR 50 i :: as) h (fun r h' => fwWP M (d + 1) (pc + 3) L (r.toList ++ S) h' Q)) : fwWP M (d + 1) pc L (as.reverse ++ aR 50 i :: S) h Q := by
  intro l p e s m args below meth c ad D tc H locs ls C X
  obtain ⟨hx, hb, hml, hown, hts, hre, hlocks, hK, hI, hC⟩ := id C
  have hrec : ∃ cell : Cell, H[ad 50 i]? = some cell ∧ cell.vm.isStatics = false ∧ s.vm.findClass M'.1.cls = some cell.cls := by
    obtain ⟨cell, h1, h2, h3, -⟩ := (hC.1 i hi).1.kept X.2.1.2.1
    exact ⟨cell, h1, h2, by rw [hcn]; exact h3⟩
  have hst : (as.reverse ++ aR 50 i :: S).map (fwMv ad) = (as.map (fwMv ad)).reverse ++ .ref (ad 50 i) :: S.map (fwMv ad) := by
    rw [List.map_append, List.map_reverse]
    rfl
  have hr := va_runV (l := l) (e := e) (below := below) (meth := meth) (locs := locs) (cells := 0) (slots := 0) (R := fwRm (d + 1)) (As := as.map (fwMv ad)) (rest := S.map (fwMv ad)) (g := F0 m pc ls ((as.reverse ++ aR 50 i :: S).map (fwMv ad))) (index := idx) ⟨hx, hb, hml, hown, hts⟩ (kk l ad D tc) ⟨fw_callB hts hl hm, hts _ hv.1, hts _ hv.2⟩
    ⟨fwPc_blind, hrec, fun U hU hW => ⟨rfl, by rw [hU]; exact X.1, va_K.moved hW.alike hK, hI, hC.go X.2.1 hU hW⟩⟩ rfl (by rw [List.length_map]; exact hn) X.2.2.1 hst (lv_room (by rw [fwCat_eq]; exact hS)) hd ⟨Nat.le_refl _, Nat.le_refl _⟩
  refine fw_run hr X.2.1 (fun r h' H1 locs1 hq9 hP1 hS1 => ?_)
  have := hq9 l p e s m args below meth c ad D tc H1 locs1 ls C ⟨hP1, hS1, X.2.2⟩
  rw [List.map_append] at this
  cases r <;> exact this
/-! Strings and the table of threes -/
theorem w_strValue {idx i : Nat} (hd : decode M.2.1 pc = .ok (.getfield idx, 3)) (hl : Cond.fieldLink M.1.cls idx "java/lang/String" "value" "[B" ∈ fwTb) (hi : i < 26) (kk : fwWP M d (pc + 3) L (aR 51 i :: S) h Q) : fwWP M d pc L (aR 50 i :: S) h Q := by
  intro l p e s m args below meth c ad D tc H locs ls C X
  obtain ⟨hx, hb, hml, hown, hts, hre, hlocks, hK, hI, hC⟩ := id C
  exact vk_getf hx hb (hC.1 i hi).2.2.1 X.2.1 hown (hts _ hl) (fun _ z => z) hd (kk l p e s m args below meth c ad D tc H locs ls C X)
theorem w_strCoder {idx i : Nat} (hd : decode M.2.1 pc = .ok (.getfield idx, 3)) (hl : Cond.fieldLink M.1.cls idx "java/lang/String" "coder" "B" ∈ fwTb) (hi : i < 26) (kk : fwWP M d (pc + 3) L (aI 0 :: S) h Q) : fwWP M d pc L (aR 50 i :: S) h Q := by
  intro l p e s m args below meth c ad D tc H locs ls C X
  obtain ⟨hx, hb, hml, hown, hts, hre, hlocks, hK, hI, hC⟩ := id C
  exact vk_getf hx hb (hC.1 i hi).2.1 X.2.1 hown (hts _ hl) (fun _ z => z) hd (kk l p e s m args below meth c ad D tc H locs ls C X)
theorem w_strLen {i : Nat} (hd : decode M.2.1 pc = .ok (.arraylength, 1)) (hi : i < 26) (kk : fwWP M d (pc + 1) L (aI (fwSb i).length :: S) h Q) : fwWP M d pc L (aR 51 i :: S) h Q := by
  intro l p e s m args below meth c ad D tc H locs ls C X
  obtain ⟨hx, hb, hml, hown, hts, hre, hlocks, hK, hI, hC⟩ := id C
  exact va_tlen hx hb (hC.1 i hi).2.2.2 X.2.1 (v := Int32.ofInt (fwSb i).length) rfl hd (kk l p e s m args below meth c ad D tc H locs ls C X)
theorem fwSb_len : ∀ i, i < 26 → (fwSb i).length ≤ 5 := by decide +kernel
theorem w_strByte {i : Nat} {x : Int} (hd : decode M.2.1 pc = .ok (.baload, 1)) (hi : i < 26) (h0 : 0 ≤ x) (h1 : x < (fwSb i).length) (kk : fwWP M d (pc + 1) L (aI ((fwSb i).getD x.toNat 0) :: S) h Q) : fwWP M d pc L (aI x :: aR 51 i :: S) h Q := by
  intro l p e s m args below meth c ad D tc H locs ls C X
  obtain ⟨hx, hb, hml, hown, hts, hre, hlocks, hK, hI, hC⟩ := id C
  have h5 := fwSb_len i hi
  exact va_tb hx hb (hC.1 i hi).2.2.2 X.2.1 (fwI_in h0 h1 (by omega)) (by rw [fwI_cl h0 (by omega)]; rfl) hd (kk l p e s m args below meth c ad D tc H locs ls C X)
theorem w_compact {idx : Nat} (hd : decode M.2.1 pc = .ok (.getstatic idx, 3)) (hl : Cond.fieldLink M.1.cls idx "java/lang/String" "COMPACT_STRINGS" "Z" ∈ fwTb) (kk : fwWP M d (pc + 3) L (aI 1 :: S) h Q) : fwWP M d pc L S h Q := by
  intro l p e s m args below meth c ad D tc H locs ls C X
  obtain ⟨hx, hb, hml, hown, hts, hre, hlocks, hK, hI, hC⟩ := id C
  exact va_gets hx hb hC.2.2.2.2.1 X.2.1 hown (hts _ hl) (fun _ z => z) hd (kk l p e s m args below meth c ad D tc H locs ls C X)
theorem w_threes {idx : Nat} (hd : decode M.2.1 pc = .ok (.getstatic idx, 3)) (hl : Cond.fieldLink M.1.cls idx "FootLower$Petition" "THREES" "[I" ∈ fwTb) (kk : fwWP M d (pc + 3) L (aR 52 0 :: S) h Q) : fwWP M d pc L S h Q := by
  intro l p e s m args below meth c ad D tc H locs ls C X
  obtain ⟨hx, hb, hml, hown, hts, hre, hlocks, hK, hI, hC⟩ := id C
  exact va_gets hx hb hC.2.2.1 X.2.1 hown (hts _ hl) (fun _ z => z) hd (kk l p e s m args below meth c ad D tc H locs ls C X)
theorem w_thrLen (hd : decode M.2.1 pc = .ok (.arraylength, 1)) (kk : fwWP M d (pc + 1) L (aI 8 :: S) h Q) : fwWP M d pc L (aR 52 0 :: S) h Q := by
  intro l p e s m args below meth c ad D tc H locs ls C X
  obtain ⟨hx, hb, hml, hown, hts, hre, hlocks, hK, hI, hC⟩ := id C
  exact va_tlen hx hb hC.2.2.2.1 X.2.1 (v := Int32.ofInt 8) rfl hd (kk l p e s m args below meth c ad D tc H locs ls C X)
theorem w_thrAt {x : Int} (hd : decode M.2.1 pc = .ok (.iaload, 1)) (h0 : 0 ≤ x) (h1 : x < 8) (kk : fwWP M d (pc + 1) L (aI (fwTh.getD x.toNat 0) :: S) h Q) : fwWP M d pc L (aI x :: aR 52 0 :: S) h Q := by
  intro l p e s m args below meth c ad D tc H locs ls C X
  obtain ⟨hx, hb, hml, hown, hts, hre, hlocks, hK, hI, hC⟩ := id C
  exact va_ti hx hb hC.2.2.2.1 X.2.1 (fwI_in h0 h1 (by decide)) (by rw [fwI_cl h0 (by omega)]; rfl) hd (kk l p e s m args below meth c ad D tc H locs ls C X)
/-! tableswitch -/
theorem w_tabIn {x dflt lo hi off : Int} {offs : Array Int} {len : Nat} (tgt : Nat) (hd : decode M.2.1 pc = .ok (.tableswitch dflt lo hi offs, len)) (hx : -2147483648 ≤ x ∧ x < 2147483648) (h1 : lo ≤ x) (h2 : x ≤ hi) (ho : offs[(x - lo).toNat]? = some off) (ht : (pc : Int) + off = (tgt : Int)) (k : fwWP M d tgt L S h Q) : fwWP M d pc L (aI x :: S) h Q := by
  intro l p e s m args below meth c ad D tc H locs ls C X
  exact lv_tableIn C.1 C.2.1 hd (by rw [fwI_rt hx]; omega) (by rw [fwI_rt hx]; omega) (by rw [fwI_rt hx]; exact ho) ht (k l p e s m args below meth c ad D tc H locs ls C X)
theorem w_tabOut {x dflt lo hi : Int} {offs : Array Int} {len : Nat} (tgt : Nat) (hd : decode M.2.1 pc = .ok (.tableswitch dflt lo hi offs, len)) (hx : -2147483648 ≤ x ∧ x < 2147483648) (h1 : x < lo ∨ hi < x) (ht : (pc : Int) + dflt = (tgt : Int)) (k : fwWP M d tgt L S h Q) : fwWP M d pc L (aI x :: S) h Q := by
  intro l p e s m args below meth c ad D tc H locs ls C X
  exact lv_tableOut C.1 C.2.1 hd (by rw [fwI_rt hx]; exact h1) ht (k l p e s m args below meth c ad D tc H locs ls C X)
end FWD
end
