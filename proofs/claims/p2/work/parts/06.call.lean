def fwCat (S : List fwV) : Nat := (S.map (fun v => if fwIsJ (some v) then 2 else 1)).sum
theorem fwCat_eq (ad : Nat → Nat → Nat) (S : List fwV) : ((S.map (fwMv ad)).map fun v => v.category).sum = fwCat S := by
  unfold fwCat
  rw [List.map_map]
  congr 1
  apply List.map_congr_left
  intro v _
  rcases v with x | x | q <;> rfl
theorem fwCs.same {ad : Nat → Nat → Nat} {u U : State} (h : fwCs ad u u.heap) (hv : U.vm = u.vm) (hh : U.heap = u.heap) : fwCs ad U U.heap := by
  obtain ⟨h1, h2, h3, h4, h5, h7, h6⟩ := h
  rw [hh]
  have al : u.vm.Alike U.vm := by rw [hv]; exact Vm.Alike.refl _
  exact ⟨fun i hi => ⟨va_O.moved al (h1 i hi).1, va_OF.moved al (h1 i hi).2.1, va_OF.moved al (h1 i hi).2.2.1, va_T.moved al (h1 i hi).2.2.2⟩,
    fun i own k tx by_ hi => (h2 i own k tx by_ hi).same hv, va_Z.moved al h3, va_T.moved al h4, va_Z.moved al h5, va_Zq.moved al h7, fun a i b n d h9 hw => (h6 a i b n d h9 hw).same rfl hv.symm⟩
theorem fwPc_blind {ad : Nat → Nat → Nat} {D : va_G} {tc : Nat → ClassId} {vs : List fwV} {h : fwH} : FrameBlind (fwPc ad D tc vs h) := by
  intro a U g mk q
  obtain ⟨q1, q2, q3, q4, q5⟩ := q
  exact ⟨q1, q2, va_K.moved (u := U) (U := U.calling g mk a) (Vm.Alike.refl U.vm) q3, q4, fwCs.same q5 rfl rfl⟩
/-- what a method is: its words among the tables', how many values it takes -/
def fwMok (M : fwM) (n : Nat) : Prop := Cond.code M.1 M.2.1 M.2.2.1 M.2.2.2 ∈ fwTb ∧ Cond.initialized M.1.cls ∈ fwTb ∧ (M.1.cls ≠ "java/lang/invoke/MethodHandle" ∧ M.1.cls ≠ "java/lang/invoke/VarHandle" ∧ (parseMethodDescriptor M.1.desc).map (fun d => d.parameters.length) = some n) ∧ M.2.2.1 ≤ 45
def fwMvi (M : fwM) : Prop := Cond.instanceMethod M.1 ∈ fwTb ∧ Cond.selects M.1.cls M.1 M.1 ∈ fwTb
section FWC
variable {p : Program} {l : Launch} {e : Env} {R : Room} {s : State} {m : MethodId} {args : Array Value} {below : List Frame} {meth : Method} {c : Code} {H : Heap} {locs : List Loc} {Qf : State → Prop}
variable {pc : Nat} {ls : Array Slot} {rest st0 : List Value} {a : Array Value} {ad : Nat → Nat → Nat} {D : va_G} {tc : Nat → ClassId} {Q' : Option fwV → fwH → Prop}
theorem fw_run (hr : va_Run p l e R s m args below meth c H locs 0 0 0 0 (F0 m pc ls st0) rest (fwQ ad D tc Q' a) (fwA ad)) (hS : va_S (fwA ad) s.heap H locs)
    (kk : ∀ (r : Option fwV) (h' : fwH) (H1 : Heap) (locs1 : List Loc), Q' r h' → va_P D vwCl (fwWd ad tc h') H1 → va_S (fwA ad) s.heap H1 locs1 → W p l e R s m args below meth c H1 locs1 0 0 Qf (F0 m (pc + 3) ls ((r.map (fwMv ad)).toList ++ rest))) : W p l e R s m args below meth c H locs 0 0 Qf (F0 m pc ls st0) := by
  intro T hT X
  obtain ⟨v, st₀, t, T', L, h0, X', hL, e1, e2, ⟨⟨r, h', hv, hq, hp⟩, hz, hk⟩, st⟩ := hr T hT X
  cases hv
  rw [h0] at hz hk
  obtain ⟨t2, a1, b1⟩ := kk r h' T'.heap (locs ++ L) hq (by rw [e1]; exact hp)
    ⟨Nat.le_trans hS.1 (by rw [e1]; exact hz), fun q h1 h2 => by rw [e1, hk q (Nat.lt_of_lt_of_le h1 hS.1) h2]; exact hS.2.1 q h1 h2, fun q hq => by
      rcases List.mem_append.mp hq with h | h
      · exact hS.2.2 q h
      · exact hL q h⟩ T' rfl X'
  exact ⟨t2, st t2 a1, b1⟩
theorem fw_callB {M' : fwM} {own : String} {idx d n : Nat} (hts : ∀ w ∈ fwTb, w.before args s = true) (hl : Cond.methodLink own idx M'.1 ∈ fwTb) (hm : fwMok M' n) : CallB (fwRm (d + 1)) s args own idx M'.1 M'.2.1 M'.2.2.1 M'.2.2.2 (fwWs M') (fwRm d) 0 0 n := by
  obtain ⟨h1, h2, h3, h4⟩ := hm
  refine callB_of (Ts := fwTb) n hts ?_ rfl rfl rfl (hts _ h2) (hts _ hl) h3 ⟨?_, ?_⟩
  · intro w hw
    have hw2 : w ∈ fwTb := by
      rcases List.mem_cons.mp hw with rfl | hw
      · exact h1
      · exact hw
    exact ⟨hw2, good_of_word (fw_good w hw2)⟩
  · exact Nat.le_refl _
  · show 8 + (M'.2.2.1 + 11) + 64 * d ≤ 64 * (d + 1)
    omega
end FWC
section FWD
variable {M : fwM} {d pc : Nat} {L : List (Option fwV)} {S : List fwV} {h : fwH} {Q : Option fwV → fwH → Prop}
theorem w_callV {M' : fwM} {idx k i n ci : Nat} (as : List fwV) (hd : decode M.2.1 pc = .ok (.invokevirtual idx, 3)) (hl : Cond.methodLink M.1.cls idx M'.1 ∈ fwTb) (hm : fwMok M' n) (hv : fwMvi M') (ho : fwOk k = some ci) (hcn : (vwCl[ci]?).map (fun q => q.1) = some M'.1.cls) (hi : i < fwNk k) (hn : as.length = n) (hS : fwCat S ≤ 8)
    (kk : fwCt M' d (aR k i :: as) h (fun r h' => fwWP M (d + 1) (pc + 3) L (r.toList ++ S) h' Q)) : fwWP M (d + 1) pc L (as.reverse ++ aR k i :: S) h Q := by
  intro l p e s m args below meth c ad D tc H locs ls C X
  obtain ⟨hx, hb, hml, hown, hts, hre, hlocks, hK, hI, hC⟩ := id C
  obtain ⟨q0, hq, hw⟩ := fw_get hi
  have he := hw ad tc h
  rw [fwCel_o ho] at he
  obtain ⟨q, hc, hcn2⟩ : ∃ q, vwCl[ci]? = some q ∧ q.1 = M'.1.cls := by
    cases hc : vwCl[ci]? with
    | none => rw [hc] at hcn; cases hcn
    | some q => rw [hc] at hcn; exact ⟨q, rfl, Option.some.inj hcn⟩
  have hrec := va_recv hK X.1 hc he
  rw [hcn2] at hrec
  have hst : (as.reverse ++ aR k i :: S).map (fwMv ad) = (as.map (fwMv ad)).reverse ++ .ref (ad k i) :: S.map (fwMv ad) := by
    rw [List.map_append, List.map_reverse]
    rfl
  have hr := va_runV (l := l) (e := e) (below := below) (meth := meth) (locs := locs) (cells := 0) (slots := 0) (R := fwRm (d + 1)) (As := as.map (fwMv ad)) (rest := S.map (fwMv ad)) (g := F0 m pc ls ((as.reverse ++ aR k i :: S).map (fwMv ad))) (index := idx) ⟨hx, hb, hml, hown, hts⟩ (kk l ad D tc) ⟨fw_callB hts hl hm, hts _ hv.1, hts _ hv.2⟩
    ⟨fwPc_blind, hrec, fun U hU hW => ⟨rfl, by rw [hU]; exact X.1, va_K.moved hW.alike hK, hI, hC.go X.2.1 hU hW⟩⟩ rfl (by rw [List.length_map]; exact hn) X.2.2.1 hst (lv_room (by rw [fwCat_eq]; exact hS)) hd ⟨Nat.le_refl _, Nat.le_refl _⟩
  refine fw_run hr X.2.1 (fun r h' H1 locs1 hq9 hP1 hS1 => ?_)
  have := hq9 l p e s m args below meth c ad D tc H1 locs1 ls C ⟨hP1, hS1, X.2.2⟩
  rw [List.map_append] at this
  cases r <;> exact this
theorem w_callS {M' : fwM} {idx n : Nat} (as : List fwV) (hd : decode M.2.1 pc = .ok (.invokestatic idx, 3)) (hl : Cond.methodLink M.1.cls idx M'.1 ∈ fwTb) (hm : fwMok M' n) (hv : Cond.static M'.1 ∈ fwTb) (hn : as.length = n) (hS : fwCat S ≤ 8)
    (kk : fwCt M' d as h (fun r h' => fwWP M (d + 1) (pc + 3) L (r.toList ++ S) h' Q)) : fwWP M (d + 1) pc L (as.reverse ++ S) h Q := by
  intro l p e s m args below meth c ad D tc H locs ls C X
  obtain ⟨hx, hb, hml, hown, hts, hre, hlocks, hK, hI, hC⟩ := id C
  have hst : (as.reverse ++ S).map (fwMv ad) = (as.map (fwMv ad)).reverse ++ S.map (fwMv ad) := by
    rw [List.map_append, List.map_reverse]
  have hr := va_runS (l := l) (e := e) (below := below) (meth := meth) (locs := locs) (cells := 0) (slots := 0) (R := fwRm (d + 1)) (As := as.map (fwMv ad)) (rest := S.map (fwMv ad)) (g := F0 m pc ls ((as.reverse ++ S).map (fwMv ad))) (index := idx) ⟨hx, hb, hml, hown, hts⟩ (kk l ad D tc) ⟨fw_callB hts hl hm, hts _ hv⟩
    ⟨fwPc_blind, fun U hU hW => ⟨rfl, by rw [hU]; exact X.1, va_K.moved hW.alike hK, hI, hC.go X.2.1 hU hW⟩⟩ rfl (by rw [List.length_map]; exact hn) X.2.2.1 hst (lv_room (by rw [fwCat_eq]; exact hS)) hd ⟨Nat.le_refl _, Nat.le_refl _⟩
  refine fw_run hr X.2.1 (fun r h' H1 locs1 hq9 hP1 hS1 => ?_)
  have := hq9 l p e s m args below meth c ad D tc H1 locs1 ls C ⟨hP1, hS1, X.2.2⟩
  rw [List.map_append] at this
  cases r <;> exact this
/-- a call on a String constant -/
theorem w_callT {M' : fwM} {idx i n : Nat} (as : List fwV) (hd : decode M.2.1 pc = .ok (.invokevirtual idx, 3)) (hl : Cond.methodLink M.1.cls idx M'.1 ∈ fwTb) (hm : fwMok M' n) (hv : fwMvi M') (hcn : M'.1.cls = "java/lang/String") (hi : i < 26) (hn : as.length = n) (hS : fwCat S ≤ 8)
    (kk : fwCt M' d (aR 50 i :: as) h (fun r h' => fwWP M (d + 1) (pc + 3) L (r.toList ++ S) h' Q)) : fwWP M (d + 1) pc L (as.reverse ++ aR 50 i :: S) h Q := by
  intro l p e s m args below meth c ad D tc H locs ls C X
  obtain ⟨hx, hb, hml, hown, hts, hre, hlocks, hK, hI, hC⟩ := id C
  have hrec : ∃ cell : Cell, H[ad 50 i]? = some cell ∧ cell.vm.isStatics = false ∧ s.vm.findClass M'.1.cls = some cell.cls := by
    obtain ⟨cell, h1, h2, h3, -⟩ := (hC.1 i hi).1.kept X.2.1.2.1
    exact ⟨cell, h1, h2, by rw [hcn]; exact h3⟩
  have hst : (as.reverse ++ aR 50 i :: S).map (fwMv ad) = (as.map (fwMv ad)).reverse ++ .ref (ad 50 i) :: S.map (fwMv ad) := by
    rw [List.map_append, List.map_reverse]
    rfl
  have hr := va_runV (l := l) (e := e) (below := below) (meth := meth) (locs := locs) (cells := 0) (slots := 0) (R := fwRm (d + 1)) (As := as.map (fwMv ad)) (rest := S.map (fwMv ad)) (g := F0 m pc ls ((as.reverse ++ aR 50 i :: S).map (fwMv ad))) (index := idx) ⟨hx, hb, hml, hown, hts⟩ (kk l ad D tc) ⟨fw_callB hts hl hm, hts _ hv.1, hts _ hv.2⟩
    ⟨fwPc_blind, hrec, fun U hU hW => ⟨rfl, by rw [hU]; exact X.1, va_K.moved hW.alike hK, hI, hC.go X.2.1 hU hW⟩⟩ rfl (by rw [List.length_map]; exact hn) X.2.2.1 hst (lv_room (by rw [fwCat_eq]; exact hS)) hd ⟨Nat.le_refl _, Nat.le_refl _⟩
  refine fw_run hr X.2.1 (fun r h' H1 locs1 hq9 hP1 hS1 => ?_)
  have := hq9 l p e s m args below meth c ad D tc H1 locs1 ls C ⟨hP1, hS1, X.2.2⟩
  rw [List.map_append] at this
  cases r <;> exact this
/-! Strings and the table of threes -/
theorem w_strValue {idx i : Nat} (hd : decode M.2.1 pc = .ok (.getfield idx, 3)) (hl : Cond.fieldLink M.1.cls idx "java/lang/String" "value" "[B" ∈ fwTb) (hi : i < 26) (kk : fwWP M d (pc + 3) L (aR 51 i :: S) h Q) : fwWP M d pc L (aR 50 i :: S) h Q := by
  intro l p e s m args below meth c ad D tc H locs ls C X
  obtain ⟨hx, hb, hml, hown, hts, hre, hlocks, hK, hI, hC⟩ := id C
  exact vk_getf hx hb (hC.1 i hi).2.2.1 X.2.1 hown (hts _ hl) (fun _ z => z) hd (kk l p e s m args below meth c ad D tc H locs ls C X)
theorem w_strCoder {idx i : Nat} (hd : decode M.2.1 pc = .ok (.getfield idx, 3)) (hl : Cond.fieldLink M.1.cls idx "java/lang/String" "coder" "B" ∈ fwTb) (hi : i < 26) (kk : fwWP M d (pc + 3) L (aI 0 :: S) h Q) : fwWP M d pc L (aR 50 i :: S) h Q := by
  intro l p e s m args below meth c ad D tc H locs ls C X
  obtain ⟨hx, hb, hml, hown, hts, hre, hlocks, hK, hI, hC⟩ := id C
  exact vk_getf hx hb (hC.1 i hi).2.1 X.2.1 hown (hts _ hl) (fun _ z => z) hd (kk l p e s m args below meth c ad D tc H locs ls C X)
theorem w_strLen {i : Nat} (hd : decode M.2.1 pc = .ok (.arraylength, 1)) (hi : i < 26) (kk : fwWP M d (pc + 1) L (aI (fwSb i).length :: S) h Q) : fwWP M d pc L (aR 51 i :: S) h Q := by
  intro l p e s m args below meth c ad D tc H locs ls C X
  obtain ⟨hx, hb, hml, hown, hts, hre, hlocks, hK, hI, hC⟩ := id C
  exact va_tlen hx hb (hC.1 i hi).2.2.2 X.2.1 (v := Int32.ofInt (fwSb i).length) rfl hd (kk l p e s m args below meth c ad D tc H locs ls C X)
theorem fwSb_len : ∀ i, i < 26 → (fwSb i).length ≤ 5 := by decide +kernel
theorem w_strByte {i : Nat} {x : Int} (hd : decode M.2.1 pc = .ok (.baload, 1)) (hi : i < 26) (h0 : 0 ≤ x) (h1 : x < (fwSb i).length) (kk : fwWP M d (pc + 1) L (aI ((fwSb i).getD x.toNat 0) :: S) h Q) : fwWP M d pc L (aI x :: aR 51 i :: S) h Q := by
  intro l p e s m args below meth c ad D tc H locs ls C X
  obtain ⟨hx, hb, hml, hown, hts, hre, hlocks, hK, hI, hC⟩ := id C
  have h5 := fwSb_len i hi
  exact va_tb hx hb (hC.1 i hi).2.2.2 X.2.1 (fwI_in h0 h1 (by omega)) (by rw [fwI_cl h0 (by omega)]; rfl) hd (kk l p e s m args below meth c ad D tc H locs ls C X)
theorem w_compact {idx : Nat} (hd : decode M.2.1 pc = .ok (.getstatic idx, 3)) (hl : Cond.fieldLink M.1.cls idx "java/lang/String" "COMPACT_STRINGS" "Z" ∈ fwTb) (kk : fwWP M d (pc + 3) L (aI 1 :: S) h Q) : fwWP M d pc L S h Q := by
  intro l p e s m args below meth c ad D tc H locs ls C X
  obtain ⟨hx, hb, hml, hown, hts, hre, hlocks, hK, hI, hC⟩ := id C
  exact va_gets hx hb hC.2.2.2.2.1 X.2.1 hown (hts _ hl) (fun _ z => z) hd (kk l p e s m args below meth c ad D tc H locs ls C X)
theorem w_threes {idx : Nat} (hd : decode M.2.1 pc = .ok (.getstatic idx, 3)) (hl : Cond.fieldLink M.1.cls idx "FootLower$Petition" "THREES" "[I" ∈ fwTb) (kk : fwWP M d (pc + 3) L (aR 52 0 :: S) h Q) : fwWP M d pc L S h Q := by
  intro l p e s m args below meth c ad D tc H locs ls C X
  obtain ⟨hx, hb, hml, hown, hts, hre, hlocks, hK, hI, hC⟩ := id C
  exact va_gets hx hb hC.2.2.1 X.2.1 hown (hts _ hl) (fun _ z => z) hd (kk l p e s m args below meth c ad D tc H locs ls C X)
theorem w_thrLen (hd : decode M.2.1 pc = .ok (.arraylength, 1)) (kk : fwWP M d (pc + 1) L (aI 8 :: S) h Q) : fwWP M d pc L (aR 52 0 :: S) h Q := by
  intro l p e s m args below meth c ad D tc H locs ls C X
  obtain ⟨hx, hb, hml, hown, hts, hre, hlocks, hK, hI, hC⟩ := id C
  exact va_tlen hx hb hC.2.2.2.1 X.2.1 (v := Int32.ofInt 8) rfl hd (kk l p e s m args below meth c ad D tc H locs ls C X)
theorem w_thrAt {x : Int} (hd : decode M.2.1 pc = .ok (.iaload, 1)) (h0 : 0 ≤ x) (h1 : x < 8) (kk : fwWP M d (pc + 1) L (aI (fwTh.getD x.toNat 0) :: S) h Q) : fwWP M d pc L (aI x :: aR 52 0 :: S) h Q := by
  intro l p e s m args below meth c ad D tc H locs ls C X
  obtain ⟨hx, hb, hml, hown, hts, hre, hlocks, hK, hI, hC⟩ := id C
  exact va_ti hx hb hC.2.2.2.1 X.2.1 (fwI_in h0 h1 (by decide)) (by rw [fwI_cl h0 (by omega)]; rfl) hd (kk l p e s m args below meth c ad D tc H locs ls C X)
/-! tableswitch -/
theorem w_tabIn {x dflt lo hi off : Int} {offs : Array Int} {len : Nat} (tgt : Nat) (hd : decode M.2.1 pc = .ok (.tableswitch dflt lo hi offs, len)) (hx : -2147483648 ≤ x ∧ x < 2147483648) (h1 : lo ≤ x) (h2 : x ≤ hi) (ho : offs[(x - lo).toNat]? = some off) (ht : (pc : Int) + off = (tgt : Int)) (k : fwWP M d tgt L S h Q) : fwWP M d pc L (aI x :: S) h Q := by
  intro l p e s m args below meth c ad D tc H locs ls C X
  exact lv_tableIn C.1 C.2.1 hd (by rw [fwI_rt hx]; omega) (by rw [fwI_rt hx]; omega) (by rw [fwI_rt hx]; exact ho) ht (k l p e s m args below meth c ad D tc H locs ls C X)
theorem w_tabOut {x dflt lo hi : Int} {offs : Array Int} {len : Nat} (tgt : Nat) (hd : decode M.2.1 pc = .ok (.tableswitch dflt lo hi offs, len)) (hx : -2147483648 ≤ x ∧ x < 2147483648) (h1 : x < lo ∨ hi < x) (ht : (pc : Int) + dflt = (tgt : Int)) (k : fwWP M d tgt L S h Q) : fwWP M d pc L (aI x :: S) h Q := by
  intro l p e s m args below meth c ad D tc H locs ls C X
  exact lv_tableOut C.1 C.2.1 hd (by rw [fwI_rt hx]; exact h1) ht (k l p e s m args below meth c ad D tc H locs ls C X)
end FWD
