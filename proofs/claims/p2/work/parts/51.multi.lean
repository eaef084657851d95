/-! a row of four rows of sixty longs, made by one instruction -/
def km_i (comp : ClassId) : Cell := { cls := comp, slots := Array.replicate 60 (defaultValue .long), vm := .none }
def km_o (cA : ClassId) (h0 : Nat) : Nat → Cell
  | 0 => { cls := cA, slots := Array.replicate 4 .null, vm := .none }
  | i + 1 => (km_o cA h0 i).setSlot i (.ref (h0 + 1 + i))
def km_s (s : State) (cA comp : ClassId) : Nat → State
  | 0 => s.pushCell (km_o cA s.heap.size 0)
  | i + 1 => ((km_s s cA comp i).pushCell (km_i comp)).setCell s.heap.size (km_o cA s.heap.size (i + 1))
theorem km_oc (cA : ClassId) (h0 : Nat) : ∀ i, (km_o cA h0 i).cls = cA ∧ (km_o cA h0 i).vm = .none ∧ (km_o cA h0 i).slots.size = 4 := by
  intro i
  induction i with
  | zero => exact ⟨rfl, rfl, by simp [km_o]⟩
  | succ i ih => exact ⟨by simp [km_o, Cell.setSlot, ih.1], by simp [km_o, Cell.setSlot, ih.2.1], by simp [km_o, Cell.setSlot, ih.2.2]⟩
theorem km_sf (s : State) (cA comp : ClassId) : ∀ i, (km_s s cA comp i).heap.size = s.heap.size + 1 + i ∧ (km_s s cA comp i).heap[s.heap.size]? = some (km_o cA s.heap.size i) ∧ (km_s s cA comp i).vm = s.vm ∧ (km_s s cA comp i).slotsUsed = s.slotsUsed + 4 + i * 60 := by
  intro i
  induction i with
  | zero => exact ⟨by simp [km_s], by simp [km_s], rfl, by simp [km_s, km_o]⟩
  | succ i ih =>
    obtain ⟨a, b, d, u⟩ := ih
    have hlt : s.heap.size < (km_s s cA comp i).heap.size := by omega
    have hb : ((km_s s cA comp i).pushCell (km_i comp)).heap[s.heap.size]? = some (km_o cA s.heap.size i) := by rw [State.heap_pushCell_of_lt (h := hlt)]; exact b
    refine ⟨?_, State.heap_setCell_self hb, by simp [km_s, d], ?_⟩
    · simp [km_s, State.setCell, a]; omega
    · simp [km_s, u, km_i, Nat.succ_mul]; omega
theorem km_st (s : State) (f : JFrame) (cA comp : ClassId) : ∀ i, km_s (s.setTop f) cA comp i = (km_s s cA comp i).setTop f := by
  intro i
  induction i with
  | zero => rfl
  | succ i ih => simp only [km_s, ih, State.heap_setTop, State.pushCell_setTop, State.setCell_setTop]
theorem km_old (s : State) (cA comp : ClassId) {a : Addr} (ha : a < s.heap.size) : ∀ i, (km_s s cA comp i).heap[a]? = s.heap[a]? := by
  intro i
  induction i with
  | zero => exact State.heap_pushCell_of_lt _ _ ha
  | succ i ih =>
    have f1 := (km_sf s cA comp i).1
    show (((km_s s cA comp i).pushCell (km_i comp)).setCell s.heap.size _).heap[a]? = _
    have hlt : a < (km_s s cA comp i).heap.size := Nat.lt_of_lt_of_le ha (by rw [f1]; omega)
    rw [State.heap_setCell_other (Nat.ne_of_gt ha), State.heap_pushCell_of_lt (h := hlt)]
    exact ih
theorem km_new (s : State) (cA comp : ClassId) : ∀ i j, j < i → (km_s s cA comp i).heap[s.heap.size + 1 + j]? = some (km_i comp) := by
  intro i
  induction i with
  | zero => intro j h; omega
  | succ i ih =>
    intro j h
    have f1 := (km_sf s cA comp i).1
    show (((km_s s cA comp i).pushCell (km_i comp)).setCell s.heap.size _).heap[s.heap.size + 1 + j]? = _
    rw [State.heap_setCell_other (show s.heap.size ≠ s.heap.size + 1 + j by omega)]
    rcases Nat.lt_or_ge j i with hj | hj
    · have hlt : s.heap.size + 1 + j < (km_s s cA comp i).heap.size := by rw [f1]; omega
      rw [State.heap_pushCell_of_lt (h := hlt)]
      exact ih j hj
    · have e : j = i := by omega
      subst e
      rw [← f1]
      exact State.heap_pushCell_size _ _
theorem km_os (cA : ClassId) (h0 : Nat) : ∀ i j, j < 4 → (km_o cA h0 i).slots[j]? = some (if j < i then .ref (h0 + 1 + j) else .null) := by
  intro i
  induction i with
  | zero => intro j h; simp [km_o, h]
  | succ i ih =>
    intro j h
    have hs := (km_oc cA h0 i).2.2
    show ((km_o cA h0 i).setSlot i (.ref (h0 + 1 + i))).slots[j]? = _
    simp only [Cell.setSlot, Array.getElem?_setIfInBounds]
    by_cases e : i = j
    · subst e; simp [hs, h]
    · rw [if_neg e, ih j h]
      by_cases hj : j < i
      · rw [if_pos hj, if_pos (by omega)]
      · rw [if_neg hj, if_neg (by omega)]
section KMW
variable {E : CtlPost} {e : Env} {d : Bool} {acts : List Action} {s : State}
theorem km_make1 {comp cc : ClassId} {kc : Class} (hkc : s.vm.classes[comp]? = some kc) (hkindc : kc.kind = .array cc .long) (hl2 : ¬ 60 > e.platform.arrayLengthLimit) (hh2 : ¬ 60 * componentBytes .long > e.platform.maxHeapBytes) (h1 : s.heap.size < e.platform.maxCells) (h2 : s.slotsUsed + 60 ≤ e.platform.maxSlots)
    {Q : Addr → Pre} (hq : ∀ acts', Q s.heap.size d acts' (s.pushCell (km_i comp))) : wp (multianewarray.make comp [60]) Q E e d acts s := by
  rw [multianewarray.make]
  have hm : ¬ (60 : Int32) < 0 := by decide
  have hn : (60 : Int32).toNatClampNeg = 60 := by decide
  simp only [wp_bind', W.ite, hm, if_false, wp_pure', W.theClass, hkc, hkindc, Option.some.injEq, exists_eq_left', hn]
  exact W.newArray_of hkc hkindc hl2 hh2 h1 h2 rfl hq
theorem km_make2 {c comp cc : ClassId} {k kc : Class} (hk : s.vm.classes[c]? = some k) (hkind : k.kind = .array comp (.array .long)) (hkc : s.vm.classes[comp]? = some kc) (hkindc : kc.kind = .array cc .long)
    (hl1 : ¬ 4 > e.platform.arrayLengthLimit) (hh1 : ¬ 4 * componentBytes (.array .long) > e.platform.maxHeapBytes) (hl2 : ¬ 60 > e.platform.arrayLengthLimit) (hh2 : ¬ 60 * componentBytes .long > e.platform.maxHeapBytes)
    (hc : s.heap.size + 5 ≤ e.platform.maxCells) (hs : s.slotsUsed + 244 ≤ e.platform.maxSlots) {Q : Addr → Pre} (hq : ∀ d' acts', Q s.heap.size d' acts' (km_s s c comp 4)) : wp (multianewarray.make c [4, 60]) Q E e d acts s := by
  have hn : ¬ (4 : Int32) < 0 := by decide
  have hnn : (4 : Int32).toNatClampNeg = 4 := by decide
  have hfind : (([60] : List Int32).find? (· < 0)) = none := by decide
  rw [multianewarray.make]
  simp only [wp_bind', W.ite, hn, if_false, wp_pure', W.theClass, hk, hkind, Option.some.injEq, exists_eq_left', hnn]
  refine W.newArray_of hk hkind hl1 hh1 (by omega) (by omega) rfl (fun acts1 => ?_)
  simp only [hfind]
  rw [ite_self, wp_bind', Std.Legacy.Range.forIn_eq_forIn_range']
  have hsz : ([:4] : Std.Legacy.Range).size = 4 := by simp [Std.Legacy.Range.size]
  rw [hsz]
  show wp (forIn (List.range' 0 4 1) PUnit.unit _) _ E e d acts1 _
  refine wp_forIn_inv (fun rest s' => ∃ i, i ≤ 4 ∧ rest = List.range' i (4 - i) ∧ s' = km_s s c comp i) _ _ ⟨0, Nat.zero_le _, rfl, rfl⟩ ?_ ?_
  · rintro x rest s' d' acts' Q' ⟨i, hi, hl, rfl⟩ hnext
    have hlt : i < 4 := by
      rcases Nat.lt_or_ge i 4 with h | h
      · exact h
      · rw [show 4 - i = 0 from by omega] at hl; simp at hl
    obtain ⟨rfl, hrest⟩ : x = i ∧ rest = List.range' (i + 1) (4 - (i + 1)) := by
      rw [show 4 - i = (4 - (i + 1)) + 1 from by omega, List.range'_succ] at hl
      exact ⟨(List.cons.inj hl).1, (List.cons.inj hl).2⟩
    obtain ⟨f1, f2, f3, f4⟩ := km_sf s c comp x
    obtain ⟨o1, o2, o3⟩ := km_oc c s.heap.size x
    simp only [wp_bind']
    refine km_make1 (by rw [f3]; exact hkc) hkindc hl2 hh2 (by rw [f1]; omega) (by rw [f4]; omega) (fun acts2 => ?_)
    simp only [wp_bind', W.writeLoc, wp_pure']
    have hlt0 : s.heap.size < (km_s s c comp x).heap.size := by rw [f1]; omega
    refine ⟨km_o c s.heap.size x, by rw [State.heap_pushCell_of_lt (h := hlt0)]; exact f2, by rw [o2]; simp, by rw [o3]; exact hlt, ?_, hnext _ _ _ ⟨x + 1, hlt, hrest, ?_⟩⟩
    · rw [o1, o2]
      simp [State.fitsSlot, State.slotType?, f3, hk, hkind, fits]
    · rw [f1]; rfl
  · rintro s' d' acts' ⟨i, hi, hl, rfl⟩
    have hiN : i = 4 := by
      rcases Nat.lt_or_ge i 4 with h | h
      · rw [show 4 - i = (4 - (i + 1)) + 1 from by omega, List.range'_succ] at hl; cases hl
      · omega
    subst hiN
    simp only [wp_pure']
    exact hq _ _
end KMW
section KMS
variable {p : Program} {l : Launch} {e : Env} {R : Room} {s : State} {m : MethodId} {args : Array Value} {below : List Frame} {meth : Method} {c : Code} {T : State} {H : Heap} {locs : List Loc} {cells slots : Nat} {Q : State → Prop}
theorem km_stand (X : Stand p l e R s m args below meth c T locs cells slots) (cA comp : ClassId) : ∀ i, Stand p l e R s m args below meth c (km_s T cA comp i) (locs ++ (List.range i).map fun j => ⟨T.heap.size, j⟩) (cells + 1 + i) (slots + 4 + i * 60) := by
  intro i
  induction i with
  | zero =>
    have h := X.pushed (km_o cA T.heap.size 0)
    rw [(km_oc cA T.heap.size 0).2.2] at h
    simpa [km_s] using h
  | succ i ih =>
    obtain ⟨f1, f2, f3, f4⟩ := km_sf T cA comp i
    have hlt : T.heap.size < (km_s T cA comp i).heap.size := by rw [f1]; omega
    have hcell : ((km_s T cA comp i).pushCell (km_i comp)).heap[T.heap.size]? = some (km_o cA T.heap.size i) := by rw [State.heap_pushCell_of_lt (h := hlt)]; exact f2
    have h := (ih.pushed (km_i comp)).stored hcell i (.ref (T.heap.size + 1 + i))
    have e1 : (km_i comp).slots.size = 60 := by simp [km_i]
    rw [e1] at h
    have e2 : (locs ++ (List.range (i + 1)).map fun j => (⟨T.heap.size, j⟩ : Loc)) = (locs ++ (List.range i).map fun j => (⟨T.heap.size, j⟩ : Loc)) ++ [⟨T.heap.size, i⟩] := by simp [List.range_succ, List.append_assoc]
    have e3 : slots + 4 + (i + 1) * 60 = slots + 4 + i * 60 + 60 := by omega
    rw [e2, e3]
    exact h
theorem W_multi {cc : ByteArray} (hexec : p.tables.exec = Jvm.exec) (hb : c.code = cc) {own : String} {index : Nat} (hown : s.vm.findClass own = some m.cls) (hclink : (Cond.classLink own index "[[J").before args s = true)
    {comp cA cc9 : ClassId} {k1 k2 : Class} (r2 : s.vm.findClass "[[J" = some cA) (r3 : s.vm.classes[cA]? = some k1) (r4 : k1.kind = .array comp (.array .long)) (r5 : s.vm.classes[comp]? = some k2) (r6 : k2.kind = .array cc9 .long)
    {g : JFrame} (hg : g.method = m) (hdg : decode cc g.pc = .ok (.multianewarray index 2, 4)) {rest : List Value} (hstack : g.stack = .int 60 :: .int 4 :: rest) (hcells : cells + 5 ≤ R.cells) (hslots : slots + 244 ≤ R.slots)
    (kk : ∀ (H1 : Heap) (locs1 : List Loc), H1.size = H.size + 5 → H1[H.size]? = some (km_o cA H.size 4) → (∀ j, j < 4 → H1[H.size + 1 + j]? = some (km_i comp)) → (∀ q, q < H.size → H1[q]? = H[q]?) → (∀ q ∈ locs1, q ∈ locs ∨ q.base = H.size) → W p l e R s m args below meth c H1 locs1 (cells + 5) (slots + 244) Q { g with pc := g.pc + 4, stack := .ref H.size :: rest }) : W p l e R s m args below meth c H locs cells slots Q g := by
  intro T hT X
  subst hT; subst hb; subst hg
  have hpl : e.platform.magicAccessors = ({} : Platform).magicAccessors := by rw [X.admits.platform]
  obtain ⟨c0, hfc0, hcl⟩ := Cond.classLink_spec hown hclink e.platform hpl
  cases r2.symm.trans hfc0
  obtain ⟨hg₁, hwarm₁, hready₁⟩ := State.classEntry (e := e) X.warmed hcl
  generalize T.vm.noted g.method.cls index (.cls cA) = vm₁ at hg₁ hwarm₁ hready₁
  have hal : s.vm.Alike vm₁ := hwarm₁.alike
  obtain ⟨k1', hk1, he1⟩ := hal.2.2 _ _ r3
  obtain ⟨k2', hk2, he2⟩ := hal.2.2 _ _ r5
  have hd1 : k1'.kind = .array comp (.array .long) := by rw [he1]; exact r4
  have hd2 : k2'.kind = .array cc9 .long := by rw [he2]; exact r6
  have X₁ := X.noted hwarm₁
  obtain ⟨hr1, hr2⟩ := X.roomAbove hcells hslots
  have XF := km_stand X₁ cA comp 4
  obtain ⟨f1, f2, -, -⟩ := km_sf (T.setVm vm₁) cA comp 4
  obtain ⟨t', a1, b1⟩ := kk (km_s (T.setVm vm₁) cA comp 4).heap _ f1 f2 (fun j hj => km_new (T.setVm vm₁) cA comp 4 j hj) (fun q hq => km_old (T.setVm vm₁) cA comp hq 4) (fun q hq => by
    rcases List.mem_append.mp hq with h | h
    · exact Or.inl h
    · obtain ⟨j, -, rfl⟩ := List.mem_map.mp h
      exact Or.inr rfl) (km_s (T.setVm vm₁) cA comp 4) rfl XF
  refine ⟨t', ?_, b1⟩
  have hl1 : ¬ 4 > e.platform.arrayLengthLimit := by rw [Launch.admits_arrayLengthLimit X.admits]; omega
  have hh1 : ¬ 4 * componentBytes (.array .long) > e.platform.maxHeapBytes := by rw [Launch.admits_maxHeapBytes X.admits]; decide
  have hl2 : ¬ 60 > e.platform.arrayLengthLimit := by rw [Launch.admits_arrayLengthLimit X.admits]; omega
  have hh2 : ¬ 60 * componentBytes .long > e.platform.maxHeapBytes := by rw [Launch.admits_maxHeapBytes X.admits]; decide
  jvm_step X.here [hexec, hdg]
  simp only [multianewarray.sem, wp_bind', W.resolveClassAt_links (State.method?_setTop g X.here.top) hg₁]
  rw [W.popN, if_neg (by decide)]
  refine ⟨g, State.topJava?_setTop' (s := T.setVm vm₁) g X.here.top, [.int 4, .int 60], rest, rfl, hstack, ?_⟩
  simp only [List.mapM_cons, List.mapM_nil, wp_bind', wp_pure']
  refine km_make2 (k := k1') (kc := k2') (comp := comp) (cc := cc9) hk1 hd1 hk2 hd2 hl1 hh1 hl2 hh2 (by show T.heap.size + 5 ≤ _; omega) (by show T.slotsUsed + 244 ≤ _; omega) (fun d' acts' => ?_)
  have eS : ((T.setTop g).setVm vm₁).setTop { g with stack := rest } = (T.setVm vm₁).setTop { g with stack := rest } := by
    show ((T.setVm vm₁).setTop g).setTop _ = _
    rw [State.setTop_setTop]
  rw [eS, km_st]
  simp only [wp_bind', W.mark, W.pushRef, State.topJava?_setTop' _ XF.here.top, Option.some.injEq, exists_eq_left', State.setTop_setTop, State.heap_setTop]
  intro acts
  simp [jvm, XF.here.top]
  exact a1
end KMS
def kmC (n0 : Nat) (tc : Nat → ClassId) (a : Nat) : List va_E := [.inl (tc 5, 4, .inr (.inr (.inr (.inr (fun j => if j < 4 then some (n0 + (a + 1 + j)) else none))))), .inl (tc 3, 60, .inr (.inl (fun _ => 0))), .inl (tc 3, 60, .inr (.inl (fun _ => 0))), .inl (tc 3, 60, .inr (.inl (fun _ => 0))), .inl (tc 3, 60, .inr (.inl (fun _ => 0)))]
theorem kWd_apps (n0 : Nat) (cs es : List va_E) : kWd n0 (cs ++ es) = kWd n0 cs ++ kWd (n0 + cs.length) es := by
  have hl : (kWd n0 cs).length = cs.length := by simp [kWd]
  apply List.ext_getElem?
  intro j
  rw [kWd_get]
  by_cases h : j < cs.length
  · rw [List.getElem?_append_left h, List.getElem?_append_left (by omega), kWd_get]
  · rw [List.getElem?_append_right (by omega), List.getElem?_append_right (by omega), kWd_get, hl]
    cases es[j - cs.length]? with
    | none => rfl
    | some e =>
      show some _ = some _
      rw [show n0 + cs.length + (j - cs.length) = n0 + j by omega]
theorem k_multi {n0 : Nat} {tc : Nat → ClassId} {M : fwM} {d mc ms pc nc ns idx : Nat} {L : List (Option fwV)} {S : List fwV} {cs : List va_E} {Q : List va_E → Prop} (hd : decode M.2.1 pc = .ok (.multianewarray idx 2, 4)) (hl : Cond.classLink M.1.cls idx "[[J" ∈ fwTb) (h1 : nc + 5 ≤ mc) (h2 : ns + 244 ≤ ms)
    (k : kWP n0 tc M d mc ms (pc + 4) L (aR 0 cs.length :: S) (cs ++ kmC n0 tc cs.length) (nc + 5) (ns + 244) Q) : kWP n0 tc M d mc ms pc L (aI 60 :: aI 4 :: S) cs nc ns Q := by
  intro l p e s m args below meth c D H locs ls C X
  obtain ⟨hx, hb, hml, hown, hts, hre, hlk, hnm, hK, hge, hN9⟩ := id C
  obtain ⟨comp, cA, cc9, k1, k2, r1, r2, r3, r4, r5, r6⟩ := hN9.2.2
  have e5 : cA = tc 5 := by
    have h9 : s.vm.findClass ("[" ++ (FieldType.array .long).toString) = some (tc 5) := (hK.2 5 _ rfl).2
    rw [show "[" ++ (FieldType.array .long).toString = "[[J" by first | rfl | decide] at h9
    exact Option.some.inj (r2.symm.trans h9)
  have e3 : comp = tc 3 := by
    have h9 : s.vm.findClass ("[" ++ (FieldType.long).toString) = some (tc 3) := (hK.2 3 _ rfl).2
    rw [show "[" ++ (FieldType.long).toString = "[J" by first | rfl | decide] at h9
    exact Option.some.inj (r1.symm.trans h9)
  subst e5
  subst e3
  refine W_multi hx hb hown (hts _ hl) r2 r3 r4 r5 r6 rfl hd rfl h1 h2 (fun H1 locs1 z1 q0 q1 o1 hlo => ?_)
  rw [X.2.1] at z1 q0 q1 o1 hlo ⊢
  refine k l p e s m args below meth c D H1 locs1 ls C ⟨?_, ?_, ⟨?_, fun q g1 g2 => ?_, fun q hq => ?_⟩, X.2.2.2⟩
  · rw [kWd_apps]
    refine (X.1.kept fun i x hx9 => o1 x.1 (by rw [← X.2.1]; exact (X.1 i x hx9).lt)).app (fun i x hi => ?_)
    rw [kWd_get] at hi
    have hin : ∀ j : Nat, j < 4 → H1[n0 + cs.length + 1 + j]? = some (vp_cell (tc 3) (60, .inr (.inl (fun _ => 0)))) := by
      intro j hj
      rw [q1 j hj, vp_cell_l, ← arrV_new]
      rfl
    match i, hi with
    | 0, hi =>
      cases hi
      show H1[n0 + cs.length]? = some (vp_cell _ _)
      rw [q0, vp_cell_q]
      congr 1
    | 1, hi => cases hi; exact hin 0 (by omega)
    | 2, hi => cases hi; exact hin 1 (by omega)
    | 3, hi => cases hi; exact hin 2 (by omega)
    | 4, hi => cases hi; exact hin 3 (by omega)
    | i + 5, hi => simp [kmC] at hi
  · rw [z1, List.length_append]
    rfl
  · have := X.2.2.1.1
    have := X.2.1
    omega
  · rw [o1 q (by have := X.2.2.1.1; have := X.2.1; omega)]
    exact X.2.2.1.2.1 q g1 g2
  · rcases hlo q hq with h | h
    · exact X.2.2.1.2.2 q h
    · show n0 ≤ q.base
      rw [h]
      exact Nat.le_add_right _ _
