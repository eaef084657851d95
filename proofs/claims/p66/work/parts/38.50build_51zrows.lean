section
/-! building: the cells lie one behind another from n0 on; a reference is (0, its place) -/
abbrev kA (n0 : Nat) : Nat → Prop := fun q => n0 ≤ q
abbrev kad (n0 : Nat) : Nat → Nat → Nat := fun _ j => n0 + j
def kWd (n0 : Nat) (cs : List va_E) : va_W := (List.range cs.length).map (fun j => (n0 + j, cs.getD j (.inr (0, []))))
theorem kWd_get (n0 : Nat) (cs : List va_E) (j : Nat) : (kWd n0 cs)[j]? = (cs[j]?).map (fun e => (n0 + j, e)) := by
  unfold kWd
  rw [List.getElem?_map]
  by_cases h : j < cs.length
  · rw [List.getElem?_range h]
    show some (n0 + j, cs.getD j (.inr (0, []))) = _
    rw [List.getD_eq_getElem?_getD, List.getElem?_eq_getElem h]
    rfl
  · rw [List.getElem?_eq_none (by simpa using h), List.getElem?_eq_none (by omega)]
    rfl
theorem kWd_at {n0 : Nat} {cs : List va_E} {j : Nat} {e : va_E} (h : cs[j]? = some e) : (kWd n0 cs)[j]? = some (n0 + j, e) := by
  rw [kWd_get, h]
  rfl
theorem kWd_app (n0 : Nat) (cs : List va_E) (e : va_E) : kWd n0 (cs ++ [e]) = kWd n0 cs ++ [(n0 + cs.length, e)] := by
  have hl : (kWd n0 cs).length = cs.length := by simp [kWd]
  apply List.ext_getElem?
  intro j
  rw [kWd_get]
  rcases Nat.lt_trichotomy j cs.length with h | h | h
  · rw [List.getElem?_append_left h, List.getElem?_append_left (by omega), kWd_get]
  · rw [List.getElem?_append_right (by omega), List.getElem?_append_right (by omega), hl, h, Nat.sub_self]
    rfl
  · rw [List.getElem?_append_right (by omega), List.getElem?_append_right (by omega), hl]
    have e1 : ([e] : List va_E)[j - cs.length]? = none := List.getElem?_eq_none (by simp; omega)
    have e2 : ([(n0 + cs.length, e)] : va_W)[j - cs.length]? = none := List.getElem?_eq_none (by simp; omega)
    rw [e1, e2]
    rfl
theorem kWd_set (n0 : Nat) (cs : List va_E) (j : Nat) (e : va_E) : (kWd n0 cs).set j (n0 + j, e) = kWd n0 (cs.set j e) := by
  have hl : (kWd n0 cs).length = cs.length := by simp [kWd]
  apply List.ext_getElem?
  intro i
  rw [kWd_get]
  by_cases hij : j = i
  · subst hij
    by_cases h : j < cs.length
    · rw [List.getElem?_set_self (by omega), List.getElem?_set_self h]
      rfl
    · rw [List.getElem?_eq_none (by simp; omega), List.getElem?_eq_none (by simp; omega)]
      rfl
  · rw [List.getElem?_set_ne hij, List.getElem?_set_ne hij, kWd_get]
theorem kD (n0 : Nat) (cs : List va_E) : va_D (kA n0) (kWd n0 cs) := by
  constructor
  · intro i j p q hp hq e
    rw [kWd_get] at hp hq
    cases h1 : cs[i]? with
    | none => rw [h1] at hp; cases hp
    | some a =>
      cases h2 : cs[j]? with
      | none => rw [h2] at hq; cases hq
      | some b =>
        rw [h1] at hp
        rw [h2] at hq
        cases hp
        cases hq
        dsimp only at e
        omega
  · intro j q hq
    rw [kWd_get] at hq
    cases h1 : cs[j]? with
    | none => rw [h1] at hq; cases hq
    | some a =>
      rw [h1] at hq
      cases hq
      exact Nat.le_add_right _ _
/-- the tables' words on rows of rows of long -/
def kRR (U : State) : Prop := ∃ (comp cA cc : ClassId) (k1 k2 : Class), U.vm.findClass "[J" = some comp ∧ U.vm.findClass "[[J" = some cA ∧ U.vm.classes[cA]? = some k1 ∧ k1.kind = .array comp (.array .long) ∧ U.vm.classes[comp]? = some k2 ∧ k2.kind = .array cc .long
theorem kRR.moved {u U : State} (hvm : u.vm.Alike U.vm) (h : kRR u) : kRR U := by
  obtain ⟨comp, cA, cc, k1, k2, h1, h2, h3, h4, h5, h6⟩ := h
  obtain ⟨k1', hk1, e1⟩ := hvm.2.2 _ _ h3
  obtain ⟨k2', hk2, e2⟩ := hvm.2.2 _ _ h5
  exact ⟨comp, cA, cc, k1', k2', by rw [hvm.findClass]; exact h1, by rw [hvm.findClass]; exact h2, hk1, by rw [e1]; exact h4, hk2, by rw [e2]; exact h6⟩
def kNs (U : State) : Prop := (∀ (a : String) (i : Nat) (x : MethodName) (h : String), Cond.methodLinkNest a i x h ∈ lw_tbl → va_Nw (.methodLinkNest a i x h) U) ∧ va_AO "FootLower$Mountain" U ∧ kRR U
theorem kNs.warm {s U : State} (hW : s.WarmedH U.vm) (h : kNs s) : kNs U := ⟨fun a i x hh hw => (h.1 a i x hh hw).warmM hW, va_AO.moved hW.alike h.2.1, kRR.moved hW.alike h.2.2⟩
theorem kNs.same {u U : State} (hv : U.vm = u.vm) (h : kNs u) : kNs U := by
  have al : u.vm.Alike U.vm := by rw [hv]; exact Vm.Alike.refl _
  exact ⟨fun a i x hh hw => (h.1 a i x hh hw).same rfl hv.symm, va_AO.moved al h.2.1, kRR.moved al h.2.2⟩
def kRm (d mc ms : Nat) : Room := { frames := d, cells := mc, slots := ms, locals := 64 * d }
def kQ (n0 : Nat) (D : va_G) (Q : List va_E → Prop) : Array Value → State → Outcome → State → Prop := fun _ st oc t =>
  oc = .returned none ∧ (∃ cs : List va_E, Q cs ∧ va_P D vwCl (kWd n0 cs) t.heap ∧ t.heap.size = n0 + cs.length) ∧ va_F (kA n0) st t
def kCx (p : Program) (s : State) (m : MethodId) (args : Array Value) (meth : Method) (c : Code) (M : fwM) (D : va_G) (tc : Nat → ClassId) (n0 : Nat) : Prop :=
  p.tables.exec = Jvm.exec ∧ c.code = M.2.1 ∧ c.maxLocals = M.2.2.1 ∧ s.vm.findClass M.1.cls = some m.cls ∧ (∀ w ∈ fwTb, w.before args s = true) ∧ meth.sig.returnType = M.2.2.2 ∧ meth.locks = false ∧ meth.name = M.1.name ∧ va_K D vwCl (fwTy tc) s ∧ n0 ≤ s.heap.size ∧ kNs s
def kRl (s : State) (H : Heap) (locs : List Loc) (ls : Array Slot) (M : fwM) (D : va_G) (n0 : Nat) (cs : List va_E) (L : List (Option fwV)) : Prop :=
  va_P D vwCl (kWd n0 cs) H ∧ H.size = n0 + cs.length ∧ va_S (kA n0) s.heap H locs ∧ fwLv (kad n0) ls M.2.2.1 L
/-- from here the method M, which builds, ends, with Q of the cells then; nc cells, ns slots were made so far, mc and ms in all -/
def kWP (n0 : Nat) (tc : Nat → ClassId) (M : fwM) (d mc ms pc : Nat) (L : List (Option fwV)) (S : List fwV) (cs : List va_E) (nc ns : Nat) (Q : List va_E → Prop) : Prop :=
  ∀ (l : Launch) (p : Program) (e : Env) (s : State) (m : MethodId) (args : Array Value) (below : List Frame) (meth : Method) (c : Code) (D : va_G) (H : Heap) (locs : List Loc) (ls : Array Slot),
    kCx p s m args meth c M D tc n0 → kRl s H locs ls M D n0 cs L →
    W p l e (kRm d mc ms) s m args below meth c H locs nc ns (MQ below (kQ n0 D Q) args s mc ms (kA n0)) (F0 m pc ls (S.map (fwMv (kad n0))))
def kPc (n0 : Nat) (D : va_G) (tc : Nat → ClassId) (vs : List fwV) (cs : List va_E) : Array Value → State → Prop :=
  va_Pc (vs.map (fwMv (kad n0))) (fun U => va_P D vwCl (kWd n0 cs) U.heap ∧ U.heap.size = n0 + cs.length ∧ va_K D vwCl (fwTy tc) U ∧ kNs U)
def kCt (n0 : Nat) (tc : Nat → ClassId) (M : fwM) (d mc ms : Nat) (vs : List fwV) (cs : List va_E) (Q : List va_E → Prop) : Prop :=
  ∀ (l : Launch) (D : va_G), Met l M.1 (fwWs M) (kRm d mc ms) (kPc n0 D tc vs cs) (kQ n0 D Q) mc ms (kA n0)
theorem kPc_blind {n0 : Nat} {D : va_G} {tc : Nat → ClassId} {vs : List fwV} {cs : List va_E} : FrameBlind (kPc n0 D tc vs cs) := by
  intro a U g mk q
  obtain ⟨q1, q2, q3, q4, q5⟩ := q
  exact ⟨q1, q2, q3, va_K.moved (u := U) (U := U.calling g mk a) (Vm.Alike.refl U.vm) q4, kNs.same rfl q5⟩
theorem kCt_of {n0 : Nat} {tc : Nat → ClassId} {M : fwM} {d mc ms : Nat} {vs : List fwV} {cs : List va_E} {Q : List va_E → Prop} (L : List (Option fwV)) (hy : plainName M.1.cls = true) (hL : fwEn vs ++ List.replicate (M.2.2.1 - (fwEn vs).length) none = L) (hl : L.length = M.2.2.1) (k : kWP n0 tc M d mc ms 0 L [] cs 0 0 Q) : kCt n0 tc M d mc ms vs cs Q := by
  intro l D
  refine Met.ofW (cc := M.2.1) (maxL := M.2.2.1) (ret := M.2.2.2) hy rfl ?_
  intro p e s m args below meth c s₁ B hml hv
  obtain ⟨rfl, hP, hz, hK, hN⟩ := hv
  have hts : ∀ w ∈ fwTb, w.before (vs.map (fwMv (kad n0))).toArray s = true := fun w hw => atoms_spec (ws := fwWs M) B.pre w (List.mem_cons_of_mem _ hw)
  have hle : (lg_sl (vs.map (fwMv (kad n0)))).length ≤ M.2.2.1 := by
    rw [fwEn_len]
    have := congrArg List.length hL
    rw [List.length_append, List.length_replicate] at this
    omega
  have hent := lv_entry (vs.map (fwMv (kad n0))) (n := M.2.2.1) hle
  rw [lg_entry_eq]
  refine k l p e s m _ below meth c D s.heap [] _ ⟨B.exec, B.bytes, hml, findClass_of_methodNamed B.named, hts, B.returns, B.notSynchronized, (name_of_methodNamed B.named B.method).1, hK, by omega, hN⟩ ⟨hP, hz, va_S.rf, hent.1, hent.2.1, fun i v hi => ?_⟩
  have hi2 : (fwEn vs)[i]? = some (some v) := by
    rw [← hL] at hi
    by_cases hlt : i < (fwEn vs).length
    · rw [List.getElem?_append_left hlt] at hi
      exact hi
    · rw [List.getElem?_append_right (by omega)] at hi
      have := List.eq_of_mem_replicate (List.mem_of_getElem? hi)
      cases this
  have := fwEn_args (kad n0) vs 0 i v hi2
  rw [Nat.zero_add] at this
  exact hent.2.2 _ this
section KB
variable {n0 : Nat} {tc : Nat → ClassId} {M : fwM} {d mc ms pc nc ns : Nat} {L : List (Option fwV)} {S : List fwV} {cs : List va_E} {Q : List va_E → Prop}
theorem k_iconst {n : Int} (hd : decode M.2.1 pc = .ok (.iconst n, 1)) (k : kWP n0 tc M d mc ms (pc + 1) L (aI n :: S) cs nc ns Q) : kWP n0 tc M d mc ms pc L S cs nc ns Q := by
  intro l p e s m args below meth c D H locs ls C X
  exact lv_iconst C.1 C.2.1 hd rfl (k l p e s m args below meth c D H locs ls C X)
theorem k_bipush {n : Int} (hd : decode M.2.1 pc = .ok (.bipush n, 2)) (hn : (Int8.ofInt n).toInt32 = Int32.ofInt n) (k : kWP n0 tc M d mc ms (pc + 2) L (aI n :: S) cs nc ns Q) : kWP n0 tc M d mc ms pc L S cs nc ns Q := by
  intro l p e s m args below meth c D H locs ls C X
  exact lv_bipush C.1 C.2.1 hd hn (k l p e s m args below meth c D H locs ls C X)
theorem k_sipush {n : Int} (hd : decode M.2.1 pc = .ok (.sipush n, 3)) (hn : (Int16.ofInt n).toInt32 = Int32.ofInt n) (k : kWP n0 tc M d mc ms (pc + 3) L (aI n :: S) cs nc ns Q) : kWP n0 tc M d mc ms pc L S cs nc ns Q := by
  intro l p e s m args below meth c D H locs ls C X
  exact lv_sipush C.1 C.2.1 hd hn (k l p e s m args below meth c D H locs ls C X)
theorem k_ldc {i : Nat} {n : Int} (hd : decode M.2.1 pc = .ok (.ldc i, 2)) (hc : Cond.constant M.1.cls i (Int32.ofInt n) ∈ fwTb) (k : kWP n0 tc M d mc ms (pc + 2) L (aI n :: S) cs nc ns Q) : kWP n0 tc M d mc ms pc L S cs nc ns Q := by
  intro l p e s m args below meth c D H locs ls C X
  exact lv_ldc C.1 C.2.1 C.2.2.2.1 (C.2.2.2.2.1 _ hc) hd (k l p e s m args below meth c D H locs ls C X)
theorem k_aload {i : Fin 4} {kd nr : Nat} (hd : decode M.2.1 pc = .ok (.aload_n i, 1)) (hl : L[(i : Nat)]? = some (some (aR kd nr))) (k : kWP n0 tc M d mc ms (pc + 1) L (aR kd nr :: S) cs nc ns Q) : kWP n0 tc M d mc ms pc L S cs nc ns Q := by
  intro l p e s m args below meth c D H locs ls C X
  exact lv_aload_n C.1 C.2.1 hd rfl (X.2.2.2.2.2 i _ hl) (k l p e s m args below meth c D H locs ls C X)
theorem k_iload {i : Fin 4} {x : Int} (hd : decode M.2.1 pc = .ok (.iload_n i, 1)) (hl : L[(i : Nat)]? = some (some (aI x))) (k : kWP n0 tc M d mc ms (pc + 1) L (aI x :: S) cs nc ns Q) : kWP n0 tc M d mc ms pc L S cs nc ns Q := by
  intro l p e s m args below meth c D H locs ls C X
  exact lv_iload_n C.1 C.2.1 hd rfl (X.2.2.2.2.2 i _ hl) (k l p e s m args below meth c D H locs ls C X)
theorem k_istore {i : Fin 4} {x : Int} (L' : List (Option fwV)) (hd : decode M.2.1 pc = .ok (.istore_n i, 1)) (hL : fwSt1 L i (aI x) = L') (hn : (i : Nat) < M.2.2.1) (k : kWP n0 tc M d mc ms (pc + 1) L' S cs nc ns Q) : kWP n0 tc M d mc ms pc L (aI x :: S) cs nc ns Q := by
  intro l p e s m args below meth c D H locs ls C X
  refine lv_istore_n C.1 C.2.1 hd rfl (fwLvL_has X.2.2.2) hn rfl (fun ls' h' => ?_)
  exact k l p e s m args below meth c D H locs ls' C ⟨X.1, X.2.1, X.2.2.1, hL ▸ fw_st1 h'⟩
theorem k_iinc {i : Nat} {n x : Int} (L' : List (Option fwV)) (hd : decode M.2.1 pc = .ok (.iinc i n, 3)) (hl : L[i]? = some (some (aI x))) (hL : fwSt1 L i (aI (x + n)) = L') (hn : i < M.2.2.1) (k : kWP n0 tc M d mc ms (pc + 3) L' S cs nc ns Q) : kWP n0 tc M d mc ms pc L S cs nc ns Q := by
  intro l p e s m args below meth c D H locs ls C X
  obtain ⟨q, hq⟩ := List.getElem?_of_mem (fwLvL_mem (ad := kad n0) hl)
  refine lv_iinc C.1 C.2.1 hd (fwLvL_has X.2.2.2) (k := q) hq (fwI_add x n) hn rfl (fun ls' h' => ?_)
  exact k l p e s m args below meth c D H locs ls' C ⟨X.1, X.2.1, X.2.2.1, hL ▸ fw_st1 h'⟩
theorem k_dup {v : fwV} (hd : decode M.2.1 pc = .ok (.dup, 1)) (hv : fwIsJ (some v) = false) (k : kWP n0 tc M d mc ms (pc + 1) L (v :: v :: S) cs nc ns Q) : kWP n0 tc M d mc ms pc L (v :: S) cs nc ns Q := by
  intro l p e s m args below meth c D H locs ls C X
  exact lv_dup C.1 C.2.1 hd (by have := fwMv_cat (kad n0) v; rw [hv] at this; rcases lv_cat (fwMv (kad n0) v) with q | q <;> simp_all) (k l p e s m args below meth c D H locs ls C X)
theorem k_goto {off : Int} (tgt : Nat) (hd : decode M.2.1 pc = .ok (.goto off, 3)) (ht : (pc : Int) + off = (tgt : Int)) (k : kWP n0 tc M d mc ms tgt L S cs nc ns Q) : kWP n0 tc M d mc ms pc L S cs nc ns Q := by
  intro l p e s m args below meth c D H locs ls C X
  exact lv_goto C.1 C.2.1 hd ht (k l p e s m args below meth c D H locs ls C X)
theorem k_ge_t {x y off : Int} (tgt : Nat) (hd : decode M.2.1 pc = .ok (.if_icmp .ge off, 3)) (ht : (pc : Int) + off = (tgt : Int)) (hx : -2147483648 ≤ x ∧ x < 2147483648) (hy : -2147483648 ≤ y ∧ y < 2147483648) (hxy : y ≤ x) (kt : kWP n0 tc M d mc ms tgt L S cs nc ns Q) : kWP n0 tc M d mc ms pc L (aI y :: aI x :: S) cs nc ns Q := by
  intro l p e s m args below meth c D H locs ls C X
  exact lv_icmp_ge C.1 C.2.1 hd ht (fun q => kt l p e s m args below meth c D H locs ls C X) (fun q => absurd (by rw [fwI_le hy hx]; exact hxy) q)
theorem k_ge_f {x y off : Int} (tgt : Nat) (hd : decode M.2.1 pc = .ok (.if_icmp .ge off, 3)) (ht : (pc : Int) + off = (tgt : Int)) (hx : -2147483648 ≤ x ∧ x < 2147483648) (hy : -2147483648 ≤ y ∧ y < 2147483648) (hxy : x < y) (kf : kWP n0 tc M d mc ms (pc + 3) L S cs nc ns Q) : kWP n0 tc M d mc ms pc L (aI y :: aI x :: S) cs nc ns Q := by
  intro l p e s m args below meth c D H locs ls C X
  exact lv_icmp_ge C.1 C.2.1 hd ht (fun q => absurd (by rw [fwI_le hy hx] at q; exact q) (by omega)) (fun q => kf l p e s m args below meth c D H locs ls C X)
/-- Object's own constructor -/
theorem k_obj {idx a : Nat} (hd : decode M.2.1 pc = .ok (.invokespecial idx, 3)) (hl : Cond.methodLink M.1.cls idx Lib.objectInit ∈ fwTb) (hi : Cond.instanceMethod Lib.objectInit ∈ fwTb) (hc : Cond.code Lib.objectInit ⟨#[0xb1]⟩ 1 none ∈ fwTb) (hS : fwCat S ≤ 8) (k : kWP n0 tc M (d + 1) mc ms (pc + 3) L S cs nc ns Q) : kWP n0 tc M (d + 1) mc ms pc L (aR 0 a :: S) cs nc ns Q := by
  intro l p e s m args below meth c D H locs ls C X
  refine W.objInit C.1 C.2.1 C.2.2.2.1 (C.2.2.2.2.1 _ hl) (C.2.2.2.2.1 _ hi) (C.2.2.2.2.1 _ hc) rfl (X.2.2.2.1.trans C.2.2.1.symm) rfl hd ?_ ?_ (k l p e s m args below meth c D H locs ls C X)
  · show 1 ≤ d + 1
    omega
  · show 2 * 0 + ((S.map (fwMv (kad n0))).map fun v => v.category).sum + 12 ≤ 64 * (d + 1)
    rw [fwCat_eq]
    omega
theorem k_grow {D : va_G} {H H1 : Heap} {H0 : Heap} {locs : List Loc} {e : va_E} (hP : va_P D vwCl (kWd n0 cs) H) (hz : H.size = n0 + cs.length) (hS : va_S (kA n0) H0 H locs) (z1 : H1.size = n0 + cs.length + 1) (o1 : ∀ q : Nat, q < n0 + cs.length → H1[q]? = H[q]?) (he : va_at D vwCl (n0 + cs.length, e) H1) : va_P D vwCl (kWd n0 (cs ++ [e])) H1 ∧ H1.size = n0 + (cs ++ [e]).length ∧ va_S (kA n0) H0 H1 locs := by
  refine ⟨?_, ?_, ?_, fun q h1 h2 => ?_, hS.2.2⟩
  · rw [kWd_app]
    refine (hP.kept fun k x hx => o1 x.1 (by rw [← hz]; exact (hP k x hx).lt)).app (fun k x hx => ?_)
    have hk : k < 1 := (List.getElem?_eq_some_iff.mp hx).1
    rw [show k = 0 by omega] at hx
    cases hx
    exact he
  · rw [z1, List.length_append]
    rfl
  · have := hS.1
    omega
  · rw [o1 q (by have := hS.1; omega)]
    exact hS.2.1 q h1 h2
/-- a new object: ci its class's number, fs its fields as they are at first -/
theorem k_new {idx ci : Nat} {q : vw_C} {fs : List Value} (ty : Nat → FieldType) (hd : decode M.2.1 pc = .ok (.new idx, 3)) (hc : vwCl[ci]? = some q) (hl : Cond.classLink M.1.cls idx q.1 ∈ fwTb) (hi : Cond.instantiable q.1 q.2.2 ∈ fwTb) (hn : Cond.initialized q.1 ∈ fwTb) (hty : ∀ k, k < q.2.2 → parseFieldDescriptor (q.2.1 k).2.2.1 = some (ty k)) (hfs : ∀ j, j < q.2.2 → defaultValue (ty j) = vp_V fs j) (h1 : nc + 1 ≤ mc) (h2 : ns + q.2.2 ≤ ms)
    (k : kWP n0 tc M d mc ms (pc + 3) L (aR 0 cs.length :: S) (cs ++ [.inr (ci, fs)]) (nc + 1) (ns + q.2.2) Q) : kWP n0 tc M d mc ms pc L S cs nc ns Q := by
  intro l p e s m args below meth c D H locs ls C X
  obtain ⟨hx, hb, hml, hown, hts, hre, hlk, hnm, hK, hge, hN⟩ := id C
  obtain ⟨-, hin, -, -⟩ := fw_cls ci q hc
  have hKn := hK.1 ci _ hc
  refine W.newcK hx hb hown (hts _ hl) (hts _ hi) (hts _ hn) rfl hd h1 h2 hKn.2.1 X.2.1 fun H1 kC hkC e1 z1 o1 => ?_
  obtain ⟨g1, g2, g3⟩ := k_grow (e := .inr (ci, fs)) X.1 X.2.1 X.2.2.1 z1 o1 ⟨q, hc, (u_born ty hts hin hKn hkC e1 hty).to hfs⟩
  exact k l p e s m args below meth c D H1 locs ls C ⟨g1, g2, g3, X.2.2.2⟩
/-- a new row of numbers -/
theorem k_newa {atype : ArrayType} {t N : Nat} {x : Int} {a0 : vp_A} (hd : decode M.2.1 pc = .ok (.newarray atype, 2)) (hw : Cond.arrayClass (newarray.typeOf atype) ∈ fwTb) (ht : (fwTy tc)[t]? = some (tc t, newarray.typeOf atype)) (ha : ∀ cA : ClassId, vp_cell cA a0 = arrV cA N (fun _ => defaultValue (newarray.typeOf atype))) (hn : ¬ Int32.ofInt x < 0) (hN : (Int32.ofInt x).toNatClampNeg = N) (hb8 : N * componentBytes (newarray.typeOf atype) ≤ 536870912) (h1 : nc + 1 ≤ mc) (h2 : ns + N ≤ ms)
    (k : kWP n0 tc M d mc ms (pc + 2) L (aR 0 cs.length :: S) (cs ++ [.inl (tc t, a0)]) (nc + 1) (ns + N) Q) : kWP n0 tc M d mc ms pc L (aI x :: S) cs nc ns Q := by
  intro l p e s m args below meth c D H locs ls C X
  obtain ⟨hx, hb, hml, hown, hts, hre, hlk, hnm, hK, hge, hN9⟩ := id C
  refine va_newaK hx hb (hts _ hw) rfl hd rfl hn hN hb8 h1 h2 X.2.1 fun H1 cA e1 z1 o1 hAr hNm => ?_
  have hcA : cA = tc t := by
    have h9 := (hK.2 t _ ht).2
    have h8 : s.vm.findClass ("[" ++ (newarray.typeOf atype).toString) = some (tc t) := by cases atype <;> exact h9
    exact Option.some.inj (hNm.symm.trans h8)
  subst hcA
  obtain ⟨g1, g2, g3⟩ := k_grow (e := .inl (tc t, a0)) X.1 X.2.1 X.2.2.1 z1 o1 (show H1[n0 + cs.length]? = some (vp_cell (tc t) a0) by rw [ha]; exact e1)
  exact k l p e s m args below meth c D H1 locs ls C ⟨g1, g2, g3, X.2.2.2⟩
/-- a new row of MOUNTAINS -/
theorem k_newq {idx N : Nat} {x : Int} (hd : decode M.2.1 pc = .ok (.anewarray idx, 3)) (hl : Cond.classLink M.1.cls idx "FootLower$Mountain" ∈ fwTb) (hn : ¬ Int32.ofInt x < 0) (hN : (Int32.ofInt x).toNatClampNeg = N) (hb8 : N * 4 ≤ 536870912) (h1 : nc + 1 ≤ mc) (h2 : ns + N ≤ ms)
    (k : kWP n0 tc M d mc ms (pc + 3) L (aR 0 cs.length :: S) (cs ++ [.inl (tc 4, N, .inr (.inr (.inr (.inr (fun _ => none)))))]) (nc + 1) (ns + N) Q) : kWP n0 tc M d mc ms pc L (aI x :: S) cs nc ns Q := by
  intro l p e s m args below meth c D H locs ls C X
  obtain ⟨hx, hb, hml, hown, hts, hre, hlk, hnm, hK, hge, hN9⟩ := id C
  subst hN
  refine W.anew hx hb hown (hts _ hl) (va_AO.use hN9.2.1) rfl hd rfl hn hb8 h1 h2 fun cA kA comp f1 f2 f3 f4 => ?_
  have hcA : cA = tc 4 := by
    obtain ⟨_, _, -, -, -, h9⟩ := (hK.2 4 _ rfl).2
    exact Option.some.inj (f1.symm.trans h9)
  subst hcA
  generalize hH1 : H.push ({ cls := tc 4, slots := Array.replicate (Int32.ofInt x).toNatClampNeg .null, vm := .none } : Cell) = H1
  obtain ⟨g1, g2, g3⟩ := k_grow (H1 := H1) (e := .inl (tc 4, (Int32.ofInt x).toNatClampNeg, .inr (.inr (.inr (.inr (fun _ => none)))))) X.1 X.2.1 X.2.2.1 (by rw [← hH1, Array.size_push, X.2.1]) (fun q hq => by rw [← hH1, Array.getElem?_push, if_neg (by rw [X.2.1]; omega)]) (by
    show H1[n0 + cs.length]? = some (vp_cell _ _)
    rw [vp_cell_q, ← X.2.1, ← hH1, Array.getElem?_push_size, ← arrV_new]
    rfl)
  have := k l p e s m args below meth c D H1 locs ls C ⟨g1, g2, g3, X.2.2.2⟩
  rw [X.2.1]
  exact this
/-- a field of an object that is being built -/
theorem k_put {idx f j ci : Nat} {q : vw_C} {fs : List Value} {v : fwV} (ty : FieldType) (hd : decode M.2.1 pc = .ok (.putfield idx, 3)) (hc : vwCl[ci]? = some q) (hj : cs[j]? = some (.inr (ci, fs))) (hf : f < q.2.2) (hl : Cond.fieldLink M.1.cls idx (q.2.1 f).1 (q.2.1 f).2.1 (q.2.1 f).2.2.1 ∈ fwTb) (hds : parseFieldDescriptor (q.2.1 f).2.2.1 = some ty) (hfin : (q.2.1 f).2.2.2 = false ∨ ((q.2.1 f).2.2.2 = true ∧ M.1.name = "<init>" ∧ (q.2.1 f).1 = M.1.cls)) (hna : narrow ty (fwMv (kad n0) v) = fwMv (kad n0) v) (hfi : fits ty (fwMv (kad n0) v) = true) (hl9 : f < fs.length)
    (k : kWP n0 tc M d mc ms (pc + 3) L S (cs.set j (.inr (ci, fs.set f (fwMv (kad n0) v)))) nc ns Q) : kWP n0 tc M d mc ms pc L (v :: aR 0 j :: S) cs nc ns Q := by
  intro l p e s m args below meth c D H locs ls C X
  obtain ⟨hx, hb, hml, hown, hts, hre, hlk, hnm, hK, hge, hN9⟩ := id C
  obtain ⟨-, hin, ⟨ty0, hty⟩, hnms⟩ := fw_cls ci q hc
  have hap := va_apart (own := M.1.cls) hts hin ty0 hty hnms hK hc
  obtain ⟨r, h1, cell, q1, q2, q3, q4⟩ := X.1 j _ (kWd_at hj)
  have hr : r = q := Option.some.inj (h1.symm.trans hc)
  subst hr
  obtain ⟨hS, hfc, kC, hkC, hkind⟩ := hK.1 ci _ hc
  obtain ⟨cf, kf, fi, fd, hi, hsl⟩ := hS f hf
  have hst := (u_facts hfc hkC (u_lays hts hin hf) hi).1
  have fin : ∀ H' : Heap, H'[n0 + j]? = some (cell.setSlot fd.slot (fwMv (kad n0) v)) → H'.size = H.size → (∀ z, z ≠ n0 + j → H'[z]? = H[z]?) → W p l e (kRm d mc ms) s m args below meth c H' (locs ++ [⟨n0 + j, fd.slot⟩]) nc ns (MQ below (kQ n0 D Q) args s mc ms (kA n0)) (F0 m (pc + 3) ls (S.map (fwMv (kad n0)))) := by
    intro H' e1 e2 e3
    rw [hsl] at e1
    refine k l p e s m args below meth c D H' _ ls C ⟨?_, ?_, ?_, X.2.2.2⟩
    · rw [← kWd_set]
      exact X.1.set (kD n0 cs) (kWd_at hj) ⟨_, hc, t_OB.to (V := updV (vp_V fs) f (fwMv (kad n0) v)) ⟨_, e1, q2, q3, t_set q4 hap hf _⟩ (fun i _ => vp_updV_set hl9 _ i)⟩ e3
    · rw [e2, List.length_set]
      exact X.2.1
    · exact X.2.2.1.put e2 e3 (Nat.le_add_right _ _)
  have hlay := hts _ (hin _ (u_in_lay hf))
  unfold u_lay at hlay
  rcases hfin with hf0 | ⟨hf1, hn1, hd1⟩
  · rw [if_neg (by rw [hf0]; decide)] at hlay
    exact W.putK hx hb (f := fd) ⟨hown, hts _ hl, ⟨_, _, _, hi⟩, hst⟩ (by rw [q2]; exact u_store hfc hkC hkind hlay hi hds hna hfi) q1 q3 (by rw [hsl]; exact k2_hasslot (q4 f hf)) rfl rfl hd fin
  · rw [if_pos hf1] at hlay
    have hcf : m.cls = cf := by
      obtain ⟨_, _, c', _, _, _, -, -, hf', -, -, -, hown2, -⟩ := Cond.laysFinal_spec hlay
      have e1 : c' = cf := by have := hi.symm.trans hf'; simp at this; exact this.1.symm
      rw [hd1] at hown2
      rw [← e1]
      exact Option.some.inj (hown.symm.trans hown2)
    exact W.putFinK hx hb hown (hts _ hl) hi hst hcf (hnm.trans hn1) (by rw [q2]; exact u_fits hfc hkC hkind (Or.inr hlay) hi hds hna hfi) q1 q3 (by rw [hsl]; exact k2_hasslot (q4 f hf)) rfl rfl hd fin
theorem k_get {idx f j ci : Nat} {q : vw_C} {fs : List Value} (v : fwV) (hd : decode M.2.1 pc = .ok (.getfield idx, 3)) (hc : vwCl[ci]? = some q) (hj : cs[j]? = some (.inr (ci, fs))) (hf : f < q.2.2) (hl : Cond.fieldLink M.1.cls idx (q.2.1 f).1 (q.2.1 f).2.1 (q.2.1 f).2.2.1 ∈ fwTb) (hv : fs[f]? = some (fwMv (kad n0) v)) (k : kWP n0 tc M d mc ms (pc + 3) L (v :: S) cs nc ns Q) : kWP n0 tc M d mc ms pc L (aR 0 j :: S) cs nc ns Q := by
  intro l p e s m args below meth c D H locs ls C X
  obtain ⟨hx, hb, hml, hown, hts, hre, hlk, hnm, hK, hge, hN9⟩ := id C
  obtain ⟨-, hin, -, -⟩ := fw_cls ci q hc
  exact va_get (C := q.1) (T := q.2.1) (N := q.2.2) hx hb hts hin hown hK X.1 j (kWd_at hj) hc f hf (hts _ hl) (fun _ z => z) hv hd (k l p e s m args below meth c D H locs ls C X)
theorem k_iast {j N : Nat} {f : Nat → Int32} {x y : Int} (hd : decode M.2.1 pc = .ok (.iastore, 1)) (hj : cs[j]? = some (.inl (tc 0, N, .inl f))) (h0 : 0 ≤ x) (h1 : x < N) (hN : N < 2147483648) (k : kWP n0 tc M d mc ms (pc + 1) L S (cs.set j (.inl (tc 0, N, .inl (upd f x.toNat (Int32.ofInt y))))) nc ns Q) : kWP n0 tc M d mc ms pc L (aI y :: aI x :: aR 0 j :: S) cs nc ns Q := by
  intro l p e s m args below meth c D H locs ls C X
  obtain ⟨hx, hb, hml, hown, hts, hre, hlk, hnm, hK, hge, hN9⟩ := id C
  have hin := fwI_in h0 h1 hN
  refine W.iast hx hb (X.1 j _ (kWd_at hj)) ((hK.2 0 _ rfl).1 N (fun i => .int (f i))) (fun q => by cases q) (by show ¬ (Int32.ofInt x < 0 ∨ (arrV _ _ _).slots.size ≤ _); rw [arrV_size]; exact hin) rfl rfl hd fun H1 e1 z1 oq => ?_
  refine k l p e s m args below meth c D H1 _ ls C ⟨?_, ?_, ?_, X.2.2.2⟩
  · rw [← kWd_set]
    refine X.1.set (kD n0 cs) (kWd_at hj) ?_ oq
    show H1[n0 + j]? = some (vp_cell _ _)
    rw [e1, vp_cell_i, vp_cell_i, arrV_store, fwI_cl h0 (by omega)]
    congr 2
    funext q
    by_cases hq : q = x.toNat
    · subst hq
      simp [updV, upd]
    · simp [updV, upd, hq]
  · rw [z1, List.length_set]
    exact X.2.1
  · exact X.2.2.1.put z1 oq (Nat.le_add_right _ _)
theorem k_aast {j N w ci : Nat} {f : Nat → Option Nat} {x : Int} {r : vw_C} {vs : List Value} (hd : decode M.2.1 pc = .ok (.aastore, 1)) (hj : cs[j]? = some (.inl (tc 4, N, .inr (.inr (.inr (.inr f)))))) (hw : cs[w]? = some (.inr (ci, vs))) (hc : vwCl[ci]? = some r) (hr : r.1 = "FootLower$Mountain") (h0 : 0 ≤ x) (h1 : x < N) (hN : N < 2147483648) (k : kWP n0 tc M d mc ms (pc + 1) L S (cs.set j (.inl (tc 4, N, .inr (.inr (.inr (.inr (va_up f x.toNat (some (n0 + w))))))))) nc ns Q) : kWP n0 tc M d mc ms pc L (aR 0 w :: aI x :: aR 0 j :: S) cs nc ns Q := by
  intro l p e s m args below meth c D H locs ls C X
  obtain ⟨hx, hb, hml, hown, hts, hre, hlk, hnm, hK, hge, hN9⟩ := id C
  have hin := fwI_in h0 h1 hN
  have hcl := fwI_cl h0 (show x < 2147483648 by omega)
  obtain ⟨r', hr', cellV, g1, g2, g3, -⟩ := X.1 w _ (kWd_at hw)
  have hcls := (hK.1 ci r hc).2
  obtain ⟨kA, comp, k1, k2, k3, -⟩ := (hK.2 4 _ rfl).2
  have hcomp : comp = D.1 ci := Option.some.inj (k3.symm.trans (by rw [← hr]; exact hcls.1))
  subst hcomp
  obtain ⟨kC, hkC, -⟩ := hcls.2
  refine W.aast hx hb (X.1 j _ (kWd_at hj)) (fun q h => by cases h) (fun h => by cases h) k1 k2 rfl hkC ⟨fun q => hin (Or.inl q), by show _ < (arrV _ _ _).slots.size; rw [arrV_size]; exact Nat.not_le.mp fun q => hin (Or.inr q)⟩ g1 (fun q h => by rw [g3] at h; cases h) (by rw [g2]; exact hkC) (by rw [g2]; exact va_assign hcls) rfl rfl hd fun H1 e1 z1 oq => ?_
  refine k l p e s m args below meth c D H1 _ ls C ⟨?_, ?_, ?_, X.2.2.2⟩
  · rw [← kWd_set]
    refine X.1.set (kD n0 cs) (kWd_at hj) ?_ oq
    show H1[n0 + j]? = some (vp_cell _ _)
    rw [e1, vp_cell_q, vp_cell_q, arrV_store, hcl]
    congr 2
    funext q
    by_cases hq : q = x.toNat
    · subst hq
      simp [updV, va_up, va_rf]
    · simp [updV, va_up, hq]
  · rw [z1, List.length_set]
    exact X.2.1
  · exact X.2.2.1.put z1 oq (Nat.le_add_right _ _)
theorem k_vret (hd : decode M.2.1 pc = .ok (.return_, 1)) (hr : M.2.2.2 = none) (h1 : nc = mc) (h2 : ns = ms) (k : Q cs) : kWP n0 tc M d mc ms pc L [] cs nc ns Q := by
  intro l p e s m args below meth c D H locs ls C X
  obtain ⟨hx, hb, hml, hown, hts, hre, hlk, hnm, hK, hge, hN9⟩ := id C
  subst h1
  subst h2
  exact W.vret hx hb (hre.trans hr) (fun t ht _ => ⟨rfl, ⟨cs, k, by rw [ht]; exact X.1, by rw [ht]; exact X.2.1⟩, X.2.2.1.F ht⟩) X.2.2.1.2.2 hd hlk
end KB
section KC
variable {p : Program} {l : Launch} {e : Env} {R : Room} {s : State} {m : MethodId} {args : Array Value} {below : List Frame} {meth : Method} {c : Code} {H : Heap} {locs : List Loc} {Qf : State → Prop}
variable {pc n0 nc ns mc ms : Nat} {ls : Array Slot} {rest st0 : List Value} {a : Array Value} {D : va_G} {Q' : List va_E → Prop}
theorem k_run (hr : va_Run p l e R s m args below meth c H locs nc ns mc ms (F0 m pc ls st0) rest (kQ n0 D Q' a) (kA n0)) (hS : va_S (kA n0) s.heap H locs)
    (kk : ∀ (cs : List va_E) (H1 : Heap) (locs1 : List Loc), Q' cs → va_P D vwCl (kWd n0 cs) H1 → H1.size = n0 + cs.length → va_S (kA n0) s.heap H1 locs1 → W p l e R s m args below meth c H1 locs1 (nc + mc) (ns + ms) Qf (F0 m (pc + 3) ls rest)) : W p l e R s m args below meth c H locs nc ns Qf (F0 m pc ls st0) := by
  intro T hT X
  obtain ⟨v, st₀, t, T', L, h0, X', hL, e1, e2, ⟨hv, ⟨cs, hq, hp, hz9⟩, hz, hk⟩, st⟩ := hr T hT X
  cases hv
  rw [h0] at hz hk
  obtain ⟨t2, a1, b1⟩ := kk cs T'.heap (locs ++ L) hq (by rw [e1]; exact hp) (by rw [e1]; exact hz9)
    ⟨Nat.le_trans hS.1 (by rw [e1]; exact hz), fun q h1 h2 => by rw [e1, hk q (Nat.lt_of_lt_of_le h1 hS.1) h2]; exact hS.2.1 q h1 h2, fun q hq => by
      rcases List.mem_append.mp hq with h | h
      · exact hS.2.2 q h
      · exact hL q h⟩ T' rfl X'
  exact ⟨t2, st t2 a1, b1⟩
end KC
/-- what a constructor is -/
def kMok (M : fwM) (n : Nat) : Prop := fwMok M n ∧ M.1.name = "<init>" ∧ M.2.2.2 = none ∧ Cond.instanceMethod M.1 ∈ fwTb
theorem k_good (M : fwM) (h1 : Cond.code M.1 M.2.1 M.2.2.1 M.2.2.2 ∈ fwTb) : GoodIn fwTb (fwWs M) := by
  intro w hw
  have hw2 : w ∈ fwTb := by
    rcases List.mem_cons.mp hw with rfl | hw
    · exact h1
    · exact hw
  exact ⟨hw2, good_of_word (fw_good w hw2)⟩
section KD
variable {n0 : Nat} {tc : Nat → ClassId} {M : fwM} {d mc ms pc nc ns : Nat} {L : List (Option fwV)} {S : List fwV} {cs : List va_E} {Q : List va_E → Prop}
theorem k_call {M' : fwM} {idx j n mc' ms' : Nat} (as : List fwV) (hd : decode M.2.1 pc = .ok (.invokespecial idx, 3)) (hl : Cond.methodLink M.1.cls idx M'.1 ∈ fwTb) (hm : kMok M' n) (hn : as.length = n) (hS : fwCat S ≤ 8) (h1 : nc + mc' ≤ mc) (h2 : ns + ms' ≤ ms)
    (kk : kCt n0 tc M' d mc' ms' (aR 0 j :: as) cs (fun cs' => kWP n0 tc M (d + 1) mc ms (pc + 3) L S cs' (nc + mc') (ns + ms') Q)) : kWP n0 tc M (d + 1) mc ms pc L (as.reverse ++ aR 0 j :: S) cs nc ns Q := by
  intro l p e s m args below meth c D H locs ls C X
  obtain ⟨hx, hb, hml, hown, hts, hre, hlk, hnm, hK, hge, hN9⟩ := id C
  obtain ⟨⟨m1, m2, m3, m4⟩, m5, m6, m7⟩ := hm
  have hcb : CallB (kRm (d + 1) mc ms) s args M.1.cls idx M'.1 M'.2.1 M'.2.2.1 M'.2.2.2 (fwWs M') (kRm d mc' ms') mc' ms' n := by
    refine callB_of (Ts := fwTb) n hts (k_good M' m1) rfl rfl rfl (hts _ m2) (hts _ hl) m3 ⟨Nat.le_refl _, ?_⟩
    show 8 + (M'.2.2.1 + 11) + 64 * d ≤ 64 * (d + 1)
    omega
  rw [m6] at hcb
  have hst : (as.reverse ++ aR 0 j :: S).map (fwMv (kad n0)) = (as.map (fwMv (kad n0))).reverse ++ .ref (kad n0 0 j) :: S.map (fwMv (kad n0)) := by
    rw [List.map_append, List.map_reverse]
    rfl
  have hr := va_runI (l := l) (e := e) (below := below) (meth := meth) (locs := locs) (cells := nc) (slots := ns) (R := kRm (d + 1) mc ms) (As := as.map (fwMv (kad n0))) (rest := S.map (fwMv (kad n0))) (g := F0 m pc ls ((as.reverse ++ aR 0 j :: S).map (fwMv (kad n0)))) (index := idx) ⟨hx, hb, hml, hown, hts⟩ (kk l D) ⟨hcb, m5, hts _ m7⟩
    ⟨kPc_blind, fun U hU hW => ⟨rfl, by rw [hU]; exact X.1, by rw [hU]; exact X.2.1, va_K.moved hW.alike hK, hN9.warm hW⟩⟩ rfl (by rw [List.length_map]; exact hn) X.2.2.2.1 hst (lv_room (by rw [fwCat_eq]; exact hS)) hd ⟨h1, h2⟩
  exact k_run hr X.2.2.1 (fun cs' H1 locs1 hq9 hP1 hz1 hS1 => hq9 l p e s m args below meth c D H1 locs1 ls C ⟨hP1, hz1, hS1, X.2.2.2⟩)
theorem k_callN {M' : fwM} {idx j n mc' ms' : Nat} (as : List fwV) (hd : decode M.2.1 pc = .ok (.invokespecial idx, 3)) (hl : Cond.methodLinkNest M.1.cls idx M'.1 "FootLower" ∈ lw_tbl) (hm : kMok M' n) (hn : as.length = n) (hS : fwCat S ≤ 8) (h1 : nc + mc' ≤ mc) (h2 : ns + ms' ≤ ms)
    (kk : kCt n0 tc M' d mc' ms' (aR 0 j :: as) cs (fun cs' => kWP n0 tc M (d + 1) mc ms (pc + 3) L S cs' (nc + mc') (ns + ms') Q)) : kWP n0 tc M (d + 1) mc ms pc L (as.reverse ++ aR 0 j :: S) cs nc ns Q := by
  intro l p e s m args below meth c D H locs ls C X
  obtain ⟨hx, hb, hml, hown, hts, hre, hlk, hnm, hK, hge, hN9⟩ := id C
  obtain ⟨⟨m1, m2, m3, m4⟩, m5, m6, m7⟩ := hm
  have hcb : va_CN (kRm (d + 1) mc ms) s args M.1.cls idx M'.1 "FootLower" M'.2.1 M'.2.2.1 M'.2.2.2 (fwWs M') (kRm d mc' ms') mc' ms' n := by
    refine va_cnB (Ts := fwTb) n hts (k_good M' m1) rfl rfl rfl (hN9.1 _ _ _ _ hl) (hts _ m2) m3 ⟨Nat.le_refl _, ?_⟩
    show 8 + (M'.2.2.1 + 11) + 64 * d ≤ 64 * (d + 1)
    omega
  rw [m6] at hcb
  have hst : (as.reverse ++ aR 0 j :: S).map (fwMv (kad n0)) = (as.map (fwMv (kad n0))).reverse ++ .ref (kad n0 0 j) :: S.map (fwMv (kad n0)) := by
    rw [List.map_append, List.map_reverse]
    rfl
  have hr := va_runIN (l := l) (e := e) (below := below) (meth := meth) (locs := locs) (cells := nc) (slots := ns) (R := kRm (d + 1) mc ms) (As := as.map (fwMv (kad n0))) (rest := S.map (fwMv (kad n0))) (g := F0 m pc ls ((as.reverse ++ aR 0 j :: S).map (fwMv (kad n0)))) (index := idx) ⟨hx, hb, hml, hown, hts⟩ (kk l D) ⟨hcb, m5, hts _ m7⟩
    ⟨kPc_blind, fun U hU hW => ⟨rfl, by rw [hU]; exact X.1, by rw [hU]; exact X.2.1, va_K.moved hW.alike hK, hN9.warm hW⟩⟩ rfl (by rw [List.length_map]; exact hn) X.2.2.2.1 hst (lv_room (by rw [fwCat_eq]; exact hS)) hd ⟨h1, h2⟩
  exact k_run hr X.2.2.1 (fun cs' H1 locs1 hq9 hP1 hz1 hS1 => hq9 l p e s m args below meth c D H1 locs1 ls C ⟨hP1, hz1, hS1, X.2.2.2⟩)
end KD
end
section
/-! a row of four rows of sixty longs, made by one instruction -/
def km_i (comp : ClassId) : Cell := { cls := comp, slots := Array.replicate 60 (defaultValue .long), vm := .none }
def km_o (cA : ClassId) (h0 : Nat) : Nat → Cell
  | 0 => { cls := cA, slots := Array.replicate 4 .null, vm := .none }
  | i + 1 => (km_o cA h0 i).setSlot i (.ref (h0 + 1 + i))
def km_s (s : State) (cA comp : ClassId) : Nat → State
  | 0 => s.pushCell (km_o cA s.heap.size 0)
  | i + 1 => ((km_s s cA comp i).pushCell (km_i comp)).setCell s.heap.size (km_o cA s.heap.size (i + 1))
theorem km_oc (cA : ClassId) (h0 : Nat) : ∀ i, (km_o cA h0 i).cls = cA ∧ (km_o cA h0 i).vm = .none ∧ (km_o cA h0 i).slots.size = 4 := by
  intro i
  induction i with
  | zero => exact ⟨rfl, rfl, by simp [km_o]⟩
  | succ i ih => exact ⟨by simp [km_o, Cell.setSlot, ih.1], by simp [km_o, Cell.setSlot, ih.2.1], by simp [km_o, Cell.setSlot, ih.2.2]⟩
theorem km_sf (s : State) (cA comp : ClassId) : ∀ i, (km_s s cA comp i).heap.size = s.heap.size + 1 + i ∧ (km_s s cA comp i).heap[s.heap.size]? = some (km_o cA s.heap.size i) ∧ (km_s s cA comp i).vm = s.vm ∧ (km_s s cA comp i).slotsUsed = s.slotsUsed + 4 + i * 60 := by
  intro i
  induction i with
  | zero => exact ⟨by simp [km_s], by simp [km_s], rfl, by simp [km_s, km_o]⟩
  | succ i ih =>
    obtain ⟨a, b, d, u⟩ := ih
    have hlt : s.heap.size < (km_s s cA comp i).heap.size := by omega
    have hb : ((km_s s cA comp i).pushCell (km_i comp)).heap[s.heap.size]? = some (km_o cA s.heap.size i) := by rw [State.heap_pushCell_of_lt (h := hlt)]; exact b
    refine ⟨?_, State.heap_setCell_self hb, by simp [km_s, d], ?_⟩
    · simp [km_s, State.setCell, a]; omega
    · simp [km_s, u, km_i, Nat.succ_mul]; omega
theorem km_st (s : State) (f : JFrame) (cA comp : ClassId) : ∀ i, km_s (s.setTop f) cA comp i = (km_s s cA comp i).setTop f := by
  intro i
  induction i with
  | zero => rfl
  | succ i ih => simp only [km_s, ih, State.heap_setTop, State.pushCell_setTop, State.setCell_setTop]
theorem km_old (s : State) (cA comp : ClassId) {a : Addr} (ha : a < s.heap.size) : ∀ i, (km_s s cA comp i).heap[a]? = s.heap[a]? := by
  intro i
  induction i with
  | zero => exact State.heap_pushCell_of_lt _ _ ha
  | succ i ih =>
    have f1 := (km_sf s cA comp i).1
    show (((km_s s cA comp i).pushCell (km_i comp)).setCell s.heap.size _).heap[a]? = _
    have hlt : a < (km_s s cA comp i).heap.size := Nat.lt_of_lt_of_le ha (by rw [f1]; omega)
    rw [State.heap_setCell_other (Nat.ne_of_gt ha), State.heap_pushCell_of_lt (h := hlt)]
    exact ih
theorem km_new (s : State) (cA comp : ClassId) : ∀ i j, j < i → (km_s s cA comp i).heap[s.heap.size + 1 + j]? = some (km_i comp) := by
  intro i
  induction i with
  | zero => intro j h; omega
  | succ i ih =>
    intro j h
    have f1 := (km_sf s cA comp i).1
    show (((km_s s cA comp i).pushCell (km_i comp)).setCell s.heap.size _).heap[s.heap.size + 1 + j]? = _
    rw [State.heap_setCell_other (show s.heap.size ≠ s.heap.size + 1 + j by omega)]
    rcases Nat.lt_or_ge j i with hj | hj
    · have hlt : s.heap.size + 1 + j < (km_s s cA comp i).heap.size := by rw [f1]; omega
      rw [State.heap_pushCell_of_lt (h := hlt)]
      exact ih j hj
    · have e : j = i := by omega
      subst e
      rw [← f1]
      exact State.heap_pushCell_size _ _
theorem km_os (cA : ClassId) (h0 : Nat) : ∀ i j, j < 4 → (km_o cA h0 i).slots[j]? = some (if j < i then .ref (h0 + 1 + j) else .null) := by
  intro i
  induction i with
  | zero => intro j h; simp [km_o, h]
  | succ i ih =>
    intro j h
    have hs := (km_oc cA h0 i).2.2
    show ((km_o cA h0 i).setSlot i (.ref (h0 + 1 + i))).slots[j]? = _
    simp only [Cell.setSlot, Array.getElem?_setIfInBounds]
    by_cases e : i = j
    · subst e; simp [hs, h]
    · rw [if_neg e, ih j h]
      by_cases hj : j < i
      · rw [if_pos hj, if_pos (by omega)]
      · rw [if_neg hj, if_neg (by omega)]
section KMW
variable {E : CtlPost} {e : Env} {d : Bool} {acts : List Action} {s : State}
theorem km_make1 {comp cc : ClassId} {kc : Class} (hkc : s.vm.classes[comp]? = some kc) (hkindc : kc.kind = .array cc .long) (hl2 : ¬ 60 > e.platform.arrayLengthLimit) (hh2 : ¬ 60 * componentBytes .long > e.platform.maxHeapBytes) (h1 : s.heap.size < e.platform.maxCells) (h2 : s.slotsUsed + 60 ≤ e.platform.maxSlots)
    {Q : Addr → Pre} (hq : ∀ acts', Q s.heap.size d acts' (s.pushCell (km_i comp))) : wp (multianewarray.make comp [60]) Q E e d acts s := by
  rw [multianewarray.make]
  have hm : ¬ (60 : Int32) < 0 := by decide
  have hn : (60 : Int32).toNatClampNeg = 60 := by decide
  simp only [wp_bind', W.ite, hm, if_false, wp_pure', W.theClass, hkc, hkindc, Option.some.injEq, exists_eq_left', hn]
  exact W.newArray_of hkc hkindc hl2 hh2 h1 h2 rfl hq
theorem km_make2 {c comp cc : ClassId} {k kc : Class} (hk : s.vm.classes[c]? = some k) (hkind : k.kind = .array comp (.array .long)) (hkc : s.vm.classes[comp]? = some kc) (hkindc : kc.kind = .array cc .long)
    (hl1 : ¬ 4 > e.platform.arrayLengthLimit) (hh1 : ¬ 4 * componentBytes (.array .long) > e.platform.maxHeapBytes) (hl2 : ¬ 60 > e.platform.arrayLengthLimit) (hh2 : ¬ 60 * componentBytes .long > e.platform.maxHeapBytes)
    (hc : s.heap.size + 5 ≤ e.platform.maxCells) (hs : s.slotsUsed + 244 ≤ e.platform.maxSlots) {Q : Addr → Pre} (hq : ∀ d' acts', Q s.heap.size d' acts' (km_s s c comp 4)) : wp (multianewarray.make c [4, 60]) Q E e d acts s := by
  have hn : ¬ (4 : Int32) < 0 := by decide
  have hnn : (4 : Int32).toNatClampNeg = 4 := by decide
  have hfind : (([60] : List Int32).find? (· < 0)) = none := by decide
  rw [multianewarray.make]
  simp only [wp_bind', W.ite, hn, if_false, wp_pure', W.theClass, hk, hkind, Option.some.injEq, exists_eq_left', hnn]
  refine W.newArray_of hk hkind hl1 hh1 (by omega) (by omega) rfl (fun acts1 => ?_)
  simp only [hfind]
  rw [ite_self, wp_bind', Std.Legacy.Range.forIn_eq_forIn_range']
  have hsz : ([:4] : Std.Legacy.Range).size = 4 := by simp [Std.Legacy.Range.size]
  rw [hsz]
  show wp (forIn (List.range' 0 4 1) PUnit.unit _) _ E e d acts1 _
  refine wp_forIn_inv (fun rest s' => ∃ i, i ≤ 4 ∧ rest = List.range' i (4 - i) ∧ s' = km_s s c comp i) _ _ ⟨0, Nat.zero_le _, rfl, rfl⟩ ?_ ?_
  · rintro x rest s' d' acts' Q' ⟨i, hi, hl, rfl⟩ hnext
    have hlt : i < 4 := by
      rcases Nat.lt_or_ge i 4 with h | h
      · exact h
      · rw [show 4 - i = 0 from by omega] at hl; simp at hl
    obtain ⟨rfl, hrest⟩ : x = i ∧ rest = List.range' (i + 1) (4 - (i + 1)) := by
      rw [show 4 - i = (4 - (i + 1)) + 1 from by omega, List.range'_succ] at hl
      exact ⟨(List.cons.inj hl).1, (List.cons.inj hl).2⟩
    obtain ⟨f1, f2, f3, f4⟩ := km_sf s c comp x
    obtain ⟨o1, o2, o3⟩ := km_oc c s.heap.size x
    simp only [wp_bind']
    refine km_make1 (by rw [f3]; exact hkc) hkindc hl2 hh2 (by rw [f1]; omega) (by rw [f4]; omega) (fun acts2 => ?_)
    simp only [wp_bind', W.writeLoc, wp_pure']
    have hlt0 : s.heap.size < (km_s s c comp x).heap.size := by rw [f1]; omega
    refine ⟨km_o c s.heap.size x, by rw [State.heap_pushCell_of_lt (h := hlt0)]; exact f2, by rw [o2]; simp, by rw [o3]; exact hlt, ?_, hnext _ _ _ ⟨x + 1, hlt, hrest, ?_⟩⟩
    · rw [o1, o2]
      simp [State.fitsSlot, State.slotType?, f3, hk, hkind, fits]
    · rw [f1]; rfl
  · rintro s' d' acts' ⟨i, hi, hl, rfl⟩
    have hiN : i = 4 := by
      rcases Nat.lt_or_ge i 4 with h | h
      · rw [show 4 - i = (4 - (i + 1)) + 1 from by omega, List.range'_succ] at hl; cases hl
      · omega
    subst hiN
    simp only [wp_pure']
    exact hq _ _
end KMW
section KMS
variable {p : Program} {l : Launch} {e : Env} {R : Room} {s : State} {m : MethodId} {args : Array Value} {below : List Frame} {meth : Method} {c : Code} {T : State} {H : Heap} {locs : List Loc} {cells slots : Nat} {Q : State → Prop}
theorem km_stand (X : Stand p l e R s m args below meth c T locs cells slots) (cA comp : ClassId) : ∀ i, Stand p l e R s m args below meth c (km_s T cA comp i) (locs ++ (List.range i).map fun j => ⟨T.heap.size, j⟩) (cells + 1 + i) (slots + 4 + i * 60) := by
  intro i
  induction i with
  | zero =>
    have h := X.pushed (km_o cA T.heap.size 0)
    rw [(km_oc cA T.heap.size 0).2.2] at h
    simpa [km_s] using h
  | succ i ih =>
    obtain ⟨f1, f2, f3, f4⟩ := km_sf T cA comp i
    have hlt : T.heap.size < (km_s T cA comp i).heap.size := by rw [f1]; omega
    have hcell : ((km_s T cA comp i).pushCell (km_i comp)).heap[T.heap.size]? = some (km_o cA T.heap.size i) := by rw [State.heap_pushCell_of_lt (h := hlt)]; exact f2
    have h := (ih.pushed (km_i comp)).stored hcell i (.ref (T.heap.size + 1 + i))
    have e1 : (km_i comp).slots.size = 60 := by simp [km_i]
    rw [e1] at h
    have e2 : (locs ++ (List.range (i + 1)).map fun j => (⟨T.heap.size, j⟩ : Loc)) = (locs ++ (List.range i).map fun j => (⟨T.heap.size, j⟩ : Loc)) ++ [⟨T.heap.size, i⟩] := by simp [List.range_succ, List.append_assoc]
    have e3 : slots + 4 + (i + 1) * 60 = slots + 4 + i * 60 + 60 := by omega
    rw [e2, e3]
    exact h
theorem W_multi {cc : ByteArray} (hexec : p.tables.exec = Jvm.exec) (hb : c.code = cc) {own : String} {index : Nat} (hown : s.vm.findClass own = some m.cls) (hclink : (Cond.classLink own index "[[J").before args s = true)
    {comp cA cc9 : ClassId} {k1 k2 : Class} (r2 : s.vm.findClass "[[J" = some cA) (r3 : s.vm.classes[cA]? = some k1) (r4 : k1.kind = .array comp (.array .long)) (r5 : s.vm.classes[comp]? = some k2) (r6 : k2.kind = .array cc9 .long)
    {g : JFrame} (hg : g.method = m) (hdg : decode cc g.pc = .ok (.multianewarray index 2, 4)) {rest : List Value} (hstack : g.stack = .int 60 :: .int 4 :: rest) (hcells : cells + 5 ≤ R.cells) (hslots : slots + 244 ≤ R.slots)
    (kk : ∀ (H1 : Heap) (locs1 : List Loc), H1.size = H.size + 5 → H1[H.size]? = some (km_o cA H.size 4) → (∀ j, j < 4 → H1[H.size + 1 + j]? = some (km_i comp)) → (∀ q, q < H.size → H1[q]? = H[q]?) → (∀ q ∈ locs1, q ∈ locs ∨ q.base = H.size) → W p l e R s m args below meth c H1 locs1 (cells + 5) (slots + 244) Q { g with pc := g.pc + 4, stack := .ref H.size :: rest }) : W p l e R s m args below meth c H locs cells slots Q g := by
  intro T hT X
  subst hT; subst hb; subst hg
  have hpl : e.platform.magicAccessors = ({} : Platform).magicAccessors := by rw [X.admits.platform]
  obtain ⟨c0, hfc0, hcl⟩ := Cond.classLink_spec hown hclink e.platform hpl
  cases r2.symm.trans hfc0
  obtain ⟨hg₁, hwarm₁, hready₁⟩ := State.classEntry (e := e) X.warmed hcl
  generalize T.vm.noted g.method.cls index (.cls cA) = vm₁ at hg₁ hwarm₁ hready₁
  have hal : s.vm.Alike vm₁ := hwarm₁.alike
  obtain ⟨k1', hk1, he1⟩ := hal.2.2 _ _ r3
  obtain ⟨k2', hk2, he2⟩ := hal.2.2 _ _ r5
  have hd1 : k1'.kind = .array comp (.array .long) := by rw [he1]; exact r4
  have hd2 : k2'.kind = .array cc9 .long := by rw [he2]; exact r6
  have X₁ := X.noted hwarm₁
  obtain ⟨hr1, hr2⟩ := X.roomAbove hcells hslots
  have XF := km_stand X₁ cA comp 4
  obtain ⟨f1, f2, -, -⟩ := km_sf (T.setVm vm₁) cA comp 4
  obtain ⟨t', a1, b1⟩ := kk (km_s (T.setVm vm₁) cA comp 4).heap _ f1 f2 (fun j hj => km_new (T.setVm vm₁) cA comp 4 j hj) (fun q hq => km_old (T.setVm vm₁) cA comp hq 4) (fun q hq => by
    rcases List.mem_append.mp hq with h | h
    · exact Or.inl h
    · obtain ⟨j, -, rfl⟩ := List.mem_map.mp h
      exact Or.inr rfl) (km_s (T.setVm vm₁) cA comp 4) rfl XF
  refine ⟨t', ?_, b1⟩
  have hl1 : ¬ 4 > e.platform.arrayLengthLimit := by rw [Launch.admits_arrayLengthLimit X.admits]; omega
  have hh1 : ¬ 4 * componentBytes (.array .long) > e.platform.maxHeapBytes := by rw [Launch.admits_maxHeapBytes X.admits]; decide
  have hl2 : ¬ 60 > e.platform.arrayLengthLimit := by rw [Launch.admits_arrayLengthLimit X.admits]; omega
  have hh2 : ¬ 60 * componentBytes .long > e.platform.maxHeapBytes := by rw [Launch.admits_maxHeapBytes X.admits]; decide
  jvm_step X.here [hexec, hdg]
  simp only [multianewarray.sem, wp_bind', W.resolveClassAt_links (State.method?_setTop g X.here.top) hg₁]
  rw [W.popN, if_neg (by decide)]
  refine ⟨g, State.topJava?_setTop' (s := T.setVm vm₁) g X.here.top, [.int 4, .int 60], rest, rfl, hstack, ?_⟩
  simp only [List.mapM_cons, List.mapM_nil, wp_bind', wp_pure']
  refine km_make2 (k := k1') (kc := k2') (comp := comp) (cc := cc9) hk1 hd1 hk2 hd2 hl1 hh1 hl2 hh2 (by show T.heap.size + 5 ≤ _; omega) (by show T.slotsUsed + 244 ≤ _; omega) (fun d' acts' => ?_)
  have eS : ((T.setTop g).setVm vm₁).setTop { g with stack := rest } = (T.setVm vm₁).setTop { g with stack := rest } := by
    show ((T.setVm vm₁).setTop g).setTop _ = _
    rw [State.setTop_setTop]
  rw [eS, km_st]
  simp only [wp_bind', W.mark, W.pushRef, State.topJava?_setTop' _ XF.here.top, Option.some.injEq, exists_eq_left', State.setTop_setTop, State.heap_setTop]
  intro acts
  simp [jvm, XF.here.top]
  exact a1
end KMS
def kmC (n0 : Nat) (tc : Nat → ClassId) (a : Nat) : List va_E := [.inl (tc 5, 4, .inr (.inr (.inr (.inr (fun j => if j < 4 then some (n0 + (a + 1 + j)) else none))))), .inl (tc 3, 60, .inr (.inl (fun _ => 0))), .inl (tc 3, 60, .inr (.inl (fun _ => 0))), .inl (tc 3, 60, .inr (.inl (fun _ => 0))), .inl (tc 3, 60, .inr (.inl (fun _ => 0)))]
theorem kWd_apps (n0 : Nat) (cs es : List va_E) : kWd n0 (cs ++ es) = kWd n0 cs ++ kWd (n0 + cs.length) es := by
  have hl : (kWd n0 cs).length = cs.length := by simp [kWd]
  apply List.ext_getElem?
  intro j
  rw [kWd_get]
  by_cases h : j < cs.length
  · rw [List.getElem?_append_left h, List.getElem?_append_left (by omega), kWd_get]
  · rw [List.getElem?_append_right (by omega), List.getElem?_append_right (by omega), kWd_get, hl]
    cases es[j - cs.length]? with
    | none => rfl
    | some e =>
      show some _ = some _
      rw [show n0 + cs.length + (j - cs.length) = n0 + j by omega]
theorem k_multi {n0 : Nat} {tc : Nat → ClassId} {M : fwM} {d mc ms pc nc ns idx : Nat} {L : List (Option fwV)} {S : List fwV} {cs : List va_E} {Q : List va_E → Prop} (hd : decode M.2.1 pc = .ok (.multianewarray idx 2, 4)) (hl : Cond.classLink M.1.cls idx "[[J" ∈ fwTb) (h1 : nc + 5 ≤ mc) (h2 : ns + 244 ≤ ms)
    (k : kWP n0 tc M d mc ms (pc + 4) L (aR 0 cs.length :: S) (cs ++ kmC n0 tc cs.length) (nc + 5) (ns + 244) Q) : kWP n0 tc M d mc ms pc L (aI 60 :: aI 4 :: S) cs nc ns Q := by
  intro l p e s m args below meth c D H locs ls C X
  obtain ⟨hx, hb, hml, hown, hts, hre, hlk, hnm, hK, hge, hN9⟩ := id C
  obtain ⟨comp, cA, cc9, k1, k2, r1, r2, r3, r4, r5, r6⟩ := hN9.2.2
  have e5 : cA = tc 5 := by
    have h9 : s.vm.findClass ("[" ++ (FieldType.array .long).toString) = some (tc 5) := (hK.2 5 _ rfl).2
    rw [show "[" ++ (FieldType.array .long).toString = "[[J" by first | rfl | decide] at h9
    exact Option.some.inj (r2.symm.trans h9)
  have e3 : comp = tc 3 := by
    have h9 : s.vm.findClass ("[" ++ (FieldType.long).toString) = some (tc 3) := (hK.2 3 _ rfl).2
    rw [show "[" ++ (FieldType.long).toString = "[J" by first | rfl | decide] at h9
    exact Option.some.inj (r1.symm.trans h9)
  subst e5
  subst e3
  refine W_multi hx hb hown (hts _ hl) r2 r3 r4 r5 r6 rfl hd rfl h1 h2 (fun H1 locs1 z1 q0 q1 o1 hlo => ?_)
  rw [X.2.1] at z1 q0 q1 o1 hlo ⊢
  refine k l p e s m args below meth c D H1 locs1 ls C ⟨?_, ?_, ⟨?_, fun q g1 g2 => ?_, fun q hq => ?_⟩, X.2.2.2⟩
  · rw [kWd_apps]
    refine (X.1.kept fun i x hx9 => o1 x.1 (by rw [← X.2.1]; exact (X.1 i x hx9).lt)).app (fun i x hi => ?_)
    rw [kWd_get] at hi
    have hin : ∀ j : Nat, j < 4 → H1[n0 + cs.length + 1 + j]? = some (vp_cell (tc 3) (60, .inr (.inl (fun _ => 0)))) := by
      intro j hj
      rw [q1 j hj, vp_cell_l, ← arrV_new]
      rfl
    match i, hi with
    | 0, hi =>
      cases hi
      show H1[n0 + cs.length]? = some (vp_cell _ _)
      rw [q0, vp_cell_q]
      congr 1
    | 1, hi => cases hi; exact hin 0 (by omega)
    | 2, hi => cases hi; exact hin 1 (by omega)
    | 3, hi => cases hi; exact hin 2 (by omega)
    | 4, hi => cases hi; exact hin 3 (by omega)
    | i + 5, hi => simp [kmC] at hi
  · rw [z1, List.length_append]
    rfl
  · have := X.2.2.1.1
    have := X.2.1
    omega
  · rw [o1 q (by have := X.2.2.1.1; have := X.2.1; omega)]
    exact X.2.2.1.2.1 q g1 g2
  · rcases hlo q hq with h | h
    · exact X.2.2.1.2.2 q h
    · show n0 ≤ q.base
      rw [h]
      exact Nat.le_add_right _ _
end
section
/-! the building rows over cells of the form P ++ X, a = P.length -/
theorem kln {P X : List va_E} {a n : Nat} (ha : P.length = a) (hn : X.length = n) : (P ++ X).length = a + n := by rw [List.length_append, ha, hn]
theorem kgt {P X : List va_E} {a i : Nat} {e : va_E} (ha : P.length = a) (hi : X[i]? = some e) : (P ++ X)[a + i]? = some e := by
  rw [List.getElem?_append_right (by omega), show a + i - P.length = i by omega]
  exact hi
theorem kst {P X X' : List va_E} {a i : Nat} {e : va_E} (ha : P.length = a) (hi : X.set i e = X') : (P ++ X).set (a + i) e = P ++ X' := by
  rw [List.set_append_right _ _ (by omega), show a + i - P.length = i by omega, hi]
section KX
variable {n0 : Nat} {tc : Nat → ClassId} {M : fwM} {d mc ms pc nc ns : Nat} {L : List (Option fwV)} {S : List fwV} {P X : List va_E} {a : Nat} {Q : List va_E → Prop}
theorem K_new {idx ci n : Nat} {q : vw_C} {fs : List Value} (X' : List va_E) (ty : Nat → FieldType) (hd : decode M.2.1 pc = .ok (.new idx, 3)) (hc : vwCl[ci]? = some q) (hl : Cond.classLink M.1.cls idx q.1 ∈ fwTb) (hi : Cond.instantiable q.1 q.2.2 ∈ fwTb) (hn : Cond.initialized q.1 ∈ fwTb) (hty : ∀ k, k < q.2.2 → parseFieldDescriptor (q.2.1 k).2.2.1 = some (ty k)) (hfs : ∀ j, j < q.2.2 → defaultValue (ty j) = vp_V fs j) (h1 : nc + 1 ≤ mc) (h2 : ns + q.2.2 ≤ ms) (ha : P.length = a) (hX : X.length = n) (hX' : X ++ [.inr (ci, fs)] = X')
    (k : kWP n0 tc M d mc ms (pc + 3) L (aR 0 (a + n) :: S) (P ++ X') (nc + 1) (ns + q.2.2) Q) : kWP n0 tc M d mc ms pc L S (P ++ X) nc ns Q := by
  refine k_new (fs := fs) ty hd hc hl hi hn hty hfs h1 h2 ?_
  rw [kln ha hX, List.append_assoc, hX']
  exact k
theorem K_newa {atype : ArrayType} {x : Int} {n : Nat} (X' : List va_E) {t N : Nat} {a0 : vp_A} (hd : decode M.2.1 pc = .ok (.newarray atype, 2)) (hw : Cond.arrayClass (newarray.typeOf atype) ∈ fwTb) (ht : (fwTy tc)[t]? = some (tc t, newarray.typeOf atype)) (hz : ∀ cA : ClassId, vp_cell cA a0 = arrV cA N (fun _ => defaultValue (newarray.typeOf atype))) (hn : ¬ Int32.ofInt x < 0) (hN : (Int32.ofInt x).toNatClampNeg = N) (hb8 : N * componentBytes (newarray.typeOf atype) ≤ 536870912) (h1 : nc + 1 ≤ mc) (h2 : ns + N ≤ ms) (ha : P.length = a) (hX : X.length = n) (hX' : X ++ [.inl (tc t, a0)] = X')
    (k : kWP n0 tc M d mc ms (pc + 2) L (aR 0 (a + n) :: S) (P ++ X') (nc + 1) (ns + N) Q) : kWP n0 tc M d mc ms pc L (aI x :: S) (P ++ X) nc ns Q := by
  refine k_newa (a0 := a0) hd hw ht hz hn hN hb8 h1 h2 ?_
  rw [kln ha hX, List.append_assoc, hX']
  exact k
theorem K_newq {idx n : Nat} {x : Int} (X' : List va_E) {N : Nat} (hd : decode M.2.1 pc = .ok (.anewarray idx, 3)) (hl : Cond.classLink M.1.cls idx "FootLower$Mountain" ∈ fwTb) (hn : ¬ Int32.ofInt x < 0) (hN : (Int32.ofInt x).toNatClampNeg = N) (hb8 : N * 4 ≤ 536870912) (h1 : nc + 1 ≤ mc) (h2 : ns + N ≤ ms) (ha : P.length = a) (hX : X.length = n) (hX' : X ++ [.inl (tc 4, N, .inr (.inr (.inr (.inr (fun _ => none)))))] = X')
    (k : kWP n0 tc M d mc ms (pc + 3) L (aR 0 (a + n) :: S) (P ++ X') (nc + 1) (ns + N) Q) : kWP n0 tc M d mc ms pc L (aI x :: S) (P ++ X) nc ns Q := by
  refine k_newq hd hl hn hN hb8 h1 h2 ?_
  rw [kln ha hX, List.append_assoc, hX']
  exact k
theorem K_multi {idx n : Nat} (X' : List va_E) (hd : decode M.2.1 pc = .ok (.multianewarray idx 2, 4)) (hl : Cond.classLink M.1.cls idx "[[J" ∈ fwTb) (h1 : nc + 5 ≤ mc) (h2 : ns + 244 ≤ ms) (ha : P.length = a) (hX : X.length = n) (hX' : X ++ kmC n0 tc (a + n) = X')
    (k : kWP n0 tc M d mc ms (pc + 4) L (aR 0 (a + n) :: S) (P ++ X') (nc + 5) (ns + 244) Q) : kWP n0 tc M d mc ms pc L (aI 60 :: aI 4 :: S) (P ++ X) nc ns Q := by
  refine k_multi hd hl h1 h2 ?_
  rw [kln ha hX, List.append_assoc, hX']
  exact k
theorem K_put {idx f i ci : Nat} {q : vw_C} {fs : List Value} {v : fwV} (X' : List va_E) (ty : FieldType) (hd : decode M.2.1 pc = .ok (.putfield idx, 3)) (hc : vwCl[ci]? = some q) (hi : X[i]? = some (.inr (ci, fs))) (hf : f < q.2.2) (hl : Cond.fieldLink M.1.cls idx (q.2.1 f).1 (q.2.1 f).2.1 (q.2.1 f).2.2.1 ∈ fwTb) (hds : parseFieldDescriptor (q.2.1 f).2.2.1 = some ty) (hfin : (q.2.1 f).2.2.2 = false ∨ ((q.2.1 f).2.2.2 = true ∧ M.1.name = "<init>" ∧ (q.2.1 f).1 = M.1.cls)) (hna : narrow ty (fwMv (kad n0) v) = fwMv (kad n0) v) (hfi : fits ty (fwMv (kad n0) v) = true) (hl9 : f < fs.length) (ha : P.length = a) (hX' : X.set i (.inr (ci, fs.set f (fwMv (kad n0) v))) = X')
    (k : kWP n0 tc M d mc ms (pc + 3) L S (P ++ X') nc ns Q) : kWP n0 tc M d mc ms pc L (v :: aR 0 (a + i) :: S) (P ++ X) nc ns Q := by
  refine k_put ty hd hc (kgt ha hi) hf hl hds hfin hna hfi hl9 ?_
  rw [kst ha hX']
  exact k
theorem K_get {idx f i ci : Nat} {q : vw_C} {fs : List Value} (v : fwV) (hd : decode M.2.1 pc = .ok (.getfield idx, 3)) (hc : vwCl[ci]? = some q) (hi : X[i]? = some (.inr (ci, fs))) (hf : f < q.2.2) (hl : Cond.fieldLink M.1.cls idx (q.2.1 f).1 (q.2.1 f).2.1 (q.2.1 f).2.2.1 ∈ fwTb) (hv : fs[f]? = some (fwMv (kad n0) v)) (ha : P.length = a)
    (k : kWP n0 tc M d mc ms (pc + 3) L (v :: S) (P ++ X) nc ns Q) : kWP n0 tc M d mc ms pc L (aR 0 (a + i) :: S) (P ++ X) nc ns Q := k_get v hd hc (kgt ha hi) hf hl hv k
theorem K_iast {i N : Nat} {f : Nat → Int32} {x y : Int} (X' : List va_E) (hd : decode M.2.1 pc = .ok (.iastore, 1)) (hi : X[i]? = some (.inl (tc 0, N, .inl f))) (h0 : 0 ≤ x) (h1 : x < N) (hN : N < 2147483648) (ha : P.length = a) (hX' : X.set i (.inl (tc 0, N, .inl (upd f x.toNat (Int32.ofInt y)))) = X')
    (k : kWP n0 tc M d mc ms (pc + 1) L S (P ++ X') nc ns Q) : kWP n0 tc M d mc ms pc L (aI y :: aI x :: aR 0 (a + i) :: S) (P ++ X) nc ns Q := by
  refine k_iast hd (kgt ha hi) h0 h1 hN ?_
  rw [kst ha hX']
  exact k
theorem K_aast {i iw N ci : Nat} {f : Nat → Option Nat} {x : Int} {r : vw_C} {vs : List Value} (X' : List va_E) (hd : decode M.2.1 pc = .ok (.aastore, 1)) (hi : X[i]? = some (.inl (tc 4, N, .inr (.inr (.inr (.inr f)))))) (hw : X[iw]? = some (.inr (ci, vs))) (hc : vwCl[ci]? = some r) (hr : r.1 = "FootLower$Mountain") (h0 : 0 ≤ x) (h1 : x < N) (hN : N < 2147483648) (ha : P.length = a) (hX' : X.set i (.inl (tc 4, N, .inr (.inr (.inr (.inr (va_up f x.toNat (some (n0 + (a + iw))))))))) = X')
    (k : kWP n0 tc M d mc ms (pc + 1) L S (P ++ X') nc ns Q) : kWP n0 tc M d mc ms pc L (aR 0 (a + iw) :: aI x :: aR 0 (a + i) :: S) (P ++ X) nc ns Q := by
  refine k_aast hd (kgt ha hi) (kgt ha hw) hc hr h0 h1 hN ?_
  rw [kst ha hX']
  exact k
theorem K_call {M' : fwM} {idx n m' mc' ms' : Nat} {X0 : List va_E} {o : va_E} (as : List fwV) (hd : decode M.2.1 pc = .ok (.invokespecial idx, 3)) (hl : Cond.methodLink M.1.cls idx M'.1 ∈ fwTb) (hm : kMok M' n) (hn : as.length = n) (hS : fwCat S ≤ 8) (h1 : nc + mc' ≤ mc) (h2 : ns + ms' ≤ ms) (hX : X = X0 ++ [o]) (ha : P.length = a) (hX0 : X0.length = m')
    (kk : kCt n0 tc M' d mc' ms' (aR 0 (a + m') :: as) ((P ++ X0) ++ [o]) (fun cs' => kWP n0 tc M (d + 1) mc ms (pc + 3) L S cs' (nc + mc') (ns + ms') Q)) : kWP n0 tc M (d + 1) mc ms pc L (as.reverse ++ aR 0 (a + m') :: S) (P ++ X) nc ns Q := by
  refine k_call as hd hl hm hn hS h1 h2 ?_
  rw [hX, ← List.append_assoc]
  exact kk
theorem K_callN {M' : fwM} {idx n m' mc' ms' : Nat} {X0 : List va_E} {o : va_E} (as : List fwV) (hd : decode M.2.1 pc = .ok (.invokespecial idx, 3)) (hl : Cond.methodLinkNest M.1.cls idx M'.1 "FootLower" ∈ lw_tbl) (hm : kMok M' n) (hn : as.length = n) (hS : fwCat S ≤ 8) (h1 : nc + mc' ≤ mc) (h2 : ns + ms' ≤ ms) (hX : X = X0 ++ [o]) (ha : P.length = a) (hX0 : X0.length = m')
    (kk : kCt n0 tc M' d mc' ms' (aR 0 (a + m') :: as) ((P ++ X0) ++ [o]) (fun cs' => kWP n0 tc M (d + 1) mc ms (pc + 3) L S cs' (nc + mc') (ns + ms') Q)) : kWP n0 tc M (d + 1) mc ms pc L (as.reverse ++ aR 0 (a + m') :: S) (P ++ X) nc ns Q := by
  refine k_callN as hd hl hm hn hS h1 h2 ?_
  rw [hX, ← List.append_assoc]
  exact kk
end KX
end
