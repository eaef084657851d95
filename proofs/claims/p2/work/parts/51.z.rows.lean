/-! the building rows over cells of the form P ++ X, a = P.length -/
theorem kln {P X : List va_E} {a n : Nat} (ha : P.length = a) (hn : X.length = n) : (P ++ X).length = a + n := by rw [List.length_append, ha, hn]
theorem kgt {P X : List va_E} {a i : Nat} {e : va_E} (ha : P.length = a) (hi : X[i]? = some e) : (P ++ X)[a + i]? = some e := by
  rw [List.getElem?_append_right (by omega), show a + i - P.length = i by omega]
  exact hi
theorem kst {P X X' : List va_E} {a i : Nat} {e : va_E} (ha : P.length = a) (hi : X.set i e = X') : (P ++ X).set (a + i) e = P ++ X' := by
  rw [List.set_append_right _ _ (by omega), show a + i - P.length = i by omega, hi]
section KX
variable {n0 : Nat} {tc : Nat → ClassId} {M : fwM} {d mc ms pc nc ns : Nat} {L : List (Option fwV)} {S : List fwV} {P X : List va_E} {a : Nat} {Q : List va_E → Prop}
theorem K_new {idx ci n : Nat} {q : vw_C} {fs : List Value} (X' : List va_E) (ty : Nat → FieldType) (hd : decode M.2.1 pc = .ok (.new idx, 3)) (hc : vwCl[ci]? = some q) (hl : Cond.classLink M.1.cls idx q.1 ∈ fwTb) (hi : Cond.instantiable q.1 q.2.2 ∈ fwTb) (hn : Cond.initialized q.1 ∈ fwTb) (hty : ∀ k, k < q.2.2 → parseFieldDescriptor (q.2.1 k).2.2.1 = some (ty k)) (hfs : ∀ j, j < q.2.2 → defaultValue (ty j) = vp_V fs j) (h1 : nc + 1 ≤ mc) (h2 : ns + q.2.2 ≤ ms) (ha : P.length = a) (hX : X.length = n) (hX' : X ++ [.inr (ci, fs)] = X')
    (k : kWP n0 tc M d mc ms (pc + 3) L (aR 0 (a + n) :: S) (P ++ X') (nc + 1) (ns + q.2.2) Q) : kWP n0 tc M d mc ms pc L S (P ++ X) nc ns Q := by
  refine k_new (fs := fs) ty hd hc hl hi hn hty hfs h1 h2 ?_
  rw [kln ha hX, List.append_assoc, hX']
  exact k
theorem K_newa {atype : ArrayType} {x : Int} {n : Nat} (X' : List va_E) {t N : Nat} {a0 : vp_A} (hd : decode M.2.1 pc = .ok (.newarray atype, 2)) (hw : Cond.arrayClass (newarray.typeOf atype) ∈ fwTb) (ht : (fwTy tc)[t]? = some (tc t, newarray.typeOf atype)) (hz : ∀ cA : ClassId, vp_cell cA a0 = arrV cA N (fun _ => defaultValue (newarray.typeOf atype))) (hn : ¬ Int32.ofInt x < 0) (hN : (Int32.ofInt x).toNatClampNeg = N) (hb8 : N * componentBytes (newarray.typeOf atype) ≤ 536870912) (h1 : nc + 1 ≤ mc) (h2 : ns + N ≤ ms) (ha : P.length = a) (hX : X.length = n) (hX' : X ++ [.inl (tc t, a0)] = X')
    (k : kWP n0 tc M d mc ms (pc + 2) L (aR 0 (a + n) :: S) (P ++ X') (nc + 1) (ns + N) Q) : kWP n0 tc M d mc ms pc L (aI x :: S) (P ++ X) nc ns Q := by
  refine k_newa (a0 := a0) hd hw ht hz hn hN hb8 h1 h2 ?_
  rw [kln ha hX, List.append_assoc, hX']
  exact k
theorem K_newq {idx n : Nat} {x : Int} (X' : List va_E) {N : Nat} (hd : decode M.2.1 pc = .ok (.anewarray idx, 3)) (hl : Cond.classLink M.1.cls idx "FootLower$Mountain" ∈ fwTb) (hn : ¬ Int32.ofInt x < 0) (hN : (Int32.ofInt x).toNatClampNeg = N) (hb8 : N * 4 ≤ 536870912) (h1 : nc + 1 ≤ mc) (h2 : ns + N ≤ ms) (ha : P.length = a) (hX : X.length = n) (hX' : X ++ [.inl (tc 4, N, .inr (.inr (.inr (.inr (fun _ => none)))))] = X')
    (k : kWP n0 tc M d mc ms (pc + 3) L (aR 0 (a + n) :: S) (P ++ X') (nc + 1) (ns + N) Q) : kWP n0 tc M d mc ms pc L (aI x :: S) (P ++ X) nc ns Q := by
  refine k_newq hd hl hn hN hb8 h1 h2 ?_
  rw [kln ha hX, List.append_assoc, hX']
  exact k
theorem K_multi {idx n : Nat} (X' : List va_E) (hd : decode M.2.1 pc = .ok (.multianewarray idx 2, 4)) (hl : Cond.classLink M.1.cls idx "[[J" ∈ fwTb) (h1 : nc + 5 ≤ mc) (h2 : ns + 244 ≤ ms) (ha : P.length = a) (hX : X.length = n) (hX' : X ++ kmC n0 tc (a + n) = X')
    (k : kWP n0 tc M d mc ms (pc + 4) L (aR 0 (a + n) :: S) (P ++ X') (nc + 5) (ns + 244) Q) : kWP n0 tc M d mc ms pc L (aI 60 :: aI 4 :: S) (P ++ X) nc ns Q := by
  refine k_multi hd hl h1 h2 ?_
  rw [kln ha hX, List.append_assoc, hX']
  exact k
theorem K_put {idx f i ci : Nat} {q : vw_C} {fs : List Value} {v : fwV} (X' : List va_E) (ty : FieldType) (hd : decode M.2.1 pc = .ok (.putfield idx, 3)) (hc : vwCl[ci]? = some q) (hi : X[i]? = some (.inr (ci, fs))) (hf : f < q.2.2) (hl : Cond.fieldLink M.1.cls idx (q.2.1 f).1 (q.2.1 f).2.1 (q.2.1 f).2.2.1 ∈ fwTb) (hds : parseFieldDescriptor (q.2.1 f).2.2.1 = some ty) (hfin : (q.2.1 f).2.2.2 = false ∨ ((q.2.1 f).2.2.2 = true ∧ M.1.name = "<init>" ∧ (q.2.1 f).1 = M.1.cls)) (hna : narrow ty (fwMv (kad n0) v) = fwMv (kad n0) v) (hfi : fits ty (fwMv (kad n0) v) = true) (hl9 : f < fs.length) (ha : P.length = a) (hX' : X.set i (.inr (ci, fs.set f (fwMv (kad n0) v))) = X')
    (k : kWP n0 tc M d mc ms (pc + 3) L S (P ++ X') nc ns Q) : kWP n0 tc M d mc ms pc L (v :: aR 0 (a + i) :: S) (P ++ X) nc ns Q := by
  refine k_put ty hd hc (kgt ha hi) hf hl hds hfin hna hfi hl9 ?_
  rw [kst ha hX']
  exact k
theorem K_get {idx f i ci : Nat} {q : vw_C} {fs : List Value} (v : fwV) (hd : decode M.2.1 pc = .ok (.getfield idx, 3)) (hc : vwCl[ci]? = some q) (hi : X[i]? = some (.inr (ci, fs))) (hf : f < q.2.2) (hl : Cond.fieldLink M.1.cls idx (q.2.1 f).1 (q.2.1 f).2.1 (q.2.1 f).2.2.1 ∈ fwTb) (hv : fs[f]? = some (fwMv (kad n0) v)) (ha : P.length = a)
    (k : kWP n0 tc M d mc ms (pc + 3) L (v :: S) (P ++ X) nc ns Q) : kWP n0 tc M d mc ms pc L (aR 0 (a + i) :: S) (P ++ X) nc ns Q := k_get v hd hc (kgt ha hi) hf hl hv k
theorem K_iast {i N : Nat} {f : Nat → Int32} {x y : Int} (X' : List va_E) (hd : decode M.2.1 pc = .ok (.iastore, 1)) (hi : X[i]? = some (.inl (tc 0, N, .inl f))) (h0 : 0 ≤ x) (h1 : x < N) (hN : N < 2147483648) (ha : P.length = a) (hX' : X.set i (.inl (tc 0, N, .inl (upd f x.toNat (Int32.ofInt y)))) = X')
    (k : kWP n0 tc M d mc ms (pc + 1) L S (P ++ X') nc ns Q) : kWP n0 tc M d mc ms pc L (aI y :: aI x :: aR 0 (a + i) :: S) (P ++ X) nc ns Q := by
  refine k_iast hd (kgt ha hi) h0 h1 hN ?_
  rw [kst ha hX']
  exact k
theorem K_aast {i iw N ci : Nat} {f : Nat → Option Nat} {x : Int} {r : vw_C} {vs : List Value} (X' : List va_E) (hd : decode M.2.1 pc = .ok (.aastore, 1)) (hi : X[i]? = some (.inl (tc 4, N, .inr (.inr (.inr (.inr f)))))) (hw : X[iw]? = some (.inr (ci, vs))) (hc : vwCl[ci]? = some r) (hr : r.1 = "FootLower$Mountain") (h0 : 0 ≤ x) (h1 : x < N) (hN : N < 2147483648) (ha : P.length = a) (hX' : X.set i (.inl (tc 4, N, .inr (.inr (.inr (.inr (va_up f x.toNat (some (n0 + (a + iw))))))))) = X')
    (k : kWP n0 tc M d mc ms (pc + 1) L S (P ++ X') nc ns Q) : kWP n0 tc M d mc ms pc L (aR 0 (a + iw) :: aI x :: aR 0 (a + i) :: S) (P ++ X) nc ns Q := by
  refine k_aast hd (kgt ha hi) (kgt ha hw) hc hr h0 h1 hN ?_
  rw [kst ha hX']
  exact k
theorem K_call {M' : fwM} {idx n m' mc' ms' : Nat} {X0 : List va_E} {o : va_E} (as : List fwV) (hd : decode M.2.1 pc = .ok (.invokespecial idx, 3)) (hl : Cond.methodLink M.1.cls idx M'.1 ∈ fwTb) (hm : kMok M' n) (hn : as.length = n) (hS : fwCat S ≤ 8) (h1 : nc + mc' ≤ mc) (h2 : ns + ms' ≤ ms) (hX : X = X0 ++ [o]) (ha : P.length = a) (hX0 : X0.length = m')
    (kk : kCt n0 tc M' d mc' ms' (aR 0 (a + m') :: as) ((P ++ X0) ++ [o]) (fun cs' => kWP n0 tc M (d + 1) mc ms (pc + 3) L S cs' (nc + mc') (ns + ms') Q)) : kWP n0 tc M (d + 1) mc ms pc L (as.reverse ++ aR 0 (a + m') :: S) (P ++ X) nc ns Q := by
  refine k_call as hd hl hm hn hS h1 h2 ?_
  rw [hX, ← List.append_assoc]
  exact kk
theorem K_callN {M' : fwM} {idx n m' mc' ms' : Nat} {X0 : List va_E} {o : va_E} (as : List fwV) (hd : decode M.2.1 pc = .ok (.invokespecial idx, 3)) (hl : Cond.methodLinkNest M.1.cls idx M'.1 "FootLower" ∈ lw_tbl) (hm : kMok M' n) (hn : as.length = n) (hS : fwCat S ≤ 8) (h1 : nc + mc' ≤ mc) (h2 : ns + ms' ≤ ms) (hX : X = X0 ++ [o]) (ha : P.length = a) (hX0 : X0.length = m')
    (kk : kCt n0 tc M' d mc' ms' (aR 0 (a + m') :: as) ((P ++ X0) ++ [o]) (fun cs' => kWP n0 tc M (d + 1) mc ms (pc + 3) L S cs' (nc + mc') (ns + ms') Q)) : kWP n0 tc M (d + 1) mc ms pc L (as.reverse ++ aR 0 (a + m') :: S) (P ++ X) nc ns Q := by
  refine k_callN as hd hl hm hn hS h1 h2 ?_
  rw [hX, ← List.append_assoc]
  exact kk
end KX
