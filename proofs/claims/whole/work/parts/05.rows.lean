section AWR
variable {E : Ev} {y : MethodName} {cc : ByteArray} {nL : Nat} {rt : Option FieldType} {R : Room} {Q : Po} {cells slots pc : Nat} {ls ls' : List (Option Value)} {rest : List Value} {I : Mi} {L : Ml} {Z : Mz}
/-! ===== constants, loads ===== -/
theorem aw_iconst {n : Int} {v : Int32} (hd : decode cc pc = .ok (.iconst n, 1)) (hv : Int32.ofInt n = v) (k : AW E y cc nL rt R Q cells slots (pc + 1) ls (.int v :: rest) I L Z) : AW E y cc nL rt R Q cells slots pc ls rest I L Z := by
  intro p e s m args below meth c H locs la Qe F hSim hS hL h1 h2
  exact lv_iconst F.1 F.2.1 hd hv (k p e s m args below meth c H locs la Qe F hSim hS hL h1 h2)
theorem aw_bipush {n : Int} {v : Int32} (hd : decode cc pc = .ok (.bipush n, 2)) (hv : (Int8.ofInt n).toInt32 = v) (k : AW E y cc nL rt R Q cells slots (pc + 2) ls (.int v :: rest) I L Z) : AW E y cc nL rt R Q cells slots pc ls rest I L Z := by
  intro p e s m args below meth c H locs la Qe F hSim hS hL h1 h2
  exact lv_bipush F.1 F.2.1 hd hv (k p e s m args below meth c H locs la Qe F hSim hS hL h1 h2)
theorem aw_sipush {n : Int} {v : Int32} (hd : decode cc pc = .ok (.sipush n, 3)) (hv : (Int16.ofInt n).toInt32 = v) (k : AW E y cc nL rt R Q cells slots (pc + 3) ls (.int v :: rest) I L Z) : AW E y cc nL rt R Q cells slots pc ls rest I L Z := by
  intro p e s m args below meth c H locs la Qe F hSim hS hL h1 h2
  exact lv_sipush F.1 F.2.1 hd hv (k p e s m args below meth c H locs la Qe F hSim hS hL h1 h2)
theorem aw_lconst {n : Fin 2} {v : Int64} (hd : decode cc pc = .ok (.lconst n, 1)) (hv : Int64.ofNat (n : Nat) = v) (k : AW E y cc nL rt R Q cells slots (pc + 1) ls (.long v :: rest) I L Z) : AW E y cc nL rt R Q cells slots pc ls rest I L Z := by
  intro p e s m args below meth c H locs la Qe F hSim hS hL h1 h2
  exact lv_lconst F.1 F.2.1 hd hv (k p e s m args below meth c H locs la Qe F hSim hS hL h1 h2)
theorem aw_null  (hd : decode cc pc = .ok (.aconst_null, 1))  (k : AW E y cc nL rt R Q cells slots (pc + 1) ls (.null :: rest) I L Z) : AW E y cc nL rt R Q cells slots pc ls rest I L Z := by
  intro p e s m args below meth c H locs la Qe F hSim hS hL h1 h2
  exact lv_null F.1 F.2.1 hd (k p e s m args below meth c H locs la Qe F hSim hS hL h1 h2)
theorem aw_ldc {index : Nat} {v : Int32} (hd : decode cc pc = .ok (.ldc index, 2)) (hw : Jvm.Cond.constant y.cls index v ∈ tb2) (k : AW E y cc nL rt R Q cells slots (pc + 2) ls (.int v :: rest) I L Z) : AW E y cc nL rt R Q cells slots pc ls rest I L Z := by
  intro p e s m args below meth c H locs la Qe F hSim hS hL h1 h2
  exact lv_ldc F.1 F.2.1 F.2.2.2.1 (F.2.2.2.2.1 _ hw) hd (k p e s m args below meth c H locs la Qe F hSim hS hL h1 h2)
theorem aw_ldcw {index : Nat} {v : Int32} (hd : decode cc pc = .ok (.ldc_w index, 3)) (hw : Jvm.Cond.constant y.cls index v ∈ tb2) (k : AW E y cc nL rt R Q cells slots (pc + 3) ls (.int v :: rest) I L Z) : AW E y cc nL rt R Q cells slots pc ls rest I L Z := by
  intro p e s m args below meth c H locs la Qe F hSim hS hL h1 h2
  exact lv_ldcw F.1 F.2.1 F.2.2.2.1 (F.2.2.2.2.1 _ hw) hd (k p e s m args below meth c H locs la Qe F hSim hS hL h1 h2)
theorem aw_ldc2 {index : Nat} {v : Int64} (hd : decode cc pc = .ok (.ldc2_w index, 3)) (hw : Jvm.Cond.constantLong y.cls index v ∈ tb2) (k : AW E y cc nL rt R Q cells slots (pc + 3) ls (.long v :: rest) I L Z) : AW E y cc nL rt R Q cells slots pc ls rest I L Z := by
  intro p e s m args below meth c H locs la Qe F hSim hS hL h1 h2
  exact lv_ldc2 F.1 F.2.1 F.2.2.2.1 (F.2.2.2.2.1 _ hw) hd (k p e s m args below meth c H locs la Qe F hSim hS hL h1 h2)
theorem aw_iload_n {n : Fin 4} {x : Int32} (hd : decode cc pc = .ok (.iload_n n, 1)) (hl : ls[n.val]? = some (some (.int x))) (k : AW E y cc nL rt R Q cells slots (pc + 1) ls (.int x :: rest) I L Z) : AW E y cc nL rt R Q cells slots pc ls rest I L Z := by
  intro p e s m args below meth c H locs la Qe F hSim hS hL h1 h2
  exact lv_iload_n F.1 F.2.1 hd rfl (hL.2.2 _ _ hl) (k p e s m args below meth c H locs la Qe F hSim hS hL h1 h2)
theorem aw_iload {n : Nat} {x : Int32} (hd : decode cc pc = .ok (.iload n, 2)) (hl : ls[n]? = some (some (.int x))) (k : AW E y cc nL rt R Q cells slots (pc + 2) ls (.int x :: rest) I L Z) : AW E y cc nL rt R Q cells slots pc ls rest I L Z := by
  intro p e s m args below meth c H locs la Qe F hSim hS hL h1 h2
  exact lv_iload F.1 F.2.1 hd (hL.2.2 _ _ hl) (k p e s m args below meth c H locs la Qe F hSim hS hL h1 h2)
theorem aw_lload_n {n : Fin 4} {x : Int64} (hd : decode cc pc = .ok (.lload_n n, 1)) (hl : ls[n.val]? = some (some (.long x))) (k : AW E y cc nL rt R Q cells slots (pc + 1) ls (.long x :: rest) I L Z) : AW E y cc nL rt R Q cells slots pc ls rest I L Z := by
  intro p e s m args below meth c H locs la Qe F hSim hS hL h1 h2
  exact lv_lload_n F.1 F.2.1 hd rfl (hL.2.2 _ _ hl) (k p e s m args below meth c H locs la Qe F hSim hS hL h1 h2)
theorem aw_lload {n : Nat} {x : Int64} (hd : decode cc pc = .ok (.lload n, 2)) (hl : ls[n]? = some (some (.long x))) (k : AW E y cc nL rt R Q cells slots (pc + 2) ls (.long x :: rest) I L Z) : AW E y cc nL rt R Q cells slots pc ls rest I L Z := by
  intro p e s m args below meth c H locs la Qe F hSim hS hL h1 h2
  exact lv_lload F.1 F.2.1 hd (hL.2.2 _ _ hl) (k p e s m args below meth c H locs la Qe F hSim hS hL h1 h2)
def rfV (v : Value) : Bool := match v with
  | .ref _ => true
  | .retAddr _ => true
  | .null => true
  | _ => false
theorem aw_aload_n {n : Fin 4} {v : Value} (hd : decode cc pc = .ok (.aload_n n, 1)) (hl : ls[n.val]? = some (some v)) (hv : rfV v = true) (k : AW E y cc nL rt R Q cells slots (pc + 1) ls (v :: rest) I L Z) : AW E y cc nL rt R Q cells slots pc ls rest I L Z := by
  intro p e s m args below meth c H locs la Qe F hSim hS hL h1 h2
  have hk := k p e s m args below meth c H locs la Qe F hSim hS hL h1 h2
  have hl' := hL.2.2 _ _ hl
  match v, hv, hl', hk with
  | .ref a, _, hl', hk => exact lv_aload_n F.1 F.2.1 hd rfl hl' hk
  | .retAddr a, _, hl', hk => exact lv_aload_n F.1 F.2.1 hd rfl hl' hk
  | .null, _, hl', hk => exact lv_aload_nN F.1 F.2.1 hd rfl hl' hk
theorem aw_aload {n : Nat} {v : Value} (hd : decode cc pc = .ok (.aload n, 2)) (hl : ls[n]? = some (some v)) (hv : rfV v = true) (k : AW E y cc nL rt R Q cells slots (pc + 2) ls (v :: rest) I L Z) : AW E y cc nL rt R Q cells slots pc ls rest I L Z := by
  intro p e s m args below meth c H locs la Qe F hSim hS hL h1 h2
  have hk := k p e s m args below meth c H locs la Qe F hSim hS hL h1 h2
  have hl' := hL.2.2 _ _ hl
  match v, hv, hl', hk with
  | .ref a, _, hl', hk => exact lv_aload F.1 F.2.1 hd hl' hk
  | .retAddr a, _, hl', hk => exact lv_aload F.1 F.2.1 hd hl' hk
  | .null, _, hl', hk => exact lv_aloadN F.1 F.2.1 hd hl' hk
/-! ===== stores ===== -/
def lvl (E : Ev) (ls : List (Option Value)) : List (Nat × Value) := (List.range ls.length).filterMap fun i => (ls[i]?.join).map fun v => (i, cV E v)
theorem lvl_mem {E : Ev} {ls : List (Option Value)} {i : Nat} {v : Value} (h : ls[i]? = some (some v)) : (i, cV E v) ∈ lvl E ls := by
  refine List.mem_filterMap.mpr ⟨i, List.mem_range.mpr (List.getElem?_eq_some_iff.mp h).1, ?_⟩
  rw [h]; rfl
theorem lvl_of {E : Ev} {ls : List (Option Value)} {q : Nat × Value} (h : q ∈ lvl E ls) : ∃ v, ls[q.1]? = some (some v) ∧ q.2 = cV E v := by
  obtain ⟨i, -, hi⟩ := List.mem_filterMap.mp h
  cases hx : ls[i]? with
  | none => rw [hx] at hi; cases hi
  | some o =>
    rw [hx] at hi
    cases o with
    | none => cases hi
    | some v => cases hi; exact ⟨v, hx, rfl⟩
theorem LH.has {E : Ev} {la : Array Slot} {nL : Nat} {ls : List (Option Value)} (h : LH E la nL ls) : lv_has la nL (lvl E ls) := by
  refine ⟨h.1, h.2.1, fun q hq => ?_⟩
  obtain ⟨v, h1, h2⟩ := lvl_of hq
  rw [h2]; exact h.2.2 _ _ h1
def okS (ls : List (Option Value)) (i : Nat) : Bool := match i with
  | 0 => true
  | j + 1 => match ls[j]? with
    | some (some (.long _)) => false
    | some (some (.double _)) => false
    | _ => true
theorem LH.set1 {E : Ev} {la : Array Slot} {nL : Nat} {ls : List (Option Value)} {i : Nat} {v : Value} (ho : okS ls i = true) (h : lv_has la nL ((i, cV E v) :: (lvl E ls).filter (fun q => !(q.1 == i) && !(q.1 + 1 == i && q.2.category == 2)))) : LH E la nL (ls.set i (some v)) := by
  refine ⟨h.1, h.2.1, fun j w hj => ?_⟩
  by_cases hij : i = j
  · subst hij
    have hl : i < ls.length := by
      have := (List.getElem?_eq_some_iff.mp hj).1
      simpa using this
    rw [List.getElem?_set_self hl] at hj
    cases hj
    exact h.2.2 (i, cV E v) List.mem_cons_self
  · rw [List.getElem?_set_ne hij] at hj
    refine h.2.2 (j, cV E w) (List.mem_cons_of_mem _ (List.mem_filter.mpr ⟨lvl_mem hj, ?_⟩))
    have h1 : (j == i) = false := by simpa using fun e => hij e.symm
    simp only [h1, Bool.not_false, Bool.true_and, Bool.not_eq_true', Bool.and_eq_false_iff, cV_cat]
    by_cases hji : j + 1 = i
    · subst hji
      refine Or.inr ?_
      simp only [okS, hj] at ho
      cases w <;> first | rfl | (simp at ho)
    · exact Or.inl (by simpa using hji)
theorem LH.set2 {E : Ev} {la : Array Slot} {nL : Nat} {ls : List (Option Value)} {i : Nat} {v : Value} (ho : okS ls i = true) (h : lv_has la nL ((i, cV E v) :: (lvl E ls).filter (fun q => !(q.1 == i) && (!(q.1 == i + 1) && !(q.1 + 1 == i && q.2.category == 2))))) : LH E la nL ((ls.set i (some v)).set (i + 1) none) := by
  refine ⟨h.1, h.2.1, fun j w hj => ?_⟩
  by_cases hj1 : i + 1 = j
  · subst hj1
    have hl : i + 1 < (ls.set i (some v)).length := by
      have := (List.getElem?_eq_some_iff.mp hj).1
      simpa using this
    rw [List.getElem?_set_self hl] at hj
    cases hj
  rw [List.getElem?_set_ne hj1] at hj
  by_cases hij : i = j
  · subst hij
    have hl : i < ls.length := by
      have := (List.getElem?_eq_some_iff.mp hj).1
      simpa using this
    rw [List.getElem?_set_self hl] at hj
    cases hj
    exact h.2.2 (i, cV E v) List.mem_cons_self
  · rw [List.getElem?_set_ne hij] at hj
    refine h.2.2 (j, cV E w) (List.mem_cons_of_mem _ (List.mem_filter.mpr ⟨lvl_mem hj, ?_⟩))
    have h1 : (j == i) = false := by simpa using fun e => hij e.symm
    have h2 : (j == i + 1) = false := by simpa using fun e => hj1 e.symm
    simp only [h1, h2, Bool.not_false, Bool.true_and, Bool.not_eq_true', Bool.and_eq_false_iff, cV_cat]
    by_cases hji : j + 1 = i
    · subst hji
      refine Or.inr ?_
      simp only [okS, hj] at ho
      cases w <;> first | rfl | (simp at ho)
    · exact Or.inl (by simpa using hji)
theorem aw_istore_n {n : Fin 4} {x : Int32} (hd : decode cc pc = .ok (.istore_n n, 1)) (hn : n.val < nL) (ho : okS ls n.val = true) (hls : ls.set n.val (some (.int x)) = ls') (k : AW E y cc nL rt R Q cells slots (pc + 1) ls' rest I L Z) : AW E y cc nL rt R Q cells slots pc ls (.int x :: rest) I L Z := by
  intro p e s m args below meth c H locs la Qe F hSim hS hL h1 h2
  exact lv_istore_n F.1 F.2.1 hd rfl hL.has hn rfl (fun la' hL' => k p e s m args below meth c H locs la' Qe F hSim hS (hls ▸ LH.set1 ho hL') h1 h2)
theorem aw_istore {n : Nat} {x : Int32} (hd : decode cc pc = .ok (.istore n, 2)) (hn : n < nL) (ho : okS ls n = true) (hls : ls.set n (some (.int x)) = ls') (k : AW E y cc nL rt R Q cells slots (pc + 2) ls' rest I L Z) : AW E y cc nL rt R Q cells slots pc ls (.int x :: rest) I L Z := by
  intro p e s m args below meth c H locs la Qe F hSim hS hL h1 h2
  exact lv_istore F.1 F.2.1 hd hL.has hn rfl (fun la' hL' => k p e s m args below meth c H locs la' Qe F hSim hS (hls ▸ LH.set1 ho hL') h1 h2)
theorem aw_lstore_n {n : Fin 4} {x : Int64} (hd : decode cc pc = .ok (.lstore_n n, 1)) (hn : n.val + 1 < nL) (ho : okS ls n.val = true) (hls : (ls.set n.val (some (.long x))).set (n.val + 1) none = ls') (k : AW E y cc nL rt R Q cells slots (pc + 1) ls' rest I L Z) : AW E y cc nL rt R Q cells slots pc ls (.long x :: rest) I L Z := by
  intro p e s m args below meth c H locs la Qe F hSim hS hL h1 h2
  exact lv_lstore_n F.1 F.2.1 hd rfl hL.has hn rfl (fun la' hL' => k p e s m args below meth c H locs la' Qe F hSim hS (hls ▸ LH.set2 ho hL') h1 h2)
theorem aw_lstore {n : Nat} {x : Int64} (hd : decode cc pc = .ok (.lstore n, 2)) (hn : n + 1 < nL) (ho : okS ls n = true) (hls : (ls.set n (some (.long x))).set (n + 1) none = ls') (k : AW E y cc nL rt R Q cells slots (pc + 2) ls' rest I L Z) : AW E y cc nL rt R Q cells slots pc ls (.long x :: rest) I L Z := by
  intro p e s m args below meth c H locs la Qe F hSim hS hL h1 h2
  exact lv_lstore F.1 F.2.1 hd hL.has hn rfl (fun la' hL' => k p e s m args below meth c H locs la' Qe F hSim hS (hls ▸ LH.set2 ho hL') h1 h2)
theorem aw_astore_n {n : Fin 4} {v : Value} (hd : decode cc pc = .ok (.astore_n n, 1)) (hn : n.val < nL) (ho : okS ls n.val = true) (hv : rfV v = true) (hls : ls.set n.val (some v) = ls') (k : AW E y cc nL rt R Q cells slots (pc + 1) ls' rest I L Z) : AW E y cc nL rt R Q cells slots pc ls (v :: rest) I L Z := by
  intro p e s m args below meth c H locs la Qe F hSim hS hL h1 h2
  match v, hv, hls with
  | .ref a, _, hls => exact lv_astore_n F.1 F.2.1 hd rfl hL.has hn rfl (fun la' hL' => k p e s m args below meth c H locs la' Qe F hSim hS (hls ▸ LH.set1 (v := .ref a) ho hL') h1 h2)
  | .retAddr a, _, hls => exact lv_astore_n F.1 F.2.1 hd rfl hL.has hn rfl (fun la' hL' => k p e s m args below meth c H locs la' Qe F hSim hS (hls ▸ LH.set1 (v := .retAddr a) ho hL') h1 h2)
  | .null, _, hls => exact lv_astore_nN F.1 F.2.1 hd rfl hL.has hn rfl (fun la' hL' => k p e s m args below meth c H locs la' Qe F hSim hS (hls ▸ LH.set1 (v := .null) ho hL') h1 h2)
theorem aw_astore {n : Nat} {v : Value} (hd : decode cc pc = .ok (.astore n, 2)) (hn : n < nL) (ho : okS ls n = true) (hv : rfV v = true) (hls : ls.set n (some v) = ls') (k : AW E y cc nL rt R Q cells slots (pc + 2) ls' rest I L Z) : AW E y cc nL rt R Q cells slots pc ls (v :: rest) I L Z := by
  intro p e s m args below meth c H locs la Qe F hSim hS hL h1 h2
  match v, hv, hls with
  | .ref a, _, hls => exact lv_astore F.1 F.2.1 hd hL.has hn rfl (fun la' hL' => k p e s m args below meth c H locs la' Qe F hSim hS (hls ▸ LH.set1 (v := .ref a) ho hL') h1 h2)
  | .retAddr a, _, hls => exact lv_astore F.1 F.2.1 hd hL.has hn rfl (fun la' hL' => k p e s m args below meth c H locs la' Qe F hSim hS (hls ▸ LH.set1 (v := .retAddr a) ho hL') h1 h2)
  | .null, _, hls => exact lv_astoreN F.1 F.2.1 hd hL.has hn rfl (fun la' hL' => k p e s m args below meth c H locs la' Qe F hSim hS (hls ▸ LH.set1 (v := .null) ho hL') h1 h2)
theorem aw_iinc {i : Nat} {n : Int} {x v : Int32} (hd : decode cc pc = .ok (.iinc i n, 3)) (hl : ls[i]? = some (some (.int x))) (hv : x + Int32.ofInt n = v) (hn : i < nL) (ho : okS ls i = true) (hls : ls.set i (some (.int v)) = ls') (k : AW E y cc nL rt R Q cells slots (pc + 3) ls' rest I L Z) : AW E y cc nL rt R Q cells slots pc ls rest I L Z := by
  intro p e s m args below meth c H locs la Qe F hSim hS hL h1 h2
  obtain ⟨j, hj⟩ := List.getElem?_of_mem (lvl_mem (E := E) hl)
  exact lv_iinc F.1 F.2.1 hd hL.has hj hv hn rfl (fun la' hL' => k p e s m args below meth c H locs la' Qe F hSim hS (hls ▸ LH.set1 (v := .int v) ho hL') h1 h2)
/-! ===== arithmetic ===== -/
theorem aw_iadd {x z : Int32} (hd : decode cc pc = .ok (.iadd, 1))  (k : AW E y cc nL rt R Q cells slots (pc + 1) ls (.int (x + z) :: rest) I L Z) : AW E y cc nL rt R Q cells slots pc ls (.int z :: .int x :: rest) I L Z := by
  intro p e s m args below meth c H locs la Qe F hSim hS hL h1 h2
  exact lv_iadd F.1 F.2.1 hd (k p e s m args below meth c H locs la Qe F hSim hS hL h1 h2)
theorem aw_isub {x z : Int32} (hd : decode cc pc = .ok (.isub, 1))  (k : AW E y cc nL rt R Q cells slots (pc + 1) ls (.int (x - z) :: rest) I L Z) : AW E y cc nL rt R Q cells slots pc ls (.int z :: .int x :: rest) I L Z := by
  intro p e s m args below meth c H locs la Qe F hSim hS hL h1 h2
  exact lv_isub F.1 F.2.1 hd (k p e s m args below meth c H locs la Qe F hSim hS hL h1 h2)
theorem aw_imul {x z : Int32} (hd : decode cc pc = .ok (.imul, 1))  (k : AW E y cc nL rt R Q cells slots (pc + 1) ls (.int (x * z) :: rest) I L Z) : AW E y cc nL rt R Q cells slots pc ls (.int z :: .int x :: rest) I L Z := by
  intro p e s m args below meth c H locs la Qe F hSim hS hL h1 h2
  exact lv_imul F.1 F.2.1 hd (k p e s m args below meth c H locs la Qe F hSim hS hL h1 h2)
theorem aw_iand {x z : Int32} (hd : decode cc pc = .ok (.iand, 1))  (k : AW E y cc nL rt R Q cells slots (pc + 1) ls (.int (x &&& z) :: rest) I L Z) : AW E y cc nL rt R Q cells slots pc ls (.int z :: .int x :: rest) I L Z := by
  intro p e s m args below meth c H locs la Qe F hSim hS hL h1 h2
  exact lv_iand F.1 F.2.1 hd (k p e s m args below meth c H locs la Qe F hSim hS hL h1 h2)
theorem aw_ior {x z : Int32} (hd : decode cc pc = .ok (.ior, 1))  (k : AW E y cc nL rt R Q cells slots (pc + 1) ls (.int (x ||| z) :: rest) I L Z) : AW E y cc nL rt R Q cells slots pc ls (.int z :: .int x :: rest) I L Z := by
  intro p e s m args below meth c H locs la Qe F hSim hS hL h1 h2
  exact lv_ior F.1 F.2.1 hd (k p e s m args below meth c H locs la Qe F hSim hS hL h1 h2)
theorem aw_ixor {x z : Int32} (hd : decode cc pc = .ok (.ixor, 1))  (k : AW E y cc nL rt R Q cells slots (pc + 1) ls (.int (x ^^^ z) :: rest) I L Z) : AW E y cc nL rt R Q cells slots pc ls (.int z :: .int x :: rest) I L Z := by
  intro p e s m args below meth c H locs la Qe F hSim hS hL h1 h2
  exact lv_ixor F.1 F.2.1 hd (k p e s m args below meth c H locs la Qe F hSim hS hL h1 h2)
theorem aw_idiv {x z : Int32} (hd : decode cc pc = .ok (.idiv, 1)) (hne : ¬ z = 0) (k : AW E y cc nL rt R Q cells slots (pc + 1) ls (.int (x / z) :: rest) I L Z) : AW E y cc nL rt R Q cells slots pc ls (.int z :: .int x :: rest) I L Z := by
  intro p e s m args below meth c H locs la Qe F hSim hS hL h1 h2
  exact lv_idiv F.1 F.2.1 hd hne (k p e s m args below meth c H locs la Qe F hSim hS hL h1 h2)
theorem aw_irem {x z : Int32} (hd : decode cc pc = .ok (.irem, 1)) (hne : ¬ z = 0) (k : AW E y cc nL rt R Q cells slots (pc + 1) ls (.int (x - x / z * z) :: rest) I L Z) : AW E y cc nL rt R Q cells slots pc ls (.int z :: .int x :: rest) I L Z := by
  intro p e s m args below meth c H locs la Qe F hSim hS hL h1 h2
  exact lv_irem F.1 F.2.1 hd hne (k p e s m args below meth c H locs la Qe F hSim hS hL h1 h2)
theorem aw_ineg {x : Int32} (hd : decode cc pc = .ok (.ineg, 1))  (k : AW E y cc nL rt R Q cells slots (pc + 1) ls (.int (-x) :: rest) I L Z) : AW E y cc nL rt R Q cells slots pc ls (.int x :: rest) I L Z := by
  intro p e s m args below meth c H locs la Qe F hSim hS hL h1 h2
  exact lv_ineg F.1 F.2.1 hd (k p e s m args below meth c H locs la Qe F hSim hS hL h1 h2)
theorem aw_ishl {x z : Int32} (hd : decode cc pc = .ok (.ishl, 1))  (k : AW E y cc nL rt R Q cells slots (pc + 1) ls (.int (x <<< (z &&& 31)) :: rest) I L Z) : AW E y cc nL rt R Q cells slots pc ls (.int z :: .int x :: rest) I L Z := by
  intro p e s m args below meth c H locs la Qe F hSim hS hL h1 h2
  exact lv_ishl F.1 F.2.1 hd (k p e s m args below meth c H locs la Qe F hSim hS hL h1 h2)
theorem aw_ishr {x z : Int32} (hd : decode cc pc = .ok (.ishr, 1))  (k : AW E y cc nL rt R Q cells slots (pc + 1) ls (.int (x >>> (z &&& 31)) :: rest) I L Z) : AW E y cc nL rt R Q cells slots pc ls (.int z :: .int x :: rest) I L Z := by
  intro p e s m args below meth c H locs la Qe F hSim hS hL h1 h2
  exact lv_ishr F.1 F.2.1 hd (k p e s m args below meth c H locs la Qe F hSim hS hL h1 h2)
theorem aw_iushr {x z : Int32} (hd : decode cc pc = .ok (.iushr, 1))  (k : AW E y cc nL rt R Q cells slots (pc + 1) ls (.int (x.toUInt32 >>> (z.toUInt32 &&& Int32.toUInt32 31)).toInt32 :: rest) I L Z) : AW E y cc nL rt R Q cells slots pc ls (.int z :: .int x :: rest) I L Z := by
  intro p e s m args below meth c H locs la Qe F hSim hS hL h1 h2
  exact lv_iushr F.1 F.2.1 hd rfl (k p e s m args below meth c H locs la Qe F hSim hS hL h1 h2)
theorem aw_ladd {x z : Int64} (hd : decode cc pc = .ok (.ladd, 1))  (k : AW E y cc nL rt R Q cells slots (pc + 1) ls (.long (x + z) :: rest) I L Z) : AW E y cc nL rt R Q cells slots pc ls (.long z :: .long x :: rest) I L Z := by
  intro p e s m args below meth c H locs la Qe F hSim hS hL h1 h2
  exact lv_ladd F.1 F.2.1 hd (k p e s m args below meth c H locs la Qe F hSim hS hL h1 h2)
theorem aw_lsub {x z : Int64} (hd : decode cc pc = .ok (.lsub, 1))  (k : AW E y cc nL rt R Q cells slots (pc + 1) ls (.long (x - z) :: rest) I L Z) : AW E y cc nL rt R Q cells slots pc ls (.long z :: .long x :: rest) I L Z := by
  intro p e s m args below meth c H locs la Qe F hSim hS hL h1 h2
  exact lv_lsub F.1 F.2.1 hd (k p e s m args below meth c H locs la Qe F hSim hS hL h1 h2)
theorem aw_lmul {x z : Int64} (hd : decode cc pc = .ok (.lmul, 1))  (k : AW E y cc nL rt R Q cells slots (pc + 1) ls (.long (x * z) :: rest) I L Z) : AW E y cc nL rt R Q cells slots pc ls (.long z :: .long x :: rest) I L Z := by
  intro p e s m args below meth c H locs la Qe F hSim hS hL h1 h2
  exact lv_lmul F.1 F.2.1 hd (k p e s m args below meth c H locs la Qe F hSim hS hL h1 h2)
theorem aw_ldiv {x z : Int64} (hd : decode cc pc = .ok (.ldiv, 1)) (hne : ¬ z = 0) (k : AW E y cc nL rt R Q cells slots (pc + 1) ls (.long (x / z) :: rest) I L Z) : AW E y cc nL rt R Q cells slots pc ls (.long z :: .long x :: rest) I L Z := by
  intro p e s m args below meth c H locs la Qe F hSim hS hL h1 h2
  exact lv_ldiv F.1 F.2.1 hd hne (k p e s m args below meth c H locs la Qe F hSim hS hL h1 h2)
theorem aw_lrem {x z : Int64} (hd : decode cc pc = .ok (.lrem, 1)) (hne : ¬ z = 0) (k : AW E y cc nL rt R Q cells slots (pc + 1) ls (.long (x - x / z * z) :: rest) I L Z) : AW E y cc nL rt R Q cells slots pc ls (.long z :: .long x :: rest) I L Z := by
  intro p e s m args below meth c H locs la Qe F hSim hS hL h1 h2
  exact lv_lrem F.1 F.2.1 hd hne (k p e s m args below meth c H locs la Qe F hSim hS hL h1 h2)
theorem aw_lcmp {x z : Int64} (hd : decode cc pc = .ok (.lcmp, 1))  (k : AW E y cc nL rt R Q cells slots (pc + 1) ls (.int (lg_cmp x z) :: rest) I L Z) : AW E y cc nL rt R Q cells slots pc ls (.long z :: .long x :: rest) I L Z := by
  intro p e s m args below meth c H locs la Qe F hSim hS hL h1 h2
  exact W.lcmp F.1 F.2.1 hd (k p e s m args below meth c H locs la Qe F hSim hS hL h1 h2)
theorem aw_i2l {x : Int32} (hd : decode cc pc = .ok (.i2l, 1))  (k : AW E y cc nL rt R Q cells slots (pc + 1) ls (.long x.toInt64 :: rest) I L Z) : AW E y cc nL rt R Q cells slots pc ls (.int x :: rest) I L Z := by
  intro p e s m args below meth c H locs la Qe F hSim hS hL h1 h2
  exact lv_i2l F.1 F.2.1 hd rfl (k p e s m args below meth c H locs la Qe F hSim hS hL h1 h2)
theorem aw_l2i {x : Int64} (hd : decode cc pc = .ok (.l2i, 1))  (k : AW E y cc nL rt R Q cells slots (pc + 1) ls (.int x.toInt32 :: rest) I L Z) : AW E y cc nL rt R Q cells slots pc ls (.long x :: rest) I L Z := by
  intro p e s m args below meth c H locs la Qe F hSim hS hL h1 h2
  exact lv_l2i F.1 F.2.1 hd rfl (k p e s m args below meth c H locs la Qe F hSim hS hL h1 h2)
theorem aw_i2b {x : Int32} (hd : decode cc pc = .ok (.i2b, 1))  (k : AW E y cc nL rt R Q cells slots (pc + 1) ls (.int x.toInt8.toInt32 :: rest) I L Z) : AW E y cc nL rt R Q cells slots pc ls (.int x :: rest) I L Z := by
  intro p e s m args below meth c H locs la Qe F hSim hS hL h1 h2
  exact lv_i2b F.1 F.2.1 hd rfl (k p e s m args below meth c H locs la Qe F hSim hS hL h1 h2)
theorem aw_i2s {x : Int32} (hd : decode cc pc = .ok (.i2s, 1))  (k : AW E y cc nL rt R Q cells slots (pc + 1) ls (.int x.toInt16.toInt32 :: rest) I L Z) : AW E y cc nL rt R Q cells slots pc ls (.int x :: rest) I L Z := by
  intro p e s m args below meth c H locs la Qe F hSim hS hL h1 h2
  exact lv_i2s F.1 F.2.1 hd rfl (k p e s m args below meth c H locs la Qe F hSim hS hL h1 h2)
theorem aw_dup {v : Value} (hd : decode cc pc = .ok (.dup, 1)) (hv : v.category = 1) (k : AW E y cc nL rt R Q cells slots (pc + 1) ls (v :: v :: rest) I L Z) : AW E y cc nL rt R Q cells slots pc ls (v :: rest) I L Z := by
  intro p e s m args below meth c H locs la Qe F hSim hS hL h1 h2
  exact lv_dup F.1 F.2.1 hd ((cV_cat E v).trans hv) (k p e s m args below meth c H locs la Qe F hSim hS hL h1 h2)
theorem aw_pop {v : Value} (hd : decode cc pc = .ok (.pop, 1)) (hv : v.category = 1) (k : AW E y cc nL rt R Q cells slots (pc + 1) ls rest I L Z) : AW E y cc nL rt R Q cells slots pc ls (v :: rest) I L Z := by
  intro p e s m args below meth c H locs la Qe F hSim hS hL h1 h2
  exact lv_pop F.1 F.2.1 hd ((cV_cat E v).trans hv) (k p e s m args below meth c H locs la Qe F hSim hS hL h1 h2)
/-! ===== branches ===== -/
theorem aw_if_eq {x : Int32} {off : Int} {tgt : Nat} (hd : decode cc pc = .ok (.ifCond .eq off, 3)) (ht : (pc : Int) + off = (tgt : Int)) (kt : x = 0 → AW E y cc nL rt R Q cells slots tgt ls rest I L Z) (kf : ¬ x = 0 → AW E y cc nL rt R Q cells slots (pc + 3) ls rest I L Z) : AW E y cc nL rt R Q cells slots pc ls (.int x :: rest) I L Z := by
  intro p e s m args below meth c H locs la Qe F hSim hS hL h1 h2
  exact lv_if_eq F.1 F.2.1 hd ht (fun z => kt z p e s m args below meth c H locs la Qe F hSim hS hL h1 h2) (fun z => kf z p e s m args below meth c H locs la Qe F hSim hS hL h1 h2)
theorem aw_icmp_eq {x z : Int32} {off : Int} {tgt : Nat} (hd : decode cc pc = .ok (.if_icmp .eq off, 3)) (ht : (pc : Int) + off = (tgt : Int)) (kt : x = z → AW E y cc nL rt R Q cells slots tgt ls rest I L Z) (kf : ¬ x = z → AW E y cc nL rt R Q cells slots (pc + 3) ls rest I L Z) : AW E y cc nL rt R Q cells slots pc ls (.int z :: .int x :: rest) I L Z := by
  intro p e s m args below meth c H locs la Qe F hSim hS hL h1 h2
  exact lv_icmp_eq F.1 F.2.1 hd ht (fun z => kt z p e s m args below meth c H locs la Qe F hSim hS hL h1 h2) (fun z => kf z p e s m args below meth c H locs la Qe F hSim hS hL h1 h2)
theorem aw_if_ne {x : Int32} {off : Int} {tgt : Nat} (hd : decode cc pc = .ok (.ifCond .ne off, 3)) (ht : (pc : Int) + off = (tgt : Int)) (kt : ¬ x = 0 → AW E y cc nL rt R Q cells slots tgt ls rest I L Z) (kf : x = 0 → AW E y cc nL rt R Q cells slots (pc + 3) ls rest I L Z) : AW E y cc nL rt R Q cells slots pc ls (.int x :: rest) I L Z := by
  intro p e s m args below meth c H locs la Qe F hSim hS hL h1 h2
  exact lv_if_ne F.1 F.2.1 hd ht (fun z => kt z p e s m args below meth c H locs la Qe F hSim hS hL h1 h2) (fun z => kf z p e s m args below meth c H locs la Qe F hSim hS hL h1 h2)
theorem aw_icmp_ne {x z : Int32} {off : Int} {tgt : Nat} (hd : decode cc pc = .ok (.if_icmp .ne off, 3)) (ht : (pc : Int) + off = (tgt : Int)) (kt : ¬ x = z → AW E y cc nL rt R Q cells slots tgt ls rest I L Z) (kf : x = z → AW E y cc nL rt R Q cells slots (pc + 3) ls rest I L Z) : AW E y cc nL rt R Q cells slots pc ls (.int z :: .int x :: rest) I L Z := by
  intro p e s m args below meth c H locs la Qe F hSim hS hL h1 h2
  exact lv_icmp_ne F.1 F.2.1 hd ht (fun z => kt z p e s m args below meth c H locs la Qe F hSim hS hL h1 h2) (fun z => kf z p e s m args below meth c H locs la Qe F hSim hS hL h1 h2)
theorem aw_if_lt {x : Int32} {off : Int} {tgt : Nat} (hd : decode cc pc = .ok (.ifCond .lt off, 3)) (ht : (pc : Int) + off = (tgt : Int)) (kt : x < 0 → AW E y cc nL rt R Q cells slots tgt ls rest I L Z) (kf : ¬ x < 0 → AW E y cc nL rt R Q cells slots (pc + 3) ls rest I L Z) : AW E y cc nL rt R Q cells slots pc ls (.int x :: rest) I L Z := by
  intro p e s m args below meth c H locs la Qe F hSim hS hL h1 h2
  exact lv_if_lt F.1 F.2.1 hd ht (fun z => kt z p e s m args below meth c H locs la Qe F hSim hS hL h1 h2) (fun z => kf z p e s m args below meth c H locs la Qe F hSim hS hL h1 h2)
theorem aw_icmp_lt {x z : Int32} {off : Int} {tgt : Nat} (hd : decode cc pc = .ok (.if_icmp .lt off, 3)) (ht : (pc : Int) + off = (tgt : Int)) (kt : x < z → AW E y cc nL rt R Q cells slots tgt ls rest I L Z) (kf : ¬ x < z → AW E y cc nL rt R Q cells slots (pc + 3) ls rest I L Z) : AW E y cc nL rt R Q cells slots pc ls (.int z :: .int x :: rest) I L Z := by
  intro p e s m args below meth c H locs la Qe F hSim hS hL h1 h2
  exact lv_icmp_lt F.1 F.2.1 hd ht (fun z => kt z p e s m args below meth c H locs la Qe F hSim hS hL h1 h2) (fun z => kf z p e s m args below meth c H locs la Qe F hSim hS hL h1 h2)
theorem aw_if_ge {x : Int32} {off : Int} {tgt : Nat} (hd : decode cc pc = .ok (.ifCond .ge off, 3)) (ht : (pc : Int) + off = (tgt : Int)) (kt : 0 ≤ x → AW E y cc nL rt R Q cells slots tgt ls rest I L Z) (kf : ¬ 0 ≤ x → AW E y cc nL rt R Q cells slots (pc + 3) ls rest I L Z) : AW E y cc nL rt R Q cells slots pc ls (.int x :: rest) I L Z := by
  intro p e s m args below meth c H locs la Qe F hSim hS hL h1 h2
  exact lv_if_ge F.1 F.2.1 hd ht (fun z => kt z p e s m args below meth c H locs la Qe F hSim hS hL h1 h2) (fun z => kf z p e s m args below meth c H locs la Qe F hSim hS hL h1 h2)
theorem aw_icmp_ge {x z : Int32} {off : Int} {tgt : Nat} (hd : decode cc pc = .ok (.if_icmp .ge off, 3)) (ht : (pc : Int) + off = (tgt : Int)) (kt : z ≤ x → AW E y cc nL rt R Q cells slots tgt ls rest I L Z) (kf : ¬ z ≤ x → AW E y cc nL rt R Q cells slots (pc + 3) ls rest I L Z) : AW E y cc nL rt R Q cells slots pc ls (.int z :: .int x :: rest) I L Z := by
  intro p e s m args below meth c H locs la Qe F hSim hS hL h1 h2
  exact lv_icmp_ge F.1 F.2.1 hd ht (fun z => kt z p e s m args below meth c H locs la Qe F hSim hS hL h1 h2) (fun z => kf z p e s m args below meth c H locs la Qe F hSim hS hL h1 h2)
theorem aw_if_gt {x : Int32} {off : Int} {tgt : Nat} (hd : decode cc pc = .ok (.ifCond .gt off, 3)) (ht : (pc : Int) + off = (tgt : Int)) (kt : 0 < x → AW E y cc nL rt R Q cells slots tgt ls rest I L Z) (kf : ¬ 0 < x → AW E y cc nL rt R Q cells slots (pc + 3) ls rest I L Z) : AW E y cc nL rt R Q cells slots pc ls (.int x :: rest) I L Z := by
  intro p e s m args below meth c H locs la Qe F hSim hS hL h1 h2
  exact lv_if_gt F.1 F.2.1 hd ht (fun z => kt z p e s m args below meth c H locs la Qe F hSim hS hL h1 h2) (fun z => kf z p e s m args below meth c H locs la Qe F hSim hS hL h1 h2)
theorem aw_icmp_gt {x z : Int32} {off : Int} {tgt : Nat} (hd : decode cc pc = .ok (.if_icmp .gt off, 3)) (ht : (pc : Int) + off = (tgt : Int)) (kt : z < x → AW E y cc nL rt R Q cells slots tgt ls rest I L Z) (kf : ¬ z < x → AW E y cc nL rt R Q cells slots (pc + 3) ls rest I L Z) : AW E y cc nL rt R Q cells slots pc ls (.int z :: .int x :: rest) I L Z := by
  intro p e s m args below meth c H locs la Qe F hSim hS hL h1 h2
  exact lv_icmp_gt F.1 F.2.1 hd ht (fun z => kt z p e s m args below meth c H locs la Qe F hSim hS hL h1 h2) (fun z => kf z p e s m args below meth c H locs la Qe F hSim hS hL h1 h2)
theorem aw_if_le {x : Int32} {off : Int} {tgt : Nat} (hd : decode cc pc = .ok (.ifCond .le off, 3)) (ht : (pc : Int) + off = (tgt : Int)) (kt : x ≤ 0 → AW E y cc nL rt R Q cells slots tgt ls rest I L Z) (kf : ¬ x ≤ 0 → AW E y cc nL rt R Q cells slots (pc + 3) ls rest I L Z) : AW E y cc nL rt R Q cells slots pc ls (.int x :: rest) I L Z := by
  intro p e s m args below meth c H locs la Qe F hSim hS hL h1 h2
  exact lv_if_le F.1 F.2.1 hd ht (fun z => kt z p e s m args below meth c H locs la Qe F hSim hS hL h1 h2) (fun z => kf z p e s m args below meth c H locs la Qe F hSim hS hL h1 h2)
theorem aw_icmp_le {x z : Int32} {off : Int} {tgt : Nat} (hd : decode cc pc = .ok (.if_icmp .le off, 3)) (ht : (pc : Int) + off = (tgt : Int)) (kt : x ≤ z → AW E y cc nL rt R Q cells slots tgt ls rest I L Z) (kf : ¬ x ≤ z → AW E y cc nL rt R Q cells slots (pc + 3) ls rest I L Z) : AW E y cc nL rt R Q cells slots pc ls (.int z :: .int x :: rest) I L Z := by
  intro p e s m args below meth c H locs la Qe F hSim hS hL h1 h2
  exact lv_icmp_le F.1 F.2.1 hd ht (fun z => kt z p e s m args below meth c H locs la Qe F hSim hS hL h1 h2) (fun z => kf z p e s m args below meth c H locs la Qe F hSim hS hL h1 h2)
theorem aw_goto {off : Int} {tgt : Nat} (hd : decode cc pc = .ok (.goto off, 3)) (ht : (pc : Int) + off = (tgt : Int)) (k : AW E y cc nL rt R Q cells slots tgt ls rest I L Z) : AW E y cc nL rt R Q cells slots pc ls rest I L Z := by
  intro p e s m args below meth c H locs la Qe F hSim hS hL h1 h2
  exact lv_goto F.1 F.2.1 hd ht (k p e s m args below meth c H locs la Qe F hSim hS hL h1 h2)
theorem aw_ifnonnull {a : Nat} {off : Int} {tgt : Nat} (hd : decode cc pc = .ok (.ifnonnull off, 3)) (ht : (pc : Int) + off = (tgt : Int)) (k : AW E y cc nL rt R Q cells slots tgt ls rest I L Z) : AW E y cc nL rt R Q cells slots pc ls (.ref a :: rest) I L Z := by
  intro p e s m args below meth c H locs la Qe F hSim hS hL h1 h2
  exact lv_ifnonnull F.1 F.2.1 hd ht (k p e s m args below meth c H locs la Qe F hSim hS hL h1 h2)
theorem aw_ifnonnullN {off : Int} (hd : decode cc pc = .ok (.ifnonnull off, 3)) (k : AW E y cc nL rt R Q cells slots (pc + 3) ls rest I L Z) : AW E y cc nL rt R Q cells slots pc ls (.null :: rest) I L Z := by
  intro p e s m args below meth c H locs la Qe F hSim hS hL h1 h2
  exact lv_ifnonnullN F.1 F.2.1 hd (k p e s m args below meth c H locs la Qe F hSim hS hL h1 h2)
theorem aw_tableOut {dflt lo hi : Int} {offs : Array Int} {len : Nat} {x : Int32} {tgt : Nat} (hd : decode cc pc = .ok (.tableswitch dflt lo hi offs, len)) (h : x.toInt < lo ∨ hi < x.toInt) (ht : (pc : Int) + dflt = (tgt : Int)) (k : AW E y cc nL rt R Q cells slots tgt ls rest I L Z) : AW E y cc nL rt R Q cells slots pc ls (.int x :: rest) I L Z := by
  intro p e s m args below meth c H locs la Qe F hSim hS hL h1 h2
  exact lv_tableOut F.1 F.2.1 hd h ht (k p e s m args below meth c H locs la Qe F hSim hS hL h1 h2)
theorem aw_tableIn {dflt lo hi : Int} {offs : Array Int} {len : Nat} {x : Int32} {off : Int} {tgt : Nat} (hd : decode cc pc = .ok (.tableswitch dflt lo hi offs, len)) (g1 : ¬ x.toInt < lo) (g2 : ¬ hi < x.toInt) (ho : offs[(x.toInt - lo).toNat]? = some off) (ht : (pc : Int) + off = (tgt : Int)) (k : AW E y cc nL rt R Q cells slots tgt ls rest I L Z) : AW E y cc nL rt R Q cells slots pc ls (.int x :: rest) I L Z := by
  intro p e s m args below meth c H locs la Qe F hSim hS hL h1 h2
  exact lv_tableIn F.1 F.2.1 hd g1 g2 ho ht (k p e s m args below meth c H locs la Qe F hSim hS hL h1 h2)
/-! ===== returns ===== -/
theorem aw_ireturn {x : Int32} {ty : FieldType} (hd : decode cc pc = .ok (.ireturn, 1)) (hr : rt = some ty) (hn : narrow ty (.int x) = .int x) (hQ : Q (some (.int x)) I L Z) : AW E y cc nL rt R Q cells slots pc ls [.int x] I L Z := by
  intro p e s m args below meth c H locs la Qe F hSim hS hL h1 h2
  exact F.2.2.2.2.2.2.2.2.2.2 (some (.int x)) I L Z H locs cells slots pc la hQ hSim hS h1 h2 ⟨⟨ty, hr, hn⟩, hd⟩
theorem aw_lreturn {x : Int64} (hd : decode cc pc = .ok (.lreturn, 1)) (hr : rt = some .long) (hQ : Q (some (.long x)) I L Z) : AW E y cc nL rt R Q cells slots pc ls [.long x] I L Z := by
  intro p e s m args below meth c H locs la Qe F hSim hS hL h1 h2
  exact F.2.2.2.2.2.2.2.2.2.2 (some (.long x)) I L Z H locs cells slots pc la hQ hSim hS h1 h2 ⟨hr, hd⟩
theorem aw_return (hd : decode cc pc = .ok (.return_, 1)) (hr : rt = none) (hQ : Q none I L Z) : AW E y cc nL rt R Q cells slots pc ls [] I L Z := by
  intro p e s m args below meth c H locs la Qe F hSim hS hL h1 h2
  exact F.2.2.2.2.2.2.2.2.2.2 none I L Z H locs cells slots pc la hQ hSim hS h1 h2 ⟨hr, hd⟩
theorem aw_areturn {a : Nat} {ty : FieldType} (hd : decode cc pc = .ok (.areturn, 1)) (hr : rt = some ty) (ht : (∃ n, ty = .object n) ∨ ∃ t, ty = .array t) (hQ : Q (some (.ref a)) I L Z) : AW E y cc nL rt R Q cells slots pc ls [.ref a] I L Z := by
  intro p e s m args below meth c H locs la Qe F hSim hS hL h1 h2
  exact F.2.2.2.2.2.2.2.2.2.2 (some (.ref a)) I L Z H locs cells slots pc la hQ hSim hS h1 h2 ⟨⟨ty, hr, ht⟩, hd⟩
theorem aw_areturnN {ty : FieldType} (hd : decode cc pc = .ok (.areturn, 1)) (hr : rt = some ty) (ht : (∃ n, ty = .object n) ∨ ∃ t, ty = .array t) (hQ : Q (some .null) I L Z) : AW E y cc nL rt R Q cells slots pc ls [.null] I L Z := by
  intro p e s m args below meth c H locs la Qe F hSim hS hL h1 h2
  exact F.2.2.2.2.2.2.2.2.2.2 (some .null) I L Z H locs cells slots pc la hQ hSim hS h1 h2 ⟨⟨ty, hr, ht⟩, hd⟩
end AWR
