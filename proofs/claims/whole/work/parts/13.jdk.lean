theorem mm_min : Cond.static Lib.Math.min.name ∈ tb2 ∧ Cond.initialized "java/lang/Math" ∈ tb2 ∧ Cond.code Lib.Math.min.name Lib.Math.min.code 2 (some .int) ∈ tb2 := ⟨(tb2_of (List.mem_of_getElem? (i := 402) (by decide +kernel)) rfl), (tb2_of (List.mem_of_getElem? (i := 100) (by decide +kernel)) rfl), (tb2_of (List.mem_of_getElem? (i := 403) (by decide +kernel)) rfl)⟩
theorem ml_J7_304 : Cond.methodLink RJ7 304 Lib.Math.min.name ∈ tb2 := (tb2_of (List.mem_of_getElem? (i := 401) (by decide +kernel)) rfl)
theorem ml_X0_100 : Cond.methodLink RX0 100 Lib.Math.min.name ∈ tb2 := (tb2_of (List.mem_of_getElem? (i := 504) (by decide +kernel)) rfl)
theorem ml_X2_19 : Cond.methodLink RX2 19 Lib.Math.min.name ∈ tb2 := (tb2_of (List.mem_of_getElem? (i := 762) (by decide +kernel)) rfl)
theorem mm_max : Cond.static Lib.Math.max.name ∈ tb2 ∧ Cond.initialized "java/lang/Math" ∈ tb2 ∧ Cond.code Lib.Math.max.name Lib.Math.max.code 2 (some .int) ∈ tb2 := ⟨(tb2_of (List.mem_of_getElem? (i := 506) (by decide +kernel)) rfl), (tb2_of (List.mem_of_getElem? (i := 100) (by decide +kernel)) rfl), (tb2_of (List.mem_of_getElem? (i := 507) (by decide +kernel)) rfl)⟩
theorem ml_X0_106 : Cond.methodLink RX0 106 Lib.Math.max.name ∈ tb2 := (tb2_of (List.mem_of_getElem? (i := 505) (by decide +kernel)) rfl)
theorem ml_X2_25 : Cond.methodLink RX2 25 Lib.Math.max.name ∈ tb2 := (tb2_of (List.mem_of_getElem? (i := 763) (by decide +kernel)) rfl)
section AWJ
variable {E : Ev} {y : MethodName} {cc : ByteArray} {nL : Nat} {rt : Option FieldType} {R : Room} {Q : Po} {cells slots pc : Nat} {ls ls' : List (Option Value)} {rest : List Value} {I : Mi} {L : Ml} {Z : Mz}
theorem aw_mmin {idx : Nat} {x z : Int32} (hd : decode cc pc = .ok (.invokestatic idx, 3)) (w1 : Cond.methodLink y.cls idx Lib.Math.min.name ∈ tb2) (hR : 1 ≤ R.frames ∧ 64 ≤ R.locals) (hr : (rest.map fun v => v.category).sum ≤ 8) (k : AW E y cc nL rt R Q cells slots (pc + 3) ls (.int (if z < x then z else x) :: rest) I L Z) : AW E y cc nL rt R Q cells slots pc ls (.int z :: .int x :: rest) I L Z := by
  intro p e s m args below meth c H locs la Qe F hSim hS hL h1 h2
  obtain ⟨hx, hb, hml, hown, hts, hnm, hbs, hXC, hK, hXE, hret⟩ := id F
  exact va_mmin hx hb (hml.trans hL.1.symm) hown (hts _ w1) (hts _ mm_min.1) (hts _ mm_min.2.1) (hts _ mm_min.2.2) hR.1 (by rw [cV_sum]; omega) h1 h2 hd (k p e s m args below meth c H locs la Qe F hSim hS hL h1 h2)
theorem aw_mmax {idx : Nat} {x z : Int32} (hd : decode cc pc = .ok (.invokestatic idx, 3)) (w1 : Cond.methodLink y.cls idx Lib.Math.max.name ∈ tb2) (hR : 1 ≤ R.frames ∧ 64 ≤ R.locals) (hr : (rest.map fun v => v.category).sum ≤ 8) (k : AW E y cc nL rt R Q cells slots (pc + 3) ls (.int (if x < z then z else x) :: rest) I L Z) : AW E y cc nL rt R Q cells slots pc ls (.int z :: .int x :: rest) I L Z := by
  intro p e s m args below meth c H locs la Qe F hSim hS hL h1 h2
  obtain ⟨hx, hb, hml, hown, hts, hnm, hbs, hXC, hK, hXE, hret⟩ := id F
  exact va_mmax hx hb (hml.trans hL.1.symm) hown (hts _ w1) (hts _ mm_max.1) (hts _ mm_max.2.1) (hts _ mm_max.2.2) hR.1 (by rw [cV_sum]; omega) h1 h2 hd (k p e s m args below meth c H locs la Qe F hSim hS hL h1 h2)
end AWJ
theorem ac_startF {E : Ev} {y : MethodName} {cc : ByteArray} {nL : Nat} {rt : Option FieldType} {d kc ks : Nat} {av : List Value} {I : Mi} {L : Ml} {Z : Mz} {Q : Po} (hy : plainFor y = true) (hn : (lsOf av).length ≤ nL) (h : AW E y cc nL rt (rmOf d kc ks) Q 0 0 0 (lsOf av) [] I L Z) : AC E y cc nL rt d kc ks av I L Z Q := by
  refine va_MetF (cc := cc) (maxL := nL) (ret := rt) hy rfl ?_
  intro p e s m args below meth c s₁ B hml hv
  obtain ⟨rfl, hNW, hXC, hK, hXE, hSim⟩ := hv
  have hx := B.exec
  have hb := B.bytes
  have hr := B.returns
  have hts := atoms_spec (ws := Cond.code y cc nL rt :: gwL) B.pre
  have hown : s.vm.findClass y.cls = some m.cls := findClass_of_methodNamed B.named
  have hlocks := B.notSynchronized
  have hnm : meth.name = y.name := (name_of_methodNamed B.named B.method).1
  have hlen := lsOf_len E av
  have hl := lv_entry (av.map (cV E)) (n := nL) (by rw [hlen]; exact hn)
  rw [lg_entry_eq]
  generalize (lg_sl (av.map (cV E)) ++ List.replicate (nL - (lg_sl (av.map (cV E))).length) Slot.unset).toArray = la at hl ⊢
  have hl : lv_has la nL (lv_args 0 (av.map (cV E))) := hl
  have hS : aS E s s.heap [] := va_S.rf
  refine h p e s m _ below meth c s.heap [] la _ ⟨hx, hb, hml, hown, tb2_hts (fun w hw => hts w (List.mem_cons_of_mem _ hw)) hNW, hnm, ?_, hXC, hK, hXE, ret_ok hx hb hr hlocks⟩ hSim hS ⟨hl.1, hl.2.1, fun i v hi => ?_⟩ (Nat.zero_le _) (Nat.zero_le _)
  · rw [hSim.1]; omega
  · have := hl.2.2 (0 + i, cV E v) (lsOf_args E av 0 i v hi)
    simpa using this
theorem ac_goF {E : Ev} {y : MethodName} {cc : ByteArray} {nL : Nat} {rt : Option FieldType} {d kc ks : Nat} {av : List Value} {ls : List (Option Value)} {I : Mi} {L : Ml} {Z : Mz} {Q : Po} (hy : plainFor y = true) (hn : (lsOf av).length ≤ nL) (hls : ls = lsOf av ++ List.replicate (nL - (lsOf av).length) none) (h : AW E y cc nL rt (rmOf d kc ks) Q 0 0 0 ls [] I L Z) : AC E y cc nL rt d kc ks av I L Z Q := by
  refine ac_startF hy hn ?_
  intro p e s m args below meth c H locs la Qe F hSim hS hL h1 h2
  refine h p e s m args below meth c H locs la Qe F hSim hS ⟨hL.1, hL.2.1, fun i v hi => ?_⟩ h1 h2
  subst hls
  by_cases hlt : i < (lsOf av).length
  · rw [List.getElem?_append_left hlt] at hi
    exact hL.2.2 i v hi
  · rw [List.getElem?_append_right (by omega)] at hi
    have := List.eq_of_mem_replicate (List.mem_of_getElem? hi)
    cases this
