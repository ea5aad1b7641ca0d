section AWN
variable {E : Ev} {y : MethodName} {cc : ByteArray} {nL : Nat} {rt : Option FieldType} {R : Room} {Q : Po} {cells slots pc : Nat} {ls ls' : List (Option Value)} {rest : List Value} {I : Mi} {L : Ml} {Z : Mz}
/-- the word of a class at a constant index -/
def CwN (own : String) (idx ci : Nat) (N : Nat) : Prop := ∃ (C : String) (T : u_T), vwCl[ci]? = some (C, T, N) ∧ Cond.classLink own idx C ∈ tb2 ∧ Cond.instantiable C N ∈ tb2 ∧ Cond.initialized C ∈ tb2
theorem defV (E : Ev) (I : Mi) (L : Ml) (Z : Mz) (c a k : Nat) (hc : c < 7) (hI : I a k = 0) (hL : L a k = 0) (hP : zP Z a k = none) (ht : ∀ d, parseFieldDescriptor d = some (tyOf c k) → True) (h : (tyOf c k = .int ∨ tyOf c k = .boolean) ∨ tyOf c k = .long ∨ ((∃ n, tyOf c k = .object n) ∨ ∃ t, tyOf c k = .array t)) : defaultValue (tyOf c k) = fV E I L Z c a k := by
  rcases h with h | h | h
  · rw [fV_I h, hI]; rcases h with h | h <;> rw [h] <;> rfl
  · rw [fV_L h, hL, h]; rfl
  · rw [fV_P h, hP]; rcases h with ⟨n, h⟩ | ⟨n, h⟩ <;> rw [h] <;> rfl
def tyKnown (t : FieldType) : Bool := match t with
  | .int => true
  | .boolean => true
  | .long => true
  | .object _ => true
  | .array _ => true
  | _ => false
theorem tyKnown_or {t : FieldType} (h : tyKnown t = true) : (t = .int ∨ t = .boolean) ∨ t = .long ∨ ((∃ n, t = .object n) ∨ ∃ u, t = .array u) := by
  cases t <;> first | (simp [tyKnown] at h; done) | simp
theorem tyK_all : ∀ c, c < 7 → ∀ k, k < 46 → tyKnown (tyOf c k) = true := by decide +kernel
theorem aw_new {idx ci N : Nat} (hd : decode cc pc = .ok (.new idx, 3)) (hw : CwN y.cls idx ci N) (hc1 : cells + 1 ≤ R.cells) (hc2 : slots + N ≤ R.slots) (kk : AW E y cc nL rt R Q (cells + 1) (slots + N) (pc + 3) ls (.ref (zN Z) :: rest) (rU I (zN Z) (fun _ => 0)) (fun b => if b = zN Z then (fun _ => 0) else L b) (fun b => if b = zN Z then (fun _ => none) else zP Z b, nU (zK Z) (zN Z) ci, nU (zL Z) (zN Z) 0, zN Z + 1)) : AW E y cc nL rt R Q cells slots pc ls rest I L Z := by
  intro p e s m args below meth c H locs la Qe F hSim hS hL h1 h2
  obtain ⟨hx, hb, hml, hown, hts, hnm, hbs, hXC, hK, hXE, hret⟩ := id F
  obtain ⟨C, T, hc, w1, w2, w3⟩ := hw
  have hci : ci < 7 := by have := (List.getElem?_eq_some_iff.mp hc).1; simpa [vwCl] using this
  have hKn := hK.1 ci _ hc
  have hN46 : N ≤ 46 := by
    match ci, hc with
    | 0, hc => cases hc; omega
    | 1, hc => cases hc; omega
    | 2, hc => cases hc; omega
    | 3, hc => cases hc; omega
    | 4, hc => cases hc; omega
    | 5, hc => cases hc; omega
    | 6, hc => cases hc; omega
    | n + 7, hc => simp [vwCl] at hc
  refine W.newcK hx hb hown (hts _ w1) (hts _ w2) (hts _ w3) rfl hd hc1 hc2 hKn.2.1 hSim.1 fun H' kC hkC e1 e2 e3 => ?_
  have hk7 : zK (fun b => if b = zN Z then (fun _ => none) else zP Z b, nU (zK Z) (zN Z) ci, nU (zL Z) (zN Z) 0, zN Z + 1) (zN Z) = ci := by simp [zK, nU]
  refine kk p e s m args below meth c H' locs la Qe F (hSim.grow (by rw [e2, hSim.1]) (fun q hq => e3 q (by rw [← hSim.1]; exact hq)) (fun b hb => ?_) (fun b hb => ?_) (fun b hb => ?_) (fun b hb => ?_) (fun b hb => ?_) rfl ⟨fun r hr => ?_, fun h => ?_, fun h => ?_⟩) ⟨by rw [e2]; have := hS.1; have := hSim.1; omega, fun q g1 g2 => ?_, hS.2.2⟩ hL hc1 hc2
  · simp [rU, hb]
  · simp [hb]
  · simp [zP, hb]
  · simp [zK, nU, hb]
  · simp [zL, nU, hb]
  · rw [hk7] at hr ⊢
    cases hc.symm.trans hr
    refine (u_born (tyOf ci) hts (cls_ok hc).1 hKn hkC e1 (cls_ok hc).2.1).to fun k hk => ?_
    have hk' : k < N := hk
    exact defV E _ _ _ ci (zN Z) k hci (by simp [rU]) (by simp) (by simp [zP]) (fun _ _ => trivial) (tyKnown_or (tyK_all ci hci k (by omega)))
  · rw [hk7] at h; omega
  · rw [hk7] at h; omega
  · rw [e3 q (by have := hS.1; have := hSim.1; omega)]; exact hS.2.1 q g1 g2
theorem aw_newa {idx kd N : Nat} {C : String} {n : Int32} (hd : decode cc pc = .ok (.anewarray idx, 3)) (hkd : (kd = 9 ∧ C = RX2) ∨ (kd = 10 ∧ C = RX4)) (w1 : Cond.classLink y.cls idx C ∈ tb2) (w2 : Cond.arrayOver (.object C) ∈ tb2) (hn : ¬ n < 0) (hN : n.toNatClampNeg = N) (hby : N ≤ 100000) (hc1 : cells + 1 ≤ R.cells) (hc2 : slots + N ≤ R.slots) (kk : AW E y cc nL rt R Q (cells + 1) (slots + N) (pc + 3) ls (.ref (zN Z) :: rest) I L (fun b => if b = zN Z then (fun _ => none) else zP Z b, nU (zK Z) (zN Z) kd, nU (zL Z) (zN Z) N, zN Z + 1)) : AW E y cc nL rt R Q cells slots pc ls (.int n :: rest) I L Z := by
  intro p e s m args below meth c H locs la Qe F hSim hS hL h1 h2
  obtain ⟨hx, hb, hml, hown, hts, hnm, hbs, hXC, hK, hXE, hret⟩ := id F
  subst hN
  refine W.anew hx hb hown (hts _ w1) (hts _ w2) rfl hd rfl hn (by omega) hc1 hc2 fun cA kA comp f1 f2 f3 f4 => ?_
  have hcA : cA = eC E kd := by
    rcases hkd with ⟨rfl, rfl⟩ | ⟨rfl, rfl⟩
    · obtain ⟨_, _, -, -, -, k4⟩ := (hK.2 2 _ rfl).2
      exact Option.some.inj (f1.symm.trans k4)
    · obtain ⟨_, _, -, -, -, k4⟩ := (hK.2 3 _ rfl).2
      exact Option.some.inj (f1.symm.trans k4)
  generalize hH1 : H.push ({ cls := cA, slots := Array.replicate n.toNatClampNeg .null, vm := .none } : Cell) = H1
  have z1 : H1.size = H.size + 1 := by rw [← hH1, Array.size_push]
  have e1 : H1[H.size]? = some (arrV cA n.toNatClampNeg (fun _ => .null)) := by rw [← hH1, Array.getElem?_push_size, ← arrV_new]
  have o1 : ∀ q : Nat, q < H.size → H1[q]? = H[q]? := fun q hq => by rw [← hH1, Array.getElem?_push, if_neg (Nat.ne_of_lt hq)]
  have hk7 : zK (fun b => if b = zN Z then (fun _ => none) else zP Z b, nU (zK Z) (zN Z) kd, nU (zL Z) (zN Z) n.toNatClampNeg, zN Z + 1) (zN Z) = kd := by simp [zK, nU]
  have hl7 : zL (fun b => if b = zN Z then (fun _ => none) else zP Z b, nU (zK Z) (zN Z) kd, nU (zL Z) (zN Z) n.toNatClampNeg, zN Z + 1) (zN Z) = n.toNatClampNeg := by simp [zL, nU]
  have hkd' : kd = 9 ∨ kd = 10 := hkd.elim (fun h => Or.inl h.1) (fun h => Or.inr h.1)
  have hkk := kk p e s m args below meth c H1 locs la Qe F (hSim.grow z1 o1 (fun b hb => rfl) (fun b hb => rfl) (fun b hb => by simp [zP, hb]) (fun b hb => by simp [zK, nU, hb]) (fun b hb => by simp [zL, nU, hb]) rfl ⟨fun r hr => by
      rw [hk7] at hr
      rcases hkd' with h | h <;> rw [h] at hr <;> simp [vwCl] at hr, fun h => by rw [hk7] at h; omega, fun h => by
      rw [hk7, hl7, ← hSim.1, e1, hcA]
      simp only [zP, if_true]
      rfl⟩) ⟨by rw [z1]; have := hS.1; omega, fun q g1 g2 => by rw [o1 q (by have := hS.1; omega)]; exact hS.2.1 q g1 g2, hS.2.2⟩ hL hc1 hc2
  rw [hSim.1]
  exact hkk
/-- Object's own constructor -/
theorem aw_objInit {idx a : Nat} (hd : decode cc pc = .ok (.invokespecial idx, 3)) (w1 : Cond.methodLink y.cls idx Lib.objectInit ∈ tb2) (w2 : Cond.instanceMethod Lib.objectInit ∈ tb2) (w3 : Cond.code Lib.objectInit ⟨#[0xb1]⟩ 1 none ∈ tb2) (hR : 1 ≤ R.frames ∧ 20 ≤ R.locals) (hr : (rest.map fun v => v.category).sum ≤ 8) (kk : AW E y cc nL rt R Q cells slots (pc + 3) ls rest I L Z) : AW E y cc nL rt R Q cells slots pc ls (.ref a :: rest) I L Z := by
  intro p e s m args below meth c H locs la Qe F hSim hS hL h1 h2
  obtain ⟨hx, hb, hml, hown, hts, hnm, hbs, hXC, hK, hXE, hret⟩ := id F
  refine W.objInit hx hb hown (hts _ w1) (hts _ w2) (hts _ w3) rfl (hL.1.trans hml.symm) rfl hd hR.1 ?_ (kk p e s m args below meth c H locs la Qe F hSim hS hL h1 h2)
  have := cV_sum E rest
  show 2 * 0 + _ + 12 ≤ _
  omega
/-! ===== calls ===== -/
theorem good_in {y' : MethodName} {cc' : ByteArray} {nL' : Nat} {rt' : Option FieldType} (hc : Cond.code y' cc' nL' rt' ∈ tb2) : GoodIn tb2 (Cond.code y' cc' nL' rt' :: gwL) := by
  intro w hw
  rcases List.mem_cons.mp hw with rfl | hw
  · exact ⟨hc, good_of_word rfl⟩
  · obtain ⟨g1, g2⟩ := List.mem_filter.mp hw
    exact ⟨tb2_of g1 (by rw [g2, Bool.true_or]), good_of_word g2⟩
theorem blind (av : List Value) : FrameBlind (va_Pc av (PreU E I L Z)) := by
  intro a U g mk h
  obtain ⟨h1, hNW, hXC, hK, hXE, hSim⟩ := h
  exact ⟨h1, fun w hw => nw_warm (List.mem_filter.mp hw).2 (State.WarmedH.refl U) (hNW w hw), hXC, va_K.moved (u := U) (U := U.calling g mk a) (Vm.Alike.refl U.vm) hK, hXC U (U.calling g mk a) U.heap U.heap (State.WarmedH.refl U) (fun _ _ => rfl) hXE, hSim⟩
theorem run_core {p : Program} {e : Env} {s : State} {m : MethodId} {args : Array Value} {below : List Frame} {meth : Method} {c : Code} {H : Heap} {locs : List Loc} {la : Array Slot} {Qe : State → Prop} {kc' ks' : Nat} {st0 rest0 : List Value} {Qk : Po} {av : Array Value}
    (hr : va_Run p (eL E) e R s m args below meth c H locs cells slots kc' ks' (F0 m pc la st0) rest0 (PostU E Qk av) (fun q => eB E ≤ q)) (hS : aS E s H locs)
    (kk : ∀ (v : Option Value) (I' : Mi) (L' : Ml) (Z' : Mz) (H1 : Heap) (locs1 : List Loc), Qk v I' L' Z' → Sim E I' L' Z' H1 → aS E s H1 locs1 → W p (eL E) e R s m args below meth c H1 locs1 (cells + kc') (slots + ks') Qe (F0 m (pc + 3) la ((v.map (cV E)).toList ++ rest0))) : W p (eL E) e R s m args below meth c H locs cells slots Qe (F0 m pc la st0) := by
  intro T hT X
  obtain ⟨v, st₀, t, T', L0, h0, X', hL, e1, e2, ⟨⟨v', I', L', Z', hv, hq, hSim⟩, hz, hk⟩, st⟩ := hr T hT X
  cases hv
  rw [h0] at hz hk
  obtain ⟨t2, a1, b1⟩ := kk v' I' L' Z' T'.heap (locs ++ L0) hq (by rw [e1]; exact hSim)
    ⟨Nat.le_trans hS.1 (by rw [e1]; exact hz), fun q h1 h2 => by rw [e1, hk q (Nat.lt_of_lt_of_le h1 hS.1) h2]; exact hS.2.1 q h1 h2, fun q hq => by
      rcases List.mem_append.mp hq with h | h
      · exact hS.2.2 q h
      · exact hL q h⟩ T' rfl X'
  exact ⟨t2, st t2 a1, b1⟩
def psh (v : Option Value) (st : List Value) : List Value := match v with
  | none => st
  | some x => x :: st
theorem psh_map (E : Ev) (v : Option Value) (st : List Value) : (psh v st).map (cV E) = (v.map (cV E)).toList ++ st.map (cV E) := by cases v <;> rfl
def Cw0 (y' : MethodName) (cc' : ByteArray) (nL' : Nat) (rt' : Option FieldType) (n : Nat) : Prop := Cond.initialized y'.cls ∈ tb2 ∧ Cond.code y' cc' nL' rt' ∈ tb2 ∧ (y'.cls ≠ "java/lang/invoke/MethodHandle" ∧ y'.cls ≠ "java/lang/invoke/VarHandle" ∧ (parseMethodDescriptor y'.desc).map (fun d => d.parameters.length) = some n) ∧ nL' ≤ 40
def CwK (own : String) (idx : Nat) (y' : MethodName) : Prop := Cond.methodLink own idx y' ∈ tb2 ∨ ∃ host, Cond.methodLinkNest own idx y' host ∈ tb2
def CwV (own : String) (idx : Nat) (y' : MethodName) (cc' : ByteArray) (nL' : Nat) (rt' : Option FieldType) (n : Nat) : Prop := CwK own idx y' ∧ Cw0 y' cc' nL' rt' n ∧ Cond.instanceMethod y' ∈ tb2 ∧ Cond.selects y'.cls y' y' ∈ tb2
def CwS (own : String) (idx : Nat) (y' : MethodName) (cc' : ByteArray) (nL' : Nat) (rt' : Option FieldType) (n : Nat) : Prop := CwK own idx y' ∧ Cw0 y' cc' nL' rt' n ∧ Cond.static y' ∈ tb2
def CwI (own : String) (idx : Nat) (y' : MethodName) (cc' : ByteArray) (nL' : Nat) (n : Nat) : Prop := CwK own idx y' ∧ Cw0 y' cc' nL' none n ∧ Cond.instanceMethod y' ∈ tb2 ∧ y'.name = "<init>"
theorem pre_at {p : Program} {e : Env} {s : State} {m : MethodId} {args : Array Value} {below : List Frame} {meth : Method} {c : Code} {H : Heap} {locs : List Loc} {Qe : State → Prop} (F : FH E y cc nL rt R Q p e s m args below meth c Qe) (hSim : Sim E I L Z H) (hS : aS E s H locs) (av : List Value) : ∀ U : State, U.heap = H → s.WarmedH U.vm → va_Pc av (PreU E I L Z) av.toArray U := by
  obtain ⟨hx, hb, hml, hown, hts, hnm, hbs, hXC, hK, hXE, hret⟩ := F
  intro U hU hW
  refine ⟨rfl, fun w hw => nw_warm (List.mem_filter.mp hw).2 hW (tb2_nw hts w hw), hXC, va_K.moved hW.alike hK, hXC s U s.heap U.heap hW (fun q hq => ?_) hXE, by rw [hU]; exact hSim⟩
  rw [hU]
  exact hS.2.1 q (Nat.lt_of_lt_of_le hq hbs) (Nat.not_le.mpr hq)
theorem aw_callV {idx a ci d' kc' ks' n : Nat} {y' : MethodName} {cc' : ByteArray} {nL' : Nat} {rt' : Option FieldType} {As st : List Value} (hd : decode cc pc = .ok (.invokevirtual idx, 3)) (cw : CwV y.cls idx y' cc' nL' rt' n) (hc : ∃ T N, vwCl[ci]? = some (y'.cls, T, N)) (ha : a < zN Z) (hz : zK Z a = ci) (hst : st = As.reverse ++ .ref a :: rest) (hn : As.length = n) (hR : d' + 1 ≤ R.frames ∧ 64 * d' + 64 ≤ R.locals) (hcs : cells + kc' ≤ R.cells ∧ slots + ks' ≤ R.slots) (hr : (rest.map fun v => v.category).sum ≤ 8)
    (kk : AC E y' cc' nL' rt' d' kc' ks' (.ref a :: As) I L Z (fun v I' L' Z' => AW E y cc nL rt R Q (cells + kc') (slots + ks') (pc + 3) ls (psh v rest) I' L' Z')) : AW E y cc nL rt R Q cells slots pc ls st I L Z := by
  intro p e s m args below meth c H locs la Qe F hSim hS hL h1 h2
  obtain ⟨hx, hb, hml, hown, hts, hnm, hbs, hXC, hK, hXE, hret⟩ := id F
  subst hst
  obtain ⟨T, N, hc⟩ := hc
  obtain ⟨hlk, ⟨w1, w2, w3, w4⟩, w5, w6⟩ := cw
  obtain ⟨cell, q1, q2, q3, -⟩ := (hSim.2 a ha).1 _ (by rw [hz]; exact hc)
  rw [hz] at q2
  have hp : PreV s H y'.cls (eB E + a) (va_Pc ((.ref (eB E + a) :: As.map (cV E))) (PreU E I L Z)) (As.map (cV E)) := ⟨blind _, ⟨cell, q1, by rw [q3]; rfl, by rw [q2]; exact (hK.1 ci _ hc).2.1⟩, pre_at F hSim hS _⟩
  have hRR : (rmOf d' kc' ks').frames + 1 ≤ R.frames ∧ 8 + (nL' + 11) + (rmOf d' kc' ks').locals ≤ R.locals := ⟨hR.1, by show 8 + (nL' + 11) + 64 * d' ≤ _; omega⟩
  have hstk : (F0 m pc la ((As.reverse ++ .ref a :: rest).map (cV E))).stack = (As.map (cV E)).reverse ++ .ref (eB E + a) :: rest.map (cV E) := by simp [cV]
  have hrm : 2 * (F0 m pc la ((As.reverse ++ .ref a :: rest).map (cV E))).monitorRoom + ((rest.map (cV E)).map fun v => v.category).sum ≤ 8 := by rw [cV_sum]; show 2 * 0 + _ ≤ 8; omega
  have go : va_Run p (eL E) e R s m args below meth c H locs cells slots kc' ks' (F0 m pc la ((As.reverse ++ .ref a :: rest).map (cV E))) (rest.map (cV E)) (PostU E (fun v I' L' Z' => AW E y cc nL rt R Q (cells + kc') (slots + ks') (pc + 3) ls (psh v rest) I' L' Z') (Value.ref (eB E + a) :: As.map (cV E)).toArray) (fun q => eB E ≤ q) := by
    rcases hlk with hlk | ⟨host, hlk⟩
    · exact va_runV ⟨hx, hb, hml, hown, hts⟩ kk ⟨callB_of n hts (good_in w2) rfl rfl rfl (hts _ w1) (hts _ hlk) w3 hRR, hts _ w5, hts _ w6⟩ hp rfl (by rw [List.length_map]; exact hn) hL.1 hstk hrm hd hcs
    · exact va_runVN ⟨hx, hb, hml, hown, hts⟩ kk ⟨⟨⟨rfl, rfl, hRR.1, hRR.2, pay_in hts (good_in w2), List.mem_cons_self⟩, hts _ w2, hts _ w1, ⟨w3.1, w3.2.1⟩, fun sig h => by have h2 := w3.2.2; rw [h] at h2; exact (Option.some.inj h2).symm, hts _ hlk⟩, hts _ w5, hts _ w6⟩ hp rfl (by rw [List.length_map]; exact hn) hL.1 hstk hrm hd hcs
  refine run_core go hS fun v I' L' Z' H1 locs1 hq hSim1 hS1 => ?_
  rw [← psh_map]
  exact hq p e s m args below meth c H1 locs1 la Qe F hSim1 hS1 hL hcs.1 hcs.2
theorem aw_callS {idx d' kc' ks' n : Nat} {y' : MethodName} {cc' : ByteArray} {nL' : Nat} {rt' : Option FieldType} {As st : List Value} (hd : decode cc pc = .ok (.invokestatic idx, 3)) (cw : CwS y.cls idx y' cc' nL' rt' n) (hst : st = As.reverse ++ rest) (hn : As.length = n) (hR : d' + 1 ≤ R.frames ∧ 64 * d' + 64 ≤ R.locals) (hcs : cells + kc' ≤ R.cells ∧ slots + ks' ≤ R.slots) (hr : (rest.map fun v => v.category).sum ≤ 8)
    (kk : AC E y' cc' nL' rt' d' kc' ks' As I L Z (fun v I' L' Z' => AW E y cc nL rt R Q (cells + kc') (slots + ks') (pc + 3) ls (psh v rest) I' L' Z')) : AW E y cc nL rt R Q cells slots pc ls st I L Z := by
  intro p e s m args below meth c H locs la Qe F hSim hS hL h1 h2
  obtain ⟨hx, hb, hml, hown, hts, hnm, hbs, hXC, hK, hXE, hret⟩ := id F
  subst hst
  obtain ⟨hlk, ⟨w1, w2, w3, w4⟩, w5⟩ := cw
  have hp : PreS s H (va_Pc (As.map (cV E)) (PreU E I L Z)) (As.map (cV E)) := ⟨blind _, pre_at F hSim hS _⟩
  have hRR : (rmOf d' kc' ks').frames + 1 ≤ R.frames ∧ 8 + (nL' + 11) + (rmOf d' kc' ks').locals ≤ R.locals := ⟨hR.1, by show 8 + (nL' + 11) + 64 * d' ≤ _; omega⟩
  have hstk : (F0 m pc la ((As.reverse ++ rest).map (cV E))).stack = (As.map (cV E)).reverse ++ rest.map (cV E) := by simp
  have hrm : 2 * (F0 m pc la ((As.reverse ++ rest).map (cV E))).monitorRoom + ((rest.map (cV E)).map fun v => v.category).sum ≤ 8 := by rw [cV_sum]; show 2 * 0 + _ ≤ 8; omega
  have go : va_Run p (eL E) e R s m args below meth c H locs cells slots kc' ks' (F0 m pc la ((As.reverse ++ rest).map (cV E))) (rest.map (cV E)) (PostU E (fun v I' L' Z' => AW E y cc nL rt R Q (cells + kc') (slots + ks') (pc + 3) ls (psh v rest) I' L' Z') (As.map (cV E)).toArray) (fun q => eB E ≤ q) := by
    rcases hlk with hlk | ⟨host, hlk⟩
    · exact va_runS ⟨hx, hb, hml, hown, hts⟩ kk ⟨callB_of n hts (good_in w2) rfl rfl rfl (hts _ w1) (hts _ hlk) w3 hRR, hts _ w5⟩ hp rfl (by rw [List.length_map]; exact hn) hL.1 hstk hrm hd hcs
    · exact va_runSN ⟨hx, hb, hml, hown, hts⟩ kk ⟨⟨⟨rfl, rfl, hRR.1, hRR.2, pay_in hts (good_in w2), List.mem_cons_self⟩, hts _ w2, hts _ w1, ⟨w3.1, w3.2.1⟩, fun sig h => by have h2 := w3.2.2; rw [h] at h2; exact (Option.some.inj h2).symm, hts _ hlk⟩, hts _ w5, trivial⟩ hp rfl (by rw [List.length_map]; exact hn) hL.1 hstk hrm hd hcs
  refine run_core go hS fun v I' L' Z' H1 locs1 hq hSim1 hS1 => ?_
  rw [← psh_map]
  exact hq p e s m args below meth c H1 locs1 la Qe F hSim1 hS1 hL hcs.1 hcs.2
theorem aw_callI {idx a d' kc' ks' n : Nat} {y' : MethodName} {cc' : ByteArray} {nL' : Nat} {As st : List Value} (hd : decode cc pc = .ok (.invokespecial idx, 3)) (cw : CwI y.cls idx y' cc' nL' n) (hst : st = As.reverse ++ .ref a :: rest) (hn : As.length = n) (hR : d' + 1 ≤ R.frames ∧ 64 * d' + 64 ≤ R.locals) (hcs : cells + kc' ≤ R.cells ∧ slots + ks' ≤ R.slots) (hr : (rest.map fun v => v.category).sum ≤ 8)
    (kk : AC E y' cc' nL' none d' kc' ks' (.ref a :: As) I L Z (fun v I' L' Z' => AW E y cc nL rt R Q (cells + kc') (slots + ks') (pc + 3) ls (psh v rest) I' L' Z')) : AW E y cc nL rt R Q cells slots pc ls st I L Z := by
  intro p e s m args below meth c H locs la Qe F hSim hS hL h1 h2
  obtain ⟨hx, hb, hml, hown, hts, hnm, hbs, hXC, hK, hXE, hret⟩ := id F
  subst hst
  obtain ⟨hlk, ⟨w1, w2, w3, w4⟩, w5, w6⟩ := cw
  have hp : PreS s H (va_Pc ((.ref (eB E + a) :: As.map (cV E))) (PreU E I L Z)) (.ref (eB E + a) :: As.map (cV E)) := ⟨blind _, pre_at F hSim hS _⟩
  have hRR : (rmOf d' kc' ks').frames + 1 ≤ R.frames ∧ 8 + (nL' + 11) + (rmOf d' kc' ks').locals ≤ R.locals := ⟨hR.1, by show 8 + (nL' + 11) + 64 * d' ≤ _; omega⟩
  have hstk : (F0 m pc la ((As.reverse ++ .ref a :: rest).map (cV E))).stack = (As.map (cV E)).reverse ++ .ref (eB E + a) :: rest.map (cV E) := by simp [cV]
  have hrm : 2 * (F0 m pc la ((As.reverse ++ .ref a :: rest).map (cV E))).monitorRoom + ((rest.map (cV E)).map fun v => v.category).sum ≤ 8 := by rw [cV_sum]; show 2 * 0 + _ ≤ 8; omega
  have go : va_Run p (eL E) e R s m args below meth c H locs cells slots kc' ks' (F0 m pc la ((As.reverse ++ .ref a :: rest).map (cV E))) (rest.map (cV E)) (PostU E (fun v I' L' Z' => AW E y cc nL rt R Q (cells + kc') (slots + ks') (pc + 3) ls (psh v rest) I' L' Z') (Value.ref (eB E + a) :: As.map (cV E)).toArray) (fun q => eB E ≤ q) := by
    rcases hlk with hlk | ⟨host, hlk⟩
    · exact va_runI ⟨hx, hb, hml, hown, hts⟩ kk ⟨callB_of n hts (good_in w2) rfl rfl rfl (hts _ w1) (hts _ hlk) w3 hRR, w6, hts _ w5⟩ hp rfl (by rw [List.length_map]; exact hn) hL.1 hstk hrm hd hcs
    · exact va_runIN ⟨hx, hb, hml, hown, hts⟩ kk ⟨⟨⟨rfl, rfl, hRR.1, hRR.2, pay_in hts (good_in w2), List.mem_cons_self⟩, hts _ w2, hts _ w1, ⟨w3.1, w3.2.1⟩, fun sig h => by have h2 := w3.2.2; rw [h] at h2; exact (Option.some.inj h2).symm, hts _ hlk⟩, w6, hts _ w5⟩ hp rfl (by rw [List.length_map]; exact hn) hL.1 hstk hrm hd hcs
  refine run_core go hS fun v I' L' Z' H1 locs1 hq hSim1 hS1 => ?_
  rw [← psh_map]
  exact hq p e s m args below meth c H1 locs1 la Qe F hSim1 hS1 hL hcs.1 hcs.2
end AWN
