/-! ===== the tables' words that stay: those that the kit calls good, and nest mates', casts', arrays' ===== -/
def isNw (w : Cond) : Bool := match w with
  | .fieldLinkNest .. => true
  | .methodLinkNest .. => true
  | .castable .. => true
  | .arrayOver (.object _) => true
  | _ => false
def gwL : List Cond := lw_tbl.filter goodWord
def nwL : List Cond := lw_tbl.filter isNw
def tb2 : List Cond := lw_tbl.filter (fun w => goodWord w || isNw w)
theorem nw_warm {w : Cond} (hw : isNw w = true) {s U : State} (hW : s.WarmedH U.vm) (h : va_Nw w s) : va_Nw w U := by
  match w, hw, h with
  | .fieldLinkNest .., _, h => exact va_Nw.warmF hW h
  | .methodLinkNest .., _, h => exact va_Nw.warmM hW h
  | .castable .., _, h => exact va_Nw.warmC hW h
  | .arrayOver (.object C), _, h => exact va_AO.moved (C := C) hW.alike h
theorem nw_use {w : Cond} (hw : isNw w = true) {A : Array Value} {U : State} (h : va_Nw w U) : w.before A U = true := by
  match w, hw, h with
  | .fieldLinkNest .., _, h => exact va_Nw.use rfl h
  | .methodLinkNest .., _, h => exact va_Nw.use rfl h
  | .castable .., _, h => exact va_Nw.use rfl h
  | .arrayOver (.object C), _, h => exact h
theorem nw_of {w : Cond} (hw : isNw w = true) {A : Array Value} {U : State} (h : w.before A U = true) : va_Nw w U := by
  match w, hw, h with
  | .fieldLinkNest .., _, h => exact va_Nw.of rfl h
  | .methodLinkNest .., _, h => exact va_Nw.of rfl h
  | .castable .., _, h => exact va_Nw.of rfl h
  | .arrayOver (.object C), _, h => exact h
theorem tb2_of {w : Cond} (h : w ∈ lw_tbl) (hg : (goodWord w || isNw w) = true) : w ∈ tb2 := List.mem_filter.mpr ⟨h, hg⟩
theorem tb2_hts {args : Array Value} {s : State} (h1 : ∀ w ∈ gwL, w.before args s = true) (h2 : ∀ w ∈ nwL, va_Nw w s) : ∀ w ∈ tb2, w.before args s = true := by
  intro w hw
  obtain ⟨g1, g2⟩ := List.mem_filter.mp hw
  rcases Bool.or_eq_true_iff.mp g2 with g | g
  · exact h1 w (List.mem_filter.mpr ⟨g1, g⟩)
  · exact nw_use g (h2 w (List.mem_filter.mpr ⟨g1, g⟩))
theorem tb2_nw {args : Array Value} {s : State} (h : ∀ w ∈ tb2, w.before args s = true) : ∀ w ∈ nwL, va_Nw w s := by
  intro w hw
  obtain ⟨g1, g2⟩ := List.mem_filter.mp hw
  exact nw_of g2 (h w (List.mem_filter.mpr ⟨g1, by rw [g2, Bool.or_true]⟩))
/-! ===== the memory: ints, longs, references by (cell, place); kinds, lengths, how many cells; cells are counted from the law's start ===== -/
abbrev Ev : Type := Launch × Nat × va_G × (Nat → ClassId) × (Nat → Nat) × (State → Heap → Prop)
abbrev Mi : Type := Nat → Nat → Int32
abbrev Ml : Type := Nat → Nat → Int64
abbrev Mz : Type := (Nat → Nat → Option Nat) × (Nat → Nat) × (Nat → Nat) × Nat
abbrev eL (E : Ev) : Launch := E.1
abbrev eB (E : Ev) : Nat := E.2.1
abbrev eD (E : Ev) : va_G := E.2.2.1
abbrev eC (E : Ev) : Nat → ClassId := E.2.2.2.1
abbrev eX (E : Ev) : Nat → Nat := E.2.2.2.2.1
abbrev eP (E : Ev) : State → Heap → Prop := E.2.2.2.2.2
abbrev zP (Z : Mz) : Nat → Nat → Option Nat := Z.1
abbrev zK (Z : Mz) : Nat → Nat := Z.2.1
abbrev zL (Z : Mz) : Nat → Nat := Z.2.2.1
abbrev zN (Z : Mz) : Nat := Z.2.2.2
def cR (E : Ev) (r : Option Nat) : Value := match r with
  | none => .null
  | some a => .ref (eB E + a)
def rV (r : Option Nat) : Value := match r with
  | none => .null
  | some a => .ref a
def cV (E : Ev) (v : Value) : Value := match v with
  | .ref a => .ref (eB E + a)
  | .retAddr k => .ref (eX E k)
  | .int x => .int x
  | .long x => .long x
  | .float x => .float x
  | .double x => .double x
  | .null => .null
theorem cV_rV (E : Ev) (r : Option Nat) : cV E (rV r) = cR E r := by cases r <;> rfl
theorem cV_cat (E : Ev) (v : Value) : (cV E v).category = v.category := by cases v <;> rfl
theorem cV_sum (E : Ev) (st : List Value) : ((st.map (cV E)).map fun v => v.category).sum = (st.map fun v => v.category).sum := by
  rw [List.map_map]
  exact congrArg List.sum (List.map_congr_left fun v _ => cV_cat E v)
/-- one place of the memory changed -/
def iU (I : Mi) (a k : Nat) (x : Int32) : Mi := fun b j => if b = a ∧ j = k then x else I b j
def lU (L : Ml) (a k : Nat) (x : Int64) : Ml := fun b j => if b = a ∧ j = k then x else L b j
def pU (P : Nat → Nat → Option Nat) (a k : Nat) (r : Option Nat) : Nat → Nat → Option Nat := fun b j => if b = a ∧ j = k then r else P b j
/-- one row of the memory changed -/
def rU (I : Mi) (a : Nat) (f : Nat → Int32) : Mi := fun b => if b = a then f else I b
def nU {α : Type} (K : Nat → α) (a : Nat) (x : α) : Nat → α := fun b => if b = a then x else K b
def tyOf (c : Nat) : Nat → FieldType := match c with
  | 0 => tyX0
  | 1 => tyX1
  | 2 => tyX2
  | 3 => tyX3
  | 4 => tyX4
  | 5 => tyX5
  | _ => tyX6
def fV (E : Ev) (I : Mi) (L : Ml) (Z : Mz) (c a k : Nat) : Value := match tyOf c k with
  | .long => .long (L a k)
  | .object _ => cR E (zP Z a k)
  | .array _ => cR E (zP Z a k)
  | _ => .int (I a k)
def Cel (E : Ev) (I : Mi) (L : Ml) (Z : Mz) (a : Nat) (H : Heap) : Prop :=
  (∀ r : vw_C, vwCl[zK Z a]? = some r → t_OB (eB E + a) ((eD E).1 (zK Z a)) r.2.2 ((eD E).2 (zK Z a)) H (fV E I L Z (zK Z a) a)) ∧
  (zK Z a = 7 ∨ zK Z a = 8 → H[eB E + a]? = some (arrV (eC E (zK Z a)) (zL Z a) (fun j => .int (I a j)))) ∧
  (9 ≤ zK Z a → H[eB E + a]? = some (arrV (eC E (zK Z a)) (zL Z a) (fun j => cR E (zP Z a j))))
def Sim (E : Ev) (I : Mi) (L : Ml) (Z : Mz) (H : Heap) : Prop := H.size = eB E + zN Z ∧ ∀ a, a < zN Z → Cel E I L Z a H
theorem Cel.same {E : Ev} {I I' : Mi} {L L' : Ml} {Z Z' : Mz} {a : Nat} {H H1 : Heap} (h : Cel E I L Z a H) (hI : I' a = I a) (hL : L' a = L a) (hP : zP Z' a = zP Z a) (hK : zK Z' a = zK Z a) (hN : zL Z' a = zL Z a) (hq : H1[eB E + a]? = H[eB E + a]?) : Cel E I' L' Z' a H1 := by
  refine ⟨fun r hr => ?_, fun hk => ?_, fun hk => ?_⟩
  · rw [hK] at hr ⊢
    refine ((h.1 r hr).kept hq).to fun k _ => ?_
    simp only [fV, hI, hL, hP]
  · rw [hK] at hk ⊢
    rw [hq, h.2.1 hk, hN, hI]
  · rw [hK] at hk ⊢
    rw [hq, h.2.2 hk, hN, hP]
theorem Sim.step {E : Ev} {I I' : Mi} {L L' : Ml} {Z Z' : Mz} {a : Nat} {H H1 : Heap} (h : Sim E I L Z H) (hz : H1.size = H.size) (ho : ∀ q : Nat, q ≠ eB E + a → H1[q]? = H[q]?) (hI : ∀ b, b ≠ a → I' b = I b) (hL : ∀ b, b ≠ a → L' b = L b) (hP : ∀ b, b ≠ a → zP Z' b = zP Z b) (hK : zK Z' = zK Z) (hN : zL Z' = zL Z) (hn : zN Z' = zN Z) (hc : Cel E I' L' Z' a H1) : Sim E I' L' Z' H1 := by
  refine ⟨by rw [hz, h.1, hn], fun b hb => ?_⟩
  by_cases hba : b = a
  · subst hba; exact hc
  · exact (h.2 b (by rw [← hn]; exact hb)).same (hI b hba) (hL b hba) (hP b hba) (by rw [hK]) (by rw [hN]) (ho _ (by omega))
theorem Sim.grow {E : Ev} {I I' : Mi} {L L' : Ml} {Z Z' : Mz} {H H1 : Heap} (h : Sim E I L Z H) (hz : H1.size = H.size + 1) (ho : ∀ q : Nat, q < H.size → H1[q]? = H[q]?) (hI : ∀ b, b ≠ zN Z → I' b = I b) (hL : ∀ b, b ≠ zN Z → L' b = L b) (hP : ∀ b, b ≠ zN Z → zP Z' b = zP Z b) (hK : ∀ b, b ≠ zN Z → zK Z' b = zK Z b) (hN : ∀ b, b ≠ zN Z → zL Z' b = zL Z b) (hn : zN Z' = zN Z + 1) (hc : Cel E I' L' Z' (zN Z) H1) : Sim E I' L' Z' H1 := by
  refine ⟨by rw [hz, h.1, hn]; omega, fun b hb => ?_⟩
  by_cases hba : b = zN Z
  · subst hba; exact hc
  · exact (h.2 b (by omega)).same (hI b hba) (hL b hba) (hP b hba) (hK b hba) (hN b hba) (ho _ (by rw [h.1]; omega))
/-! ===== a method's start and end ===== -/
def rmOf (d kc ks : Nat) : Room := { frames := d, cells := kc, slots := ks, locals := 64 * d }
def tysE (E : Ev) : List (ClassId × FieldType) := [(eC E 7, .int), (eC E 8, .boolean), (eC E 9, .object RX2), (eC E 10, .object RX4)]
def XC (E : Ev) : Prop := ∀ (u U : State) (H H1 : Heap), u.WarmedH U.vm → (∀ q : Nat, q < eB E → H1[q]? = H[q]?) → eP E u H → eP E U H1
abbrev Po : Type := Option Value → Mi → Ml → Mz → Prop
def PreU (E : Ev) (I : Mi) (L : Ml) (Z : Mz) (U : State) : Prop := (∀ w ∈ nwL, va_Nw w U) ∧ XC E ∧ va_K (eD E) vwCl (tysE E) U ∧ eP E U U.heap ∧ Sim E I L Z U.heap
def PostU (E : Ev) (Q : Po) : Array Value → State → Outcome → State → Prop := fun _ st o t => (∃ (v : Option Value) (I : Mi) (L : Ml) (Z : Mz), o = .returned (v.map (cV E)) ∧ Q v I L Z ∧ Sim E I L Z t.heap) ∧ va_F (fun q => eB E ≤ q) st t
/-- a method's contract: called so, it ends in Q -/
def AC (E : Ev) (y : MethodName) (cc : ByteArray) (nL : Nat) (rt : Option FieldType) (d kc ks : Nat) (av : List Value) (I : Mi) (L : Ml) (Z : Mz) (Q : Po) : Prop :=
  Met (eL E) y (Cond.code y cc nL rt :: gwL) (rmOf d kc ks) (va_Pc (av.map (cV E)) (PreU E I L Z)) (PostU E Q) kc ks (fun q => eB E ≤ q)
def RetV (rt : Option FieldType) (cc : ByteArray) (pc : Nat) (v : Option Value) : Prop := match v with
  | none => rt = none ∧ decode cc pc = .ok (.return_, 1)
  | some (.int x) => (∃ ty, rt = some ty ∧ narrow ty (.int x) = .int x) ∧ decode cc pc = .ok (.ireturn, 1)
  | some (.long _) => rt = some .long ∧ decode cc pc = .ok (.lreturn, 1)
  | some (.ref _) => (∃ ty, rt = some ty ∧ ((∃ n, ty = .object n) ∨ ∃ t, ty = .array t)) ∧ decode cc pc = .ok (.areturn, 1)
  | some .null => (∃ ty, rt = some ty ∧ ((∃ n, ty = .object n) ∨ ∃ t, ty = .array t)) ∧ decode cc pc = .ok (.areturn, 1)
  | _ => False
abbrev aS (E : Ev) (s : State) (H : Heap) (locs : List Loc) : Prop := va_S (fun q => eB E ≤ q) s.heap H locs
def RetOK (E : Ev) (cc : ByteArray) (rt : Option FieldType) (R : Room) (Q : Po) (p : Program) (e : Env) (s : State) (m : MethodId) (args : Array Value) (below : List Frame) (meth : Method) (c : Code) (Qe : State → Prop) : Prop :=
  ∀ (v : Option Value) (I : Mi) (L : Ml) (Z : Mz) (H : Heap) (locs : List Loc) (cells slots pc : Nat) (la : Array Slot), Q v I L Z → Sim E I L Z H → aS E s H locs → cells ≤ R.cells → slots ≤ R.slots → RetV rt cc pc v → W p (eL E) e R s m args below meth c H locs cells slots Qe (F0 m pc la ((v.map (cV E)).toList))
def FH (E : Ev) (y : MethodName) (cc : ByteArray) (nL : Nat) (rt : Option FieldType) (R : Room) (Q : Po) (p : Program) (e : Env) (s : State) (m : MethodId) (args : Array Value) (below : List Frame) (meth : Method) (c : Code) (Qe : State → Prop) : Prop :=
  p.tables.exec = Jvm.exec ∧ c.code = cc ∧ c.maxLocals = nL ∧ s.vm.findClass y.cls = some m.cls ∧ (∀ w ∈ tb2, w.before args s = true) ∧ meth.name = y.name ∧ eB E ≤ s.heap.size ∧ XC E ∧ va_K (eD E) vwCl (tysE E) s ∧ eP E s s.heap ∧ RetOK E cc rt R Q p e s m args below meth c Qe
/-- the locals -/
def LH (E : Ev) (la : Array Slot) (nL : Nat) (ls : List (Option Value)) : Prop := la.size = nL ∧ lv_wf la ∧ ∀ (i : Nat) (v : Value), ls[i]? = some (some v) → la[i]? = some (.val (cV E v))
/-- a method at pc: from here it ends in Q -/
def AW (E : Ev) (y : MethodName) (cc : ByteArray) (nL : Nat) (rt : Option FieldType) (R : Room) (Q : Po) (cells slots pc : Nat) (ls : List (Option Value)) (st : List Value) (I : Mi) (L : Ml) (Z : Mz) : Prop :=
  ∀ (p : Program) (e : Env) (s : State) (m : MethodId) (args : Array Value) (below : List Frame) (meth : Method) (c : Code) (H : Heap) (locs : List Loc) (la : Array Slot) (Qe : State → Prop),
    FH E y cc nL rt R Q p e s m args below meth c Qe → Sim E I L Z H → aS E s H locs → LH E la nL ls → cells ≤ R.cells → slots ≤ R.slots →
    W p (eL E) e R s m args below meth c H locs cells slots Qe (F0 m pc la (st.map (cV E)))
/-- a method's entry -/
def lsOf : List Value → List (Option Value)
  | [] => []
  | v :: vs => if v.category = 2 then some v :: none :: lsOf vs else some v :: lsOf vs
theorem lsOf_args (E : Ev) : ∀ (av : List Value) (n : Nat) (i : Nat) (v : Value), (lsOf av)[i]? = some (some v) → (n + i, cV E v) ∈ lv_args n (av.map (cV E)) := by
  intro av
  induction av with
  | nil => intro n i v h; simp [lsOf] at h
  | cons w ws ih =>
    intro n i v h
    simp only [List.map_cons, lv_args, cV_cat]
    unfold lsOf at h
    by_cases hc : w.category = 2
    · rw [if_pos hc] at h ⊢
      match i, h with
      | 0, h => simp at h; subst h; simp
      | 1, h => simp at h
      | i + 2, h =>
        simp only [List.getElem?_cons_succ] at h
        have := ih (n + 2) i v h
        rw [show n + (i + 2) = n + 2 + i by omega]
        exact List.mem_cons_of_mem _ this
    · rw [if_neg hc] at h ⊢
      match i, h with
      | 0, h => simp at h; subst h; simp
      | i + 1, h =>
        simp only [List.getElem?_cons_succ] at h
        have := ih (n + 1) i v h
        rw [show n + (i + 1) = n + 1 + i by omega]
        exact List.mem_cons_of_mem _ this
theorem lsOf_len (E : Ev) (av : List Value) : (lg_sl (av.map (cV E))).length = (lsOf av).length := by
  induction av with
  | nil => rfl
  | cons w ws ih =>
    have ih' : (List.flatMap (fun v : Value => if v.category = 2 then [Slot.val v, Slot.second] else [Slot.val v]) (ws.map (cV E))).length = (lsOf ws).length := ih
    simp only [List.map_cons, lg_sl, List.flatMap_cons, lsOf, cV_cat]
    rw [List.length_append, ih']
    by_cases hc : w.category = 2
    · simp [hc]; omega
    · simp [hc]; omega
theorem ret_ok {E : Ev} {cc : ByteArray} {rt : Option FieldType} {d kc ks : Nat} {Q : Po} {p : Program} {e : Env} {s : State} {m : MethodId} {args : Array Value} {below : List Frame} {meth : Method} {c : Code} (hx : p.tables.exec = Jvm.exec) (hb : c.code = cc) (hr : meth.sig.returnType = rt) (hlocks : meth.locks = false) :
    RetOK E cc rt (rmOf d kc ks) Q p e s m args below meth c (MQ below (PostU E Q) args s kc ks (fun q => eB E ≤ q)) := by
  intro v I L Z H locs cells slots pc la hQ hSim hS hc hs hv
  refine W.widen (k := kc) (n := ks) hc hs ?_
  have hq : ∀ t : State, t.heap = H → s.WarmedH t.vm → PostU E Q args s (.returned (v.map (cV E))) t := fun t ht _ => ⟨⟨v, I, L, Z, rfl, hQ, by rw [ht]; exact hSim⟩, hS.F ht⟩
  match v, hv, hq with
  | none, hv, hq => exact W.vret hx hb (hr.trans hv.1) hq hS.2.2 hv.2
  | some (.int x), hv, hq =>
    obtain ⟨⟨ty, h1, h2⟩, h3⟩ := hv
    exact W.zret hx hb (hr.trans h1) h2 hq hS.2.2 h3
  | some (.long x), hv, hq => exact W.lret hx hb (hr.trans hv.1) hq hS.2.2 hv.2
  | some (.ref x), hv, hq =>
    obtain ⟨⟨ty, h1, h2⟩, h3⟩ := hv
    exact W.aret hx hb (hr.trans h1) h2 (Or.inr ⟨_, rfl⟩) hq hS.2.2 h3
  | some .null, hv, hq =>
    obtain ⟨⟨ty, h1, h2⟩, h3⟩ := hv
    exact W.aret hx hb (hr.trans h1) h2 (Or.inl rfl) hq hS.2.2 h3
  | some (.float x), hv, hq => exact hv.elim
  | some (.double x), hv, hq => exact hv.elim
  | some (.retAddr x), hv, hq => exact hv.elim
theorem ac_start {E : Ev} {y : MethodName} {cc : ByteArray} {nL : Nat} {rt : Option FieldType} {d kc ks : Nat} {av : List Value} {I : Mi} {L : Ml} {Z : Mz} {Q : Po} (hy : plainName y.cls = true) (hn : (lsOf av).length ≤ nL) (h : AW E y cc nL rt (rmOf d kc ks) Q 0 0 0 (lsOf av) [] I L Z) : AC E y cc nL rt d kc ks av I L Z Q := by
  refine Met.ofW (cc := cc) (maxL := nL) (ret := rt) hy rfl ?_
  intro p e s m args below meth c s₁ B hml hv
  obtain ⟨rfl, hNW, hXC, hK, hXE, hSim⟩ := hv
  have hx := B.exec
  have hb := B.bytes
  have hr := B.returns
  have hts := atoms_spec (ws := Cond.code y cc nL rt :: gwL) B.pre
  have hown : s.vm.findClass y.cls = some m.cls := findClass_of_methodNamed B.named
  have hlocks := B.notSynchronized
  have hnm : meth.name = y.name := (name_of_methodNamed B.named B.method).1
  have hlen := lsOf_len E av
  have hl := lv_entry (av.map (cV E)) (n := nL) (by rw [hlen]; exact hn)
  rw [lg_entry_eq]
  generalize (lg_sl (av.map (cV E)) ++ List.replicate (nL - (lg_sl (av.map (cV E))).length) Slot.unset).toArray = la at hl ⊢
  have hl : lv_has la nL (lv_args 0 (av.map (cV E))) := hl
  have hS : aS E s s.heap [] := va_S.rf
  refine h p e s m _ below meth c s.heap [] la _ ⟨hx, hb, hml, hown, tb2_hts (fun w hw => hts w (List.mem_cons_of_mem _ hw)) hNW, hnm, ?_, hXC, hK, hXE, ret_ok hx hb hr hlocks⟩ hSim hS ⟨hl.1, hl.2.1, fun i v hi => ?_⟩ (Nat.zero_le _) (Nat.zero_le _)
  · rw [hSim.1]; omega
  · have := hl.2.2 (0 + i, cV E v) (lsOf_args E av 0 i v hi)
    simpa using this
