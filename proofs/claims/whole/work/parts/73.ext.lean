/-! ===== what lies outside: String constants, ABOVE, the script ===== -/
def lnS : List Nat := [36, 5, 6, 6, 2, 3, 3, 7, 6, 6, 4, 5, 3]
def byS : List (List Int32) := [[116, 117, 114, 110, 115, 32, 48, 32, 59, 32, 109, 105, 115, 115, 101, 115, 32, 115, 97, 121, 105, 110, 103, 32, 59, 32, 98, 111, 117, 110, 100, 115, 32, 57, 32, 59], [116, 117, 114, 110, 115], [109, 105, 115, 115, 101, 115], [98, 111, 117, 110, 100, 115], [111, 114], [97, 110, 100], [110, 111, 116], [103, 114, 111, 117, 110, 100, 115], [115, 97, 121, 105, 110, 103], [110, 117, 109, 98, 101, 114], [104, 111, 117, 114], [115, 108, 105, 112, 115], [99, 117, 112]]
def owS (i : Nat) : String × Nat × String := match i with
  | 0 => (RX5, 45, "turns 0 ; misses saying ; bounds 9 ;")
  | 1 => (RX1, 85, "turns")
  | 2 => (RX1, 91, "misses")
  | 3 => (RX1, 93, "bounds")
  | 4 => (RX1, 95, "or")
  | 5 => (RX1, 97, "and")
  | 6 => (RX1, 99, "not")
  | 7 => (RX1, 104, "grounds")
  | 8 => (RX1, 108, "saying")
  | 9 => (RX1, 110, "number")
  | 10 => (RX1, 112, "hour")
  | 11 => (RX1, 114, "slips")
  | _ => (RX1, 116, "cup")
def abS (j : Nat) : Int32 := match j with
  | 0 => -1
  | 1 => 0
  | 2 => 0
  | 3 => 1
  | 4 => 2
  | _ => 0
def XO (B : Nat) (X : Nat → Nat) (N : Nat) (xs : Nat → Int32) (u : State) (H : Heap) : Prop :=
  vk_S 13 lnS byS X (fun i => X (20 + i)) (fun q => B ≤ q) u H ∧ (∀ i, i < 13 → vk_R (owS i).1 (owS i).2.1 (owS i).2.2 (X i) u) ∧ va_Z RX5 "ABOVE" "[I" (.ref (X 40)) (fun q => B ≤ q) u H ∧ va_T .int (X 40) 6 (fun j => .int (abS j)) (fun q => B ≤ q) u H ∧ va_Z RJ0 "COMPACT_STRINGS" "Z" (.int 1) (fun q => B ≤ q) u H ∧ (va_Z RJ3 "SIOOBE_FORMATTER" "Ljava/util/function/BiFunction;" .null (fun q => B ≤ q) u H ∨ va_Z RJ3 "SIOOBE_FORMATTER" "Ljava/util/function/BiFunction;" (.ref (X 60)) (fun q => B ≤ q) u H) ∧ va_X (X 50) N xs u H ∧ X 50 < B
def EXT (E : Ev) (N : Nat) (xs : Nat → Int32) : Prop := ∀ u H, eP E u H → XO (eB E) (eX E) N xs u H
theorem XO.warm {B : Nat} {X : Nat → Nat} {N : Nat} {xs : Nat → Int32} (u U : State) (H H1 : Heap) (hW : u.WarmedH U.vm) (hq : ∀ q : Nat, q < B → H1[q]? = H[q]?) (h : XO B X N xs u H) : XO B X N xs U H1 := by
  have hk : ∀ a : Nat, a < H.size → ¬ (B ≤ a) → H1[a]? = H[a]? := fun a _ g => hq a (Nat.not_le.mp g)
  obtain ⟨h1, h2, h3, h4, h5, h6, h7, h8⟩ := h
  refine ⟨vk_S.moved hW.alike (h1.kept hk), fun i hi => (h2 i hi).warm hW, va_Z.moved hW.alike (h3.kept hk), va_T.moved hW.alike (h4.kept hk), va_Z.moved hW.alike (h5.kept hk), ?_, va_X.moved hW.alike (h7.kept (hq _ h8)), h8⟩
  rcases h6 with h6 | h6
  · exact Or.inl (va_Z.moved hW.alike (h6.kept hk))
  · exact Or.inr (va_Z.moved hW.alike (h6.kept hk))
section AWX
variable {E : Ev} {y : MethodName} {cc : ByteArray} {nL : Nat} {rt : Option FieldType} {R : Room} {Q : Po} {cells slots pc : Nat} {ls ls' : List (Option Value)} {rest : List Value} {I : Mi} {L : Ml} {Z : Mz} {N : Nat} {xs : Nat → Int32}
theorem aw_ldcS {idx : Nat} (i : Nat) (hE : EXT E N xs) (hi : i < 13) (ho : (owS i).1 = y.cls ∧ (owS i).2.1 = idx) (hd : decode cc pc = .ok (.ldc idx, 2)) (k : AW E y cc nL rt R Q cells slots (pc + 2) ls (.retAddr i :: rest) I L Z) : AW E y cc nL rt R Q cells slots pc ls rest I L Z := by
  intro p e s m args below meth c H locs la Qe F hSim hS hL h1 h2
  obtain ⟨hx, hb, hml, hown, hts, hnm, hbs, hXC, hK, hXE, hret⟩ := id F
  have hX := (hE s s.heap hXE).2.1 i hi
  rw [ho.1, ho.2] at hX
  exact va_ldcS hx hb hown hX hd (k p e s m args below meth c H locs la Qe F hSim hS hL h1 h2)
theorem aw_gets {idx : Nat} {C n d : String} {v : Value} (hd : decode cc pc = .ok (.getstatic idx, 3)) (hw : Cond.fieldLink y.cls idx C n d ∈ tb2) (hz : ∀ u H, eP E u H → va_Z C n d (cV E v) (fun q => eB E ≤ q) u H) (k : AW E y cc nL rt R Q cells slots (pc + 3) ls (v :: rest) I L Z) : AW E y cc nL rt R Q cells slots pc ls rest I L Z := by
  intro p e s m args below meth c H locs la Qe F hSim hS hL h1 h2
  obtain ⟨hx, hb, hml, hown, hts, hnm, hbs, hXC, hK, hXE, hret⟩ := id F
  exact va_gets hx hb (hz s s.heap hXE) hS hown (hts _ hw) (fun x hx => hx) hd (k p e s m args below meth c H locs la Qe F hSim hS hL h1 h2)
theorem aw_getx {idx r : Nat} {o n d : String} {v : Value} (hd : decode cc pc = .ok (.getfield idx, 3)) (hw : Cond.fieldLink y.cls idx o n d ∈ tb2) (hz : ∀ u H, eP E u H → va_OF o n d (cV E v) (eX E r) (fun q => eB E ≤ q) u H) (k : AW E y cc nL rt R Q cells slots (pc + 3) ls (v :: rest) I L Z) : AW E y cc nL rt R Q cells slots pc ls (.retAddr r :: rest) I L Z := by
  intro p e s m args below meth c H locs la Qe F hSim hS hL h1 h2
  obtain ⟨hx, hb, hml, hown, hts, hnm, hbs, hXC, hK, hXE, hret⟩ := id F
  exact vk_getf hx hb (hz s s.heap hXE) hS hown (hts _ hw) (fun x hx => hx) hd (k p e s m args below meth c H locs la Qe F hSim hS hL h1 h2)
theorem aw_alx {r n : Nat} {ty : FieldType} {f : Nat → Value} (hd : decode cc pc = .ok (.arraylength, 1)) (hz : ∀ u H, eP E u H → va_T ty (eX E r) n f (fun q => eB E ≤ q) u H) (k : AW E y cc nL rt R Q cells slots (pc + 1) ls (.int (nI n) :: rest) I L Z) : AW E y cc nL rt R Q cells slots pc ls (.retAddr r :: rest) I L Z := by
  intro p e s m args below meth c H locs la Qe F hSim hS hL h1 h2
  obtain ⟨hx, hb, hml, hown, hts, hnm, hbs, hXC, hK, hXE, hret⟩ := id F
  exact va_tlen hx hb (hz s s.heap hXE) hS rfl hd (k p e s m args below meth c H locs la Qe F hSim hS hL h1 h2)
theorem aw_iax {r n : Nat} {f : Nat → Int32} (j : Nat) {i : Int32} (hd : decode cc pc = .ok (.iaload, 1)) (hz : ∀ u H, eP E u H → va_T .int (eX E r) n (fun j => .int (f j)) (fun q => eB E ≤ q) u H) (hi : i = nI j) (hj : j < n) (hn : n < 2 ^ 31) (k : AW E y cc nL rt R Q cells slots (pc + 1) ls (.int (f j) :: rest) I L Z) : AW E y cc nL rt R Q cells slots pc ls (.int i :: .retAddr r :: rest) I L Z := by
  intro p e s m args below meth c H locs la Qe F hSim hS hL h1 h2
  obtain ⟨hx, hb, hml, hown, hts, hnm, hbs, hXC, hK, hXE, hret⟩ := id F
  subst hi
  exact va_ti hx hb (hz s s.heap hXE) hS (vp_in_nI hj hn) (v := .int (f j)) (by rw [nI_clamp (by omega)]) hd (k p e s m args below meth c H locs la Qe F hSim hS hL h1 h2)
theorem aw_bax {r n : Nat} {f : Nat → Int32} (j : Nat) {i : Int32} (hd : decode cc pc = .ok (.baload, 1)) (hz : ∀ u H, eP E u H → va_T .byte (eX E r) n (fun j => .int (f j)) (fun q => eB E ≤ q) u H) (hi : i = nI j) (hj : j < n) (hn : n < 2 ^ 31) (k : AW E y cc nL rt R Q cells slots (pc + 1) ls (.int (f j) :: rest) I L Z) : AW E y cc nL rt R Q cells slots pc ls (.int i :: .retAddr r :: rest) I L Z := by
  intro p e s m args below meth c H locs la Qe F hSim hS hL h1 h2
  obtain ⟨hx, hb, hml, hown, hts, hnm, hbs, hXC, hK, hXE, hret⟩ := id F
  subst hi
  exact va_tb hx hb (hz s s.heap hXE) hS (vp_in_nI hj hn) (v := .int (f j)) (by rw [nI_clamp (by omega)]) hd (k p e s m args below meth c H locs la Qe F hSim hS hL h1 h2)
theorem aw_i2c {x : Int32} (hd : decode cc pc = .ok (.i2c, 1)) (k : AW E y cc nL rt R Q cells slots (pc + 1) ls (.int (x.toUInt32 % 65536).toInt32 :: rest) I L Z) : AW E y cc nL rt R Q cells slots pc ls (.int x :: rest) I L Z := by
  intro p e s m args below meth c H locs la Qe F hSim hS hL h1 h2
  exact lv_i2c F.1 F.2.1 hd rfl (k p e s m args below meth c H locs la Qe F hSim hS hL h1 h2)
/-- the script -/
theorem aw_sld {i : Int32} (j : Nat) (hE : EXT E N xs) (hd : decode cc pc = .ok (.iaload, 1)) (hi : i = nI j) (hj : j < N) (hn : N < 2 ^ 31) (k : AW E y cc nL rt R Q cells slots (pc + 1) ls (.int (xs j) :: rest) I L Z) : AW E y cc nL rt R Q cells slots pc ls (.int i :: .retAddr 50 :: rest) I L Z := by
  intro p e s m args below meth c H locs la Qe F hSim hS hL h1 h2
  obtain ⟨hx, hb, hml, hown, hts, hnm, hbs, hXC, hK, hXE, hret⟩ := id F
  subst hi
  obtain ⟨-, -, -, -, -, -, hX, hXb⟩ := hE s s.heap hXE
  have hk := k p e s m args below meth c H locs la Qe F hSim hS hL h1 h2
  refine va_sld hx hb hX (Nat.lt_of_lt_of_le hXb hbs) (Nat.not_le.mpr hXb) hS (vp_in_nI hj hn) hd ?_
  rw [nI_clamp (by omega)]
  exact hk
theorem aw_slen (hE : EXT E N xs) (hd : decode cc pc = .ok (.arraylength, 1)) (k : AW E y cc nL rt R Q cells slots (pc + 1) ls (.int (nI N) :: rest) I L Z) : AW E y cc nL rt R Q cells slots pc ls (.retAddr 50 :: rest) I L Z := by
  intro p e s m args below meth c H locs la Qe F hSim hS hL h1 h2
  obtain ⟨hx, hb, hml, hown, hts, hnm, hbs, hXC, hK, hXE, hret⟩ := id F
  obtain ⟨-, -, -, -, -, -, hX, hXb⟩ := hE s s.heap hXE
  exact va_slen hx hb hX (Nat.lt_of_lt_of_le hXb hbs) (Nat.not_le.mpr hXb) hS hd (k p e s m args below meth c H locs la Qe F hSim hS hL h1 h2)
/-- a call of a thing that lies outside -/
theorem aw_callX {idx r d' kc' ks' n : Nat} {y' : MethodName} {cc' : ByteArray} {nL' : Nat} {rt' : Option FieldType} {As st : List Value} (hd : decode cc pc = .ok (.invokevirtual idx, 3)) (cw : CwV y.cls idx y' cc' nL' rt' n) (hc : ∀ u H, eP E u H → va_O y'.cls (eX E r) (fun q => eB E ≤ q) u H) (hst : st = As.reverse ++ .retAddr r :: rest) (hn : As.length = n) (hR : d' + 1 ≤ R.frames ∧ 64 * d' + 64 ≤ R.locals) (hcs : cells + kc' ≤ R.cells ∧ slots + ks' ≤ R.slots) (hr : (rest.map fun v => v.category).sum ≤ 8)
    (kk : AC E y' cc' nL' rt' d' kc' ks' (.retAddr r :: As) I L Z (fun v I' L' Z' => AW E y cc nL rt R Q (cells + kc') (slots + ks') (pc + 3) ls (psh v rest) I' L' Z')) : AW E y cc nL rt R Q cells slots pc ls st I L Z := by
  intro p e s m args below meth c H locs la Qe F hSim hS hL h1 h2
  obtain ⟨hx, hb, hml, hown, hts, hnm, hbs, hXC, hK, hXE, hret⟩ := id F
  subst hst
  obtain ⟨hlk, ⟨w1, w2, w3, w4⟩, w5, w6⟩ := cw
  obtain ⟨cell, q1, q2, q3, -⟩ := (hc s s.heap hXE).kept hS.2.1
  have hp : PreV s H y'.cls (eX E r) (va_Pc ((.ref (eX E r) :: As.map (cV E))) (PreU E I L Z)) (As.map (cV E)) := ⟨blind _, ⟨cell, q1, q2, q3⟩, pre_at F hSim hS _⟩
  have hRR : (rmOf d' kc' ks').frames + 1 ≤ R.frames ∧ 8 + (nL' + 11) + (rmOf d' kc' ks').locals ≤ R.locals := ⟨hR.1, by show 8 + (nL' + 11) + 64 * d' ≤ _; omega⟩
  have hstk : (F0 m pc la ((As.reverse ++ .retAddr r :: rest).map (cV E))).stack = (As.map (cV E)).reverse ++ .ref (eX E r) :: rest.map (cV E) := by simp [cV]
  have hrm : 2 * (F0 m pc la ((As.reverse ++ .retAddr r :: rest).map (cV E))).monitorRoom + ((rest.map (cV E)).map fun v => v.category).sum ≤ 8 := by rw [cV_sum]; show 2 * 0 + _ ≤ 8; omega
  have go : va_Run p (eL E) e R s m args below meth c H locs cells slots kc' ks' (F0 m pc la ((As.reverse ++ .retAddr r :: rest).map (cV E))) (rest.map (cV E)) (PostU E (fun v I' L' Z' => AW E y cc nL rt R Q (cells + kc') (slots + ks') (pc + 3) ls (psh v rest) I' L' Z') (Value.ref (eX E r) :: As.map (cV E)).toArray) (fun q => eB E ≤ q) := by
    rcases hlk with hlk | ⟨host, hlk⟩
    · exact va_runV ⟨hx, hb, hml, hown, hts⟩ kk ⟨callB_of n hts (good_in w2) rfl rfl rfl (hts _ w1) (hts _ hlk) w3 hRR, hts _ w5, hts _ w6⟩ hp rfl (by rw [List.length_map]; exact hn) hL.1 hstk hrm hd hcs
    · exact va_runVN ⟨hx, hb, hml, hown, hts⟩ kk ⟨⟨⟨rfl, rfl, hRR.1, hRR.2, pay_in hts (good_in w2), List.mem_cons_self⟩, hts _ w2, hts _ w1, ⟨w3.1, w3.2.1⟩, fun sig h => by have h2 := w3.2.2; rw [h] at h2; exact (Option.some.inj h2).symm, hts _ hlk⟩, hts _ w5, hts _ w6⟩ hp rfl (by rw [List.length_map]; exact hn) hL.1 hstk hrm hd hcs
  refine run_core go hS fun v I' L' Z' H1 locs1 hq hSim1 hS1 => ?_
  rw [← psh_map]
  exact hq p e s m args below meth c H1 locs1 la Qe F hSim1 hS1 hL hcs.1 hcs.2
end AWX
section AWXK
variable {E : Ev} {y : MethodName} {cc : ByteArray} {nL : Nat} {rt : Option FieldType} {Q : Po} {cells slots pc d kc ks : Nat} {ls ls' : List (Option Value)} {rest : List Value} {I : Mi} {L : Ml} {Z : Mz} {idx r : Nat} {y' : MethodName} {cc' : ByteArray} {nL' : Nat} {rt' : Option FieldType}
theorem aw_X0 (hd : decode cc pc = .ok (.invokevirtual idx, 3)) (cw : CwV y.cls idx y' cc' nL' rt' 0) (hc : ∀ u H, eP E u H → va_O y'.cls (eX E r) (fun q => eB E ≤ q) u H) (hdd : 1 ≤ d) (hcs : cells ≤ kc ∧ slots ≤ ks) (hr : (rest.map fun v => v.category).sum ≤ 8) (kk : AC E y' cc' nL' rt' (d - 1) 0 0 [.retAddr r] I L Z (KQ E y cc nL rt d kc ks Q cells slots pc ls rest)) : AW E y cc nL rt (rmOf d kc ks) Q cells slots pc ls (.retAddr r :: rest) I L Z := aw_callX (As := []) hd cw hc rfl rfl (rm_ok (by omega)) hcs hr kk
theorem aw_X1 {v1 : Value} (hd : decode cc pc = .ok (.invokevirtual idx, 3)) (cw : CwV y.cls idx y' cc' nL' rt' 1) (hc : ∀ u H, eP E u H → va_O y'.cls (eX E r) (fun q => eB E ≤ q) u H) (hdd : 1 ≤ d) (hcs : cells ≤ kc ∧ slots ≤ ks) (hr : (rest.map fun v => v.category).sum ≤ 8) (kk : AC E y' cc' nL' rt' (d - 1) 0 0 [.retAddr r, v1] I L Z (KQ E y cc nL rt d kc ks Q cells slots pc ls rest)) : AW E y cc nL rt (rmOf d kc ks) Q cells slots pc ls (v1 :: .retAddr r :: rest) I L Z := aw_callX (As := [v1]) hd cw hc rfl rfl (rm_ok (by omega)) hcs hr kk
end AWXK
theorem sw_38 : Cond.fieldLink RJ0 38 RJ0 "COMPACT_STRINGS" "Z" ∈ tb2 := tb2_of (List.mem_of_getElem? (i := 264) (by decide +kernel)) rfl
theorem sw_1053 : Cond.fieldLink RJ0 1053 RJ3 "SIOOBE_FORMATTER" "Ljava/util/function/BiFunction;" ∈ tb2 := tb2_of (List.mem_of_getElem? (i := 280) (by decide +kernel)) rfl
theorem sw_299 : Cond.fieldLink RX5 299 RX5 "ABOVE" "[I" ∈ tb2 := tb2_of (List.mem_of_getElem? (i := 833) (by decide +kernel)) rfl
theorem sw_9 : Cond.fieldLink RJ0 9 RJ0 "value" "[B" ∈ tb2 := tb2_of (List.mem_of_getElem? (i := 1430) (by decide +kernel)) rfl
theorem sw_15 : Cond.fieldLink RJ0 15 RJ0 "coder" "B" ∈ tb2 := tb2_of (List.mem_of_getElem? (i := 1431) (by decide +kernel)) rfl
theorem xt_str {E : Ev} {N : Nat} {xs : Nat → Int32} {i : Nat} (hE : EXT E N xs) (hi : i < 13) : ∀ u H, eP E u H → va_O RJ0 (eX E i) (fun q => eB E ≤ q) u H := fun u H h => ((hE u H h).1.1 i hi).1
theorem xt_cod {E : Ev} {N : Nat} {xs : Nat → Int32} {i : Nat} (hE : EXT E N xs) (hi : i < 13) : ∀ u H, eP E u H → va_OF RJ0 "coder" "B" (cV E (.int 0)) (eX E i) (fun q => eB E ≤ q) u H := fun u H h => ((hE u H h).1.1 i hi).2.1
theorem xt_val {E : Ev} {N : Nat} {xs : Nat → Int32} {i : Nat} (hE : EXT E N xs) (hi : i < 13) : ∀ u H, eP E u H → va_OF RJ0 "value" "[B" (cV E (.retAddr (20 + i))) (eX E i) (fun q => eB E ≤ q) u H := fun u H h => ((hE u H h).1.1 i hi).2.2.1
theorem xt_byt {E : Ev} {N : Nat} {xs : Nat → Int32} {i : Nat} (hE : EXT E N xs) (hi : i < 13) : ∀ u H, eP E u H → va_T .byte (eX E (20 + i)) (lnS.getD i 0) (fun j => .int ((byS.getD i []).getD j 0)) (fun q => eB E ≤ q) u H := fun u H h => ((hE u H h).1.1 i hi).2.2.2
theorem ln_sm : ∀ i, i < 13 → lnS.getD i 0 < 100 ∧ (byS.getD i []).length = lnS.getD i 0 ∧ nI (lnS.getD i 0) >>> ((0 : Int32) &&& 31) = nI (lnS.getD i 0) := by decide +kernel
theorem by_ch : ∀ i, i < 13 → ∀ j, j < lnS.getD i 0 → (((byS.getD i []).getD j 0 &&& 255).toUInt32 % 65536).toInt32 = (byS.getD i []).getD j 0 ∧ narrow .char (.int ((byS.getD i []).getD j 0)) = .int ((byS.getD i []).getD j 0) := by decide +kernel
theorem c_coder {E : Ev} {d : Nat} {I : Mi} {L : Ml} {Z : Mz} {Q : Po} {N : Nat} {xs : Nat → Int32} {i : Nat} (hE : EXT E N xs) (hi : i < 13) (hQ : Q (some (.int 0)) I L Z) : AC E yJ0_coder_7d493 cJ0_coder_7d493 1 (some .byte) d 0 0 [.retAddr i] I L Z Q := by
  refine ac_go (ls := [some (.retAddr i)]) (by decide +kernel) (Nat.le_of_ble_eq_true rfl) rfl ?_
  refine aw_gets (v := .int 1) dJ0_coder_7d493_0 sw_38 (fun u H h => (hE u H h).2.2.2.2.1) ?_
  refine aw_if_eq (tgt := 13) dJ0_coder_7d493_3 (by decide) (fun zz => absurd zz (by decide)) (fun _ => ?_)
  refine aw_aload_n dJ0_coder_7d493_6 rfl rfl ?_
  refine aw_getx (v := .int 0) dJ0_coder_7d493_7 sw_15 (xt_cod hE hi) ?_
  refine aw_goto (tgt := 14) dJ0_coder_7d493_10 (by decide) ?_
  exact aw_ireturn (ty := .byte) dJ0_coder_7d493_14 rfl (by decide) hQ
theorem c_isLatin1 {E : Ev} {d : Nat} {I : Mi} {L : Ml} {Z : Mz} {Q : Po} {N : Nat} {xs : Nat → Int32} {i : Nat} (hE : EXT E N xs) (hi : i < 13) (hQ : Q (some (.int 1)) I L Z) : AC E yJ0_isLatin1_aae02 cJ0_isLatin1_aae02 1 (some .boolean) d 0 0 [.retAddr i] I L Z Q := by
  refine ac_go (ls := [some (.retAddr i)]) (by decide +kernel) (Nat.le_of_ble_eq_true rfl) rfl ?_
  refine aw_gets (v := .int 1) dJ0_isLatin1_aae02_0 sw_38 (fun u H h => (hE u H h).2.2.2.2.1) ?_
  refine aw_if_eq (tgt := 17) dJ0_isLatin1_aae02_3 (by decide) (fun zz => absurd zz (by decide)) (fun _ => ?_)
  refine aw_aload_n dJ0_isLatin1_aae02_6 rfl rfl ?_
  refine aw_getx (v := .int 0) dJ0_isLatin1_aae02_7 sw_15 (xt_cod hE hi) ?_
  refine aw_if_ne (tgt := 17) dJ0_isLatin1_aae02_10 (by decide) (fun zz => absurd rfl zz) (fun _ => ?_)
  refine aw_iconst (v := 1) dJ0_isLatin1_aae02_13 (by decide) ?_
  refine aw_goto (tgt := 18) dJ0_isLatin1_aae02_14 (by decide) ?_
  exact aw_ireturn (ty := .boolean) dJ0_isLatin1_aae02_18 rfl (by decide) hQ
theorem c_length {E : Ev} {d : Nat} {I : Mi} {L : Ml} {Z : Mz} {Q : Po} {N : Nat} {xs : Nat → Int32} {i : Nat} (hd : 1 ≤ d) (hE : EXT E N xs) (hi : i < 13) (hQ : Q (some (.int (nI (lnS.getD i 0)))) I L Z) : AC E yJ0_length_8abf5 cJ0_length_8abf5 1 (some .int) d 0 0 [.retAddr i] I L Z Q := by
  refine ac_go (ls := [some (.retAddr i)]) (by decide +kernel) (Nat.le_of_ble_eq_true rfl) rfl ?_
  refine aw_aload_n dJ0_length_8abf5_0 rfl rfl ?_
  refine aw_getx (v := .retAddr (20 + i)) dJ0_length_8abf5_1 sw_9 (xt_val hE hi) ?_
  refine aw_alx dJ0_length_8abf5_4 (xt_byt hE hi) ?_
  refine aw_aload_n dJ0_length_8abf5_5 rfl rfl ?_
  refine aw_X0 dJ0_length_8abf5_6 cw_J0_335 (xt_str hE hi) hd ⟨Nat.le_refl _, Nat.le_refl _⟩ (by simp [Value.category]) (c_coder hE hi ?_)
  refine aw_ishr dJ0_length_8abf5_9 ?_
  rw [(ln_sm i hi).2.2]
  exact aw_ireturn (ty := .int) dJ0_length_8abf5_10 rfl rfl hQ
theorem c_check3 {E : Ev} {d : Nat} {I : Mi} {L : Ml} {Z : Mz} {Q : Po} {k n : Nat} {v : Value} (hv : v = .null ∨ v = .retAddr 60) (hk : k < n) (hn : n < 2 ^ 31) (hQ : Q (some (.int (nI k))) I L Z) : AC E yJ3_checkIndex_8e157 cJ3_checkIndex_8e157 3 (some .int) d 0 0 [.int (nI k), .int (nI n), v] I L Z Q := by
  have hl : lsOf [.int (nI k), .int (nI n), v] = [some (.int (nI k)), some (.int (nI n)), some v] := by rcases hv with rfl | rfl <;> rfl
  refine ac_go (ls := [some (.int (nI k)), some (.int (nI n)), some v]) (by decide +kernel) (by rw [hl]; exact Nat.le_refl 3) (by rw [hl]; rfl) ?_
  refine aw_iload_n dJ3_checkIndex_8e157_0 rfl ?_
  refine aw_if_lt (tgt := 9) dJ3_checkIndex_8e157_1 (by decide) (fun zz => absurd zz (nI_pos (by omega))) (fun _ => ?_)
  refine aw_iload_n dJ3_checkIndex_8e157_4 rfl ?_
  refine aw_iload_n dJ3_checkIndex_8e157_5 rfl ?_
  refine aw_icmp_lt (tgt := 16) dJ3_checkIndex_8e157_6 (by decide) (fun _ => ?_) (fun zz => absurd (nI_lt hk hn) zz)
  refine aw_iload_n dJ3_checkIndex_8e157_16 rfl ?_
  exact aw_ireturn (ty := .int) dJ3_checkIndex_8e157_17 rfl rfl hQ
theorem c_check2 {E : Ev} {d : Nat} {I : Mi} {L : Ml} {Z : Mz} {Q : Po} {N : Nat} {xs : Nat → Int32} {k n : Nat} (hd : 1 ≤ d) (hE : EXT E N xs) (hk : k < n) (hn : n < 2 ^ 31) (hQ : Q none I L Z) : AC E yJ0_checkIndex_df160 cJ0_checkIndex_df160 2 none d 0 0 [.int (nI k), .int (nI n)] I L Z Q := by
  refine ac_go (ls := [some (.int (nI k)), some (.int (nI n))]) (by decide +kernel) (Nat.le_of_ble_eq_true rfl) rfl ?_
  intro p e s m args below meth c H locs la Qe F hSim hS hL h1 h2
  obtain ⟨hx, hb, hml, hown, hts, hnm, hbs, hXC, hK, hXE, hret⟩ := id F
  rcases (hE s s.heap hXE).2.2.2.2.2.1 with hz | hz
  · refine lv_iload_n hx hb dJ0_checkIndex_df160_0 rfl (hL.2.2 0 (.int (nI k)) rfl) (lv_iload_n hx hb dJ0_checkIndex_df160_1 rfl (hL.2.2 1 (.int (nI n)) rfl) (va_gets hx hb hz hS hown (hts _ sw_1053) (fun x hx => hx) dJ0_checkIndex_df160_2 ?_))
    refine (?_ : AW E yJ0_checkIndex_df160 cJ0_checkIndex_df160 2 none (rmOf d 0 0) Q 0 0 5 [some (.int (nI k)), some (.int (nI n))] [.null, .int (nI n), .int (nI k)] I L Z) p e s m args below meth c H locs la Qe F hSim hS hL h1 h2
    refine aw_S3 dJ0_checkIndex_df160_5 cw_J0_1059 hd ⟨Nat.le_refl _, Nat.le_refl _⟩ (by decide) (c_check3 (Or.inl rfl) hk hn ?_)
    refine aw_pop dJ0_checkIndex_df160_8 rfl ?_
    exact aw_return dJ0_checkIndex_df160_9 rfl hQ
  · refine lv_iload_n hx hb dJ0_checkIndex_df160_0 rfl (hL.2.2 0 (.int (nI k)) rfl) (lv_iload_n hx hb dJ0_checkIndex_df160_1 rfl (hL.2.2 1 (.int (nI n)) rfl) (va_gets hx hb hz hS hown (hts _ sw_1053) (fun x hx => hx) dJ0_checkIndex_df160_2 ?_))
    refine (?_ : AW E yJ0_checkIndex_df160 cJ0_checkIndex_df160 2 none (rmOf d 0 0) Q 0 0 5 [some (.int (nI k)), some (.int (nI n))] [.retAddr 60, .int (nI n), .int (nI k)] I L Z) p e s m args below meth c H locs la Qe F hSim hS hL h1 h2
    refine aw_S3 dJ0_checkIndex_df160_5 cw_J0_1059 hd ⟨Nat.le_refl _, Nat.le_refl _⟩ (by decide) (c_check3 (Or.inr rfl) hk hn ?_)
    refine aw_pop dJ0_checkIndex_df160_8 rfl ?_
    exact aw_return dJ0_checkIndex_df160_9 rfl hQ
theorem c_charAt1 {E : Ev} {d : Nat} {I : Mi} {L : Ml} {Z : Mz} {Q : Po} {N : Nat} {xs : Nat → Int32} {i k : Nat} (hd : 2 ≤ d) (hE : EXT E N xs) (hi : i < 13) (hk : k < lnS.getD i 0) (hQ : Q (some (.int ((byS.getD i []).getD k 0))) I L Z) : AC E yJ1_charAt_3b067 cJ1_charAt_3b067 2 (some .char) d 0 0 [.retAddr (20 + i), .int (nI k)] I L Z Q := by
  have hl := (ln_sm i hi).1
  refine ac_go (ls := [some (.retAddr (20 + i)), some (.int (nI k))]) (by decide +kernel) (Nat.le_of_ble_eq_true rfl) rfl ?_
  refine aw_iload_n dJ1_charAt_3b067_0 rfl ?_
  refine aw_aload_n dJ1_charAt_3b067_1 rfl rfl ?_
  refine aw_alx dJ1_charAt_3b067_2 (xt_byt hE hi) ?_
  refine aw_S2 dJ1_charAt_3b067_3 cw_J1_9 (by omega) ⟨Nat.le_refl _, Nat.le_refl _⟩ (by decide) (c_check2 (by omega) hE hk (by omega) ?_)
  refine aw_aload_n dJ1_charAt_3b067_6 rfl rfl ?_
  refine aw_iload_n dJ1_charAt_3b067_7 rfl ?_
  refine aw_bax k dJ1_charAt_3b067_8 (xt_byt hE hi) rfl hk (by omega) ?_
  refine aw_sipush (v := 255) dJ1_charAt_3b067_9 (by decide) ?_
  refine aw_iand dJ1_charAt_3b067_12 ?_
  refine aw_i2c dJ1_charAt_3b067_13 ?_
  rw [(by_ch i hi k hk).1]
  exact aw_ireturn (ty := .char) dJ1_charAt_3b067_14 rfl (by_ch i hi k hk).2 hQ
theorem c_charAt {E : Ev} {d : Nat} {I : Mi} {L : Ml} {Z : Mz} {Q : Po} {N : Nat} {xs : Nat → Int32} {i k : Nat} (hd : 3 ≤ d) (hE : EXT E N xs) (hi : i < 13) (hk : k < lnS.getD i 0) (hQ : Q (some (.int ((byS.getD i []).getD k 0))) I L Z) : AC E yJ0_charAt_5068e cJ0_charAt_5068e 2 (some .char) d 0 0 [.retAddr i, .int (nI k)] I L Z Q := by
  refine ac_go (ls := [some (.retAddr i), some (.int (nI k))]) (by decide +kernel) (Nat.le_of_ble_eq_true rfl) rfl ?_
  refine aw_aload_n dJ0_charAt_5068e_0 rfl rfl ?_
  refine aw_X0 dJ0_charAt_5068e_1 cw_J0_492 (xt_str hE hi) (by omega) ⟨Nat.le_refl _, Nat.le_refl _⟩ (by decide) (c_isLatin1 hE hi ?_)
  refine aw_if_eq (tgt := 16) dJ0_charAt_5068e_4 (by decide) (fun zz => absurd zz (by decide)) (fun _ => ?_)
  refine aw_aload_n dJ0_charAt_5068e_7 rfl rfl ?_
  refine aw_getx (v := .retAddr (20 + i)) dJ0_charAt_5068e_8 sw_9 (xt_val hE hi) ?_
  refine aw_iload_n dJ0_charAt_5068e_11 rfl ?_
  refine aw_S2 dJ0_charAt_5068e_12 cw_J0_495 (by omega) ⟨Nat.le_refl _, Nat.le_refl _⟩ (by decide) (c_charAt1 (by omega) hE hi hk ?_)
  exact aw_ireturn (ty := .char) dJ0_charAt_5068e_15 rfl (by_ch i hi k hk).2 hQ
theorem c_X5_isUnder0 {E : Ev} {d : Nat} {I : Mi} {L : Ml} {Z : Mz} {Q : Po} {N : Nat} {xs : Nat → Int32} {k : Int32} (hd : 2 ≤ d) (hE : EXT E N xs) (hT : udP 0 k → Q (some (.int 1)) I L Z) (hF : ¬ udP 0 k → Q (some (.int 0)) I L Z) : AC E yX5_isUnder cX5_isUnder 4 (some .boolean) d 0 0 [.int 0, .int k] I L Z Q := by
  refine ac_go (ls := [some (.int 0), some (.int k), none, none]) (by decide +kernel) (Nat.le_of_ble_eq_true rfl) rfl ?_
  refine aw_iload_n dX5_isUnder_0 rfl ?_
  refine aw_istore_n (ls' := [_, _, _, _]) dX5_isUnder_1 (by decide) rfl rfl ?_
  refine aw_iconst (v := 0) dX5_isUnder_2 (by decide) ?_
  refine aw_istore_n (ls' := [_, _, _, _]) dX5_isUnder_3 (by decide) rfl rfl ?_
  refine aw_iload_n dX5_isUnder_4 rfl ?_
  refine aw_gets (v := .retAddr 40) dX5_isUnder_5 sw_299 (fun u H h => (hE u H h).2.2.1) ?_
  refine aw_alx dX5_isUnder_8 (fun u H h => (hE u H h).2.2.2.1) ?_
  refine aw_icmp_ge (tgt := 38) dX5_isUnder_9 (by decide) (fun zz => absurd zz (by decide)) (fun _ => ?_)
  refine aw_iload_n dX5_isUnder_12 rfl ?_
  refine aw_S1 dX5_isUnder_13 cw_X5_111 (by omega) ⟨Nat.le_refl _, Nat.le_refl _⟩ (by decide) (c_X5_isKind (by omega) (fun _ => ?_) (fun zz => absurd (by decide) zz))
  refine aw_if_eq (tgt := 38) dX5_isUnder_16 (by decide) (fun zz => absurd zz (by decide)) (fun _ => ?_)
  refine aw_iload_n dX5_isUnder_19 rfl ?_
  refine aw_iload_n dX5_isUnder_20 rfl ?_
  refine aw_icmp_ne (tgt := 26) dX5_isUnder_21 (by decide) (fun c0 => ?_) (fun c0 => ?_)
  rotate_left
  · refine aw_iconst (v := 1) dX5_isUnder_24 (by decide) ?_
    refine aw_ireturn (ty := .boolean) dX5_isUnder_25 rfl (by decide) ?_
    exact hT (by rw [← c0]; simp [udP, abS])
  have n0 : ¬ k = 0 := fun w => c0 w.symm
  refine aw_gets (v := .retAddr 40) dX5_isUnder_26 sw_299 (fun u H h => (hE u H h).2.2.1) ?_
  refine aw_iload_n dX5_isUnder_29 rfl ?_
  refine aw_iax 0 dX5_isUnder_30 (fun u H h => (hE u H h).2.2.2.1) (by decide) (by decide) (by decide) ?_
  refine aw_istore_n (ls' := [_, _, _, _]) dX5_isUnder_31 (by decide) rfl rfl ?_
  refine aw_iinc (v := 1) (ls' := [_, _, _, _]) dX5_isUnder_32 rfl (by decide) (by decide) rfl rfl ?_
  refine aw_goto (tgt := 4) dX5_isUnder_35 (by decide) ?_
  refine aw_iload_n dX5_isUnder_4 rfl ?_
  refine aw_gets (v := .retAddr 40) dX5_isUnder_5 sw_299 (fun u H h => (hE u H h).2.2.1) ?_
  refine aw_alx dX5_isUnder_8 (fun u H h => (hE u H h).2.2.2.1) ?_
  refine aw_icmp_ge (tgt := 38) dX5_isUnder_9 (by decide) (fun zz => absurd zz (by decide)) (fun _ => ?_)
  refine aw_iload_n dX5_isUnder_12 rfl ?_
  refine aw_S1 dX5_isUnder_13 cw_X5_111 (by omega) ⟨Nat.le_refl _, Nat.le_refl _⟩ (by decide) (c_X5_isKind (by omega) (fun zz => absurd zz (by decide)) (fun _ => ?_))
  refine aw_if_eq (tgt := 38) dX5_isUnder_16 (by decide) (fun _ => ?_) (fun zz => absurd rfl zz)
  refine aw_iconst (v := 0) dX5_isUnder_38 (by decide) ?_
  refine aw_ireturn (ty := .boolean) dX5_isUnder_39 rfl (by decide) ?_
  exact hF (by simp only [udP, n0, or_self, not_false_eq_true])
theorem c_X5_isUnder1 {E : Ev} {d : Nat} {I : Mi} {L : Ml} {Z : Mz} {Q : Po} {N : Nat} {xs : Nat → Int32} {k : Int32} (hd : 2 ≤ d) (hE : EXT E N xs) (hT : udP 1 k → Q (some (.int 1)) I L Z) (hF : ¬ udP 1 k → Q (some (.int 0)) I L Z) : AC E yX5_isUnder cX5_isUnder 4 (some .boolean) d 0 0 [.int 1, .int k] I L Z Q := by
  refine ac_go (ls := [some (.int 1), some (.int k), none, none]) (by decide +kernel) (Nat.le_of_ble_eq_true rfl) rfl ?_
  refine aw_iload_n dX5_isUnder_0 rfl ?_
  refine aw_istore_n (ls' := [_, _, _, _]) dX5_isUnder_1 (by decide) rfl rfl ?_
  refine aw_iconst (v := 0) dX5_isUnder_2 (by decide) ?_
  refine aw_istore_n (ls' := [_, _, _, _]) dX5_isUnder_3 (by decide) rfl rfl ?_
  refine aw_iload_n dX5_isUnder_4 rfl ?_
  refine aw_gets (v := .retAddr 40) dX5_isUnder_5 sw_299 (fun u H h => (hE u H h).2.2.1) ?_
  refine aw_alx dX5_isUnder_8 (fun u H h => (hE u H h).2.2.2.1) ?_
  refine aw_icmp_ge (tgt := 38) dX5_isUnder_9 (by decide) (fun zz => absurd zz (by decide)) (fun _ => ?_)
  refine aw_iload_n dX5_isUnder_12 rfl ?_
  refine aw_S1 dX5_isUnder_13 cw_X5_111 (by omega) ⟨Nat.le_refl _, Nat.le_refl _⟩ (by decide) (c_X5_isKind (by omega) (fun _ => ?_) (fun zz => absurd (by decide) zz))
  refine aw_if_eq (tgt := 38) dX5_isUnder_16 (by decide) (fun zz => absurd zz (by decide)) (fun _ => ?_)
  refine aw_iload_n dX5_isUnder_19 rfl ?_
  refine aw_iload_n dX5_isUnder_20 rfl ?_
  refine aw_icmp_ne (tgt := 26) dX5_isUnder_21 (by decide) (fun c0 => ?_) (fun c0 => ?_)
  rotate_left
  · refine aw_iconst (v := 1) dX5_isUnder_24 (by decide) ?_
    refine aw_ireturn (ty := .boolean) dX5_isUnder_25 rfl (by decide) ?_
    exact hT (by rw [← c0]; simp [udP, abS])
  have n0 : ¬ k = 1 := fun w => c0 w.symm
  refine aw_gets (v := .retAddr 40) dX5_isUnder_26 sw_299 (fun u H h => (hE u H h).2.2.1) ?_
  refine aw_iload_n dX5_isUnder_29 rfl ?_
  refine aw_iax 1 dX5_isUnder_30 (fun u H h => (hE u H h).2.2.2.1) (by decide) (by decide) (by decide) ?_
  refine aw_istore_n (ls' := [_, _, _, _]) dX5_isUnder_31 (by decide) rfl rfl ?_
  refine aw_iinc (v := 1) (ls' := [_, _, _, _]) dX5_isUnder_32 rfl (by decide) (by decide) rfl rfl ?_
  refine aw_goto (tgt := 4) dX5_isUnder_35 (by decide) ?_
  refine aw_iload_n dX5_isUnder_4 rfl ?_
  refine aw_gets (v := .retAddr 40) dX5_isUnder_5 sw_299 (fun u H h => (hE u H h).2.2.1) ?_
  refine aw_alx dX5_isUnder_8 (fun u H h => (hE u H h).2.2.2.1) ?_
  refine aw_icmp_ge (tgt := 38) dX5_isUnder_9 (by decide) (fun zz => absurd zz (by decide)) (fun _ => ?_)
  refine aw_iload_n dX5_isUnder_12 rfl ?_
  refine aw_S1 dX5_isUnder_13 cw_X5_111 (by omega) ⟨Nat.le_refl _, Nat.le_refl _⟩ (by decide) (c_X5_isKind (by omega) (fun _ => ?_) (fun zz => absurd (by decide) zz))
  refine aw_if_eq (tgt := 38) dX5_isUnder_16 (by decide) (fun zz => absurd zz (by decide)) (fun _ => ?_)
  refine aw_iload_n dX5_isUnder_19 rfl ?_
  refine aw_iload_n dX5_isUnder_20 rfl ?_
  refine aw_icmp_ne (tgt := 26) dX5_isUnder_21 (by decide) (fun c1 => ?_) (fun c1 => ?_)
  rotate_left
  · refine aw_iconst (v := 1) dX5_isUnder_24 (by decide) ?_
    refine aw_ireturn (ty := .boolean) dX5_isUnder_25 rfl (by decide) ?_
    exact hT (by rw [← c1]; simp [udP, abS])
  have n1 : ¬ k = 0 := fun w => c1 w.symm
  refine aw_gets (v := .retAddr 40) dX5_isUnder_26 sw_299 (fun u H h => (hE u H h).2.2.1) ?_
  refine aw_iload_n dX5_isUnder_29 rfl ?_
  refine aw_iax 0 dX5_isUnder_30 (fun u H h => (hE u H h).2.2.2.1) (by decide) (by decide) (by decide) ?_
  refine aw_istore_n (ls' := [_, _, _, _]) dX5_isUnder_31 (by decide) rfl rfl ?_
  refine aw_iinc (v := 2) (ls' := [_, _, _, _]) dX5_isUnder_32 rfl (by decide) (by decide) rfl rfl ?_
  refine aw_goto (tgt := 4) dX5_isUnder_35 (by decide) ?_
  refine aw_iload_n dX5_isUnder_4 rfl ?_
  refine aw_gets (v := .retAddr 40) dX5_isUnder_5 sw_299 (fun u H h => (hE u H h).2.2.1) ?_
  refine aw_alx dX5_isUnder_8 (fun u H h => (hE u H h).2.2.2.1) ?_
  refine aw_icmp_ge (tgt := 38) dX5_isUnder_9 (by decide) (fun zz => absurd zz (by decide)) (fun _ => ?_)
  refine aw_iload_n dX5_isUnder_12 rfl ?_
  refine aw_S1 dX5_isUnder_13 cw_X5_111 (by omega) ⟨Nat.le_refl _, Nat.le_refl _⟩ (by decide) (c_X5_isKind (by omega) (fun zz => absurd zz (by decide)) (fun _ => ?_))
  refine aw_if_eq (tgt := 38) dX5_isUnder_16 (by decide) (fun _ => ?_) (fun zz => absurd rfl zz)
  refine aw_iconst (v := 0) dX5_isUnder_38 (by decide) ?_
  refine aw_ireturn (ty := .boolean) dX5_isUnder_39 rfl (by decide) ?_
  exact hF (by simp only [udP, n0, n1, or_self, not_false_eq_true])
theorem c_X5_isUnder2 {E : Ev} {d : Nat} {I : Mi} {L : Ml} {Z : Mz} {Q : Po} {N : Nat} {xs : Nat → Int32} {k : Int32} (hd : 2 ≤ d) (hE : EXT E N xs) (hT : udP 2 k → Q (some (.int 1)) I L Z) (hF : ¬ udP 2 k → Q (some (.int 0)) I L Z) : AC E yX5_isUnder cX5_isUnder 4 (some .boolean) d 0 0 [.int 2, .int k] I L Z Q := by
  refine ac_go (ls := [some (.int 2), some (.int k), none, none]) (by decide +kernel) (Nat.le_of_ble_eq_true rfl) rfl ?_
  refine aw_iload_n dX5_isUnder_0 rfl ?_
  refine aw_istore_n (ls' := [_, _, _, _]) dX5_isUnder_1 (by decide) rfl rfl ?_
  refine aw_iconst (v := 0) dX5_isUnder_2 (by decide) ?_
  refine aw_istore_n (ls' := [_, _, _, _]) dX5_isUnder_3 (by decide) rfl rfl ?_
  refine aw_iload_n dX5_isUnder_4 rfl ?_
  refine aw_gets (v := .retAddr 40) dX5_isUnder_5 sw_299 (fun u H h => (hE u H h).2.2.1) ?_
  refine aw_alx dX5_isUnder_8 (fun u H h => (hE u H h).2.2.2.1) ?_
  refine aw_icmp_ge (tgt := 38) dX5_isUnder_9 (by decide) (fun zz => absurd zz (by decide)) (fun _ => ?_)
  refine aw_iload_n dX5_isUnder_12 rfl ?_
  refine aw_S1 dX5_isUnder_13 cw_X5_111 (by omega) ⟨Nat.le_refl _, Nat.le_refl _⟩ (by decide) (c_X5_isKind (by omega) (fun _ => ?_) (fun zz => absurd (by decide) zz))
  refine aw_if_eq (tgt := 38) dX5_isUnder_16 (by decide) (fun zz => absurd zz (by decide)) (fun _ => ?_)
  refine aw_iload_n dX5_isUnder_19 rfl ?_
  refine aw_iload_n dX5_isUnder_20 rfl ?_
  refine aw_icmp_ne (tgt := 26) dX5_isUnder_21 (by decide) (fun c0 => ?_) (fun c0 => ?_)
  rotate_left
  · refine aw_iconst (v := 1) dX5_isUnder_24 (by decide) ?_
    refine aw_ireturn (ty := .boolean) dX5_isUnder_25 rfl (by decide) ?_
    exact hT (by rw [← c0]; simp [udP, abS])
  have n0 : ¬ k = 2 := fun w => c0 w.symm
  refine aw_gets (v := .retAddr 40) dX5_isUnder_26 sw_299 (fun u H h => (hE u H h).2.2.1) ?_
  refine aw_iload_n dX5_isUnder_29 rfl ?_
  refine aw_iax 2 dX5_isUnder_30 (fun u H h => (hE u H h).2.2.2.1) (by decide) (by decide) (by decide) ?_
  refine aw_istore_n (ls' := [_, _, _, _]) dX5_isUnder_31 (by decide) rfl rfl ?_
  refine aw_iinc (v := 1) (ls' := [_, _, _, _]) dX5_isUnder_32 rfl (by decide) (by decide) rfl rfl ?_
  refine aw_goto (tgt := 4) dX5_isUnder_35 (by decide) ?_
  refine aw_iload_n dX5_isUnder_4 rfl ?_
  refine aw_gets (v := .retAddr 40) dX5_isUnder_5 sw_299 (fun u H h => (hE u H h).2.2.1) ?_
  refine aw_alx dX5_isUnder_8 (fun u H h => (hE u H h).2.2.2.1) ?_
  refine aw_icmp_ge (tgt := 38) dX5_isUnder_9 (by decide) (fun zz => absurd zz (by decide)) (fun _ => ?_)
  refine aw_iload_n dX5_isUnder_12 rfl ?_
  refine aw_S1 dX5_isUnder_13 cw_X5_111 (by omega) ⟨Nat.le_refl _, Nat.le_refl _⟩ (by decide) (c_X5_isKind (by omega) (fun _ => ?_) (fun zz => absurd (by decide) zz))
  refine aw_if_eq (tgt := 38) dX5_isUnder_16 (by decide) (fun zz => absurd zz (by decide)) (fun _ => ?_)
  refine aw_iload_n dX5_isUnder_19 rfl ?_
  refine aw_iload_n dX5_isUnder_20 rfl ?_
  refine aw_icmp_ne (tgt := 26) dX5_isUnder_21 (by decide) (fun c1 => ?_) (fun c1 => ?_)
  rotate_left
  · refine aw_iconst (v := 1) dX5_isUnder_24 (by decide) ?_
    refine aw_ireturn (ty := .boolean) dX5_isUnder_25 rfl (by decide) ?_
    exact hT (by rw [← c1]; simp [udP, abS])
  have n1 : ¬ k = 0 := fun w => c1 w.symm
  refine aw_gets (v := .retAddr 40) dX5_isUnder_26 sw_299 (fun u H h => (hE u H h).2.2.1) ?_
  refine aw_iload_n dX5_isUnder_29 rfl ?_
  refine aw_iax 0 dX5_isUnder_30 (fun u H h => (hE u H h).2.2.2.1) (by decide) (by decide) (by decide) ?_
  refine aw_istore_n (ls' := [_, _, _, _]) dX5_isUnder_31 (by decide) rfl rfl ?_
  refine aw_iinc (v := 2) (ls' := [_, _, _, _]) dX5_isUnder_32 rfl (by decide) (by decide) rfl rfl ?_
  refine aw_goto (tgt := 4) dX5_isUnder_35 (by decide) ?_
  refine aw_iload_n dX5_isUnder_4 rfl ?_
  refine aw_gets (v := .retAddr 40) dX5_isUnder_5 sw_299 (fun u H h => (hE u H h).2.2.1) ?_
  refine aw_alx dX5_isUnder_8 (fun u H h => (hE u H h).2.2.2.1) ?_
  refine aw_icmp_ge (tgt := 38) dX5_isUnder_9 (by decide) (fun zz => absurd zz (by decide)) (fun _ => ?_)
  refine aw_iload_n dX5_isUnder_12 rfl ?_
  refine aw_S1 dX5_isUnder_13 cw_X5_111 (by omega) ⟨Nat.le_refl _, Nat.le_refl _⟩ (by decide) (c_X5_isKind (by omega) (fun zz => absurd zz (by decide)) (fun _ => ?_))
  refine aw_if_eq (tgt := 38) dX5_isUnder_16 (by decide) (fun _ => ?_) (fun zz => absurd rfl zz)
  refine aw_iconst (v := 0) dX5_isUnder_38 (by decide) ?_
  refine aw_ireturn (ty := .boolean) dX5_isUnder_39 rfl (by decide) ?_
  exact hF (by simp only [udP, n0, n1, or_self, not_false_eq_true])
theorem c_X5_isUnder3 {E : Ev} {d : Nat} {I : Mi} {L : Ml} {Z : Mz} {Q : Po} {N : Nat} {xs : Nat → Int32} {k : Int32} (hd : 2 ≤ d) (hE : EXT E N xs) (hT : udP 3 k → Q (some (.int 1)) I L Z) (hF : ¬ udP 3 k → Q (some (.int 0)) I L Z) : AC E yX5_isUnder cX5_isUnder 4 (some .boolean) d 0 0 [.int 3, .int k] I L Z Q := by
  refine ac_go (ls := [some (.int 3), some (.int k), none, none]) (by decide +kernel) (Nat.le_of_ble_eq_true rfl) rfl ?_
  refine aw_iload_n dX5_isUnder_0 rfl ?_
  refine aw_istore_n (ls' := [_, _, _, _]) dX5_isUnder_1 (by decide) rfl rfl ?_
  refine aw_iconst (v := 0) dX5_isUnder_2 (by decide) ?_
  refine aw_istore_n (ls' := [_, _, _, _]) dX5_isUnder_3 (by decide) rfl rfl ?_
  refine aw_iload_n dX5_isUnder_4 rfl ?_
  refine aw_gets (v := .retAddr 40) dX5_isUnder_5 sw_299 (fun u H h => (hE u H h).2.2.1) ?_
  refine aw_alx dX5_isUnder_8 (fun u H h => (hE u H h).2.2.2.1) ?_
  refine aw_icmp_ge (tgt := 38) dX5_isUnder_9 (by decide) (fun zz => absurd zz (by decide)) (fun _ => ?_)
  refine aw_iload_n dX5_isUnder_12 rfl ?_
  refine aw_S1 dX5_isUnder_13 cw_X5_111 (by omega) ⟨Nat.le_refl _, Nat.le_refl _⟩ (by decide) (c_X5_isKind (by omega) (fun _ => ?_) (fun zz => absurd (by decide) zz))
  refine aw_if_eq (tgt := 38) dX5_isUnder_16 (by decide) (fun zz => absurd zz (by decide)) (fun _ => ?_)
  refine aw_iload_n dX5_isUnder_19 rfl ?_
  refine aw_iload_n dX5_isUnder_20 rfl ?_
  refine aw_icmp_ne (tgt := 26) dX5_isUnder_21 (by decide) (fun c0 => ?_) (fun c0 => ?_)
  rotate_left
  · refine aw_iconst (v := 1) dX5_isUnder_24 (by decide) ?_
    refine aw_ireturn (ty := .boolean) dX5_isUnder_25 rfl (by decide) ?_
    exact hT (by rw [← c0]; simp [udP, abS])
  have n0 : ¬ k = 3 := fun w => c0 w.symm
  refine aw_gets (v := .retAddr 40) dX5_isUnder_26 sw_299 (fun u H h => (hE u H h).2.2.1) ?_
  refine aw_iload_n dX5_isUnder_29 rfl ?_
  refine aw_iax 3 dX5_isUnder_30 (fun u H h => (hE u H h).2.2.2.1) (by decide) (by decide) (by decide) ?_
  refine aw_istore_n (ls' := [_, _, _, _]) dX5_isUnder_31 (by decide) rfl rfl ?_
  refine aw_iinc (v := 1) (ls' := [_, _, _, _]) dX5_isUnder_32 rfl (by decide) (by decide) rfl rfl ?_
  refine aw_goto (tgt := 4) dX5_isUnder_35 (by decide) ?_
  refine aw_iload_n dX5_isUnder_4 rfl ?_
  refine aw_gets (v := .retAddr 40) dX5_isUnder_5 sw_299 (fun u H h => (hE u H h).2.2.1) ?_
  refine aw_alx dX5_isUnder_8 (fun u H h => (hE u H h).2.2.2.1) ?_
  refine aw_icmp_ge (tgt := 38) dX5_isUnder_9 (by decide) (fun zz => absurd zz (by decide)) (fun _ => ?_)
  refine aw_iload_n dX5_isUnder_12 rfl ?_
  refine aw_S1 dX5_isUnder_13 cw_X5_111 (by omega) ⟨Nat.le_refl _, Nat.le_refl _⟩ (by decide) (c_X5_isKind (by omega) (fun _ => ?_) (fun zz => absurd (by decide) zz))
  refine aw_if_eq (tgt := 38) dX5_isUnder_16 (by decide) (fun zz => absurd zz (by decide)) (fun _ => ?_)
  refine aw_iload_n dX5_isUnder_19 rfl ?_
  refine aw_iload_n dX5_isUnder_20 rfl ?_
  refine aw_icmp_ne (tgt := 26) dX5_isUnder_21 (by decide) (fun c1 => ?_) (fun c1 => ?_)
  rotate_left
  · refine aw_iconst (v := 1) dX5_isUnder_24 (by decide) ?_
    refine aw_ireturn (ty := .boolean) dX5_isUnder_25 rfl (by decide) ?_
    exact hT (by rw [← c1]; simp [udP, abS])
  have n1 : ¬ k = 1 := fun w => c1 w.symm
  refine aw_gets (v := .retAddr 40) dX5_isUnder_26 sw_299 (fun u H h => (hE u H h).2.2.1) ?_
  refine aw_iload_n dX5_isUnder_29 rfl ?_
  refine aw_iax 1 dX5_isUnder_30 (fun u H h => (hE u H h).2.2.2.1) (by decide) (by decide) (by decide) ?_
  refine aw_istore_n (ls' := [_, _, _, _]) dX5_isUnder_31 (by decide) rfl rfl ?_
  refine aw_iinc (v := 2) (ls' := [_, _, _, _]) dX5_isUnder_32 rfl (by decide) (by decide) rfl rfl ?_
  refine aw_goto (tgt := 4) dX5_isUnder_35 (by decide) ?_
  refine aw_iload_n dX5_isUnder_4 rfl ?_
  refine aw_gets (v := .retAddr 40) dX5_isUnder_5 sw_299 (fun u H h => (hE u H h).2.2.1) ?_
  refine aw_alx dX5_isUnder_8 (fun u H h => (hE u H h).2.2.2.1) ?_
  refine aw_icmp_ge (tgt := 38) dX5_isUnder_9 (by decide) (fun zz => absurd zz (by decide)) (fun _ => ?_)
  refine aw_iload_n dX5_isUnder_12 rfl ?_
  refine aw_S1 dX5_isUnder_13 cw_X5_111 (by omega) ⟨Nat.le_refl _, Nat.le_refl _⟩ (by decide) (c_X5_isKind (by omega) (fun _ => ?_) (fun zz => absurd (by decide) zz))
  refine aw_if_eq (tgt := 38) dX5_isUnder_16 (by decide) (fun zz => absurd zz (by decide)) (fun _ => ?_)
  refine aw_iload_n dX5_isUnder_19 rfl ?_
  refine aw_iload_n dX5_isUnder_20 rfl ?_
  refine aw_icmp_ne (tgt := 26) dX5_isUnder_21 (by decide) (fun c2 => ?_) (fun c2 => ?_)
  rotate_left
  · refine aw_iconst (v := 1) dX5_isUnder_24 (by decide) ?_
    refine aw_ireturn (ty := .boolean) dX5_isUnder_25 rfl (by decide) ?_
    exact hT (by rw [← c2]; simp [udP, abS])
  have n2 : ¬ k = 0 := fun w => c2 w.symm
  refine aw_gets (v := .retAddr 40) dX5_isUnder_26 sw_299 (fun u H h => (hE u H h).2.2.1) ?_
  refine aw_iload_n dX5_isUnder_29 rfl ?_
  refine aw_iax 0 dX5_isUnder_30 (fun u H h => (hE u H h).2.2.2.1) (by decide) (by decide) (by decide) ?_
  refine aw_istore_n (ls' := [_, _, _, _]) dX5_isUnder_31 (by decide) rfl rfl ?_
  refine aw_iinc (v := 3) (ls' := [_, _, _, _]) dX5_isUnder_32 rfl (by decide) (by decide) rfl rfl ?_
  refine aw_goto (tgt := 4) dX5_isUnder_35 (by decide) ?_
  refine aw_iload_n dX5_isUnder_4 rfl ?_
  refine aw_gets (v := .retAddr 40) dX5_isUnder_5 sw_299 (fun u H h => (hE u H h).2.2.1) ?_
  refine aw_alx dX5_isUnder_8 (fun u H h => (hE u H h).2.2.2.1) ?_
  refine aw_icmp_ge (tgt := 38) dX5_isUnder_9 (by decide) (fun zz => absurd zz (by decide)) (fun _ => ?_)
  refine aw_iload_n dX5_isUnder_12 rfl ?_
  refine aw_S1 dX5_isUnder_13 cw_X5_111 (by omega) ⟨Nat.le_refl _, Nat.le_refl _⟩ (by decide) (c_X5_isKind (by omega) (fun zz => absurd zz (by decide)) (fun _ => ?_))
  refine aw_if_eq (tgt := 38) dX5_isUnder_16 (by decide) (fun _ => ?_) (fun zz => absurd rfl zz)
  refine aw_iconst (v := 0) dX5_isUnder_38 (by decide) ?_
  refine aw_ireturn (ty := .boolean) dX5_isUnder_39 rfl (by decide) ?_
  exact hF (by simp only [udP, n0, n1, n2, or_self, not_false_eq_true])
theorem c_X5_isUnder4 {E : Ev} {d : Nat} {I : Mi} {L : Ml} {Z : Mz} {Q : Po} {N : Nat} {xs : Nat → Int32} {k : Int32} (hd : 2 ≤ d) (hE : EXT E N xs) (hT : udP 4 k → Q (some (.int 1)) I L Z) (hF : ¬ udP 4 k → Q (some (.int 0)) I L Z) : AC E yX5_isUnder cX5_isUnder 4 (some .boolean) d 0 0 [.int 4, .int k] I L Z Q := by
  refine ac_go (ls := [some (.int 4), some (.int k), none, none]) (by decide +kernel) (Nat.le_of_ble_eq_true rfl) rfl ?_
  refine aw_iload_n dX5_isUnder_0 rfl ?_
  refine aw_istore_n (ls' := [_, _, _, _]) dX5_isUnder_1 (by decide) rfl rfl ?_
  refine aw_iconst (v := 0) dX5_isUnder_2 (by decide) ?_
  refine aw_istore_n (ls' := [_, _, _, _]) dX5_isUnder_3 (by decide) rfl rfl ?_
  refine aw_iload_n dX5_isUnder_4 rfl ?_
  refine aw_gets (v := .retAddr 40) dX5_isUnder_5 sw_299 (fun u H h => (hE u H h).2.2.1) ?_
  refine aw_alx dX5_isUnder_8 (fun u H h => (hE u H h).2.2.2.1) ?_
  refine aw_icmp_ge (tgt := 38) dX5_isUnder_9 (by decide) (fun zz => absurd zz (by decide)) (fun _ => ?_)
  refine aw_iload_n dX5_isUnder_12 rfl ?_
  refine aw_S1 dX5_isUnder_13 cw_X5_111 (by omega) ⟨Nat.le_refl _, Nat.le_refl _⟩ (by decide) (c_X5_isKind (by omega) (fun _ => ?_) (fun zz => absurd (by decide) zz))
  refine aw_if_eq (tgt := 38) dX5_isUnder_16 (by decide) (fun zz => absurd zz (by decide)) (fun _ => ?_)
  refine aw_iload_n dX5_isUnder_19 rfl ?_
  refine aw_iload_n dX5_isUnder_20 rfl ?_
  refine aw_icmp_ne (tgt := 26) dX5_isUnder_21 (by decide) (fun c0 => ?_) (fun c0 => ?_)
  rotate_left
  · refine aw_iconst (v := 1) dX5_isUnder_24 (by decide) ?_
    refine aw_ireturn (ty := .boolean) dX5_isUnder_25 rfl (by decide) ?_
    exact hT (by rw [← c0]; simp [udP, abS])
  have n0 : ¬ k = 4 := fun w => c0 w.symm
  refine aw_gets (v := .retAddr 40) dX5_isUnder_26 sw_299 (fun u H h => (hE u H h).2.2.1) ?_
  refine aw_iload_n dX5_isUnder_29 rfl ?_
  refine aw_iax 4 dX5_isUnder_30 (fun u H h => (hE u H h).2.2.2.1) (by decide) (by decide) (by decide) ?_
  refine aw_istore_n (ls' := [_, _, _, _]) dX5_isUnder_31 (by decide) rfl rfl ?_
  refine aw_iinc (v := 1) (ls' := [_, _, _, _]) dX5_isUnder_32 rfl (by decide) (by decide) rfl rfl ?_
  refine aw_goto (tgt := 4) dX5_isUnder_35 (by decide) ?_
  refine aw_iload_n dX5_isUnder_4 rfl ?_
  refine aw_gets (v := .retAddr 40) dX5_isUnder_5 sw_299 (fun u H h => (hE u H h).2.2.1) ?_
  refine aw_alx dX5_isUnder_8 (fun u H h => (hE u H h).2.2.2.1) ?_
  refine aw_icmp_ge (tgt := 38) dX5_isUnder_9 (by decide) (fun zz => absurd zz (by decide)) (fun _ => ?_)
  refine aw_iload_n dX5_isUnder_12 rfl ?_
  refine aw_S1 dX5_isUnder_13 cw_X5_111 (by omega) ⟨Nat.le_refl _, Nat.le_refl _⟩ (by decide) (c_X5_isKind (by omega) (fun _ => ?_) (fun zz => absurd (by decide) zz))
  refine aw_if_eq (tgt := 38) dX5_isUnder_16 (by decide) (fun zz => absurd zz (by decide)) (fun _ => ?_)
  refine aw_iload_n dX5_isUnder_19 rfl ?_
  refine aw_iload_n dX5_isUnder_20 rfl ?_
  refine aw_icmp_ne (tgt := 26) dX5_isUnder_21 (by decide) (fun c1 => ?_) (fun c1 => ?_)
  rotate_left
  · refine aw_iconst (v := 1) dX5_isUnder_24 (by decide) ?_
    refine aw_ireturn (ty := .boolean) dX5_isUnder_25 rfl (by decide) ?_
    exact hT (by rw [← c1]; simp [udP, abS])
  have n1 : ¬ k = 2 := fun w => c1 w.symm
  refine aw_gets (v := .retAddr 40) dX5_isUnder_26 sw_299 (fun u H h => (hE u H h).2.2.1) ?_
  refine aw_iload_n dX5_isUnder_29 rfl ?_
  refine aw_iax 2 dX5_isUnder_30 (fun u H h => (hE u H h).2.2.2.1) (by decide) (by decide) (by decide) ?_
  refine aw_istore_n (ls' := [_, _, _, _]) dX5_isUnder_31 (by decide) rfl rfl ?_
  refine aw_iinc (v := 2) (ls' := [_, _, _, _]) dX5_isUnder_32 rfl (by decide) (by decide) rfl rfl ?_
  refine aw_goto (tgt := 4) dX5_isUnder_35 (by decide) ?_
  refine aw_iload_n dX5_isUnder_4 rfl ?_
  refine aw_gets (v := .retAddr 40) dX5_isUnder_5 sw_299 (fun u H h => (hE u H h).2.2.1) ?_
  refine aw_alx dX5_isUnder_8 (fun u H h => (hE u H h).2.2.2.1) ?_
  refine aw_icmp_ge (tgt := 38) dX5_isUnder_9 (by decide) (fun zz => absurd zz (by decide)) (fun _ => ?_)
  refine aw_iload_n dX5_isUnder_12 rfl ?_
  refine aw_S1 dX5_isUnder_13 cw_X5_111 (by omega) ⟨Nat.le_refl _, Nat.le_refl _⟩ (by decide) (c_X5_isKind (by omega) (fun _ => ?_) (fun zz => absurd (by decide) zz))
  refine aw_if_eq (tgt := 38) dX5_isUnder_16 (by decide) (fun zz => absurd zz (by decide)) (fun _ => ?_)
  refine aw_iload_n dX5_isUnder_19 rfl ?_
  refine aw_iload_n dX5_isUnder_20 rfl ?_
  refine aw_icmp_ne (tgt := 26) dX5_isUnder_21 (by decide) (fun c2 => ?_) (fun c2 => ?_)
  rotate_left
  · refine aw_iconst (v := 1) dX5_isUnder_24 (by decide) ?_
    refine aw_ireturn (ty := .boolean) dX5_isUnder_25 rfl (by decide) ?_
    exact hT (by rw [← c2]; simp [udP, abS])
  have n2 : ¬ k = 0 := fun w => c2 w.symm
  refine aw_gets (v := .retAddr 40) dX5_isUnder_26 sw_299 (fun u H h => (hE u H h).2.2.1) ?_
  refine aw_iload_n dX5_isUnder_29 rfl ?_
  refine aw_iax 0 dX5_isUnder_30 (fun u H h => (hE u H h).2.2.2.1) (by decide) (by decide) (by decide) ?_
  refine aw_istore_n (ls' := [_, _, _, _]) dX5_isUnder_31 (by decide) rfl rfl ?_
  refine aw_iinc (v := 3) (ls' := [_, _, _, _]) dX5_isUnder_32 rfl (by decide) (by decide) rfl rfl ?_
  refine aw_goto (tgt := 4) dX5_isUnder_35 (by decide) ?_
  refine aw_iload_n dX5_isUnder_4 rfl ?_
  refine aw_gets (v := .retAddr 40) dX5_isUnder_5 sw_299 (fun u H h => (hE u H h).2.2.1) ?_
  refine aw_alx dX5_isUnder_8 (fun u H h => (hE u H h).2.2.2.1) ?_
  refine aw_icmp_ge (tgt := 38) dX5_isUnder_9 (by decide) (fun zz => absurd zz (by decide)) (fun _ => ?_)
  refine aw_iload_n dX5_isUnder_12 rfl ?_
  refine aw_S1 dX5_isUnder_13 cw_X5_111 (by omega) ⟨Nat.le_refl _, Nat.le_refl _⟩ (by decide) (c_X5_isKind (by omega) (fun zz => absurd zz (by decide)) (fun _ => ?_))
  refine aw_if_eq (tgt := 38) dX5_isUnder_16 (by decide) (fun _ => ?_) (fun zz => absurd rfl zz)
  refine aw_iconst (v := 0) dX5_isUnder_38 (by decide) ?_
  refine aw_ireturn (ty := .boolean) dX5_isUnder_39 rfl (by decide) ?_
  exact hF (by simp only [udP, n0, n1, n2, or_self, not_false_eq_true])
theorem c_X5_isUnder5 {E : Ev} {d : Nat} {I : Mi} {L : Ml} {Z : Mz} {Q : Po} {N : Nat} {xs : Nat → Int32} {k : Int32} (hd : 2 ≤ d) (hE : EXT E N xs) (hT : udP 5 k → Q (some (.int 1)) I L Z) (hF : ¬ udP 5 k → Q (some (.int 0)) I L Z) : AC E yX5_isUnder cX5_isUnder 4 (some .boolean) d 0 0 [.int 5, .int k] I L Z Q := by
  refine ac_go (ls := [some (.int 5), some (.int k), none, none]) (by decide +kernel) (Nat.le_of_ble_eq_true rfl) rfl ?_
  refine aw_iload_n dX5_isUnder_0 rfl ?_
  refine aw_istore_n (ls' := [_, _, _, _]) dX5_isUnder_1 (by decide) rfl rfl ?_
  refine aw_iconst (v := 0) dX5_isUnder_2 (by decide) ?_
  refine aw_istore_n (ls' := [_, _, _, _]) dX5_isUnder_3 (by decide) rfl rfl ?_
  refine aw_iload_n dX5_isUnder_4 rfl ?_
  refine aw_gets (v := .retAddr 40) dX5_isUnder_5 sw_299 (fun u H h => (hE u H h).2.2.1) ?_
  refine aw_alx dX5_isUnder_8 (fun u H h => (hE u H h).2.2.2.1) ?_
  refine aw_icmp_ge (tgt := 38) dX5_isUnder_9 (by decide) (fun zz => absurd zz (by decide)) (fun _ => ?_)
  refine aw_iload_n dX5_isUnder_12 rfl ?_
  refine aw_S1 dX5_isUnder_13 cw_X5_111 (by omega) ⟨Nat.le_refl _, Nat.le_refl _⟩ (by decide) (c_X5_isKind (by omega) (fun _ => ?_) (fun zz => absurd (by decide) zz))
  refine aw_if_eq (tgt := 38) dX5_isUnder_16 (by decide) (fun zz => absurd zz (by decide)) (fun _ => ?_)
  refine aw_iload_n dX5_isUnder_19 rfl ?_
  refine aw_iload_n dX5_isUnder_20 rfl ?_
  refine aw_icmp_ne (tgt := 26) dX5_isUnder_21 (by decide) (fun c0 => ?_) (fun c0 => ?_)
  rotate_left
  · refine aw_iconst (v := 1) dX5_isUnder_24 (by decide) ?_
    refine aw_ireturn (ty := .boolean) dX5_isUnder_25 rfl (by decide) ?_
    exact hT (by rw [← c0]; simp [udP, abS])
  have n0 : ¬ k = 5 := fun w => c0 w.symm
  refine aw_gets (v := .retAddr 40) dX5_isUnder_26 sw_299 (fun u H h => (hE u H h).2.2.1) ?_
  refine aw_iload_n dX5_isUnder_29 rfl ?_
  refine aw_iax 5 dX5_isUnder_30 (fun u H h => (hE u H h).2.2.2.1) (by decide) (by decide) (by decide) ?_
  refine aw_istore_n (ls' := [_, _, _, _]) dX5_isUnder_31 (by decide) rfl rfl ?_
  refine aw_iinc (v := 1) (ls' := [_, _, _, _]) dX5_isUnder_32 rfl (by decide) (by decide) rfl rfl ?_
  refine aw_goto (tgt := 4) dX5_isUnder_35 (by decide) ?_
  refine aw_iload_n dX5_isUnder_4 rfl ?_
  refine aw_gets (v := .retAddr 40) dX5_isUnder_5 sw_299 (fun u H h => (hE u H h).2.2.1) ?_
  refine aw_alx dX5_isUnder_8 (fun u H h => (hE u H h).2.2.2.1) ?_
  refine aw_icmp_ge (tgt := 38) dX5_isUnder_9 (by decide) (fun zz => absurd zz (by decide)) (fun _ => ?_)
  refine aw_iload_n dX5_isUnder_12 rfl ?_
  refine aw_S1 dX5_isUnder_13 cw_X5_111 (by omega) ⟨Nat.le_refl _, Nat.le_refl _⟩ (by decide) (c_X5_isKind (by omega) (fun _ => ?_) (fun zz => absurd (by decide) zz))
  refine aw_if_eq (tgt := 38) dX5_isUnder_16 (by decide) (fun zz => absurd zz (by decide)) (fun _ => ?_)
  refine aw_iload_n dX5_isUnder_19 rfl ?_
  refine aw_iload_n dX5_isUnder_20 rfl ?_
  refine aw_icmp_ne (tgt := 26) dX5_isUnder_21 (by decide) (fun c1 => ?_) (fun c1 => ?_)
  rotate_left
  · refine aw_iconst (v := 1) dX5_isUnder_24 (by decide) ?_
    refine aw_ireturn (ty := .boolean) dX5_isUnder_25 rfl (by decide) ?_
    exact hT (by rw [← c1]; simp [udP, abS])
  have n1 : ¬ k = 0 := fun w => c1 w.symm
  refine aw_gets (v := .retAddr 40) dX5_isUnder_26 sw_299 (fun u H h => (hE u H h).2.2.1) ?_
  refine aw_iload_n dX5_isUnder_29 rfl ?_
  refine aw_iax 0 dX5_isUnder_30 (fun u H h => (hE u H h).2.2.2.1) (by decide) (by decide) (by decide) ?_
  refine aw_istore_n (ls' := [_, _, _, _]) dX5_isUnder_31 (by decide) rfl rfl ?_
  refine aw_iinc (v := 2) (ls' := [_, _, _, _]) dX5_isUnder_32 rfl (by decide) (by decide) rfl rfl ?_
  refine aw_goto (tgt := 4) dX5_isUnder_35 (by decide) ?_
  refine aw_iload_n dX5_isUnder_4 rfl ?_
  refine aw_gets (v := .retAddr 40) dX5_isUnder_5 sw_299 (fun u H h => (hE u H h).2.2.1) ?_
  refine aw_alx dX5_isUnder_8 (fun u H h => (hE u H h).2.2.2.1) ?_
  refine aw_icmp_ge (tgt := 38) dX5_isUnder_9 (by decide) (fun zz => absurd zz (by decide)) (fun _ => ?_)
  refine aw_iload_n dX5_isUnder_12 rfl ?_
  refine aw_S1 dX5_isUnder_13 cw_X5_111 (by omega) ⟨Nat.le_refl _, Nat.le_refl _⟩ (by decide) (c_X5_isKind (by omega) (fun zz => absurd zz (by decide)) (fun _ => ?_))
  refine aw_if_eq (tgt := 38) dX5_isUnder_16 (by decide) (fun _ => ?_) (fun zz => absurd rfl zz)
  refine aw_iconst (v := 0) dX5_isUnder_38 (by decide) ?_
  refine aw_ireturn (ty := .boolean) dX5_isUnder_39 rfl (by decide) ?_
  exact hF (by simp only [udP, n0, n1, or_self, not_false_eq_true])
theorem c_X5_isUnder {E : Ev} {d : Nat} {I : Mi} {L : Ml} {Z : Mz} {Q : Po} {N : Nat} {xs : Nat → Int32} {k : Int32} {q : Nat} (hd : 2 ≤ d) (hq : q < 6) (hE : EXT E N xs) (hT : udP q k → Q (some (.int 1)) I L Z) (hF : ¬ udP q k → Q (some (.int 0)) I L Z) : AC E yX5_isUnder cX5_isUnder 4 (some .boolean) d 0 0 [.int (nI q), .int k] I L Z Q := by
  match q, hq, hT, hF with
  | 0, _, hT, hF => exact c_X5_isUnder0 hd hE hT hF
  | 1, _, hT, hF => exact c_X5_isUnder1 hd hE hT hF
  | 2, _, hT, hF => exact c_X5_isUnder2 hd hE hT hF
  | 3, _, hT, hF => exact c_X5_isUnder3 hd hE hT hF
  | 4, _, hT, hF => exact c_X5_isUnder4 hd hE hT hF
  | 5, _, hT, hF => exact c_X5_isUnder5 hd hE hT hF
  | q + 6, h, _, _ => omega
theorem c_X5_taken {E : Ev} {d : Nat} {I : Mi} {L : Ml} {Z : Mz} {Q : Po} {x : Int32} {k : Int32} {N : Nat} {xs : Nat → Int32} {m : Nat} {K : Nat → Nat} (hd : 3 ≤ d) (hG : GZ Z) (hE : EXT E N xs) (hm : I 10 13 = nI m) (hm5 : m ≤ 5) (hK : ∀ p, p < m → I 15 p = nI (K p) ∧ K p < 6) (hB : ¬ (¬ k < 0 ∧ ¬ 5 < k) → Q (some (.int (-2))) I L Z) (hN : (¬ k < 0 ∧ ¬ 5 < k) → (¬ ∃ j, j < m ∧ x = nI j) → Q (some (.int (-11))) I L Z) (hS : (¬ k < 0 ∧ ¬ 5 < k) → ∀ p, p < m → x = nI p → udP (K p) k → Q (some (.int (I 16 p))) I L Z) (hO : (¬ k < 0 ∧ ¬ 5 < k) → ∀ p, p < m → x = nI p → ¬ udP (K p) k → Q (some (.int (-13))) I L Z) : AC E yX5_taken cX5_taken 3 (some .int) d 0 0 [.ref 0, .int x, .int k] I L Z Q := by
  refine ac_go (ls := [some (.ref 0), some (.int x), some (.int k)]) (by decide +kernel) (Nat.le_of_ble_eq_true rfl) rfl ?_
  refine aw_iload_n dX5_taken_0 rfl ?_
  refine aw_S1 dX5_taken_1 cw_X5_111 (by omega) ⟨Nat.le_refl _, Nat.le_refl _⟩ (by decide) (c_X5_isKind (by omega) (fun c1 => ?_) (fun c1 => ?_))
  · refine aw_if_ne (tgt := 10) dX5_taken_4 (by decide) (fun _ => ?_) (fun zz => absurd zz (by decide))
    refine aw_aload_n dX5_taken_10 rfl rfl ?_
    refine aw_gr dX5_taken_11 fw_X5_28 hG.1 hG.2.2.2.1 ?_
    refine aw_iload_n dX5_taken_14 rfl ?_
    refine aw_V1 dX5_taken_15 cw_X5_117 ⟨_, _, rfl⟩ hG.2.2.2.2.2.2.2.2.2.1.1 (by omega) ⟨Nat.le_refl _, Nat.le_refl _⟩ (by decide) (c_X0_hasReader hG.2.2.2.2.2.2.2.2.2.1 (fun c15 => ?_) (fun c15 => ?_))
    · refine aw_if_ne (tgt := 24) dX5_taken_18 (by decide) (fun _ => ?_) (fun zz => absurd zz (by decide))
      obtain ⟨p, hp, rfl⟩ := (ix_iff hm (by omega)).mp c15
      refine aw_aload_n dX5_taken_24 rfl rfl ?_
      refine aw_gr dX5_taken_25 fw_X5_28 hG.1 hG.2.2.2.1 ?_
      refine aw_gr dX5_taken_28 fw_X5_281 hG.2.2.2.2.2.2.2.2.2.1.1 hG.2.2.2.2.2.2.2.2.2.1.2.2.2.2.2.2.1 ?_
      refine aw_iload_n dX5_taken_31 rfl ?_
      refine aw_ia p dX5_taken_32 hG.2.2.2.2.2.2.2.2.2.1.2.2.2.2.2.2.2.2.2.2.2.2.2.2.1 rfl (by omega) (by decide) ?_
      rw [(hK p hp).1]
      refine aw_iload_n dX5_taken_33 rfl ?_
      refine aw_S2 dX5_taken_34 cw_X5_284 (by omega) ⟨Nat.le_refl _, Nat.le_refl _⟩ (by decide) (c_X5_isUnder (by omega) (hK p hp).2 hE (fun c34 => ?_) (fun c34 => ?_))
      · refine aw_if_eq (tgt := 52) dX5_taken_37 (by decide) (fun zz => absurd zz (by decide)) (fun _ => ?_)
        refine aw_aload_n dX5_taken_40 rfl rfl ?_
        refine aw_gr dX5_taken_41 fw_X5_28 hG.1 hG.2.2.2.1 ?_
        refine aw_gr dX5_taken_44 fw_X5_287 hG.2.2.2.2.2.2.2.2.2.1.1 hG.2.2.2.2.2.2.2.2.2.1.2.2.2.2.2.2.2.1 ?_
        refine aw_iload_n dX5_taken_47 rfl ?_
        refine aw_ia p dX5_taken_48 hG.2.2.2.2.2.2.2.2.2.1.2.2.2.2.2.2.2.2.2.2.2.2.2.2.2.1 rfl (by omega) (by decide) ?_
        refine aw_goto (tgt := 54) dX5_taken_49 (by decide) ?_
        refine aw_ireturn (ty := .int) dX5_taken_54 rfl rfl ?_
        exact hS c1 p hp rfl c34
      · refine aw_if_eq (tgt := 52) dX5_taken_37 (by decide) (fun _ => ?_) (fun zz => absurd zz (by decide))
        refine aw_bipush (v := -13) dX5_taken_52 (by decide) ?_
        refine aw_ireturn (ty := .int) dX5_taken_54 rfl rfl ?_
        exact hO c1 p hp rfl c34
    · refine aw_if_ne (tgt := 24) dX5_taken_18 (by decide) (fun zz => absurd zz (by decide)) (fun _ => ?_)
      refine aw_bipush (v := -11) dX5_taken_21 (by decide) ?_
      refine aw_ireturn (ty := .int) dX5_taken_23 rfl rfl ?_
      exact hN c1 (fun w => c15 ((ix_iff hm (by omega)).mpr w))
  · refine aw_if_ne (tgt := 10) dX5_taken_4 (by decide) (fun zz => absurd zz (by decide)) (fun _ => ?_)
    refine aw_bipush (v := -2) dX5_taken_7 (by decide) ?_
    refine aw_ireturn (ty := .int) dX5_taken_9 rfl rfl ?_
    exact hB c1
theorem c_X0_noted7 {E : Ev} {d : Nat} {I : Mi} {L : Ml} {Z : Mz} {Q : Po} {h p : Nat} {ru t q mm ma mb n : Nat} (hd : 4 ≤ d) (hR : RD I Z h ru t q mm ma mb n) (hp : p < 5) (hT : ∀ I9 : Mi, SamH h I I9 → sdP I h q ma mb mm p → Q (some (.int 1)) I9 L Z) (hF : ∀ I9 : Mi, SamH h I I9 → ¬ sdP I h q ma mb mm p → Q (some (.int 0)) I9 L Z) : AC E yX0_noted cX0_noted 3 (some .int) d 0 0 [.ref h, .int 7, .int (nI p)] I L Z Q := by
  refine ac_go (ls := [some (.ref h), some (.int 7), some (.int (nI p))]) (by decide +kernel) (Nat.le_of_ble_eq_true rfl) rfl ?_
  refine aw_iload_n dX0_noted_0 rfl ?_
  refine aw_tableIn (off := 96) (tgt := 97) dX0_noted_1 (by decide) (by decide) (by rfl) (by decide) ?_
  refine aw_aload_n dX0_noted_97 rfl rfl ?_
  refine aw_iload_n dX0_noted_98 rfl ?_
  refine aw_V1 dX0_noted_99 cw_X0_72 ⟨_, _, rfl⟩ hR.1.1 (by omega) ⟨Nat.le_refl _, Nat.le_refl _⟩ (by decide) (c_X0_isSteady (by omega) hR hp (fun I9 s9 c9 => ?_) (fun I9 s9 c9 => ?_))
  · refine aw_S1 dX0_noted_102 cw_X0_75 (by omega) ⟨Nat.le_refl _, Nat.le_refl _⟩ (by decide) (c_X5_oneIf (fun r e => ?_))
    refine aw_ireturn (ty := .int) dX0_noted_105 rfl rfl ?_
    rw [e, if_neg (by decide)]
    exact hT I9 s9 c9
  · refine aw_S1 dX0_noted_102 cw_X0_75 (by omega) ⟨Nat.le_refl _, Nat.le_refl _⟩ (by decide) (c_X5_oneIf (fun r e => ?_))
    refine aw_ireturn (ty := .int) dX0_noted_105 rfl rfl ?_
    rw [e, if_pos rfl]
    exact hF I9 s9 c9
theorem c_X5_told7 {E : Ev} {d : Nat} {I : Mi} {L : Ml} {Z : Mz} {Q : Po} {x : Int32} {ru t q mm ma mb n m : Nat} (hd : 5 ≤ d) (hG : GZ Z) (hR : RD I Z 10 ru t q mm ma mb n) (hm : I 10 13 = nI m) (hm5 : m ≤ 5) (hB : (¬ ∃ j, j < m ∧ x = nI j) → Q (some (.int (-2))) I L Z) (hT : ∀ j, j < m → x = nI j → ∀ I9 : Mi, SamH 10 I I9 → sdP I 10 q ma mb mm j → Q (some (.int 1)) I9 L Z) (hF : ∀ j, j < m → x = nI j → ∀ I9 : Mi, SamH 10 I I9 → ¬ sdP I 10 q ma mb mm j → Q (some (.int 0)) I9 L Z) : AC E yX5_told cX5_told 3 (some .int) d 0 0 [.ref 0, .int x, .int 7] I L Z Q := by
  refine ac_go (ls := [some (.ref 0), some (.int x), some (.int 7)]) (by decide +kernel) (Nat.le_of_ble_eq_true rfl) rfl ?_
  refine aw_iload_n dX5_told_0 rfl ?_
  refine aw_iconst (v := 0) dX5_told_1 (by decide) ?_
  refine aw_bipush (v := 9) dX5_told_2 (by decide) ?_
  refine aw_S3 dX5_told_4 cw_X5_72 (by omega) ⟨Nat.le_refl _, Nat.le_refl _⟩ (by decide) (c_X5_within (fun _ => ?_) (fun zz => absurd (by decide) zz))
  refine aw_if_eq (tgt := 22) dX5_told_7 (by decide) (fun zz => absurd zz (by decide)) (fun _ => ?_)
  refine aw_aload_n dX5_told_10 rfl rfl ?_
  refine aw_gr dX5_told_11 fw_X5_28 hG.1 hG.2.2.2.1 ?_
  refine aw_iload_n dX5_told_14 rfl ?_
  refine aw_iload_n dX5_told_15 rfl ?_
  refine aw_V2 dX5_told_16 cw_X5_79 ⟨_, _, rfl⟩ hG.2.2.2.2.2.2.2.2.2.1.1 (by omega) ⟨Nat.le_refl _, Nat.le_refl _⟩ (by decide) (c_X0_has7 (by omega) hG.2.2.2.2.2.2.2.2.2.1 (fun c16 => ?_) (fun c16 => ?_))
  · refine aw_if_ne (tgt := 25) dX5_told_19 (by decide) (fun _ => ?_) (fun zz => absurd zz (by decide))
    obtain ⟨j, hj, rfl⟩ := (ix_iff hm (by omega)).mp c16
    refine aw_aload_n dX5_told_25 rfl rfl ?_
    refine aw_gr dX5_told_26 fw_X5_28 hG.1 hG.2.2.2.1 ?_
    refine aw_iload_n dX5_told_29 rfl ?_
    refine aw_iload_n dX5_told_30 rfl ?_
    refine aw_V2 dX5_told_31 cw_X5_83 ⟨_, _, rfl⟩ hG.2.2.2.2.2.2.2.2.2.1.1 (by omega) ⟨Nat.le_refl _, Nat.le_refl _⟩ (by decide) (c_X0_noted7 (by omega) hR (show j < 5 by omega) (fun I9 s9 c9 => ?_) (fun I9 s9 c9 => ?_))
    · exact aw_ireturn (ty := .int) dX5_told_34 rfl rfl (hT j hj rfl I9 s9 c9)
    · exact aw_ireturn (ty := .int) dX5_told_34 rfl rfl (hF j hj rfl I9 s9 c9)
  · refine aw_if_ne (tgt := 25) dX5_told_19 (by decide) (fun zz => absurd zz (by decide)) (fun _ => ?_)
    refine aw_bipush (v := -2) dX5_told_22 (by decide) ?_
    refine aw_ireturn (ty := .int) dX5_told_24 rfl rfl ?_
    exact hB (fun z => c16 ((ix_iff hm (by omega)).mpr z))
