/-! ===== the classes' tables ===== -/
set_option maxRecDepth 20000 in
theorem inC0 : ∀ w ∈ u_ws RX0 TX0 15, w ∈ tb2 := by decide +kernel
set_option maxRecDepth 20000 in
theorem inC1 : ∀ w ∈ u_ws RX1 TX1 10, w ∈ tb2 := by decide +kernel
set_option maxRecDepth 20000 in
theorem inC2 : ∀ w ∈ u_ws RX2 TX2 3, w ∈ tb2 := by decide +kernel
set_option maxRecDepth 20000 in
theorem inC3 : ∀ w ∈ u_ws RX3 TX3 3, w ∈ tb2 := by decide +kernel
set_option maxRecDepth 20000 in
theorem inC4 : ∀ w ∈ u_ws RX4 TX4 3, w ∈ tb2 := by decide +kernel
set_option maxRecDepth 20000 in
theorem inC5 : ∀ w ∈ u_ws RX5 TX5 7, w ∈ tb2 := by decide +kernel
set_option maxRecDepth 20000 in
theorem inC6 : ∀ w ∈ u_ws RX6 TX6 46, w ∈ tb2 := by decide +kernel
theorem cls_ok {ci : Nat} {C : String} {T : u_T} {N : Nat} (h : vwCl[ci]? = some (C, T, N)) : (∀ w ∈ u_ws C T N, w ∈ tb2) ∧ (∀ k, k < N → parseFieldDescriptor (T k).2.2.1 = some (tyOf ci k)) ∧ (∀ a, a < N → ∀ b, b < N → a ≠ b → (T a).2.1 ≠ (T b).2.1) := by
  match ci, h with
  | 0, h => cases h; exact ⟨inC0, tyX0_ok, nmX0⟩
  | 1, h => cases h; exact ⟨inC1, tyX1_ok, nmX1⟩
  | 2, h => cases h; exact ⟨inC2, tyX2_ok, nmX2⟩
  | 3, h => cases h; exact ⟨inC3, tyX3_ok, nmX3⟩
  | 4, h => cases h; exact ⟨inC4, tyX4_ok, nmX4⟩
  | 5, h => cases h; exact ⟨inC5, tyX5_ok, nmX5⟩
  | 6, h => cases h; exact ⟨inC6, tyX6_ok, nmX6⟩
  | n + 7, h => simp [vwCl] at h
/-- the word of a field of class ci, place k, at the constant index of the class own -/
def Fw (own : String) (idx ci k : Nat) : Prop := ∃ (C : String) (T : u_T) (N : Nat), vwCl[ci]? = some (C, T, N) ∧ k < N ∧ (T k).1 = C ∧ (Cond.fieldLink own idx C (T k).2.1 (T k).2.2.1 ∈ tb2 ∨ ∃ host, Cond.fieldLinkNest own idx C (T k).2.1 (T k).2.2.1 host ∈ tb2)
def FwI (own : String) (idx ci k : Nat) : Prop := Fw own idx ci k ∧ (tyOf ci k = .int ∨ tyOf ci k = .boolean)
def FwL (own : String) (idx ci k : Nat) : Prop := Fw own idx ci k ∧ tyOf ci k = .long
def FwP (own : String) (idx ci k : Nat) : Prop := Fw own idx ci k ∧ ((∃ n, tyOf ci k = .object n) ∨ ∃ t, tyOf ci k = .array t)
theorem fV_I {E : Ev} {I : Mi} {L : Ml} {Z : Mz} {c a k : Nat} (h : tyOf c k = .int ∨ tyOf c k = .boolean) : fV E I L Z c a k = .int (I a k) := by
  rcases h with h | h <;> simp only [fV, h]
theorem fV_L {E : Ev} {I : Mi} {L : Ml} {Z : Mz} {c a k : Nat} (h : tyOf c k = .long) : fV E I L Z c a k = .long (L a k) := by
  simp only [fV, h]
theorem fV_P {E : Ev} {I : Mi} {L : Ml} {Z : Mz} {c a k : Nat} (h : (∃ n, tyOf c k = .object n) ∨ ∃ t, tyOf c k = .array t) : fV E I L Z c a k = cR E (zP Z a k) := by
  rcases h with ⟨n, h⟩ | ⟨n, h⟩ <;> simp only [fV, h]
section AWM
variable {E : Ev} {y : MethodName} {cc : ByteArray} {nL : Nat} {rt : Option FieldType} {R : Room} {Q : Po} {cells slots pc : Nat} {ls ls' : List (Option Value)} {rest : List Value} {I : Mi} {L : Ml} {Z : Mz}
/-- a field's read, of any type -/
theorem aw_get {idx ci k a : Nat} {v : Value} (hd : decode cc pc = .ok (.getfield idx, 3)) (hw : Fw y.cls idx ci k) (ha : a < zN Z) (hz : zK Z a = ci) (hv : cV E v = fV E I L Z ci a k) (kk : AW E y cc nL rt R Q cells slots (pc + 3) ls (v :: rest) I L Z) : AW E y cc nL rt R Q cells slots pc ls (.ref a :: rest) I L Z := by
  intro p e s m args below meth c H locs la Qe F hSim hS hL h1 h2
  obtain ⟨hx, hb, hml, hown, hts, hnm, hbs, hXC, hK, hXE, hret⟩ := id F
  obtain ⟨C, T, N, hc, hk, hC, hl⟩ := hw
  obtain ⟨cell, q1, q2, q3, q4⟩ := (hSim.2 a ha).1 _ (by rw [hz]; exact hc)
  rw [hz] at q2 q4
  obtain ⟨hSl, hfc, kC, hkC, hkind⟩ := hK.1 ci _ hc
  obtain ⟨cf, kf, fi, f, hi, hsl⟩ := hSl k hk
  have hst := (u_facts hfc hkC (u_lays hts (cls_ok hc).1 hk) hi).1
  have hslot : cell.slots[f.slot]? = some (cV E v) := by rw [hsl, q4 k hk, hv]
  have hkk := kk p e s m args below meth c H locs la Qe F hSim hS hL h1 h2
  simp only [hC] at hi
  rcases hl with hl | ⟨host, hl⟩
  · exact W.getf hx hb hown (hts _ hl) hi hst q1 (by rw [q3]; exact fun h => by cases h) hslot rfl rfl hd hkk
  · exact va_Wgetf hx hb hown (hts _ hl) hi hst q1 (by rw [q3]; exact fun h => by cases h) hslot rfl rfl hd hkk
theorem aw_geti {idx ci k a : Nat} (hd : decode cc pc = .ok (.getfield idx, 3)) (hw : FwI y.cls idx ci k) (ha : a < zN Z) (hz : zK Z a = ci) (kk : AW E y cc nL rt R Q cells slots (pc + 3) ls (.int (I a k) :: rest) I L Z) : AW E y cc nL rt R Q cells slots pc ls (.ref a :: rest) I L Z := aw_get (v := .int (I a k)) hd hw.1 ha hz (fV_I hw.2).symm kk
theorem aw_getl {idx ci k a : Nat} (hd : decode cc pc = .ok (.getfield idx, 3)) (hw : FwL y.cls idx ci k) (ha : a < zN Z) (hz : zK Z a = ci) (kk : AW E y cc nL rt R Q cells slots (pc + 3) ls (.long (L a k) :: rest) I L Z) : AW E y cc nL rt R Q cells slots pc ls (.ref a :: rest) I L Z := aw_get (v := .long (L a k)) hd hw.1 ha hz (fV_L hw.2).symm kk
theorem aw_getp {idx ci k a : Nat} {r : Option Nat} (hd : decode cc pc = .ok (.getfield idx, 3)) (hw : FwP y.cls idx ci k) (ha : a < zN Z) (hz : zK Z a = ci) (hr : zP Z a k = r) (kk : AW E y cc nL rt R Q cells slots (pc + 3) ls (rV r :: rest) I L Z) : AW E y cc nL rt R Q cells slots pc ls (.ref a :: rest) I L Z := aw_get hd hw.1 ha hz (by rw [cV_rV, fV_P hw.2, hr]) kk
/-- a field's write: what the memory is behind it is told by hN -/
theorem aw_put {idx ci k a : Nat} {v : Value} {I' : Mi} {L' : Ml} {P' : Nat → Nat → Option Nat} (hd : decode cc pc = .ok (.putfield idx, 3)) (hw : Fw y.cls idx ci k) (hfin : ∀ C T N, vwCl[ci]? = some (C, T, N) → (T k).2.2.2 = false ∨ ((T k).2.2.2 = true ∧ y.name = "<init>" ∧ y.cls = C ∧ Cond.fieldLink y.cls idx C (T k).2.1 (T k).2.2.1 ∈ tb2)) (ha : a < zN Z) (hz : zK Z a = ci) (hnr : narrow (tyOf ci k) (cV E v) = cV E v) (hft : fits (tyOf ci k) (cV E v) = true)
    (hI : ∀ b, b ≠ a → I' b = I b) (hLL : ∀ b, b ≠ a → L' b = L b) (hP : ∀ b, b ≠ a → P' b = zP Z b) (hN : ∀ j, fV E I' L' (P', Z.2) ci a j = if j = k then cV E v else fV E I L Z ci a j)
    (kk : AW E y cc nL rt R Q cells slots (pc + 3) ls rest I' L' (P', Z.2)) : AW E y cc nL rt R Q cells slots pc ls (v :: .ref a :: rest) I L Z := by
  intro p e s m args below meth c H locs la Qe F hSim hS hL h1 h2
  obtain ⟨hx, hb, hml, hown, hts, hnm, hbs, hXC, hK, hXE, hret⟩ := id F
  obtain ⟨C, T, N, hc, hk, hC, hl⟩ := hw
  obtain ⟨hin, hty, hnames⟩ := cls_ok hc
  obtain ⟨cell, q1, q2, q3, q4⟩ := (hSim.2 a ha).1 _ (by rw [hz]; exact hc)
  rw [hz] at q2 q4
  have hap := va_apart (own := y.cls) hts hin (tyOf ci) hty hnames hK hc
  obtain ⟨hSl, hfc, kC, hkC, hkind⟩ := hK.1 ci _ hc
  obtain ⟨cf, kf, fi, f, hi, hsl⟩ := hSl k hk
  have hst := (u_facts hfc hkC (u_lays hts hin hk) hi).1
  have key : ∀ (H' : Heap) (locs' : List Loc), H'[eB E + a]? = some (cell.setSlot f.slot (cV E v)) → H'.size = H.size → (∀ q : Nat, q ≠ eB E + a → H'[q]? = H[q]?) → aS E s H' locs' → W p (eL E) e R s m args below meth c H' locs' cells slots Qe (F0 m (pc + 3) la (rest.map (cV E))) := by
    intro H' locs' e1 e2 e3 hS'
    rw [hsl] at e1
    refine kk p e s m args below meth c H' locs' la Qe F (hSim.step e2 e3 hI hLL hP rfl rfl rfl ⟨fun r hr => ?_, fun h => ?_, fun h => ?_⟩) hS' hL h1 h2
    · have hr' : vwCl[ci]? = some r := by rw [← hz]; exact hr
      cases hc.symm.trans hr'
      show t_OB (eB E + a) ((eD E).1 (zK Z a)) N ((eD E).2 (zK Z a)) H' (fV E I' L' (P', Z.2) (zK Z a) a)
      rw [hz]
      refine t_OB.to (V := updV (fV E I L Z ci a) k (cV E v)) ⟨_, e1, q2, q3, t_set q4 hap hk (cV E v)⟩ (fun j _ => ?_)
      rw [hN j]
      rfl
    · have h' : zK Z a = 7 ∨ zK Z a = 8 := h
      rw [hz] at h'
      rcases h' with h' | h' <;> subst h' <;> simp [vwCl] at hc
    · have h' : 9 ≤ zK Z a := h
      rw [hz] at h'
      have : ci < vwCl.length := (List.getElem?_eq_some_iff.mp hc).1
      simp [vwCl] at this
      omega
  have hlay := hts _ (hin _ (u_in_lay hk))
  unfold u_lay at hlay
  have hlt : f.slot < cell.slots.size := by rw [hsl]; exact k2_hasslot (q4 k hk)
  rcases hfin C T N hc with hf | ⟨hf, hini, hyC, hl2⟩
  · rw [if_neg (by rw [hf]; decide)] at hlay
    have h6 := u_store hfc hkC hkind hlay hi (hty k hk) hnr hft
    simp only [hC] at hi
    rcases hl with hl | ⟨host, hl⟩
    · exact W.putK hx hb (f := f) ⟨hown, hts _ hl, ⟨_, _, _, hi⟩, hst⟩ (by rw [q2]; exact h6) q1 q3 hlt rfl rfl hd fun H' e1 e2 e3 => key H' _ e1 e2 e3 (hS.put e2 e3 (Nat.le_add_right _ _))
    · exact va_WputK hx hb (f := f) hown (hts _ hl) hi hst (by rw [q2]; exact h6) q1 q3 hlt rfl rfl hd fun H' e1 e2 e3 => key H' _ e1 e2 e3 (hS.put e2 e3 (Nat.le_add_right _ _))
  · rw [if_pos hf] at hlay
    have hcf : m.cls = cf := by
      obtain ⟨_, _, c', _, _, _, -, -, hf', -, -, -, hown2, -⟩ := Cond.laysFinal_spec hlay
      have e1 : c' = cf := by have := hi.symm.trans hf'; simp at this; exact this.1.symm
      rw [hC, ← hyC] at hown2
      rw [← e1]; exact Option.some.inj (hown.symm.trans hown2)
    have h6 := u_fits hfc hkC hkind (Or.inr hlay) hi (hty k hk) hnr hft
    simp only [hC] at hi
    exact W.putFinK hx hb hown (hts _ hl2) hi hst hcf (hnm.trans hini) (by rw [q2]; exact h6) q1 q3 hlt rfl rfl hd fun H' e1 e2 e3 => key H' _ e1 e2 e3 (hS.put e2 e3 (Nat.le_add_right _ _))
/-- whether a field may be written here -/
def FwW (own nm : String) (idx ci k : Nat) : Prop := ∀ C T N, vwCl[ci]? = some (C, T, N) → (T k).2.2.2 = false ∨ ((T k).2.2.2 = true ∧ nm = "<init>" ∧ own = C ∧ Cond.fieldLink own idx C (T k).2.1 (T k).2.2.1 ∈ tb2)
theorem aw_puti {idx ci k a : Nat} {x : Int32} (hd : decode cc pc = .ok (.putfield idx, 3)) (hw : FwI y.cls idx ci k) (hfin : FwW y.cls y.name idx ci k) (ha : a < zN Z) (hz : zK Z a = ci) (hb : narrow (tyOf ci k) (.int x) = .int x) (hf : fits (tyOf ci k) (.int x) = true)
    (kk : AW E y cc nL rt R Q cells slots (pc + 3) ls rest (iU I a k x) L Z) : AW E y cc nL rt R Q cells slots pc ls (.int x :: .ref a :: rest) I L Z := by
  refine aw_put (v := .int x) (I' := iU I a k x) (L' := L) (P' := zP Z) hd hw.1 hfin ha hz hb ?_ (fun b hb => ?_) (fun _ _ => rfl) (fun _ _ => rfl) (fun j => ?_) kk
  · exact hf
  · funext j; simp [iU, hb]
  · by_cases hj : j = k
    · subst hj; rw [if_pos rfl, fV_I hw.2]; simp [iU, cV]
    · rw [if_neg hj]; simp only [fV, iU, hj, and_false, if_false]
theorem aw_putl {idx ci k a : Nat} {x : Int64} (hd : decode cc pc = .ok (.putfield idx, 3)) (hw : FwL y.cls idx ci k) (hfin : FwW y.cls y.name idx ci k) (ha : a < zN Z) (hz : zK Z a = ci)
    (kk : AW E y cc nL rt R Q cells slots (pc + 3) ls rest I (lU L a k x) Z) : AW E y cc nL rt R Q cells slots pc ls (.long x :: .ref a :: rest) I L Z := by
  refine aw_put (v := .long x) (I' := I) (L' := lU L a k x) (P' := zP Z) hd hw.1 hfin ha hz ?_ ?_ (fun _ _ => rfl) (fun b hb => ?_) (fun _ _ => rfl) (fun j => ?_) kk
  · rw [hw.2]; rfl
  · rw [hw.2]; rfl
  · funext j; simp [lU, hb]
  · by_cases hj : j = k
    · subst hj; rw [if_pos rfl, fV_L hw.2]; simp [lU, cV]
    · rw [if_neg hj]; simp only [fV, lU, hj, and_false, if_false]
theorem aw_putp {idx ci k a : Nat} {r : Option Nat} (hd : decode cc pc = .ok (.putfield idx, 3)) (hw : FwP y.cls idx ci k) (hfin : FwW y.cls y.name idx ci k) (ha : a < zN Z) (hz : zK Z a = ci)
    (kk : AW E y cc nL rt R Q cells slots (pc + 3) ls rest I L (pU (zP Z) a k r, Z.2)) : AW E y cc nL rt R Q cells slots pc ls (rV r :: .ref a :: rest) I L Z := by
  refine aw_put (v := rV r) (I' := I) (L' := L) (P' := pU (zP Z) a k r) hd hw.1 hfin ha hz ?_ ?_ (fun _ _ => rfl) (fun _ _ => rfl) (fun b hb => ?_) (fun j => ?_) kk
  · rcases hw.2 with ⟨n, h⟩ | ⟨n, h⟩ <;> rw [h] <;> cases r <;> rfl
  · rcases hw.2 with ⟨n, h⟩ | ⟨n, h⟩ <;> rw [h] <;> cases r <;> rfl
  · funext j; simp [pU, hb]
  · by_cases hj : j = k
    · subst hj; rw [if_pos rfl, fV_P hw.2, cV_rV]; simp [pU, zP]
    · rw [if_neg hj]; simp only [fV, pU, zP, hj, and_false, if_false]

end AWM
