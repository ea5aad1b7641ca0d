section AWA
variable {E : Ev} {y : MethodName} {cc : ByteArray} {nL : Nat} {rt : Option FieldType} {R : Room} {Q : Po} {cells slots pc : Nat} {ls ls' : List (Option Value)} {rest : List Value} {I : Mi} {L : Ml} {Z : Mz}
/-! ===== arrays ===== -/
theorem aw_iald {a : Nat} {i : Int32} (hd : decode cc pc = .ok (.iaload, 1)) (ha : a < zN Z) (hz : zK Z a = 7) (hi : vp_in i (zL Z a)) (kk : AW E y cc nL rt R Q cells slots (pc + 1) ls (.int (I a i.toNatClampNeg) :: rest) I L Z) : AW E y cc nL rt R Q cells slots pc ls (.int i :: .ref a :: rest) I L Z := by
  intro p e s m args below meth c H locs la Qe F hSim hS hL h1 h2
  obtain ⟨hx, hb, hml, hown, hts, hnm, hbs, hXC, hK, hXE, hret⟩ := id F
  have hc := (hSim.2 a ha).2.1 (Or.inl hz)
  have hlt : i.toNatClampNeg < zL Z a := Nat.not_le.mp fun q => hi (Or.inr q)
  rw [hz] at hc
  exact W.iald (v := .int (I a i.toNatClampNeg)) hx hb hc ((hK.2 0 _ rfl).1 _ _) (fun q => by cases q) (by rw [arrV_size]; exact hi) (by rw [arrV_read _ _ hlt]) rfl rfl hd (kk p e s m args below meth c H locs la Qe F hSim hS hL h1 h2)
theorem aw_zald {a : Nat} {i : Int32} (hd : decode cc pc = .ok (.baload, 1)) (ha : a < zN Z) (hz : zK Z a = 8) (hi : vp_in i (zL Z a)) (kk : AW E y cc nL rt R Q cells slots (pc + 1) ls (.int (I a i.toNatClampNeg) :: rest) I L Z) : AW E y cc nL rt R Q cells slots pc ls (.int i :: .ref a :: rest) I L Z := by
  intro p e s m args below meth c H locs la Qe F hSim hS hL h1 h2
  obtain ⟨hx, hb, hml, hown, hts, hnm, hbs, hXC, hK, hXE, hret⟩ := id F
  have hc := (hSim.2 a ha).2.1 (Or.inr hz)
  have hlt : i.toNatClampNeg < zL Z a := Nat.not_le.mp fun q => hi (Or.inr q)
  rw [hz] at hc
  exact W.zald (v := .int (I a i.toNatClampNeg)) hx hb hc ((hK.2 1 _ rfl).1 _ _) (fun q => by cases q) (by rw [arrV_size]; exact hi) (by rw [arrV_read _ _ hlt]) rfl rfl hd (kk p e s m args below meth c H locs la Qe F hSim hS hL h1 h2)
theorem aw_aald {a : Nat} {i : Int32} {r : Option Nat} (hd : decode cc pc = .ok (.aaload, 1)) (ha : a < zN Z) (hz : zK Z a = 9 ∨ zK Z a = 10) (hi : vp_in i (zL Z a)) (hr : zP Z a i.toNatClampNeg = r) (kk : AW E y cc nL rt R Q cells slots (pc + 1) ls (rV r :: rest) I L Z) : AW E y cc nL rt R Q cells slots pc ls (.int i :: .ref a :: rest) I L Z := by
  intro p e s m args below meth c H locs la Qe F hSim hS hL h1 h2
  obtain ⟨hx, hb, hml, hown, hts, hnm, hbs, hXC, hK, hXE, hret⟩ := id F
  have hc := (hSim.2 a ha).2.2 (by omega)
  have hlt : i.toNatClampNeg < zL Z a := Nat.not_le.mp fun q => hi (Or.inr q)
  have hkk := kk p e s m args below meth c H locs la Qe F hSim hS hL h1 h2
  rw [List.map_cons, cV_rV, ← hr] at hkk
  rcases hz with hz | hz
  · rw [hz] at hc
    exact W.aald (v := cR E (zP Z a i.toNatClampNeg)) (ty := .object RX2) hx hb hc ((hK.2 2 _ rfl).1 _ _) rfl (fun q => by cases q) (by rw [arrV_size]; exact hi) (by rw [arrV_read _ _ hlt]) rfl rfl hd hkk
  · rw [hz] at hc
    exact W.aald (v := cR E (zP Z a i.toNatClampNeg)) (ty := .object RX4) hx hb hc ((hK.2 3 _ rfl).1 _ _) rfl (fun q => by cases q) (by rw [arrV_size]; exact hi) (by rw [arrV_read _ _ hlt]) rfl rfl hd hkk
theorem aw_alen {a : Nat} (hd : decode cc pc = .ok (.arraylength, 1)) (ha : a < zN Z) (hz : 7 ≤ zK Z a ∧ zK Z a ≤ 10) (kk : AW E y cc nL rt R Q cells slots (pc + 1) ls (.int (nI (zL Z a)) :: rest) I L Z) : AW E y cc nL rt R Q cells slots pc ls (.ref a :: rest) I L Z := by
  intro p e s m args below meth c H locs la Qe F hSim hS hL h1 h2
  obtain ⟨hx, hb, hml, hown, hts, hnm, hbs, hXC, hK, hXE, hret⟩ := id F
  have hkk := kk p e s m args below meth c H locs la Qe F hSim hS hL h1 h2
  rcases (show zK Z a = 7 ∨ zK Z a = 8 ∨ zK Z a = 9 ∨ zK Z a = 10 by omega) with hz | hz | hz | hz
  · have hc := (hSim.2 a ha).2.1 (Or.inl hz)
    rw [hz] at hc
    exact W.alen (n := nI (zL Z a)) hx hb hc ((hK.2 0 _ rfl).1 _ _) (by rw [arrV_size]; rfl) rfl rfl hd hkk
  · have hc := (hSim.2 a ha).2.1 (Or.inr hz)
    rw [hz] at hc
    exact W.alen (n := nI (zL Z a)) hx hb hc ((hK.2 1 _ rfl).1 _ _) (by rw [arrV_size]; rfl) rfl rfl hd hkk
  · have hc := (hSim.2 a ha).2.2 (by omega)
    rw [hz] at hc
    exact W.alen (n := nI (zL Z a)) hx hb hc ((hK.2 2 _ rfl).1 _ _) (by rw [arrV_size]; rfl) rfl rfl hd hkk
  · have hc := (hSim.2 a ha).2.2 (by omega)
    rw [hz] at hc
    exact W.alen (n := nI (zL Z a)) hx hb hc ((hK.2 3 _ rfl).1 _ _) (by rw [arrV_size]; rfl) rfl rfl hd hkk
/-- a row of ints changed -/
theorem sim_row {H H' : Heap} {a : Nat} {f : Nat → Int32} {I' : Mi} (hSim : Sim E I L Z H) (ha : a < zN Z) (hz : zK Z a = 7 ∨ zK Z a = 8) (hI : ∀ b, b ≠ a → I' b = I b) (hf : ∀ j, j < zL Z a → f j = I' a j) (e1 : H'[eB E + a]? = some (arrV (eC E (zK Z a)) (zL Z a) (fun j => .int (f j)))) (e2 : H'.size = H.size) (e3 : ∀ q : Nat, q ≠ eB E + a → H'[q]? = H[q]?) : Sim E I' L Z H' := by
  refine hSim.step e2 e3 hI (fun _ _ => rfl) (fun _ _ => rfl) rfl rfl rfl ⟨fun r hr => ?_, fun h => ?_, fun h => ?_⟩
  · rcases hz with hz | hz <;> rw [hz] at hr <;> simp [vwCl] at hr
  · rw [e1]
    congr 1
    unfold arrV
    congr 1
    apply Array.ext
    · simp
    · intro j h1 h2
      simp only [Array.size_ofFn] at h1
      simp [hf j h1]
  · omega
theorem aw_iast {a : Nat} {i x : Int32} (hd : decode cc pc = .ok (.iastore, 1)) (ha : a < zN Z) (hz : zK Z a = 7) (hi : vp_in i (zL Z a)) (kk : AW E y cc nL rt R Q cells slots (pc + 1) ls rest (iU I a i.toNatClampNeg x) L Z) : AW E y cc nL rt R Q cells slots pc ls (.int x :: .int i :: .ref a :: rest) I L Z := by
  intro p e s m args below meth c H locs la Qe F hSim hS hL h1 h2
  obtain ⟨hx, hb, hml, hown, hts, hnm, hbs, hXC, hK, hXE, hret⟩ := id F
  have hc := (hSim.2 a ha).2.1 (Or.inl hz)
  refine W.iast hx hb hc (by rw [hz]; exact (hK.2 0 _ rfl).1 _ _) (fun q => by cases q) (by rw [arrV_size]; exact hi) rfl rfl hd fun H' e1 e2 e3 => ?_
  rw [arrV_store] at e1
  refine kk p e s m args below meth c H' _ la Qe F (sim_row (f := fun j => if j = i.toNatClampNeg then x else I a j) hSim ha (Or.inl hz) (fun b hb => ?_) (fun j _ => ?_) ?_ e2 e3) (hS.put e2 e3 (Nat.le_add_right _ _)) hL h1 h2
  · funext j; simp [iU, hb]
  · simp [iU]
  · rw [e1]; congr 2; funext j; simp only [updV]; split <;> rfl
theorem aw_zast {a : Nat} {i x : Int32} (hd : decode cc pc = .ok (.bastore, 1)) (ha : a < zN Z) (hz : zK Z a = 8) (hi : vp_in i (zL Z a)) (hn : narrow .boolean (.int x) = .int x) (kk : AW E y cc nL rt R Q cells slots (pc + 1) ls rest (iU I a i.toNatClampNeg x) L Z) : AW E y cc nL rt R Q cells slots pc ls (.int x :: .int i :: .ref a :: rest) I L Z := by
  intro p e s m args below meth c H locs la Qe F hSim hS hL h1 h2
  obtain ⟨hx, hb, hml, hown, hts, hnm, hbs, hXC, hK, hXE, hret⟩ := id F
  have hc := (hSim.2 a ha).2.1 (Or.inr hz)
  refine W.zast hx hb hc (by rw [hz]; exact (hK.2 1 _ rfl).1 _ _) (fun q => by cases q) (by rw [arrV_size]; exact hi) rfl rfl hd fun H' e1 e2 e3 => ?_
  rw [hn, arrV_store] at e1
  refine kk p e s m args below meth c H' _ la Qe F (sim_row (f := fun j => if j = i.toNatClampNeg then x else I a j) hSim ha (Or.inr hz) (fun b hb => ?_) (fun j _ => ?_) ?_ e2 e3) (hS.put e2 e3 (Nat.le_add_right _ _)) hL h1 h2
  · funext j; simp [iU, hb]
  · simp [iU]
  · rw [e1]; congr 2; funext j; simp only [updV]; split <;> rfl
/-- the class of an array's items -/
theorem aw_aast {a v ci : Nat} {i : Int32} (hd : decode cc pc = .ok (.aastore, 1)) (ha : a < zN Z) (hz : (zK Z a = 9 ∧ ci = 2) ∨ (zK Z a = 10 ∧ ci = 4)) (hv : v < zN Z) (hzv : zK Z v = ci) (hi : vp_in i (zL Z a)) (kk : AW E y cc nL rt R Q cells slots (pc + 1) ls rest I L (pU (zP Z) a i.toNatClampNeg (some v), Z.2)) : AW E y cc nL rt R Q cells slots pc ls (.ref v :: .int i :: .ref a :: rest) I L Z := by
  intro p e s m args below meth c H locs la Qe F hSim hS hL h1 h2
  obtain ⟨hx, hb, hml, hown, hts, hnm, hbs, hXC, hK, hXE, hret⟩ := id F
  have hc := (hSim.2 a ha).2.2 (by omega)
  have hlt : i.toNatClampNeg < zL Z a := Nat.not_le.mp fun q => hi (Or.inr q)
  have h0 : ¬ i < 0 := fun q => hi (Or.inl q)
  obtain ⟨C, hcl, kA, comp, k1, k2, k3⟩ : ∃ C, (∃ T N, vwCl[ci]? = some (C, T, N)) ∧ ∃ (kA : Class) (comp : ClassId), s.vm.classes[eC E (zK Z a)]? = some kA ∧ kA.kind = .array comp (.object C) ∧ s.vm.findClass C = some comp := by
    rcases hz with ⟨hz, rfl⟩ | ⟨hz, rfl⟩
    · obtain ⟨kA, comp, k1, k2, k3, -⟩ := (hK.2 2 _ rfl).2
      exact ⟨RX2, ⟨_, _, rfl⟩, kA, comp, by rw [hz]; exact k1, k2, k3⟩
    · obtain ⟨kA, comp, k1, k2, k3, -⟩ := (hK.2 3 _ rfl).2
      exact ⟨RX4, ⟨_, _, rfl⟩, kA, comp, by rw [hz]; exact k1, k2, k3⟩
  obtain ⟨T, N, hcl⟩ := hcl
  obtain ⟨cellV, g1, g2, g3, -⟩ := (hSim.2 v hv).1 _ (by rw [hzv]; exact hcl)
  have hcls := (hK.1 ci _ hcl).2
  have hcomp : comp = (eD E).1 ci := Option.some.inj (k3.symm.trans hcls.1)
  subst hcomp
  obtain ⟨kC, hkC, -⟩ := hcls.2
  rw [hzv] at g2
  refine W.aast hx hb hc (fun q h => by cases h) (fun h => by cases h) k1 k2 rfl hkC ⟨h0, by rw [arrV_size]; exact hlt⟩ g1 (fun q h => by rw [g3] at h; cases h) (by rw [g2]; exact hkC) (by rw [g2]; exact va_assign hcls) rfl rfl hd fun H' e1 e2 e3 => ?_
  rw [arrV_store] at e1
  refine kk p e s m args below meth c H' _ la Qe F (hSim.step e2 e3 (fun _ _ => rfl) (fun _ _ => rfl) (fun b hb => ?_) rfl rfl rfl ⟨fun r hr => ?_, fun h => ?_, fun h => ?_⟩) (hS.put e2 e3 (Nat.le_add_right _ _)) hL h1 h2
  · funext j; simp [zP, pU, hb]
  · have hr' : vwCl[zK Z a]? = some r := hr
    rcases hz with ⟨hz, -⟩ | ⟨hz, -⟩ <;> rw [hz] at hr' <;> simp [vwCl] at hr'
  · have h' : zK Z a = 7 ∨ zK Z a = 8 := h
    omega
  · rw [e1]
    show some (arrV (eC E (zK Z a)) (zL Z a) _) = some (arrV (eC E (zK Z a)) (zL Z a) _)
    congr 2
    funext j
    simp only [updV, pU, true_and, zP]
    split <;> rfl
/-! ===== what is new ===== -/
theorem aw_newi {n : Int32} {N : Nat} (hd : decode cc pc = .ok (.newarray .int, 2)) (hn : ¬ n < 0) (hN : n.toNatClampNeg = N) (hby : N ≤ 100000) (hc1 : cells + 1 ≤ R.cells) (hc2 : slots + N ≤ R.slots) (hw : Cond.arrayClass .int ∈ tb2) (kk : AW E y cc nL rt R Q (cells + 1) (slots + N) (pc + 2) ls (.ref (zN Z) :: rest) (rU I (zN Z) (fun _ => 0)) L (zP Z, nU (zK Z) (zN Z) 7, nU (zL Z) (zN Z) N, zN Z + 1)) : AW E y cc nL rt R Q cells slots pc ls (.int n :: rest) I L Z := by
  intro p e s m args below meth c H locs la Qe F hSim hS hL h1 h2
  obtain ⟨hx, hb, hml, hown, hts, hnm, hbs, hXC, hK, hXE, hret⟩ := id F
  refine va_newaK (atype := .int) hx hb (hts _ hw) rfl hd rfl hn hN (by show N * 4 ≤ _; omega) hc1 hc2 hSim.1 fun H' cA e1 e2 e3 hAr hNm => ?_
  have hcA : cA = eC E 7 := Option.some.inj (hNm.symm.trans (hK.2 0 _ rfl).2)
  refine kk p e s m args below meth c H' locs la Qe F (hSim.grow (by rw [e2, hSim.1]) (fun q hq => e3 q (by rw [← hSim.1]; exact hq)) (fun b hb => ?_) (fun _ _ => rfl) (fun _ _ => rfl) (fun b hb => ?_) (fun b hb => ?_) rfl ⟨fun r hr => ?_, fun h => ?_, fun h => ?_⟩) ⟨by rw [e2]; have := hS.1; have := hSim.1; omega, fun q g1 g2 => ?_, hS.2.2⟩ hL hc1 hc2
  · simp [rU, hb]
  · simp [zK, nU, hb]
  · simp [zL, nU, hb]
  · rw [show zK (zP Z, nU (zK Z) (zN Z) 7, nU (zL Z) (zN Z) N, zN Z + 1) (zN Z) = 7 by simp [zK, nU]] at hr
    simp [vwCl] at hr
  · rw [show zK (zP Z, nU (zK Z) (zN Z) 7, nU (zL Z) (zN Z) N, zN Z + 1) (zN Z) = 7 by simp [zK, nU], show zL (zP Z, nU (zK Z) (zN Z) 7, nU (zL Z) (zN Z) N, zN Z + 1) (zN Z) = N by simp [zL, nU], e1, hcA]
    simp only [rU, if_true]
    rfl
  · simp [zK, nU] at h
  · rw [e3 q (by have := hS.1; have := hSim.1; omega)]; exact hS.2.1 q g1 g2
theorem aw_newz {n : Int32} {N : Nat} (hd : decode cc pc = .ok (.newarray .boolean, 2)) (hn : ¬ n < 0) (hN : n.toNatClampNeg = N) (hby : N ≤ 100000) (hc1 : cells + 1 ≤ R.cells) (hc2 : slots + N ≤ R.slots) (hw : Cond.arrayClass .boolean ∈ tb2) (kk : AW E y cc nL rt R Q (cells + 1) (slots + N) (pc + 2) ls (.ref (zN Z) :: rest) (rU I (zN Z) (fun _ => 0)) L (zP Z, nU (zK Z) (zN Z) 8, nU (zL Z) (zN Z) N, zN Z + 1)) : AW E y cc nL rt R Q cells slots pc ls (.int n :: rest) I L Z := by
  intro p e s m args below meth c H locs la Qe F hSim hS hL h1 h2
  obtain ⟨hx, hb, hml, hown, hts, hnm, hbs, hXC, hK, hXE, hret⟩ := id F
  refine va_newaK (atype := .boolean) hx hb (hts _ hw) rfl hd rfl hn hN (by show N * 1 ≤ _; omega) hc1 hc2 hSim.1 fun H' cA e1 e2 e3 hAr hNm => ?_
  have hcA : cA = eC E 8 := Option.some.inj (hNm.symm.trans (hK.2 1 _ rfl).2)
  refine kk p e s m args below meth c H' locs la Qe F (hSim.grow (by rw [e2, hSim.1]) (fun q hq => e3 q (by rw [← hSim.1]; exact hq)) (fun b hb => ?_) (fun _ _ => rfl) (fun _ _ => rfl) (fun b hb => ?_) (fun b hb => ?_) rfl ⟨fun r hr => ?_, fun h => ?_, fun h => ?_⟩) ⟨by rw [e2]; have := hS.1; have := hSim.1; omega, fun q g1 g2 => ?_, hS.2.2⟩ hL hc1 hc2
  · simp [rU, hb]
  · simp [zK, nU, hb]
  · simp [zL, nU, hb]
  · rw [show zK (zP Z, nU (zK Z) (zN Z) 8, nU (zL Z) (zN Z) N, zN Z + 1) (zN Z) = 8 by simp [zK, nU]] at hr
    simp [vwCl] at hr
  · rw [show zK (zP Z, nU (zK Z) (zN Z) 8, nU (zL Z) (zN Z) N, zN Z + 1) (zN Z) = 8 by simp [zK, nU], show zL (zP Z, nU (zK Z) (zN Z) 8, nU (zL Z) (zN Z) N, zN Z + 1) (zN Z) = N by simp [zL, nU], e1, hcA]
    simp only [rU, if_true]
    rfl
  · simp [zK, nU] at h
  · rw [e3 q (by have := hS.1; have := hSim.1; omega)]; exact hS.2.1 q g1 g2
end AWA
