section AWC
variable {E : Ev} {y : MethodName} {cc : ByteArray} {nL : Nat} {rt : Option FieldType} {R : Room} {Q : Po} {cells slots pc : Nat} {ls ls' : List (Option Value)} {rest : List Value} {I : Mi} {L : Ml} {Z : Mz}
def CwC (own : String) (idx : Nat) : Prop := Cond.methodLink own idx arraycopyName ∈ tb2 ∧ Cond.native arraycopyName ∈ tb2 ∧ Cond.static arraycopyName ∈ tb2 ∧ Cond.initialized "java/lang/System" ∈ tb2
theorem nn_int (z : Int32) (hz : ¬ z < 0) : z.toInt = (z.toNatClampNeg : Int) := by
  have hz0 : (0 : Int) ≤ z.toInt := by
    have := Int32.not_lt.mp hz
    simpa using Int32.le_iff_toInt_le.mp this
  show z.toInt = ((z.toInt.toNat : Nat) : Int)
  omega
/-- System.arraycopy, of ints -/
theorem aw_copy {idx a0 a1 : Nat} {sp dp n : Int32} (hd : decode cc pc = .ok (.invokestatic idx, 3)) (cw : CwC y.cls idx) (ha0 : a0 < zN Z) (ha1 : a1 < zN Z) (hz0 : zK Z a0 = 7) (hz1 : zK Z a1 = 7) (g1 : ¬ sp < 0) (g2 : ¬ dp < 0) (g3 : ¬ n < 0) (g4 : sp.toNatClampNeg + n.toNatClampNeg ≤ zL Z a0) (g5 : dp.toNatClampNeg + n.toNatClampNeg ≤ zL Z a1) (hR : 1 ≤ R.frames ∧ 64 ≤ R.locals) (hr : (rest.map fun v => v.category).sum ≤ 8)
    (kk : AW E y cc nL rt R Q cells slots (pc + 3) ls rest (rU I a1 (va_cpy (I a0) (I a1) sp.toNatClampNeg dp.toNatClampNeg n.toNatClampNeg)) L Z) : AW E y cc nL rt R Q cells slots pc ls (.int n :: .int dp :: .ref a1 :: .int sp :: .ref a0 :: rest) I L Z := by
  intro p e s m args below meth c H locs la Qe F hSim hS hL h1 h2
  obtain ⟨hx, hb, hml, hown, hts, hnm, hbs, hXC, hK, hXE, hret⟩ := id F
  obtain ⟨w1, w2, w3, w4⟩ := cw
  intro T hT X
  have hc0 := (hSim.2 a0 ha0).2.1 (Or.inl hz0)
  have hc1 := (hSim.2 a1 ha1).2.1 (Or.inl hz1)
  rw [hz0] at hc0
  rw [hz1] at hc1
  obtain ⟨-, k0, hk0, cm0, hkk0⟩ := (hK.2 0 _ rfl).1 (zL Z a0) (fun j => .int (I a0 j))
  obtain ⟨-, k1, hk1, cm1, hkk1⟩ := (hK.2 0 _ rfl).1 (zL Z a1) (fun j => .int (I a1 j))
  have hnf : 2 * (F0 m pc la ((Value.int n :: .int dp :: .ref a1 :: .int sp :: .ref a0 :: rest).map (cV E))).monitorRoom + ((rest.map (cV E)).map fun v => v.category).sum + (nativeFrameWords "java/lang/System" "arraycopy" 5 + 11) ≤ R.locals := by
    have h7 : nativeFrameWords "java/lang/System" "arraycopy" 5 = 7 := by decide
    rw [cV_sum, h7]
    show 2 * 0 + _ + _ ≤ _
    omega
  obtain ⟨vm', X', step⟩ := X.arraycopy hx hown (hts _ w1) (hts _ w2) (hts _ w3) (hts _ w4) (src := eB E + a0) (dst := eB E + a1) (cs := arrV (eC E 7) (zL Z a0) (fun j => .int (I a0 j))) (cd := arrV (eC E 7) (zL Z a1) (fun j => .int (I a1 j))) (srcPos := sp) (destPos := dp) (n := n) (by rw [hT]; exact hc0) (by rw [hT]; exact hc1)
    (fun _ h => by cases h) (fun _ h => by cases h) (fun h => by cases h) (fun h => by cases h) hk0 hk1 hkk0 hkk1 rfl g1 g2 g3
    (by rw [nn_int sp g1, nn_int n g3, arrV_size]; omega) (by rw [nn_int dp g2, nn_int n g3, arrV_size]; omega)
    (fun vm₁ _ i hi => by
      have e : (arrV (eC E 7) (zL Z a0) (fun j => .int (I a0 j))).slots.getD (sp.toNatClampNeg + i) .null = .int (I a0 (sp.toNatClampNeg + i)) := by
        rw [Array.getD_eq_getD_getElem?, arrV_read _ _ (by omega)]
        rfl
      rw [e]
      exact ⟨rfl, trivial⟩)
    (g := F0 m pc la ((Value.int n :: .int dp :: .ref a1 :: .int sp :: .ref a0 :: rest).map (cV E))) rfl (hL.1.trans hml.symm) (rest := rest.map (cV E)) rfl (by rw [hb]; exact hd) hR.1 hnf
  have e1 : copied (arrV (eC E 7) (zL Z a0) (fun j => .int (I a0 j))) (arrV (eC E 7) (zL Z a1) (fun j => .int (I a1 j))) sp dp n = arrV (eC E 7) (zL Z a1) (fun j => .int (va_cpy (I a0) (I a1) sp.toNatClampNeg dp.toNatClampNeg n.toNatClampNeg j)) := va_copied (fun z => .int z) (eC E 7) (eC E 7) (I a0) (I a1) g4
  rw [e1] at X' step
  have hl : eB E + a1 < H.size := (Array.getElem?_eq_some_iff.mp hc1).1
  have hheap : ((T.setVm vm').setCell (eB E + a1) (arrV (eC E 7) (zL Z a1) (fun j => .int (va_cpy (I a0) (I a1) sp.toNatClampNeg dp.toNatClampNeg n.toNatClampNeg j)))).heap = H.setIfInBounds (eB E + a1) (arrV (eC E 7) (zL Z a1) (fun j => .int (va_cpy (I a0) (I a1) sp.toNatClampNeg dp.toNatClampNeg n.toNatClampNeg j))) := by rw [← hT]; rfl
  generalize hH1 : H.setIfInBounds (eB E + a1) (arrV (eC E 7) (zL Z a1) (fun j => .int (va_cpy (I a0) (I a1) sp.toNatClampNeg dp.toNatClampNeg n.toNatClampNeg j))) = H1 at hheap
  have oq : ∀ q : Nat, q ≠ eB E + a1 → H1[q]? = H[q]? := fun q hq => by rw [← hH1]; simp [Array.getElem?_setIfInBounds, Ne.symm hq]
  have e2 : H1.size = H.size := by rw [← hH1]; simp
  have e3 : H1[eB E + a1]? = some (arrV (eC E 7) (zL Z a1) (fun j => .int (va_cpy (I a0) (I a1) sp.toNatClampNeg dp.toNatClampNeg n.toNatClampNeg j))) := by rw [← hH1]; simp [Array.getElem?_setIfInBounds, hl]
  obtain ⟨t, b1, b2⟩ := kk p e s m args below meth c H1 _ la Qe F (sim_row (I' := rU I a1 (va_cpy (I a0) (I a1) sp.toNatClampNeg dp.toNatClampNeg n.toNatClampNeg)) (f := va_cpy (I a0) (I a1) sp.toNatClampNeg dp.toNatClampNeg n.toNatClampNeg) hSim ha1 (Or.inl hz1) (fun b hb => by simp [rU, hb]) (fun j _ => by simp [rU]) (by rw [hz1]; exact e3) e2 oq) ⟨by rw [e2]; exact hS.1, fun q f1 f2 => by
      rw [oq q (fun e => f2 (by rw [e]; exact Nat.le_add_right _ _))]
      exact hS.2.1 q f1 f2, fun q hq => by
      rcases List.mem_append.mp hq with h | h
      · exact hS.2.2 q h
      · obtain ⟨z, -, rfl⟩ := List.mem_map.mp h
        exact Nat.le_add_right _ _⟩ hL h1 h2 _ hheap X'
  exact ⟨t, step t b1, b2⟩
end AWC
