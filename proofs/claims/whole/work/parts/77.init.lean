/-! ===== constructors ===== -/
theorem nU_id {α : Type} {K : Nat → α} {n : Nat} {x : α} (h : K n = x) : nU K n x = K := by
  funext b
  simp only [nU]
  split
  · rename_i e; rw [e, h]
  · rfl
theorem rU_id {I : Mi} {n : Nat} (h : I n = fun _ => 0) : rU I n (fun _ => 0) = I := by
  funext b
  simp only [rU]
  split
  · rename_i e; rw [e, h]
  · rfl
section AWT
variable {E : Ev} {y : MethodName} {cc : ByteArray} {nL : Nat} {rt : Option FieldType} {R : Room} {Q : Po} {cells slots pc : Nat} {ls ls' : List (Option Value)} {rest : List Value} {I : Mi} {L : Ml} {P : Nat → Nat → Option Nat} {K Ln : Nat → Nat} {n N : Nat}
theorem aw_niT {v : Int32} (hd : decode cc pc = .ok (.newarray .int, 2)) (hn : ¬ v < 0) (hN : v.toNatClampNeg = N) (hby : N ≤ 100000) (hc1 : cells + 1 ≤ R.cells) (hc2 : slots + N ≤ R.slots) (hk : K n = 7) (hl : Ln n = N) (hI : I n = fun _ => 0) (kk : AW E y cc nL rt R Q (cells + 1) (slots + N) (pc + 2) ls (.ref n :: rest) I L (P, K, Ln, n + 1)) : AW E y cc nL rt R Q cells slots pc ls (.int v :: rest) I L (P, K, Ln, n) := by
  refine aw_newi hd hn hN hby hc1 hc2 ac_int ?_
  show AW E y cc nL rt R Q (cells + 1) (slots + N) (pc + 2) ls (.ref n :: rest) (rU I n (fun _ => 0)) L (P, nU K n 7, nU Ln n N, n + 1)
  rw [rU_id hI, nU_id hk, nU_id hl]
  exact kk
theorem aw_nzT {v : Int32} (hd : decode cc pc = .ok (.newarray .boolean, 2)) (hn : ¬ v < 0) (hN : v.toNatClampNeg = N) (hby : N ≤ 100000) (hc1 : cells + 1 ≤ R.cells) (hc2 : slots + N ≤ R.slots) (hk : K n = 8) (hl : Ln n = N) (hI : I n = fun _ => 0) (kk : AW E y cc nL rt R Q (cells + 1) (slots + N) (pc + 2) ls (.ref n :: rest) I L (P, K, Ln, n + 1)) : AW E y cc nL rt R Q cells slots pc ls (.int v :: rest) I L (P, K, Ln, n) := by
  refine aw_newz hd hn hN hby hc1 hc2 ac_bool ?_
  show AW E y cc nL rt R Q (cells + 1) (slots + N) (pc + 2) ls (.ref n :: rest) (rU I n (fun _ => 0)) L (P, nU K n 8, nU Ln n N, n + 1)
  rw [rU_id hI, nU_id hk, nU_id hl]
  exact kk
theorem aw_nwT {idx ci : Nat} (hd : decode cc pc = .ok (.new idx, 3)) (hw : CwN y.cls idx ci N) (hc1 : cells + 1 ≤ R.cells) (hc2 : slots + N ≤ R.slots) (hk : K n = ci) (hl : Ln n = 0) (hI : I n = fun _ => 0) (hL : L n = fun _ => 0) (hP : P n = fun _ => none) (kk : AW E y cc nL rt R Q (cells + 1) (slots + N) (pc + 3) ls (.ref n :: rest) I L (P, K, Ln, n + 1)) : AW E y cc nL rt R Q cells slots pc ls rest I L (P, K, Ln, n) := by
  refine aw_new hd hw hc1 hc2 ?_
  show AW E y cc nL rt R Q (cells + 1) (slots + N) (pc + 3) ls (.ref n :: rest) (rU I n (fun _ => 0)) (fun b => if b = n then (fun _ => 0) else L b) (fun b => if b = n then (fun _ => none) else P b, nU K n ci, nU Ln n 0, n + 1)
  have e1 : (fun b => if b = n then (fun _ => 0) else L b) = L := by
    funext b
    split
    · rename_i e; rw [e, hL]
    · rfl
  have e2 : (fun b => if b = n then (fun _ => none) else P b) = P := by
    funext b
    split
    · rename_i e; rw [e, hP]
    · rfl
  rw [rU_id hI, nU_id hk, nU_id hl, e1, e2]
  exact kk
theorem aw_naT {idx kd : Nat} {C : String} {v : Int32} (hd : decode cc pc = .ok (.anewarray idx, 3)) (hkd : (kd = 9 ∧ C = RX2) ∨ (kd = 10 ∧ C = RX4)) (hw : Cond.classLink y.cls idx C ∈ tb2 ∧ Cond.arrayOver (.object C) ∈ tb2) (hn : ¬ v < 0) (hN : v.toNatClampNeg = N) (hby : N ≤ 100000) (hc1 : cells + 1 ≤ R.cells) (hc2 : slots + N ≤ R.slots) (hk : K n = kd) (hl : Ln n = N) (hP : P n = fun _ => none) (kk : AW E y cc nL rt R Q (cells + 1) (slots + N) (pc + 3) ls (.ref n :: rest) I L (P, K, Ln, n + 1)) : AW E y cc nL rt R Q cells slots pc ls (.int v :: rest) I L (P, K, Ln, n) := by
  refine aw_newa hd hkd hw.1 hw.2 hn hN hby hc1 hc2 ?_
  show AW E y cc nL rt R Q (cells + 1) (slots + N) (pc + 3) ls (.ref n :: rest) I L (fun b => if b = n then (fun _ => none) else P b, nU K n kd, nU Ln n N, n + 1)
  have e2 : (fun b => if b = n then (fun _ => none) else P b) = P := by
    funext b
    split
    · rename_i e; rw [e, hP]
    · rfl
  rw [nU_id hk, nU_id hl, e2]
  exact kk
/-- what isn't made yet may be told otherwise -/
theorem aw_mem {Z Z' : Mz} {I' : Mi} {L' : Ml} (hn : zN Z' = zN Z) (h : ∀ a, a < zN Z → I' a = I a ∧ L' a = L a ∧ zP Z' a = zP Z a ∧ zK Z' a = zK Z a ∧ zL Z' a = zL Z a) (kk : AW E y cc nL rt R Q cells slots pc ls rest I' L' Z') : AW E y cc nL rt R Q cells slots pc ls rest I L Z := by
  intro p e s m args below meth c H locs la Qe F hSim hS hL h1 h2
  refine kk p e s m args below meth c H locs la Qe F ⟨by rw [hSim.1, hn], fun a ha => ?_⟩ hS hL h1 h2
  rw [hn] at ha
  obtain ⟨g1, g2, g3, g4, g5⟩ := h a ha
  exact (hSim.2 a ha).same g1 g2 g3 g4 g5 rfl
end AWT
theorem c_X0_init {E : Ev} {d : Nat} {I : Mi} {L : Ml} {Q : Po} {P : Nat → Nat → Option Nat} {K Ln : Nat → Nat} {h : Nat} (hd : 1 ≤ d) (k0 : K h = 0) (k1 : K (h + 1) = 7) (l1 : Ln (h + 1) = 6) (i1 : I (h + 1) = fun _ => 0) (k2 : K (h + 2) = 7) (l2 : Ln (h + 2) = 6) (i2 : I (h + 2) = fun _ => 0) (k3 : K (h + 3) = 7) (l3 : Ln (h + 3) = 12) (i3 : I (h + 3) = fun _ => 0) (k4 : K (h + 4) = 7) (l4 : Ln (h + 4) = 12) (i4 : I (h + 4) = fun _ => 0) (k5 : K (h + 5) = 7) (l5 : Ln (h + 5) = 5) (i5 : I (h + 5) = fun _ => 0) (k6 : K (h + 6) = 7) (l6 : Ln (h + 6) = 5) (i6 : I (h + 6) = fun _ => 0) (k7 : K (h + 7) = 7) (l7 : Ln (h + 7) = 5) (i7 : I (h + 7) = fun _ => 0) (k8 : K (h + 8) = 7) (l8 : Ln (h + 8) = 6) (i8 : I (h + 8) = fun _ => 0) (hQ : Q none I L ((pU (pU (pU (pU (pU (pU (pU (pU (pU P h 4 (some (h + 1))) h 5 (some (h + 2))) h 7 (some (h + 3))) h 8 (some (h + 4))) h 10 (some (h + 5))) h 11 (some (h + 6))) h 12 (some (h + 7))) h 14 (some (h + 8))) h 0 (some 1)), K, Ln, h + 9)) : AC E yX0_init cX0_init 2 none d 8 57 [.ref h, .ref 1] I L (P, K, Ln, h + 1) Q := by
  refine ac_go (ls := [some (.ref h), some (.ref 1)]) (by decide +kernel) (Nat.le_of_ble_eq_true rfl) rfl ?_
  refine aw_aload_n dX0_init_0 rfl rfl ?_
  refine aw_objInit dX0_init_1 cw_X0_3 oi_ok.1 oi_ok.2 ⟨hd, by show 20 ≤ 64 * d; omega⟩ (by decide) ?_
  refine aw_aload_n dX0_init_4 rfl rfl ?_
  refine aw_bipush (v := 6) dX0_init_5 (by decide) ?_
  refine aw_niT (n := h + 1) (N := 6) dX0_init_7 (by decide) (by decide) (by decide) (show 0 + 1 ≤ 8 by decide) (show 0 + 6 ≤ 57 by decide) k1 l1 i1 ?_
  refine aw_pp dX0_init_9 fw_X0_9 ww_X0_9 (show ObjZ _ h 0 from ⟨by show h < h + 1 + 1; omega, k0⟩) ?_
  refine aw_aload_n dX0_init_12 rfl rfl ?_
  refine aw_bipush (v := 6) dX0_init_13 (by decide) ?_
  refine aw_niT (n := h + 2) (N := 6) dX0_init_15 (by decide) (by decide) (by decide) (show 1 + 1 ≤ 8 by decide) (show 6 + 6 ≤ 57 by decide) k2 l2 i2 ?_
  refine aw_pp dX0_init_17 fw_X0_15 ww_X0_15 (show ObjZ _ h 0 from ⟨by show h < h + 2 + 1; omega, k0⟩) ?_
  refine aw_aload_n dX0_init_20 rfl rfl ?_
  refine aw_bipush (v := 12) dX0_init_21 (by decide) ?_
  refine aw_niT (n := h + 3) (N := 12) dX0_init_23 (by decide) (by decide) (by decide) (show 2 + 1 ≤ 8 by decide) (show 12 + 12 ≤ 57 by decide) k3 l3 i3 ?_
  refine aw_pp dX0_init_25 fw_X0_18 ww_X0_18 (show ObjZ _ h 0 from ⟨by show h < h + 3 + 1; omega, k0⟩) ?_
  refine aw_aload_n dX0_init_28 rfl rfl ?_
  refine aw_bipush (v := 12) dX0_init_29 (by decide) ?_
  refine aw_niT (n := h + 4) (N := 12) dX0_init_31 (by decide) (by decide) (by decide) (show 3 + 1 ≤ 8 by decide) (show 24 + 12 ≤ 57 by decide) k4 l4 i4 ?_
  refine aw_pp dX0_init_33 fw_X0_21 ww_X0_21 (show ObjZ _ h 0 from ⟨by show h < h + 4 + 1; omega, k0⟩) ?_
  refine aw_aload_n dX0_init_36 rfl rfl ?_
  refine aw_iconst (v := 5) dX0_init_37 (by decide) ?_
  refine aw_niT (n := h + 5) (N := 5) dX0_init_38 (by decide) (by decide) (by decide) (show 4 + 1 ≤ 8 by decide) (show 36 + 5 ≤ 57 by decide) k5 l5 i5 ?_
  refine aw_pp dX0_init_40 fw_X0_24 ww_X0_24 (show ObjZ _ h 0 from ⟨by show h < h + 5 + 1; omega, k0⟩) ?_
  refine aw_aload_n dX0_init_43 rfl rfl ?_
  refine aw_iconst (v := 5) dX0_init_44 (by decide) ?_
  refine aw_niT (n := h + 6) (N := 5) dX0_init_45 (by decide) (by decide) (by decide) (show 5 + 1 ≤ 8 by decide) (show 41 + 5 ≤ 57 by decide) k6 l6 i6 ?_
  refine aw_pp dX0_init_47 fw_X0_27 ww_X0_27 (show ObjZ _ h 0 from ⟨by show h < h + 6 + 1; omega, k0⟩) ?_
  refine aw_aload_n dX0_init_50 rfl rfl ?_
  refine aw_iconst (v := 5) dX0_init_51 (by decide) ?_
  refine aw_niT (n := h + 7) (N := 5) dX0_init_52 (by decide) (by decide) (by decide) (show 6 + 1 ≤ 8 by decide) (show 46 + 5 ≤ 57 by decide) k7 l7 i7 ?_
  refine aw_pp dX0_init_54 fw_X0_30 ww_X0_30 (show ObjZ _ h 0 from ⟨by show h < h + 7 + 1; omega, k0⟩) ?_
  refine aw_aload_n dX0_init_57 rfl rfl ?_
  refine aw_bipush (v := 6) dX0_init_58 (by decide) ?_
  refine aw_niT (n := h + 8) (N := 6) dX0_init_60 (by decide) (by decide) (by decide) (show 7 + 1 ≤ 8 by decide) (show 51 + 6 ≤ 57 by decide) k8 l8 i8 ?_
  refine aw_pp dX0_init_62 fw_X0_33 ww_X0_33 (show ObjZ _ h 0 from ⟨by show h < h + 8 + 1; omega, k0⟩) ?_
  refine aw_aload_n dX0_init_65 rfl rfl ?_
  refine aw_aload_n dX0_init_66 rfl rfl ?_
  refine aw_pp dX0_init_67 fw_X0_36 ww_X0_36 (show ObjZ _ h 0 from ⟨by show h < h + 8 + 1; omega, k0⟩) ?_
  exact aw_return dX0_init_70 rfl hQ
theorem c_X1_init {E : Ev} {d : Nat} {I : Mi} {L : Ml} {Q : Po} {P : Nat → Nat → Option Nat} {K Ln : Nat → Nat} {h : Nat} (hd : 1 ≤ d) (k0 : K h = 1) (k1 : K (h + 1) = 7) (l1 : Ln (h + 1) = 160) (i1 : I (h + 1) = fun _ => 0) (k2 : K (h + 2) = 7) (l2 : Ln (h + 2) = 161) (i2 : I (h + 2) = fun _ => 0) (k3 : K (h + 3) = 7) (l3 : Ln (h + 3) = 161) (i3 : I (h + 3) = fun _ => 0) (k4 : K (h + 4) = 7) (l4 : Ln (h + 4) = 161) (i4 : I (h + 4) = fun _ => 0) (k5 : K (h + 5) = 7) (l5 : Ln (h + 5) = 160) (i5 : I (h + 5) = fun _ => 0) (hQ : Q none I L ((pU (pU (pU (pU (pU P h 0 (some (h + 1))) h 2 (some (h + 2))) h 3 (some (h + 3))) h 4 (some (h + 4))) h 7 (some (h + 5))), K, Ln, h + 6)) : AC E yX1_init cX1_init 1 none d 5 803 [.ref h] I L (P, K, Ln, h + 1) Q := by
  refine ac_go (ls := [some (.ref h)]) (by decide +kernel) (Nat.le_of_ble_eq_true rfl) rfl ?_
  refine aw_aload_n dX1_init_0 rfl rfl ?_
  refine aw_objInit dX1_init_1 cw_X1_3 oi_ok.1 oi_ok.2 ⟨hd, by show 20 ≤ 64 * d; omega⟩ (by decide) ?_
  refine aw_aload_n dX1_init_4 rfl rfl ?_
  refine aw_sipush (v := 160) dX1_init_5 (by decide) ?_
  refine aw_niT (n := h + 1) (N := 160) dX1_init_8 (by decide) (by decide) (by decide) (show 0 + 1 ≤ 5 by decide) (show 0 + 160 ≤ 803 by decide) k1 l1 i1 ?_
  refine aw_pp dX1_init_10 fw_X1_9 ww_X1_9 (show ObjZ _ h 1 from ⟨by show h < h + 1 + 1; omega, k0⟩) ?_
  refine aw_aload_n dX1_init_13 rfl rfl ?_
  refine aw_sipush (v := 161) dX1_init_14 (by decide) ?_
  refine aw_niT (n := h + 2) (N := 161) dX1_init_17 (by decide) (by decide) (by decide) (show 1 + 1 ≤ 5 by decide) (show 160 + 161 ≤ 803 by decide) k2 l2 i2 ?_
  refine aw_pp dX1_init_19 fw_X1_15 ww_X1_15 (show ObjZ _ h 1 from ⟨by show h < h + 2 + 1; omega, k0⟩) ?_
  refine aw_aload_n dX1_init_22 rfl rfl ?_
  refine aw_sipush (v := 161) dX1_init_23 (by decide) ?_
  refine aw_niT (n := h + 3) (N := 161) dX1_init_26 (by decide) (by decide) (by decide) (show 2 + 1 ≤ 5 by decide) (show 321 + 161 ≤ 803 by decide) k3 l3 i3 ?_
  refine aw_pp dX1_init_28 fw_X1_18 ww_X1_18 (show ObjZ _ h 1 from ⟨by show h < h + 3 + 1; omega, k0⟩) ?_
  refine aw_aload_n dX1_init_31 rfl rfl ?_
  refine aw_sipush (v := 161) dX1_init_32 (by decide) ?_
  refine aw_niT (n := h + 4) (N := 161) dX1_init_35 (by decide) (by decide) (by decide) (show 3 + 1 ≤ 5 by decide) (show 482 + 161 ≤ 803 by decide) k4 l4 i4 ?_
  refine aw_pp dX1_init_37 fw_X1_21 ww_X1_21 (show ObjZ _ h 1 from ⟨by show h < h + 4 + 1; omega, k0⟩) ?_
  refine aw_aload_n dX1_init_40 rfl rfl ?_
  refine aw_sipush (v := 160) dX1_init_41 (by decide) ?_
  refine aw_niT (n := h + 5) (N := 160) dX1_init_44 (by decide) (by decide) (by decide) (show 4 + 1 ≤ 5 by decide) (show 643 + 160 ≤ 803 by decide) k5 l5 i5 ?_
  refine aw_pp dX1_init_46 fw_X1_24 ww_X1_24 (show ObjZ _ h 1 from ⟨by show h < h + 5 + 1; omega, k0⟩) ?_
  exact aw_return dX1_init_49 rfl hQ
theorem c_X2_init {E : Ev} {d : Nat} {I : Mi} {L : Ml} {Q : Po} {P : Nat → Nat → Option Nat} {K Ln : Nat → Nat} {h : Nat} (hd : 1 ≤ d) (k0 : K h = 2) (k1 : K (h + 1) = 7) (l1 : Ln (h + 1) = 40) (i1 : I (h + 1) = fun _ => 0) (hQ : Q none (iU I h 1 (-1)) L ((pU P h 0 (some (h + 1))), K, Ln, h + 2)) : AC E yX2_init cX2_init 1 none d 1 40 [.ref h] I L (P, K, Ln, h + 1) Q := by
  refine ac_go (ls := [some (.ref h)]) (by decide +kernel) (Nat.le_of_ble_eq_true rfl) rfl ?_
  refine aw_aload_n dX2_init_0 rfl rfl ?_
  refine aw_objInit dX2_init_1 cw_X2_3 oi_ok.1 oi_ok.2 ⟨hd, by show 20 ≤ 64 * d; omega⟩ (by decide) ?_
  refine aw_aload_n dX2_init_4 rfl rfl ?_
  refine aw_bipush (v := 40) dX2_init_5 (by decide) ?_
  refine aw_niT (n := h + 1) (N := 40) dX2_init_7 (by decide) (by decide) (by decide) (show 0 + 1 ≤ 1 by decide) (show 0 + 40 ≤ 40 by decide) k1 l1 i1 ?_
  refine aw_pp dX2_init_9 fw_X2_9 ww_X2_9 (show ObjZ _ h 2 from ⟨by show h < h + 1 + 1; omega, k0⟩) ?_
  refine aw_aload_n dX2_init_12 rfl rfl ?_
  refine aw_iconst (v := -1) dX2_init_13 (by decide) ?_
  refine aw_pi dX2_init_14 fw_X2_15 (ww_X2_15 _) (show ObjZ _ h 2 from ⟨by show h < h + 1 + 1; omega, k0⟩) rfl ?_
  exact aw_return dX2_init_17 rfl hQ
theorem c_X3_init {E : Ev} {d : Nat} {I : Mi} {L : Ml} {Q : Po} {P : Nat → Nat → Option Nat} {K Ln : Nat → Nat} {h : Nat} (hd : 1 ≤ d) (k0 : K h = 3) (k1 : K (h + 1) = 10) (l1 : Ln (h + 1) = 6) (p1 : P (h + 1) = fun _ => none) (k2 : K (h + 2) = 7) (l2 : Ln (h + 2) = 160) (i2 : I (h + 2) = fun _ => 0) (hQ : Q none I L ((pU (pU P h 0 (some (h + 1))) h 1 (some (h + 2))), K, Ln, h + 3)) : AC E yX3_init cX3_init 1 none d 2 166 [.ref h] I L (P, K, Ln, h + 1) Q := by
  refine ac_go (ls := [some (.ref h)]) (by decide +kernel) (Nat.le_of_ble_eq_true rfl) rfl ?_
  refine aw_aload_n dX3_init_0 rfl rfl ?_
  refine aw_objInit dX3_init_1 cw_X3_3 oi_ok.1 oi_ok.2 ⟨hd, by show 20 ≤ 64 * d; omega⟩ (by decide) ?_
  refine aw_aload_n dX3_init_4 rfl rfl ?_
  refine aw_bipush (v := 6) dX3_init_5 (by decide) ?_
  refine aw_naT (n := h + 1) (N := 6) dX3_init_7 (Or.inr ⟨rfl, rfl⟩) na_X3_9 (by decide) (by decide) (by decide) (show 0 + 1 ≤ 2 by decide) (show 0 + 6 ≤ 166 by decide) k1 l1 p1 ?_
  refine aw_pp dX3_init_10 fw_X3_11 ww_X3_11 (show ObjZ _ h 3 from ⟨by show h < h + 1 + 1; omega, k0⟩) ?_
  refine aw_aload_n dX3_init_13 rfl rfl ?_
  refine aw_sipush (v := 160) dX3_init_14 (by decide) ?_
  refine aw_niT (n := h + 2) (N := 160) dX3_init_17 (by decide) (by decide) (by decide) (show 1 + 1 ≤ 2 by decide) (show 6 + 160 ≤ 166 by decide) k2 l2 i2 ?_
  refine aw_pp dX3_init_19 fw_X3_17 ww_X3_17 (show ObjZ _ h 3 from ⟨by show h < h + 2 + 1; omega, k0⟩) ?_
  exact aw_return dX3_init_22 rfl hQ
theorem getD_far {α : Type} {l : List α} {i : Nat} {d : α} (h : l.length ≤ i) : l.getD i d = d := by rw [List.getD_eq_getElem?_getD, List.getElem?_eq_none h]; rfl
def kC (a : Nat) : Nat := [5, 3, 10, 7, 1, 7, 7, 7, 7, 7, 0, 7, 7, 7, 7, 7, 7, 7, 7, 0, 7, 7, 7, 7, 7, 7, 7, 7, 0, 7, 7, 7, 7, 7, 7, 7, 7, 9, 2, 7, 2, 7, 2, 7, 2, 7].getD a 0
def lC (a : Nat) : Nat := [0, 0, 6, 160, 0, 160, 161, 161, 161, 160, 0, 6, 6, 12, 12, 5, 5, 5, 6, 0, 6, 6, 12, 12, 5, 5, 5, 6, 0, 6, 6, 12, 12, 5, 5, 5, 6, 4, 0, 40, 0, 40, 0, 40, 0, 40].getD a 0
def b0 (j : Nat) : Int32 := (byS.getD 0 []).getD j 0
def m0 (j : Nat) : Int32 := [116, 117, 114, 110, 115, 32, 48, 32, 59, 32, 109, 105, 115, 115, 101, 115, 32, 115, 97, 121, 105, 110, 103, 32, 59, 32, 98, 111, 117, 110, 100, 115, 32, 57, 32, 59, 32, 32, 32, 32].getD j 0
def S0 (k : Nat) : Nat := [4, 2, 12, 5, 3, 12, 6, 2, 12].getD k 0
def V0 (k : Nat) : Nat := [0, 0, 0, 0, 1, 0, 0, 9].getD k 0
theorem pl_n {B : Nat → Int32} {n j : Nat} (h : plF B n j = n) : ∀ k, j ≤ k → plF B n k = n := by
  intro k
  induction k with
  | zero => intro hk; rw [show 0 = j by omega]; exact h
  | succ k ih =>
    intro hk
    by_cases e : j = k + 1
    · rw [← e]; exact h
    · show bkE B n (enT B n (plF B n k)) = n
      rw [ih (by omega)]
      have h1 := en_bd (B := B) (Nat.le_refl n)
      have h2 := bk_bd (B := B) h1.1
      omega
theorem tok_b : ∀ k, k < 10 → SS b0 36 k = S0 k ∧ VV b0 36 k = V0 k := by decide +kernel
theorem tok_m : ∀ k, k < 10 → SS m0 40 k = S0 k ∧ VV m0 40 k = V0 k := by decide +kernel
theorem pl_b : plF b0 36 9 = 36 := by decide +kernel
theorem pl_m : plF m0 40 9 = 40 := by decide +kernel
theorem S0_far {k : Nat} (h : 9 ≤ k) : S0 k = 0 ∧ V0 k = 0 := by
  constructor
  · unfold S0; exact getD_far h
  · unfold V0; exact getD_far (by simp only [List.length_cons, List.length_nil]; omega)
theorem tok_far {B : Nat → Int32} {n k : Nat} (h : plF B n 9 = n) (hk : 9 ≤ k) : SS B n k = 0 ∧ VV B n k = 0 := by
  have e := pl_n h k hk
  have hc : cdF B n n = 0 := by unfold cdF; rw [if_neg (Nat.lt_irrefl n)]
  constructor
  · unfold SS soF; rw [e, hc]; rfl
  · unfold VV vlF; rw [e, hc]; rfl
theorem tokS_b : SS b0 36 = S0 ∧ VV b0 36 = V0 := by
  constructor
  · funext k
    rcases Nat.lt_or_ge k 10 with g | g
    · exact (tok_b k g).1
    · rw [(tok_far pl_b (by omega)).1, (S0_far (by omega)).1]
  · funext k
    rcases Nat.lt_or_ge k 10 with g | g
    · exact (tok_b k g).2
    · rw [(tok_far pl_b (by omega)).2, (S0_far (by omega)).2]
theorem tokS_m : SS m0 40 = S0 ∧ VV m0 40 = V0 := by
  constructor
  · funext k
    rcases Nat.lt_or_ge k 10 with g | g
    · exact (tok_m k g).1
    · rw [(tok_far pl_m (by omega)).1, (S0_far (by omega)).1]
  · funext k
    rcases Nat.lt_or_ge k 10 with g | g
    · exact (tok_m k g).2
    · rw [(tok_far pl_m (by omega)).2, (S0_far (by omega)).2]
theorem txS : txR S0 V0 = (9, some (([stI 2 0], fun _ => nI 0), ([stI 3 1], fun nm => nm 1), ([stI 2 9], fun _ => nI 9))) := rfl
theorem l_X5_init {E : Ev} {d : Nat} {I : Mi} {L : Ml} {Z : Mz} {Q : Po} {N : Nat} {xs : Nat → Int32} (hd : 5 ≤ d) (hE : EXT E N xs) (hO : ObjZ Z 0 5) (hp : zP Z 0 1 = some 4) (hC : ScZ Z) (kk : ∀ M : Mi, M 4 1 = nI 36 → M 5 = b0 → (∀ a i, a ≠ 5 → ¬ (a = 4 ∧ i = 1) → M a i = I a i) → AW E yX5_init cX5_init 2 none (rmOf d 47 1537) Q 45 1374 136 [some (.ref 0), some (.int (nI 36))] [] M L Z) : ∀ (k j : Nat) (M : Mi), j + k = 36 → M 4 1 = nI j → (∀ i, i < j → M 5 i = b0 i) → (∀ i, j ≤ i → M 5 i = 0) → (∀ a i, a ≠ 5 → ¬ (a = 4 ∧ i = 1) → M a i = I a i) → AW E yX5_init cX5_init 2 none (rmOf d 47 1537) Q 45 1374 107 [some (.ref 0), some (.int (nI j))] [] M L Z := by
  intro k
  induction k with
  | zero =>
    intro j M hk h4 h5 h6 h7
    have ej : j = 36 := by omega
    subst ej
    refine aw_iload_n dX5_init_107 rfl ?_
    refine aw_ldcS 0 hE (by decide) ⟨rfl, rfl⟩ dX5_init_108 ?_
    refine aw_X0 dX5_init_110 cw_X5_47 (xt_str hE (by decide)) (by omega) (show 45 ≤ 47 ∧ 1374 ≤ 1537 by decide) (by simp [Value.category, psh]) (c_length (by omega) hE (by decide) ?_)
    refine aw_icmp_ge (tgt := 136) dX5_init_113 (by decide) (fun _ => ?_) (fun zz => absurd (by decide) zz)
    refine kk M h4 ?_ h7
    funext i
    rcases Nat.lt_or_ge i 36 with g | g
    · exact h5 i g
    · rw [h6 i g]; unfold b0; exact (getD_far (l := byS.getD 0 []) (show (byS.getD 0 []).length ≤ i from g)).symm
  | succ k ih =>
    intro j M hk h4 h5 h6 h7
    refine aw_iload_n dX5_init_107 rfl ?_
    refine aw_ldcS 0 hE (by decide) ⟨rfl, rfl⟩ dX5_init_108 ?_
    refine aw_X0 dX5_init_110 cw_X5_47 (xt_str hE (by decide)) (by omega) (show 45 ≤ 47 ∧ 1374 ≤ 1537 by decide) (by simp [Value.category, psh]) (c_length (by omega) hE (by decide) ?_)
    refine aw_icmp_ge (tgt := 136) dX5_init_113 (by decide) (fun zz => absurd zz (nI_ge (b := 36) (by omega) (by decide))) (fun _ => ?_)
    refine aw_aload_n dX5_init_116 rfl rfl ?_
    refine aw_gr dX5_init_117 fw_X5_19 hO hp ?_
    refine aw_ldcS 0 hE (by decide) ⟨rfl, rfl⟩ dX5_init_120 ?_
    refine aw_iload_n dX5_init_122 rfl ?_
    refine aw_X1 dX5_init_123 cw_X5_53 (xt_str hE (by decide)) (by omega) (show 45 ≤ 47 ∧ 1374 ≤ 1537 by decide) (by simp [Value.category, psh]) (c_charAt (by omega) hE (by decide) (show j < 36 by omega) ?_)
    refine aw_V1 dX5_init_126 cw_X5_57 ⟨_, _, rfl⟩ hC.1 (by omega) (show 45 ≤ 47 ∧ 1374 ≤ 1537 by decide) (by simp [Value.category, psh]) (c_X1_put (n := j) hC h4 (by omega) (fun w => absurd w (by omega)) (fun _ => ?_))
    refine aw_pop dX5_init_129 rfl ?_
    refine aw_iinc (v := nI (j + 1)) (ls' := [_, _]) dX5_init_130 rfl (nI_1 j) (by decide) rfl rfl ?_
    refine aw_goto (tgt := 107) dX5_init_133 (by decide) ?_
    refine ih (j + 1) _ (by omega) iU_same (fun i hi => ?_) (fun i hi => ?_) (fun a i g1 g2 => ?_)
    · rw [iU_at (by omega)]
      by_cases e : i = j
      · subst e; rw [iU_same]; rfl
      · rw [iU_at (by omega)]; exact h5 i (by omega)
    · rw [iU_at (by omega), iU_at (by omega)]; exact h6 i (by omega)
    · rw [iU_at (by omega), iU_at (by omega)]; exact h7 a i g1 g2
theorem t_X5_init {E : Ev} {d : Nat} {M : Mi} {L : Ml} {Z : Mz} {Q : Po} {N : Nat} {xs : Nat → Int32} (hd : 52 ≤ d) (hE : EXT E N xs) (hG : GZ Z) (h10 : zK Z 2 = 10) (hz : zN Z = 46) (h4 : M 4 1 = nI 36) (h5 : M 5 = b0) (h12 : M 1 2 = 0) (hQ : ∀ (J : Mi) (K : Ml) (Y : Mz), (∀ a j, a < 46 → ¬ (a = 4 ∧ 5 ≤ j) → (a < 6 ∨ 9 < a) → J a j = M a j) → GZ Y → zK Y 2 = 10 → zN Y = 48 → zP Y 2 0 = some 46 → TxZ Y 46 47 3 → J 46 1 = nI 1 → J 46 2 = nI 2 → AtS (J 47) 0 [stI 2 0, stI 3 1, stI 2 9] → Q none (iU (iU J 1 2 (nI 1)) 4 1 0) K Y) : AW E yX5_init cX5_init 2 none (rmOf d 47 1537) Q 45 1374 136 [some (.ref 0), some (.int (nI 36))] [] M L Z := by
  have hS : ShZ Z := hG.2.2.2.2.2.2.2.2.2.2.2.2.1
  have hC : ScZ Z := hG.2.2.2.2.2.2.2.2.2.2.2.2.2
  refine aw_aload_n dX5_init_136 rfl rfl ?_
  refine aw_gr dX5_init_137 fw_X5_10 hG.1 hG.2.1 ?_
  refine aw_aload_n dX5_init_140 rfl rfl ?_
  refine aw_gr dX5_init_141 fw_X5_19 hG.1 hG.2.2.1 ?_
  refine aw_callV (As := []) dX5_init_144 cw_X5_61 ⟨_, _, rfl⟩ hC.1.1 hC.1.2 rfl rfl (rm_ok (by omega)) (show 45 + 2 ≤ 47 ∧ 1374 + 163 ≤ 1537 by decide) (by decide) (c_X1_compiled (d := d - 1) (by omega) hE hC h4 (by decide) (fun k' e J s e9 => ?_) (fun k' x1 x2 x3 e J K Y fr gr en e2 tx j1 j2 at3 l3 v1 v2 v3 => ?_))
  · rw [h5, tokS_b.1, tokS_b.2, txS] at e
    cases e
  · rw [h5, tokS_b.1, tokS_b.2, txS] at e
    cases e
    have hG2 := hG.gro gr
    have hS2 : ShZ Y := hG2.2.2.2.2.2.2.2.2.2.2.2.2.1
    have hC2 : ScZ Y := hG2.2.2.2.2.2.2.2.2.2.2.2.2.2
    have k10 : zK Y 2 = 10 := by rw [(gr.2 2 hS.2.2.2.2.1).2.1]; exact h10
    have hG3 : GZ (pU (zP Y) 2 0 (some (zN Z)), Y.2) := hG.gro (gr.pu (Or.inl rfl))
    refine aw_V1 dX5_init_147 cw_X5_65 ⟨_, _, rfl⟩ hS2.1 (by omega) (show 45 + 2 ≤ 47 ∧ 1374 + 163 ≤ 1537 by decide) (by decide) (c_X3_keep (n := 0) (by omega) hS2 k10 (by rw [fr 1 2 (by omega) (by omega) (by omega)]; exact h12) (by decide) tx.1 ?_)
    refine aw_pop dX5_init_150 rfl ?_
    refine aw_aload_n dX5_init_151 rfl rfl ?_
    refine aw_gr dX5_init_152 fw_X5_19 hG3.1 hG3.2.2.1 ?_
    refine aw_V0 dX5_init_155 cw_X5_69 ⟨_, _, rfl⟩ hC2.1 (by omega) (show 45 + 2 ≤ 47 ∧ 1374 + 163 ≤ 1537 by decide) (by decide) (c_X1_clear (hG3.2.2.2.2.2.2.2.2.2.2.2.2.2) ?_)
    refine aw_return dX5_init_158 rfl ?_
    rw [hz] at fr en j1 j2 at3 tx hG3 ⊢
    refine hQ J K _ fr hG3 k10 en ?_ ⟨tx.1, ?_, tx.2.2⟩ j1 j2 at3
    · show pU (zP Y) 2 0 (some 46) 2 0 = some 46
      rw [pU, if_pos ⟨rfl, rfl⟩]
    · show pU (zP Y) 2 0 (some 46) 46 0 = some 47
      rw [pU, if_neg (by omega)]
      exact tx.2.1
def iC (a j : Nat) : Int32 := if (a = 38 ∨ a = 40 ∨ a = 42 ∨ a = 44) ∧ j = 1 then -1 else 0
theorem c_X5_init {E : Ev} {d : Nat} {Q : Po} {N : Nat} {xs : Nat → Int32} (hd : 52 ≤ d) (hE : EXT E N xs) (hQ : ∀ (J : Mi) (K : Ml) (Y : Mz), (∀ a j, a < 46 → (a < 4 ∨ 9 < a) → ¬ (a = 1 ∧ j = 2) → J a j = iC a j) → J 1 2 = nI 1 → J 4 1 = 0 → GZ Y → zK Y 2 = 10 → zN Y = 48 → zP Y 2 0 = some 46 → TxZ Y 46 47 3 → J 46 1 = nI 1 → J 46 2 = nI 2 → AtS (J 47) 0 [stI 2 0, stI 3 1, stI 2 9] → Q none J K Y) : AC E yX5_init cX5_init 2 none d 47 1537 [.ref 0] (fun _ _ => 0) (fun _ _ => 0) (fun _ _ => none, kC, lC, 1) Q := by
  refine ac_go (ls := [some (.ref 0), none]) (by decide +kernel) (Nat.le_of_ble_eq_true rfl) rfl ?_
  refine aw_aload_n dX5_init_0 rfl rfl ?_
  refine aw_objInit dX5_init_1 cw_X5_1 oi_ok.1 oi_ok.2 ⟨by show 1 ≤ d; omega, by show 20 ≤ 64 * d; omega⟩ (by decide) ?_
  refine aw_aload_n dX5_init_4 rfl rfl ?_
  refine aw_nwT (n := 1) dX5_init_5 nw_X5_7 (show 0 + 1 ≤ 47 by decide) (show 0 + 3 ≤ 1537 by decide) rfl rfl (funext fun _ => rfl) (funext fun _ => rfl) (funext fun _ => rfl) ?_
  refine aw_dup dX5_init_8 rfl ?_
  refine aw_callI (As := []) dX5_init_9 cw_X5_9 rfl rfl (rm_ok (by omega)) (show 1 + 2 ≤ 47 ∧ 3 + 166 ≤ 1537 by decide) (by decide) (c_X3_init (d := d - 1) (h := 1) (by omega) rfl rfl rfl (funext fun _ => rfl) rfl rfl (funext fun _ => rfl) ?_)
  refine aw_pp dX5_init_12 fw_X5_10 ww_X5_10 (show ObjZ _ 0 5 from ⟨by decide, rfl⟩) ?_
  refine aw_aload_n dX5_init_15 rfl rfl ?_
  refine aw_nwT (n := 4) dX5_init_16 nw_X5_16 (show 3 + 1 ≤ 47 by decide) (show 169 + 10 ≤ 1537 by decide) rfl rfl (funext fun _ => rfl) (funext fun _ => rfl) (funext fun _ => rfl) ?_
  refine aw_dup dX5_init_19 rfl ?_
  refine aw_callI (As := []) dX5_init_20 cw_X5_18 rfl rfl (rm_ok (by omega)) (show 4 + 5 ≤ 47 ∧ 179 + 803 ≤ 1537 by decide) (by decide) (c_X1_init (d := d - 1) (h := 4) (by omega) rfl rfl rfl (funext fun _ => rfl) rfl rfl (funext fun _ => rfl) rfl rfl (funext fun _ => rfl) rfl rfl (funext fun _ => rfl) rfl rfl (funext fun _ => rfl) ?_)
  refine aw_pp dX5_init_23 fw_X5_19 ww_X5_19 (show ObjZ _ 0 5 from ⟨by decide, rfl⟩) ?_
  refine aw_aload_n dX5_init_26 rfl rfl ?_
  refine aw_nwT (n := 10) dX5_init_27 nw_X5_23 (show 9 + 1 ≤ 47 by decide) (show 982 + 15 ≤ 1537 by decide) rfl rfl (funext fun _ => rfl) (funext fun _ => rfl) (funext fun _ => rfl) ?_
  refine aw_dup dX5_init_30 rfl ?_
  refine aw_aload_n dX5_init_31 rfl rfl ?_
  refine aw_gr dX5_init_32 fw_X5_10 (show ObjZ _ 0 5 from ⟨by decide, rfl⟩) (b := 1) rfl ?_
  refine aw_callI (As := [.ref 1]) dX5_init_35 cw_X5_25 rfl rfl (rm_ok (by omega)) (show 10 + 8 ≤ 47 ∧ 997 + 57 ≤ 1537 by decide) (by decide) (c_X0_init (d := d - 1) (h := 10) (by omega) rfl rfl rfl (funext fun _ => rfl) rfl rfl (funext fun _ => rfl) rfl rfl (funext fun _ => rfl) rfl rfl (funext fun _ => rfl) rfl rfl (funext fun _ => rfl) rfl rfl (funext fun _ => rfl) rfl rfl (funext fun _ => rfl) rfl rfl (funext fun _ => rfl) ?_)
  refine aw_pp dX5_init_38 fw_X5_28 ww_X5_28 (show ObjZ _ 0 5 from ⟨by decide, rfl⟩) ?_
  refine aw_aload_n dX5_init_41 rfl rfl ?_
  refine aw_nwT (n := 19) dX5_init_42 nw_X5_23 (show 18 + 1 ≤ 47 by decide) (show 1054 + 15 ≤ 1537 by decide) rfl rfl (funext fun _ => rfl) (funext fun _ => rfl) (funext fun _ => rfl) ?_
  refine aw_dup dX5_init_45 rfl ?_
  refine aw_aload_n dX5_init_46 rfl rfl ?_
  refine aw_gr dX5_init_47 fw_X5_10 (show ObjZ _ 0 5 from ⟨by decide, rfl⟩) (b := 1) rfl ?_
  refine aw_callI (As := [.ref 1]) dX5_init_50 cw_X5_25 rfl rfl (rm_ok (by omega)) (show 19 + 8 ≤ 47 ∧ 1069 + 57 ≤ 1537 by decide) (by decide) (c_X0_init (d := d - 1) (h := 19) (by omega) rfl rfl rfl (funext fun _ => rfl) rfl rfl (funext fun _ => rfl) rfl rfl (funext fun _ => rfl) rfl rfl (funext fun _ => rfl) rfl rfl (funext fun _ => rfl) rfl rfl (funext fun _ => rfl) rfl rfl (funext fun _ => rfl) rfl rfl (funext fun _ => rfl) ?_)
  refine aw_pp dX5_init_53 fw_X5_32 ww_X5_32 (show ObjZ _ 0 5 from ⟨by decide, rfl⟩) ?_
  refine aw_aload_n dX5_init_56 rfl rfl ?_
  refine aw_nwT (n := 28) dX5_init_57 nw_X5_23 (show 27 + 1 ≤ 47 by decide) (show 1126 + 15 ≤ 1537 by decide) rfl rfl (funext fun _ => rfl) (funext fun _ => rfl) (funext fun _ => rfl) ?_
  refine aw_dup dX5_init_60 rfl ?_
  refine aw_aload_n dX5_init_61 rfl rfl ?_
  refine aw_gr dX5_init_62 fw_X5_10 (show ObjZ _ 0 5 from ⟨by decide, rfl⟩) (b := 1) rfl ?_
  refine aw_callI (As := [.ref 1]) dX5_init_65 cw_X5_25 rfl rfl (rm_ok (by omega)) (show 28 + 8 ≤ 47 ∧ 1141 + 57 ≤ 1537 by decide) (by decide) (c_X0_init (d := d - 1) (h := 28) (by omega) rfl rfl rfl (funext fun _ => rfl) rfl rfl (funext fun _ => rfl) rfl rfl (funext fun _ => rfl) rfl rfl (funext fun _ => rfl) rfl rfl (funext fun _ => rfl) rfl rfl (funext fun _ => rfl) rfl rfl (funext fun _ => rfl) rfl rfl (funext fun _ => rfl) ?_)
  refine aw_pp dX5_init_68 fw_X5_35 ww_X5_35 (show ObjZ _ 0 5 from ⟨by decide, rfl⟩) ?_
  refine aw_aload_n dX5_init_71 rfl rfl ?_
  refine aw_iconst (v := 4) dX5_init_72 (by decide) ?_
  refine aw_naT (n := 37) (N := 4) dX5_init_73 (Or.inl ⟨rfl, rfl⟩) na_X5_38 (by decide) (by decide) (by decide) (show 36 + 1 ≤ 47 by decide) (show 1198 + 4 ≤ 1537 by decide) rfl rfl (funext fun _ => rfl) ?_
  refine aw_pp dX5_init_76 fw_X5_40 ww_X5_40 (show ObjZ _ 0 5 from ⟨by decide, rfl⟩) ?_
  refine aw_iconst (v := 0) dX5_init_79 (by decide) ?_
  refine aw_istore_n (ls' := [_, _]) dX5_init_80 (by decide) rfl rfl ?_
  refine aw_iload_n dX5_init_81 rfl ?_
  refine aw_iconst (v := 4) dX5_init_82 (by decide) ?_
  refine aw_icmp_ge (tgt := 105) dX5_init_83 (by decide) (fun zz => absurd zz (by decide)) (fun _ => ?_)
  refine aw_aload_n dX5_init_86 rfl rfl ?_
  refine aw_gr dX5_init_87 fw_X5_40 (show ObjZ _ 0 5 from ⟨by decide, rfl⟩) (b := 37) rfl ?_
  refine aw_iload_n dX5_init_90 rfl ?_
  refine aw_nwT (n := 38) dX5_init_91 nw_X5_38 (show 37 + 1 ≤ 47 by decide) (show 1202 + 3 ≤ 1537 by decide) rfl rfl (funext fun _ => rfl) (funext fun _ => rfl) (funext fun _ => rfl) ?_
  refine aw_dup dX5_init_94 rfl ?_
  refine aw_callI (As := []) dX5_init_95 cw_X5_44 rfl rfl (rm_ok (by omega)) (show 38 + 1 ≤ 47 ∧ 1205 + 40 ≤ 1537 by decide) (by decide) (c_X2_init (d := d - 1) (h := 38) (by omega) rfl rfl rfl (funext fun _ => rfl) ?_)
  refine aw_aast (a := 37) (v := 38) (ci := 2) dX5_init_98 (by decide) (Or.inl ⟨rfl, rfl⟩) (by decide) rfl (show vp_in (nI 0) 4 from vp_in_nI (by decide) (by decide)) ?_
  refine aw_iinc (v := 1) (ls' := [_, _]) dX5_init_99 rfl (by decide) (by decide) rfl rfl ?_
  refine aw_goto (tgt := 81) dX5_init_102 (by decide) ?_
  refine aw_iload_n dX5_init_81 rfl ?_
  refine aw_iconst (v := 4) dX5_init_82 (by decide) ?_
  refine aw_icmp_ge (tgt := 105) dX5_init_83 (by decide) (fun zz => absurd zz (by decide)) (fun _ => ?_)
  refine aw_aload_n dX5_init_86 rfl rfl ?_
  refine aw_gr dX5_init_87 fw_X5_40 (show ObjZ _ 0 5 from ⟨by decide, rfl⟩) (b := 37) rfl ?_
  refine aw_iload_n dX5_init_90 rfl ?_
  refine aw_nwT (n := 40) dX5_init_91 nw_X5_38 (show 39 + 1 ≤ 47 by decide) (show 1245 + 3 ≤ 1537 by decide) rfl rfl (funext fun _ => rfl) (funext fun _ => rfl) (funext fun _ => rfl) ?_
  refine aw_dup dX5_init_94 rfl ?_
  refine aw_callI (As := []) dX5_init_95 cw_X5_44 rfl rfl (rm_ok (by omega)) (show 40 + 1 ≤ 47 ∧ 1248 + 40 ≤ 1537 by decide) (by decide) (c_X2_init (d := d - 1) (h := 40) (by omega) rfl rfl rfl (funext fun _ => rfl) ?_)
  refine aw_aast (a := 37) (v := 40) (ci := 2) dX5_init_98 (by decide) (Or.inl ⟨rfl, rfl⟩) (by decide) rfl (show vp_in (nI 1) 4 from vp_in_nI (by decide) (by decide)) ?_
  refine aw_iinc (v := 2) (ls' := [_, _]) dX5_init_99 rfl (by decide) (by decide) rfl rfl ?_
  refine aw_goto (tgt := 81) dX5_init_102 (by decide) ?_
  refine aw_iload_n dX5_init_81 rfl ?_
  refine aw_iconst (v := 4) dX5_init_82 (by decide) ?_
  refine aw_icmp_ge (tgt := 105) dX5_init_83 (by decide) (fun zz => absurd zz (by decide)) (fun _ => ?_)
  refine aw_aload_n dX5_init_86 rfl rfl ?_
  refine aw_gr dX5_init_87 fw_X5_40 (show ObjZ _ 0 5 from ⟨by decide, rfl⟩) (b := 37) rfl ?_
  refine aw_iload_n dX5_init_90 rfl ?_
  refine aw_nwT (n := 42) dX5_init_91 nw_X5_38 (show 41 + 1 ≤ 47 by decide) (show 1288 + 3 ≤ 1537 by decide) rfl rfl (funext fun _ => rfl) (funext fun _ => rfl) (funext fun _ => rfl) ?_
  refine aw_dup dX5_init_94 rfl ?_
  refine aw_callI (As := []) dX5_init_95 cw_X5_44 rfl rfl (rm_ok (by omega)) (show 42 + 1 ≤ 47 ∧ 1291 + 40 ≤ 1537 by decide) (by decide) (c_X2_init (d := d - 1) (h := 42) (by omega) rfl rfl rfl (funext fun _ => rfl) ?_)
  refine aw_aast (a := 37) (v := 42) (ci := 2) dX5_init_98 (by decide) (Or.inl ⟨rfl, rfl⟩) (by decide) rfl (show vp_in (nI 2) 4 from vp_in_nI (by decide) (by decide)) ?_
  refine aw_iinc (v := 3) (ls' := [_, _]) dX5_init_99 rfl (by decide) (by decide) rfl rfl ?_
  refine aw_goto (tgt := 81) dX5_init_102 (by decide) ?_
  refine aw_iload_n dX5_init_81 rfl ?_
  refine aw_iconst (v := 4) dX5_init_82 (by decide) ?_
  refine aw_icmp_ge (tgt := 105) dX5_init_83 (by decide) (fun zz => absurd zz (by decide)) (fun _ => ?_)
  refine aw_aload_n dX5_init_86 rfl rfl ?_
  refine aw_gr dX5_init_87 fw_X5_40 (show ObjZ _ 0 5 from ⟨by decide, rfl⟩) (b := 37) rfl ?_
  refine aw_iload_n dX5_init_90 rfl ?_
  refine aw_nwT (n := 44) dX5_init_91 nw_X5_38 (show 43 + 1 ≤ 47 by decide) (show 1331 + 3 ≤ 1537 by decide) rfl rfl (funext fun _ => rfl) (funext fun _ => rfl) (funext fun _ => rfl) ?_
  refine aw_dup dX5_init_94 rfl ?_
  refine aw_callI (As := []) dX5_init_95 cw_X5_44 rfl rfl (rm_ok (by omega)) (show 44 + 1 ≤ 47 ∧ 1334 + 40 ≤ 1537 by decide) (by decide) (c_X2_init (d := d - 1) (h := 44) (by omega) rfl rfl rfl (funext fun _ => rfl) ?_)
  refine aw_aast (a := 37) (v := 44) (ci := 2) dX5_init_98 (by decide) (Or.inl ⟨rfl, rfl⟩) (by decide) rfl (show vp_in (nI 3) 4 from vp_in_nI (by decide) (by decide)) ?_
  refine aw_iinc (v := 4) (ls' := [_, _]) dX5_init_99 rfl (by decide) (by decide) rfl rfl ?_
  refine aw_goto (tgt := 81) dX5_init_102 (by decide) ?_
  refine aw_iload_n dX5_init_81 rfl ?_
  refine aw_iconst (v := 4) dX5_init_82 (by decide) ?_
  refine aw_icmp_ge (tgt := 105) dX5_init_83 (by decide) (fun _ => ?_) (fun zz => absurd (by decide) zz)
  refine aw_iconst (v := 0) dX5_init_105 (by decide) ?_
  refine aw_istore_n (ls' := [_, _]) dX5_init_106 (by decide) rfl rfl ?_
  refine l_X5_init (by omega) hE ⟨by decide, rfl⟩ rfl ⟨⟨by decide, rfl⟩, rfl, rfl, rfl, rfl, rfl, ⟨by decide, rfl, rfl⟩, ⟨by decide, rfl, rfl⟩, ⟨by decide, rfl, rfl⟩, ⟨by decide, rfl, rfl⟩, ⟨by decide, rfl, rfl⟩⟩ (fun M h4 h5 h7 => ?_) 36 0 _ rfl rfl (fun i hi => absurd hi (by omega)) (fun i _ => rfl) (fun a i _ _ => rfl)
  refine t_X5_init hd hE ⟨⟨by decide, rfl⟩, rfl, rfl, rfl, rfl, rfl, rfl, ⟨by decide, Or.inl rfl, rfl⟩, (fun s hs => match s, hs with
        | 0, _ => ⟨rfl, ⟨⟨by decide, rfl⟩, rfl, ⟨by decide, rfl, rfl⟩⟩⟩
        | 1, _ => ⟨rfl, ⟨⟨by decide, rfl⟩, rfl, ⟨by decide, rfl, rfl⟩⟩⟩
        | 2, _ => ⟨rfl, ⟨⟨by decide, rfl⟩, rfl, ⟨by decide, rfl, rfl⟩⟩⟩
        | 3, _ => ⟨rfl, ⟨⟨by decide, rfl⟩, rfl, ⟨by decide, rfl, rfl⟩⟩⟩
        | s + 4, h => absurd h (by omega)), ⟨⟨by decide, rfl⟩, rfl, rfl, rfl, rfl, rfl, rfl, rfl, rfl, rfl, ⟨by decide, rfl, rfl⟩, ⟨by decide, rfl, rfl⟩, ⟨by decide, rfl, rfl⟩, ⟨by decide, rfl, rfl⟩, ⟨by decide, rfl, rfl⟩, ⟨by decide, rfl, rfl⟩, ⟨by decide, rfl, rfl⟩, ⟨by decide, rfl, rfl⟩⟩, ⟨⟨by decide, rfl⟩, rfl, rfl, rfl, rfl, rfl, rfl, rfl, rfl, rfl, ⟨by decide, rfl, rfl⟩, ⟨by decide, rfl, rfl⟩, ⟨by decide, rfl, rfl⟩, ⟨by decide, rfl, rfl⟩, ⟨by decide, rfl, rfl⟩, ⟨by decide, rfl, rfl⟩, ⟨by decide, rfl, rfl⟩, ⟨by decide, rfl, rfl⟩⟩, ⟨⟨by decide, rfl⟩, rfl, rfl, rfl, rfl, rfl, rfl, rfl, rfl, rfl, ⟨by decide, rfl, rfl⟩, ⟨by decide, rfl, rfl⟩, ⟨by decide, rfl, rfl⟩, ⟨by decide, rfl, rfl⟩, ⟨by decide, rfl, rfl⟩, ⟨by decide, rfl, rfl⟩, ⟨by decide, rfl, rfl⟩, ⟨by decide, rfl, rfl⟩⟩, ⟨⟨by decide, rfl⟩, rfl, rfl, ⟨by decide, rfl, rfl⟩, ⟨by decide, Or.inr rfl, rfl⟩⟩, ⟨⟨by decide, rfl⟩, rfl, rfl, rfl, rfl, rfl, ⟨by decide, rfl, rfl⟩, ⟨by decide, rfl, rfl⟩, ⟨by decide, rfl, rfl⟩, ⟨by decide, rfl, rfl⟩, ⟨by decide, rfl, rfl⟩⟩⟩ rfl rfl h4 h5 (by rw [h7 1 2 (by decide) (by decide)]; rfl) (fun J K Y fr g k10 zn p2 tx j1 j2 at3 => ?_)
  refine hQ _ K Y (fun a j ha hb hc => ?_) ?_ ?_ g k10 zn p2 tx ?_ ?_ ?_
  · rw [iU_at (by omega), iU_at hc, fr a j ha (by omega) (by omega), h7 a j (by omega) (by omega)]
    simp only [iC, iU]
    by_cases g : j = 1
    · subst g
      simp only [and_true]
      by_cases g1 : a = 44
      · simp [g1]
      by_cases g2 : a = 42
      · simp [g2]
      by_cases g3 : a = 40
      · simp [g3]
      by_cases g4 : a = 38
      · simp [g4]
      · simp [g1, g2, g3, g4]
    · simp [g]
  · rw [iU_at (by omega), iU_same]
  · rw [iU_same]
  · rw [iU_at (by omega), iU_at (by omega)]; exact j1
  · rw [iU_at (by omega), iU_at (by omega)]; exact j2
  · rw [show iU (iU J 1 2 (nI 1)) 4 1 0 47 = J 47 from funext fun j => by rw [iU_at (by omega), iU_at (by omega)]]
    exact at3
