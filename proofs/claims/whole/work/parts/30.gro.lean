/-! ===== the class's object: its shape ===== -/
def ScZ (Z : Mz) : Prop := ObjZ Z 4 1 ∧ zP Z 4 0 = some 5 ∧ zP Z 4 2 = some 6 ∧ zP Z 4 3 = some 7 ∧ zP Z 4 4 = some 8 ∧ zP Z 4 7 = some 9 ∧ ArrI Z 5 160 ∧ ArrI Z 6 161 ∧ ArrI Z 7 161 ∧ ArrI Z 8 161 ∧ ArrI Z 9 160
def GZ (Z : Mz) : Prop := ObjZ Z 0 5 ∧ zP Z 0 0 = some 1 ∧ zP Z 0 1 = some 4 ∧ zP Z 0 2 = some 10 ∧ zP Z 0 3 = some 19 ∧ zP Z 0 4 = some 28 ∧ zP Z 0 5 = some 37 ∧ ArrO Z 37 4 ∧ (∀ s, s < 4 → zP Z 37 s = some (38 + 2 * s) ∧ StZ Z (38 + 2 * s)) ∧ HZ Z 10 ∧ HZ Z 19 ∧ HZ Z 28 ∧ ShZ Z ∧ ScZ Z
/-! ===== the class: set, told ===== -/
theorem c_X5_mostOf0 {E : Ev} {d : Nat} {I : Mi} {L : Ml} {Z : Mz} {Q : Po}    (hQ : ∀ rv : Int32, rv = (4095) → Q (some (.int rv)) I L Z) : AC E yX5_mostOf cX5_mostOf 1 (some .int) d 0 0 [.int 0] I L Z Q := by
  refine ac_go (ls := [some (.int 0)]) (by decide +kernel) (Nat.le_of_ble_eq_true rfl) rfl ?_
  refine aw_iload_n dX5_mostOf_0 rfl ?_
  refine aw_tableOut (tgt := 49) dX5_mostOf_1 (by decide) (by decide) ?_
  refine aw_sipush (v := 4095) dX5_mostOf_49 (by decide) ?_
  refine aw_ireturn (ty := .int) dX5_mostOf_52 rfl rfl ?_
  exact hQ _ rfl
theorem c_X5_mostOf1 {E : Ev} {d : Nat} {I : Mi} {L : Ml} {Z : Mz} {Q : Po}    (hQ : ∀ rv : Int32, rv = (999) → Q (some (.int rv)) I L Z) : AC E yX5_mostOf cX5_mostOf 1 (some .int) d 0 0 [.int 1] I L Z Q := by
  refine ac_go (ls := [some (.int 1)]) (by decide +kernel) (Nat.le_of_ble_eq_true rfl) rfl ?_
  refine aw_iload_n dX5_mostOf_0 rfl ?_
  refine aw_tableIn (off := 35) (tgt := 36) dX5_mostOf_1 (by decide) (by decide) (by rfl) (by decide) ?_
  refine aw_sipush (v := 999) dX5_mostOf_36 (by decide) ?_
  refine aw_ireturn (ty := .int) dX5_mostOf_39 rfl rfl ?_
  exact hQ _ rfl
theorem c_X5_mostOf2 {E : Ev} {d : Nat} {I : Mi} {L : Ml} {Z : Mz} {Q : Po}    (hQ : ∀ rv : Int32, rv = (4095) → Q (some (.int rv)) I L Z) : AC E yX5_mostOf cX5_mostOf 1 (some .int) d 0 0 [.int 2] I L Z Q := by
  refine ac_go (ls := [some (.int 2)]) (by decide +kernel) (Nat.le_of_ble_eq_true rfl) rfl ?_
  refine aw_iload_n dX5_mostOf_0 rfl ?_
  refine aw_tableIn (off := 48) (tgt := 49) dX5_mostOf_1 (by decide) (by decide) (by rfl) (by decide) ?_
  refine aw_sipush (v := 4095) dX5_mostOf_49 (by decide) ?_
  refine aw_ireturn (ty := .int) dX5_mostOf_52 rfl rfl ?_
  exact hQ _ rfl
theorem c_X5_mostOf3 {E : Ev} {d : Nat} {I : Mi} {L : Ml} {Z : Mz} {Q : Po}    (hQ : ∀ rv : Int32, rv = (11) → Q (some (.int rv)) I L Z) : AC E yX5_mostOf cX5_mostOf 1 (some .int) d 0 0 [.int 3] I L Z Q := by
  refine ac_go (ls := [some (.int 3)]) (by decide +kernel) (Nat.le_of_ble_eq_true rfl) rfl ?_
  refine aw_iload_n dX5_mostOf_0 rfl ?_
  refine aw_tableIn (off := 39) (tgt := 40) dX5_mostOf_1 (by decide) (by decide) (by rfl) (by decide) ?_
  refine aw_bipush (v := 11) dX5_mostOf_40 (by decide) ?_
  refine aw_ireturn (ty := .int) dX5_mostOf_42 rfl rfl ?_
  exact hQ _ rfl
theorem c_X5_mostOf4 {E : Ev} {d : Nat} {I : Mi} {L : Ml} {Z : Mz} {Q : Po}    (hQ : ∀ rv : Int32, rv = (9) → Q (some (.int rv)) I L Z) : AC E yX5_mostOf cX5_mostOf 1 (some .int) d 0 0 [.int 4] I L Z Q := by
  refine ac_go (ls := [some (.int 4)]) (by decide +kernel) (Nat.le_of_ble_eq_true rfl) rfl ?_
  refine aw_iload_n dX5_mostOf_0 rfl ?_
  refine aw_tableIn (off := 42) (tgt := 43) dX5_mostOf_1 (by decide) (by decide) (by rfl) (by decide) ?_
  refine aw_bipush (v := 9) dX5_mostOf_43 (by decide) ?_
  refine aw_ireturn (ty := .int) dX5_mostOf_45 rfl rfl ?_
  exact hQ _ rfl
theorem c_X5_mostOf5 {E : Ev} {d : Nat} {I : Mi} {L : Ml} {Z : Mz} {Q : Po}    (hQ : ∀ rv : Int32, rv = (99) → Q (some (.int rv)) I L Z) : AC E yX5_mostOf cX5_mostOf 1 (some .int) d 0 0 [.int 5] I L Z Q := by
  refine ac_go (ls := [some (.int 5)]) (by decide +kernel) (Nat.le_of_ble_eq_true rfl) rfl ?_
  refine aw_iload_n dX5_mostOf_0 rfl ?_
  refine aw_tableIn (off := 45) (tgt := 46) dX5_mostOf_1 (by decide) (by decide) (by rfl) (by decide) ?_
  refine aw_bipush (v := 99) dX5_mostOf_46 (by decide) ?_
  refine aw_ireturn (ty := .int) dX5_mostOf_48 rfl rfl ?_
  exact hQ _ rfl
theorem c_X5_set0 {E : Ev} {d : Nat} {I : Mi} {L : Ml} {Z : Mz} {Q : Po} {x : Int32} {v : Int32}  (hd : 3 ≤ d) (hG : GZ Z) (hB : ¬ (¬ v < 0 ∧ ¬ 4095 < v) → Q (some (.int (-2))) I L Z) (hS : (¬ v < 0 ∧ ¬ 4095 < v) → Q (some (.int (I 10 1))) (iU I 10 1 v) L Z) : AC E yX5_set cX5_set 5 (some .int) d 0 0 [.ref 0, .int 0, .int x, .int v] I L Z Q := by
  refine ac_go (ls := [some (.ref 0), some (.int 0), some (.int x), some (.int v), none]) (by decide +kernel) (Nat.le_of_ble_eq_true rfl) rfl ?_
  refine aw_iload_n dX5_set_0 rfl ?_
  refine aw_iconst (v := 0) dX5_set_1 (by decide) ?_
  refine aw_iconst (v := 5) dX5_set_2 (by decide) ?_
  refine aw_S3 dX5_set_3 cw_X5_72 (by omega) ⟨Nat.le_refl _, Nat.le_refl _⟩ (by decide) (c_X5_within (fun _ => ?_) (fun zz => absurd (by decide) zz))
  refine aw_if_eq (tgt := 33) dX5_set_6 (by decide) (fun zz => absurd zz (by decide)) (fun _ => ?_)
  refine aw_iload_n dX5_set_9 rfl ?_
  refine aw_iconst (v := 0) dX5_set_10 (by decide) ?_
  refine aw_iload_n dX5_set_11 rfl ?_
  refine aw_S1 dX5_set_12 cw_X5_76 (by omega) ⟨Nat.le_refl _, Nat.le_refl _⟩ (by simp [Value.category, psh]) (c_X5_mostOf0 (fun r12 e12 => ?_))
  refine aw_S3 dX5_set_15 cw_X5_72 (by omega) ⟨Nat.le_refl _, Nat.le_refl _⟩ (by decide) (c_X5_within (fun c15 => ?_) (fun c15 => ?_))
  · refine aw_if_eq (tgt := 33) dX5_set_18 (by decide) (fun zz => absurd zz (by decide)) (fun _ => ?_)
    refine aw_aload_n dX5_set_21 rfl rfl ?_
    refine aw_gr dX5_set_22 fw_X5_28 hG.1 hG.2.2.2.1 ?_
    refine aw_iload_n dX5_set_25 rfl ?_
    refine aw_iload_n dX5_set_26 rfl ?_
    refine aw_V2 dX5_set_27 cw_X5_79 ⟨_, _, rfl⟩ hG.2.2.2.2.2.2.2.2.2.1.1 (by omega) ⟨Nat.le_refl _, Nat.le_refl _⟩ (by decide) (c_X0_has0 (by omega) hG.2.2.2.2.2.2.2.2.2.1 (fun c27 => ?_) (fun zz => absurd trivial zz))
    refine aw_if_ne (tgt := 36) dX5_set_30 (by decide) (fun _ => ?_) (fun zz => absurd zz (by decide))
    refine aw_aload_n dX5_set_36 rfl rfl ?_
    refine aw_gr dX5_set_37 fw_X5_28 hG.1 hG.2.2.2.1 ?_
    refine aw_iload_n dX5_set_40 rfl ?_
    refine aw_iload_n dX5_set_41 rfl ?_
    refine aw_V2 dX5_set_42 cw_X5_83 ⟨_, _, rfl⟩ hG.2.2.2.2.2.2.2.2.2.1.1 (by omega) ⟨Nat.le_refl _, Nat.le_refl _⟩ (by decide) (c_X0_noted0 hG.2.2.2.2.2.2.2.2.2.1 (fun r42 e42 => ?_))
    refine aw_istore (ls' := [_, _, _, _, _]) dX5_set_45 (by decide) rfl rfl ?_
    refine aw_aload_n dX5_set_47 rfl rfl ?_
    refine aw_gr dX5_set_48 fw_X5_28 hG.1 hG.2.2.2.1 ?_
    refine aw_iload_n dX5_set_51 rfl ?_
    refine aw_iload_n dX5_set_52 rfl ?_
    refine aw_iload_n dX5_set_53 rfl ?_
    refine aw_V3 dX5_set_54 cw_X5_87 ⟨_, _, rfl⟩ hG.2.2.2.2.2.2.2.2.2.1.1 (by omega) ⟨Nat.le_refl _, Nat.le_refl _⟩ (by decide) (c_X0_note0 hG.2.2.2.2.2.2.2.2.2.1 ?_)
    refine aw_iload dX5_set_57 rfl ?_
    refine aw_ireturn (ty := .int) dX5_set_59 rfl rfl ?_
    rw [e42]
    exact hS (by rw [e12] at c15; exact c15)
  · refine aw_if_eq (tgt := 33) dX5_set_18 (by decide) (fun _ => ?_) (fun zz => absurd zz (by decide))
    refine aw_bipush (v := -2) dX5_set_33 (by decide) ?_
    refine aw_ireturn (ty := .int) dX5_set_35 rfl rfl ?_
    exact hB (by rw [e12] at c15; exact c15)
theorem c_X5_set1 {E : Ev} {d : Nat} {I : Mi} {L : Ml} {Z : Mz} {Q : Po} {x : Int32} {v : Int32}  (hd : 3 ≤ d) (hG : GZ Z) (hB : ¬ (¬ v < 0 ∧ ¬ 999 < v) → Q (some (.int (-2))) I L Z) (hS : (¬ v < 0 ∧ ¬ 999 < v) → Q (some (.int (I 10 2))) (iU I 10 2 v) L Z) : AC E yX5_set cX5_set 5 (some .int) d 0 0 [.ref 0, .int 1, .int x, .int v] I L Z Q := by
  refine ac_go (ls := [some (.ref 0), some (.int 1), some (.int x), some (.int v), none]) (by decide +kernel) (Nat.le_of_ble_eq_true rfl) rfl ?_
  refine aw_iload_n dX5_set_0 rfl ?_
  refine aw_iconst (v := 0) dX5_set_1 (by decide) ?_
  refine aw_iconst (v := 5) dX5_set_2 (by decide) ?_
  refine aw_S3 dX5_set_3 cw_X5_72 (by omega) ⟨Nat.le_refl _, Nat.le_refl _⟩ (by decide) (c_X5_within (fun _ => ?_) (fun zz => absurd (by decide) zz))
  refine aw_if_eq (tgt := 33) dX5_set_6 (by decide) (fun zz => absurd zz (by decide)) (fun _ => ?_)
  refine aw_iload_n dX5_set_9 rfl ?_
  refine aw_iconst (v := 0) dX5_set_10 (by decide) ?_
  refine aw_iload_n dX5_set_11 rfl ?_
  refine aw_S1 dX5_set_12 cw_X5_76 (by omega) ⟨Nat.le_refl _, Nat.le_refl _⟩ (by simp [Value.category, psh]) (c_X5_mostOf1 (fun r12 e12 => ?_))
  refine aw_S3 dX5_set_15 cw_X5_72 (by omega) ⟨Nat.le_refl _, Nat.le_refl _⟩ (by decide) (c_X5_within (fun c15 => ?_) (fun c15 => ?_))
  · refine aw_if_eq (tgt := 33) dX5_set_18 (by decide) (fun zz => absurd zz (by decide)) (fun _ => ?_)
    refine aw_aload_n dX5_set_21 rfl rfl ?_
    refine aw_gr dX5_set_22 fw_X5_28 hG.1 hG.2.2.2.1 ?_
    refine aw_iload_n dX5_set_25 rfl ?_
    refine aw_iload_n dX5_set_26 rfl ?_
    refine aw_V2 dX5_set_27 cw_X5_79 ⟨_, _, rfl⟩ hG.2.2.2.2.2.2.2.2.2.1.1 (by omega) ⟨Nat.le_refl _, Nat.le_refl _⟩ (by decide) (c_X0_has1 (by omega) hG.2.2.2.2.2.2.2.2.2.1 (fun c27 => ?_) (fun zz => absurd trivial zz))
    refine aw_if_ne (tgt := 36) dX5_set_30 (by decide) (fun _ => ?_) (fun zz => absurd zz (by decide))
    refine aw_aload_n dX5_set_36 rfl rfl ?_
    refine aw_gr dX5_set_37 fw_X5_28 hG.1 hG.2.2.2.1 ?_
    refine aw_iload_n dX5_set_40 rfl ?_
    refine aw_iload_n dX5_set_41 rfl ?_
    refine aw_V2 dX5_set_42 cw_X5_83 ⟨_, _, rfl⟩ hG.2.2.2.2.2.2.2.2.2.1.1 (by omega) ⟨Nat.le_refl _, Nat.le_refl _⟩ (by decide) (c_X0_noted1 hG.2.2.2.2.2.2.2.2.2.1 (fun r42 e42 => ?_))
    refine aw_istore (ls' := [_, _, _, _, _]) dX5_set_45 (by decide) rfl rfl ?_
    refine aw_aload_n dX5_set_47 rfl rfl ?_
    refine aw_gr dX5_set_48 fw_X5_28 hG.1 hG.2.2.2.1 ?_
    refine aw_iload_n dX5_set_51 rfl ?_
    refine aw_iload_n dX5_set_52 rfl ?_
    refine aw_iload_n dX5_set_53 rfl ?_
    refine aw_V3 dX5_set_54 cw_X5_87 ⟨_, _, rfl⟩ hG.2.2.2.2.2.2.2.2.2.1.1 (by omega) ⟨Nat.le_refl _, Nat.le_refl _⟩ (by decide) (c_X0_note1 hG.2.2.2.2.2.2.2.2.2.1 ?_)
    refine aw_iload dX5_set_57 rfl ?_
    refine aw_ireturn (ty := .int) dX5_set_59 rfl rfl ?_
    rw [e42]
    exact hS (by rw [e12] at c15; exact c15)
  · refine aw_if_eq (tgt := 33) dX5_set_18 (by decide) (fun _ => ?_) (fun zz => absurd zz (by decide))
    refine aw_bipush (v := -2) dX5_set_33 (by decide) ?_
    refine aw_ireturn (ty := .int) dX5_set_35 rfl rfl ?_
    exact hB (by rw [e12] at c15; exact c15)
theorem c_X5_set2 {E : Ev} {d : Nat} {I : Mi} {L : Ml} {Z : Mz} {Q : Po} {x : Int32} {v : Int32} {n : Nat} (hd : 3 ≤ d) (hG : GZ Z) (hn : I 10 6 = nI n) (hl : n ≤ 6) (hB : ¬ ((¬ v < 0 ∧ ¬ 4095 < v) ∧ ∃ j, j < n ∧ x = nI j) → Q (some (.int (-2))) I L Z) (hS : (¬ v < 0 ∧ ¬ 4095 < v) → ∀ j, j < n → x = nI j → Q (some (.int (I 11 j))) (iU I 11 j v) L Z) : AC E yX5_set cX5_set 5 (some .int) d 0 0 [.ref 0, .int 2, .int x, .int v] I L Z Q := by
  refine ac_go (ls := [some (.ref 0), some (.int 2), some (.int x), some (.int v), none]) (by decide +kernel) (Nat.le_of_ble_eq_true rfl) rfl ?_
  refine aw_iload_n dX5_set_0 rfl ?_
  refine aw_iconst (v := 0) dX5_set_1 (by decide) ?_
  refine aw_iconst (v := 5) dX5_set_2 (by decide) ?_
  refine aw_S3 dX5_set_3 cw_X5_72 (by omega) ⟨Nat.le_refl _, Nat.le_refl _⟩ (by decide) (c_X5_within (fun _ => ?_) (fun zz => absurd (by decide) zz))
  refine aw_if_eq (tgt := 33) dX5_set_6 (by decide) (fun zz => absurd zz (by decide)) (fun _ => ?_)
  refine aw_iload_n dX5_set_9 rfl ?_
  refine aw_iconst (v := 0) dX5_set_10 (by decide) ?_
  refine aw_iload_n dX5_set_11 rfl ?_
  refine aw_S1 dX5_set_12 cw_X5_76 (by omega) ⟨Nat.le_refl _, Nat.le_refl _⟩ (by simp [Value.category, psh]) (c_X5_mostOf2 (fun r12 e12 => ?_))
  refine aw_S3 dX5_set_15 cw_X5_72 (by omega) ⟨Nat.le_refl _, Nat.le_refl _⟩ (by decide) (c_X5_within (fun c15 => ?_) (fun c15 => ?_))
  · refine aw_if_eq (tgt := 33) dX5_set_18 (by decide) (fun zz => absurd zz (by decide)) (fun _ => ?_)
    refine aw_aload_n dX5_set_21 rfl rfl ?_
    refine aw_gr dX5_set_22 fw_X5_28 hG.1 hG.2.2.2.1 ?_
    refine aw_iload_n dX5_set_25 rfl ?_
    refine aw_iload_n dX5_set_26 rfl ?_
    refine aw_V2 dX5_set_27 cw_X5_79 ⟨_, _, rfl⟩ hG.2.2.2.2.2.2.2.2.2.1.1 (by omega) ⟨Nat.le_refl _, Nat.le_refl _⟩ (by decide) (c_X0_has2 (by omega) hG.2.2.2.2.2.2.2.2.2.1 (fun c27 => ?_) (fun c27 => ?_))
    · refine aw_if_ne (tgt := 36) dX5_set_30 (by decide) (fun _ => ?_) (fun zz => absurd zz (by decide))
      obtain ⟨j, hj, rfl⟩ := (ix_iff hn (by omega)).mp c27
      refine aw_aload_n dX5_set_36 rfl rfl ?_
      refine aw_gr dX5_set_37 fw_X5_28 hG.1 hG.2.2.2.1 ?_
      refine aw_iload_n dX5_set_40 rfl ?_
      refine aw_iload_n dX5_set_41 rfl ?_
      refine aw_V2 dX5_set_42 cw_X5_83 ⟨_, _, rfl⟩ hG.2.2.2.2.2.2.2.2.2.1.1 (by omega) ⟨Nat.le_refl _, Nat.le_refl _⟩ (by decide) (c_X0_noted2 (j := j) hG.2.2.2.2.2.2.2.2.2.1 (by omega) (fun r42 e42 => ?_))
      refine aw_istore (ls' := [_, _, _, _, _]) dX5_set_45 (by decide) rfl rfl ?_
      refine aw_aload_n dX5_set_47 rfl rfl ?_
      refine aw_gr dX5_set_48 fw_X5_28 hG.1 hG.2.2.2.1 ?_
      refine aw_iload_n dX5_set_51 rfl ?_
      refine aw_iload_n dX5_set_52 rfl ?_
      refine aw_iload_n dX5_set_53 rfl ?_
      refine aw_V3 dX5_set_54 cw_X5_87 ⟨_, _, rfl⟩ hG.2.2.2.2.2.2.2.2.2.1.1 (by omega) ⟨Nat.le_refl _, Nat.le_refl _⟩ (by decide) (c_X0_note2 (j := j) hG.2.2.2.2.2.2.2.2.2.1 (by omega) ?_)
      refine aw_iload dX5_set_57 rfl ?_
      refine aw_ireturn (ty := .int) dX5_set_59 rfl rfl ?_
      rw [e42]
      exact hS (by rw [e12] at c15; exact c15) j hj rfl
    · refine aw_if_ne (tgt := 36) dX5_set_30 (by decide) (fun zz => absurd zz (by decide)) (fun _ => ?_)
      refine aw_bipush (v := -2) dX5_set_33 (by decide) ?_
      refine aw_ireturn (ty := .int) dX5_set_35 rfl rfl ?_
      exact hB (fun z => c27 ((ix_iff hn (by omega)).mpr z.2))
  · refine aw_if_eq (tgt := 33) dX5_set_18 (by decide) (fun _ => ?_) (fun zz => absurd zz (by decide))
    refine aw_bipush (v := -2) dX5_set_33 (by decide) ?_
    refine aw_ireturn (ty := .int) dX5_set_35 rfl rfl ?_
    exact hB (fun z => by rw [e12] at c15; exact c15 z.1)
theorem c_X5_set3 {E : Ev} {d : Nat} {I : Mi} {L : Ml} {Z : Mz} {Q : Po} {x : Int32} {v : Int32} {n : Nat} (hd : 3 ≤ d) (hG : GZ Z) (hn : I 10 6 = nI n) (hl : n ≤ 6) (hB : ¬ ((¬ v < 0 ∧ ¬ 11 < v) ∧ ∃ j, j < n ∧ x = nI j) → Q (some (.int (-2))) I L Z) (hS : (¬ v < 0 ∧ ¬ 11 < v) → ∀ j, j < n → x = nI j → Q (some (.int (I 12 j))) (iU I 12 j v) L Z) : AC E yX5_set cX5_set 5 (some .int) d 0 0 [.ref 0, .int 3, .int x, .int v] I L Z Q := by
  refine ac_go (ls := [some (.ref 0), some (.int 3), some (.int x), some (.int v), none]) (by decide +kernel) (Nat.le_of_ble_eq_true rfl) rfl ?_
  refine aw_iload_n dX5_set_0 rfl ?_
  refine aw_iconst (v := 0) dX5_set_1 (by decide) ?_
  refine aw_iconst (v := 5) dX5_set_2 (by decide) ?_
  refine aw_S3 dX5_set_3 cw_X5_72 (by omega) ⟨Nat.le_refl _, Nat.le_refl _⟩ (by decide) (c_X5_within (fun _ => ?_) (fun zz => absurd (by decide) zz))
  refine aw_if_eq (tgt := 33) dX5_set_6 (by decide) (fun zz => absurd zz (by decide)) (fun _ => ?_)
  refine aw_iload_n dX5_set_9 rfl ?_
  refine aw_iconst (v := 0) dX5_set_10 (by decide) ?_
  refine aw_iload_n dX5_set_11 rfl ?_
  refine aw_S1 dX5_set_12 cw_X5_76 (by omega) ⟨Nat.le_refl _, Nat.le_refl _⟩ (by simp [Value.category, psh]) (c_X5_mostOf3 (fun r12 e12 => ?_))
  refine aw_S3 dX5_set_15 cw_X5_72 (by omega) ⟨Nat.le_refl _, Nat.le_refl _⟩ (by decide) (c_X5_within (fun c15 => ?_) (fun c15 => ?_))
  · refine aw_if_eq (tgt := 33) dX5_set_18 (by decide) (fun zz => absurd zz (by decide)) (fun _ => ?_)
    refine aw_aload_n dX5_set_21 rfl rfl ?_
    refine aw_gr dX5_set_22 fw_X5_28 hG.1 hG.2.2.2.1 ?_
    refine aw_iload_n dX5_set_25 rfl ?_
    refine aw_iload_n dX5_set_26 rfl ?_
    refine aw_V2 dX5_set_27 cw_X5_79 ⟨_, _, rfl⟩ hG.2.2.2.2.2.2.2.2.2.1.1 (by omega) ⟨Nat.le_refl _, Nat.le_refl _⟩ (by decide) (c_X0_has3 (by omega) hG.2.2.2.2.2.2.2.2.2.1 (fun c27 => ?_) (fun c27 => ?_))
    · refine aw_if_ne (tgt := 36) dX5_set_30 (by decide) (fun _ => ?_) (fun zz => absurd zz (by decide))
      obtain ⟨j, hj, rfl⟩ := (ix_iff hn (by omega)).mp c27
      refine aw_aload_n dX5_set_36 rfl rfl ?_
      refine aw_gr dX5_set_37 fw_X5_28 hG.1 hG.2.2.2.1 ?_
      refine aw_iload_n dX5_set_40 rfl ?_
      refine aw_iload_n dX5_set_41 rfl ?_
      refine aw_V2 dX5_set_42 cw_X5_83 ⟨_, _, rfl⟩ hG.2.2.2.2.2.2.2.2.2.1.1 (by omega) ⟨Nat.le_refl _, Nat.le_refl _⟩ (by decide) (c_X0_noted3 (j := j) hG.2.2.2.2.2.2.2.2.2.1 (by omega) (fun r42 e42 => ?_))
      refine aw_istore (ls' := [_, _, _, _, _]) dX5_set_45 (by decide) rfl rfl ?_
      refine aw_aload_n dX5_set_47 rfl rfl ?_
      refine aw_gr dX5_set_48 fw_X5_28 hG.1 hG.2.2.2.1 ?_
      refine aw_iload_n dX5_set_51 rfl ?_
      refine aw_iload_n dX5_set_52 rfl ?_
      refine aw_iload_n dX5_set_53 rfl ?_
      refine aw_V3 dX5_set_54 cw_X5_87 ⟨_, _, rfl⟩ hG.2.2.2.2.2.2.2.2.2.1.1 (by omega) ⟨Nat.le_refl _, Nat.le_refl _⟩ (by decide) (c_X0_note3 (j := j) hG.2.2.2.2.2.2.2.2.2.1 (by omega) ?_)
      refine aw_iload dX5_set_57 rfl ?_
      refine aw_ireturn (ty := .int) dX5_set_59 rfl rfl ?_
      rw [e42]
      exact hS (by rw [e12] at c15; exact c15) j hj rfl
    · refine aw_if_ne (tgt := 36) dX5_set_30 (by decide) (fun zz => absurd zz (by decide)) (fun _ => ?_)
      refine aw_bipush (v := -2) dX5_set_33 (by decide) ?_
      refine aw_ireturn (ty := .int) dX5_set_35 rfl rfl ?_
      exact hB (fun z => c27 ((ix_iff hn (by omega)).mpr z.2))
  · refine aw_if_eq (tgt := 33) dX5_set_18 (by decide) (fun _ => ?_) (fun zz => absurd zz (by decide))
    refine aw_bipush (v := -2) dX5_set_33 (by decide) ?_
    refine aw_ireturn (ty := .int) dX5_set_35 rfl rfl ?_
    exact hB (fun z => by rw [e12] at c15; exact c15 z.1)
theorem c_X5_set4 {E : Ev} {d : Nat} {I : Mi} {L : Ml} {Z : Mz} {Q : Po} {x : Int32} {v : Int32} {n : Nat} (hd : 3 ≤ d) (hG : GZ Z) (hn : I 10 13 = nI n) (hl : n ≤ 5) (hB : ¬ ((¬ v < 0 ∧ ¬ 9 < v) ∧ ∃ j, j < n ∧ x = nI j) → Q (some (.int (-2))) I L Z) (hS : (¬ v < 0 ∧ ¬ 9 < v) → ∀ j, j < n → x = nI j → Q (some (.int (I 16 j))) (iU I 16 j v) L Z) : AC E yX5_set cX5_set 5 (some .int) d 0 0 [.ref 0, .int 4, .int x, .int v] I L Z Q := by
  refine ac_go (ls := [some (.ref 0), some (.int 4), some (.int x), some (.int v), none]) (by decide +kernel) (Nat.le_of_ble_eq_true rfl) rfl ?_
  refine aw_iload_n dX5_set_0 rfl ?_
  refine aw_iconst (v := 0) dX5_set_1 (by decide) ?_
  refine aw_iconst (v := 5) dX5_set_2 (by decide) ?_
  refine aw_S3 dX5_set_3 cw_X5_72 (by omega) ⟨Nat.le_refl _, Nat.le_refl _⟩ (by decide) (c_X5_within (fun _ => ?_) (fun zz => absurd (by decide) zz))
  refine aw_if_eq (tgt := 33) dX5_set_6 (by decide) (fun zz => absurd zz (by decide)) (fun _ => ?_)
  refine aw_iload_n dX5_set_9 rfl ?_
  refine aw_iconst (v := 0) dX5_set_10 (by decide) ?_
  refine aw_iload_n dX5_set_11 rfl ?_
  refine aw_S1 dX5_set_12 cw_X5_76 (by omega) ⟨Nat.le_refl _, Nat.le_refl _⟩ (by simp [Value.category, psh]) (c_X5_mostOf4 (fun r12 e12 => ?_))
  refine aw_S3 dX5_set_15 cw_X5_72 (by omega) ⟨Nat.le_refl _, Nat.le_refl _⟩ (by decide) (c_X5_within (fun c15 => ?_) (fun c15 => ?_))
  · refine aw_if_eq (tgt := 33) dX5_set_18 (by decide) (fun zz => absurd zz (by decide)) (fun _ => ?_)
    refine aw_aload_n dX5_set_21 rfl rfl ?_
    refine aw_gr dX5_set_22 fw_X5_28 hG.1 hG.2.2.2.1 ?_
    refine aw_iload_n dX5_set_25 rfl ?_
    refine aw_iload_n dX5_set_26 rfl ?_
    refine aw_V2 dX5_set_27 cw_X5_79 ⟨_, _, rfl⟩ hG.2.2.2.2.2.2.2.2.2.1.1 (by omega) ⟨Nat.le_refl _, Nat.le_refl _⟩ (by decide) (c_X0_has4 (by omega) hG.2.2.2.2.2.2.2.2.2.1 (fun c27 => ?_) (fun c27 => ?_))
    · refine aw_if_ne (tgt := 36) dX5_set_30 (by decide) (fun _ => ?_) (fun zz => absurd zz (by decide))
      obtain ⟨j, hj, rfl⟩ := (ix_iff hn (by omega)).mp c27
      refine aw_aload_n dX5_set_36 rfl rfl ?_
      refine aw_gr dX5_set_37 fw_X5_28 hG.1 hG.2.2.2.1 ?_
      refine aw_iload_n dX5_set_40 rfl ?_
      refine aw_iload_n dX5_set_41 rfl ?_
      refine aw_V2 dX5_set_42 cw_X5_83 ⟨_, _, rfl⟩ hG.2.2.2.2.2.2.2.2.2.1.1 (by omega) ⟨Nat.le_refl _, Nat.le_refl _⟩ (by decide) (c_X0_noted4 (j := j) hG.2.2.2.2.2.2.2.2.2.1 (by omega) (fun r42 e42 => ?_))
      refine aw_istore (ls' := [_, _, _, _, _]) dX5_set_45 (by decide) rfl rfl ?_
      refine aw_aload_n dX5_set_47 rfl rfl ?_
      refine aw_gr dX5_set_48 fw_X5_28 hG.1 hG.2.2.2.1 ?_
      refine aw_iload_n dX5_set_51 rfl ?_
      refine aw_iload_n dX5_set_52 rfl ?_
      refine aw_iload_n dX5_set_53 rfl ?_
      refine aw_V3 dX5_set_54 cw_X5_87 ⟨_, _, rfl⟩ hG.2.2.2.2.2.2.2.2.2.1.1 (by omega) ⟨Nat.le_refl _, Nat.le_refl _⟩ (by decide) (c_X0_note4 (j := j) hG.2.2.2.2.2.2.2.2.2.1 (by omega) ?_)
      refine aw_iload dX5_set_57 rfl ?_
      refine aw_ireturn (ty := .int) dX5_set_59 rfl rfl ?_
      rw [e42]
      exact hS (by rw [e12] at c15; exact c15) j hj rfl
    · refine aw_if_ne (tgt := 36) dX5_set_30 (by decide) (fun zz => absurd zz (by decide)) (fun _ => ?_)
      refine aw_bipush (v := -2) dX5_set_33 (by decide) ?_
      refine aw_ireturn (ty := .int) dX5_set_35 rfl rfl ?_
      exact hB (fun z => c27 ((ix_iff hn (by omega)).mpr z.2))
  · refine aw_if_eq (tgt := 33) dX5_set_18 (by decide) (fun _ => ?_) (fun zz => absurd zz (by decide))
    refine aw_bipush (v := -2) dX5_set_33 (by decide) ?_
    refine aw_ireturn (ty := .int) dX5_set_35 rfl rfl ?_
    exact hB (fun z => by rw [e12] at c15; exact c15 z.1)
theorem c_X5_set5 {E : Ev} {d : Nat} {I : Mi} {L : Ml} {Z : Mz} {Q : Po} {x : Int32} {v : Int32} {n : Nat} (hd : 3 ≤ d) (hG : GZ Z) (hn : I 10 13 = nI n) (hl : n ≤ 5) (hB : ¬ ((¬ v < 0 ∧ ¬ 99 < v) ∧ ∃ j, j < n ∧ x = nI j) → Q (some (.int (-2))) I L Z) (hS : (¬ v < 0 ∧ ¬ 99 < v) → ∀ j, j < n → x = nI j → Q (some (.int (I 17 j))) (iU I 17 j v) L Z) : AC E yX5_set cX5_set 5 (some .int) d 0 0 [.ref 0, .int 5, .int x, .int v] I L Z Q := by
  refine ac_go (ls := [some (.ref 0), some (.int 5), some (.int x), some (.int v), none]) (by decide +kernel) (Nat.le_of_ble_eq_true rfl) rfl ?_
  refine aw_iload_n dX5_set_0 rfl ?_
  refine aw_iconst (v := 0) dX5_set_1 (by decide) ?_
  refine aw_iconst (v := 5) dX5_set_2 (by decide) ?_
  refine aw_S3 dX5_set_3 cw_X5_72 (by omega) ⟨Nat.le_refl _, Nat.le_refl _⟩ (by decide) (c_X5_within (fun _ => ?_) (fun zz => absurd (by decide) zz))
  refine aw_if_eq (tgt := 33) dX5_set_6 (by decide) (fun zz => absurd zz (by decide)) (fun _ => ?_)
  refine aw_iload_n dX5_set_9 rfl ?_
  refine aw_iconst (v := 0) dX5_set_10 (by decide) ?_
  refine aw_iload_n dX5_set_11 rfl ?_
  refine aw_S1 dX5_set_12 cw_X5_76 (by omega) ⟨Nat.le_refl _, Nat.le_refl _⟩ (by simp [Value.category, psh]) (c_X5_mostOf5 (fun r12 e12 => ?_))
  refine aw_S3 dX5_set_15 cw_X5_72 (by omega) ⟨Nat.le_refl _, Nat.le_refl _⟩ (by decide) (c_X5_within (fun c15 => ?_) (fun c15 => ?_))
  · refine aw_if_eq (tgt := 33) dX5_set_18 (by decide) (fun zz => absurd zz (by decide)) (fun _ => ?_)
    refine aw_aload_n dX5_set_21 rfl rfl ?_
    refine aw_gr dX5_set_22 fw_X5_28 hG.1 hG.2.2.2.1 ?_
    refine aw_iload_n dX5_set_25 rfl ?_
    refine aw_iload_n dX5_set_26 rfl ?_
    refine aw_V2 dX5_set_27 cw_X5_79 ⟨_, _, rfl⟩ hG.2.2.2.2.2.2.2.2.2.1.1 (by omega) ⟨Nat.le_refl _, Nat.le_refl _⟩ (by decide) (c_X0_has5 (by omega) hG.2.2.2.2.2.2.2.2.2.1 (fun c27 => ?_) (fun c27 => ?_))
    · refine aw_if_ne (tgt := 36) dX5_set_30 (by decide) (fun _ => ?_) (fun zz => absurd zz (by decide))
      obtain ⟨j, hj, rfl⟩ := (ix_iff hn (by omega)).mp c27
      refine aw_aload_n dX5_set_36 rfl rfl ?_
      refine aw_gr dX5_set_37 fw_X5_28 hG.1 hG.2.2.2.1 ?_
      refine aw_iload_n dX5_set_40 rfl ?_
      refine aw_iload_n dX5_set_41 rfl ?_
      refine aw_V2 dX5_set_42 cw_X5_83 ⟨_, _, rfl⟩ hG.2.2.2.2.2.2.2.2.2.1.1 (by omega) ⟨Nat.le_refl _, Nat.le_refl _⟩ (by decide) (c_X0_noted5 (j := j) hG.2.2.2.2.2.2.2.2.2.1 (by omega) (fun r42 e42 => ?_))
      refine aw_istore (ls' := [_, _, _, _, _]) dX5_set_45 (by decide) rfl rfl ?_
      refine aw_aload_n dX5_set_47 rfl rfl ?_
      refine aw_gr dX5_set_48 fw_X5_28 hG.1 hG.2.2.2.1 ?_
      refine aw_iload_n dX5_set_51 rfl ?_
      refine aw_iload_n dX5_set_52 rfl ?_
      refine aw_iload_n dX5_set_53 rfl ?_
      refine aw_V3 dX5_set_54 cw_X5_87 ⟨_, _, rfl⟩ hG.2.2.2.2.2.2.2.2.2.1.1 (by omega) ⟨Nat.le_refl _, Nat.le_refl _⟩ (by decide) (c_X0_note5 (j := j) hG.2.2.2.2.2.2.2.2.2.1 (by omega) ?_)
      refine aw_iload dX5_set_57 rfl ?_
      refine aw_ireturn (ty := .int) dX5_set_59 rfl rfl ?_
      rw [e42]
      exact hS (by rw [e12] at c15; exact c15) j hj rfl
    · refine aw_if_ne (tgt := 36) dX5_set_30 (by decide) (fun zz => absurd zz (by decide)) (fun _ => ?_)
      refine aw_bipush (v := -2) dX5_set_33 (by decide) ?_
      refine aw_ireturn (ty := .int) dX5_set_35 rfl rfl ?_
      exact hB (fun z => c27 ((ix_iff hn (by omega)).mpr z.2))
  · refine aw_if_eq (tgt := 33) dX5_set_18 (by decide) (fun _ => ?_) (fun zz => absurd zz (by decide))
    refine aw_bipush (v := -2) dX5_set_33 (by decide) ?_
    refine aw_ireturn (ty := .int) dX5_set_35 rfl rfl ?_
    exact hB (fun z => by rw [e12] at c15; exact c15 z.1)
theorem c_X5_setX {E : Ev} {d : Nat} {I : Mi} {L : Ml} {Z : Mz} {Q : Po} {w : Int32} {x : Int32} {v : Int32}  (hd : 3 ≤ d) (hG : GZ Z) (hw : ¬ (¬ w < 0 ∧ ¬ 5 < w)) (hB : Q (some (.int (-2))) I L Z) : AC E yX5_set cX5_set 5 (some .int) d 0 0 [.ref 0, .int w, .int x, .int v] I L Z Q := by
  refine ac_go (ls := [some (.ref 0), some (.int w), some (.int x), some (.int v), none]) (by decide +kernel) (Nat.le_of_ble_eq_true rfl) rfl ?_
  refine aw_iload_n dX5_set_0 rfl ?_
  refine aw_iconst (v := 0) dX5_set_1 (by decide) ?_
  refine aw_iconst (v := 5) dX5_set_2 (by decide) ?_
  refine aw_S3 dX5_set_3 cw_X5_72 (by omega) ⟨Nat.le_refl _, Nat.le_refl _⟩ (by decide) (c_X5_within (fun zz => absurd zz hw) (fun c3 => ?_))
  refine aw_if_eq (tgt := 33) dX5_set_6 (by decide) (fun _ => ?_) (fun zz => absurd zz (by decide))
  refine aw_bipush (v := -2) dX5_set_33 (by decide) ?_
  refine aw_ireturn (ty := .int) dX5_set_35 rfl rfl ?_
  exact hB
theorem c_X5_told0 {E : Ev} {d : Nat} {I : Mi} {L : Ml} {Z : Mz} {Q : Po} {x : Int32}  (hd : 3 ≤ d) (hG : GZ Z) (hS : Q (some (.int (I 10 1))) I L Z) : AC E yX5_told cX5_told 3 (some .int) d 0 0 [.ref 0, .int x, .int 0] I L Z Q := by
  refine ac_go (ls := [some (.ref 0), some (.int x), some (.int 0)]) (by decide +kernel) (Nat.le_of_ble_eq_true rfl) rfl ?_
  refine aw_iload_n dX5_told_0 rfl ?_
  refine aw_iconst (v := 0) dX5_told_1 (by decide) ?_
  refine aw_bipush (v := 9) dX5_told_2 (by decide) ?_
  refine aw_S3 dX5_told_4 cw_X5_72 (by omega) ⟨Nat.le_refl _, Nat.le_refl _⟩ (by decide) (c_X5_within (fun _ => ?_) (fun zz => absurd (by decide) zz))
  refine aw_if_eq (tgt := 22) dX5_told_7 (by decide) (fun zz => absurd zz (by decide)) (fun _ => ?_)
  refine aw_aload_n dX5_told_10 rfl rfl ?_
  refine aw_gr dX5_told_11 fw_X5_28 hG.1 hG.2.2.2.1 ?_
  refine aw_iload_n dX5_told_14 rfl ?_
  refine aw_iload_n dX5_told_15 rfl ?_
  refine aw_V2 dX5_told_16 cw_X5_79 ⟨_, _, rfl⟩ hG.2.2.2.2.2.2.2.2.2.1.1 (by omega) ⟨Nat.le_refl _, Nat.le_refl _⟩ (by decide) (c_X0_has0 (by omega) hG.2.2.2.2.2.2.2.2.2.1 (fun c16 => ?_) (fun zz => absurd trivial zz))
  refine aw_if_ne (tgt := 25) dX5_told_19 (by decide) (fun _ => ?_) (fun zz => absurd zz (by decide))
  refine aw_aload_n dX5_told_25 rfl rfl ?_
  refine aw_gr dX5_told_26 fw_X5_28 hG.1 hG.2.2.2.1 ?_
  refine aw_iload_n dX5_told_29 rfl ?_
  refine aw_iload_n dX5_told_30 rfl ?_
  refine aw_V2 dX5_told_31 cw_X5_83 ⟨_, _, rfl⟩ hG.2.2.2.2.2.2.2.2.2.1.1 (by omega) ⟨Nat.le_refl _, Nat.le_refl _⟩ (by decide) (c_X0_noted0 hG.2.2.2.2.2.2.2.2.2.1 (fun r31 e31 => ?_))
  refine aw_ireturn (ty := .int) dX5_told_34 rfl rfl ?_
  rw [e31]
  exact hS
theorem c_X5_told1 {E : Ev} {d : Nat} {I : Mi} {L : Ml} {Z : Mz} {Q : Po} {x : Int32}  (hd : 3 ≤ d) (hG : GZ Z) (hS : Q (some (.int (I 10 2))) I L Z) : AC E yX5_told cX5_told 3 (some .int) d 0 0 [.ref 0, .int x, .int 1] I L Z Q := by
  refine ac_go (ls := [some (.ref 0), some (.int x), some (.int 1)]) (by decide +kernel) (Nat.le_of_ble_eq_true rfl) rfl ?_
  refine aw_iload_n dX5_told_0 rfl ?_
  refine aw_iconst (v := 0) dX5_told_1 (by decide) ?_
  refine aw_bipush (v := 9) dX5_told_2 (by decide) ?_
  refine aw_S3 dX5_told_4 cw_X5_72 (by omega) ⟨Nat.le_refl _, Nat.le_refl _⟩ (by decide) (c_X5_within (fun _ => ?_) (fun zz => absurd (by decide) zz))
  refine aw_if_eq (tgt := 22) dX5_told_7 (by decide) (fun zz => absurd zz (by decide)) (fun _ => ?_)
  refine aw_aload_n dX5_told_10 rfl rfl ?_
  refine aw_gr dX5_told_11 fw_X5_28 hG.1 hG.2.2.2.1 ?_
  refine aw_iload_n dX5_told_14 rfl ?_
  refine aw_iload_n dX5_told_15 rfl ?_
  refine aw_V2 dX5_told_16 cw_X5_79 ⟨_, _, rfl⟩ hG.2.2.2.2.2.2.2.2.2.1.1 (by omega) ⟨Nat.le_refl _, Nat.le_refl _⟩ (by decide) (c_X0_has1 (by omega) hG.2.2.2.2.2.2.2.2.2.1 (fun c16 => ?_) (fun zz => absurd trivial zz))
  refine aw_if_ne (tgt := 25) dX5_told_19 (by decide) (fun _ => ?_) (fun zz => absurd zz (by decide))
  refine aw_aload_n dX5_told_25 rfl rfl ?_
  refine aw_gr dX5_told_26 fw_X5_28 hG.1 hG.2.2.2.1 ?_
  refine aw_iload_n dX5_told_29 rfl ?_
  refine aw_iload_n dX5_told_30 rfl ?_
  refine aw_V2 dX5_told_31 cw_X5_83 ⟨_, _, rfl⟩ hG.2.2.2.2.2.2.2.2.2.1.1 (by omega) ⟨Nat.le_refl _, Nat.le_refl _⟩ (by decide) (c_X0_noted1 hG.2.2.2.2.2.2.2.2.2.1 (fun r31 e31 => ?_))
  refine aw_ireturn (ty := .int) dX5_told_34 rfl rfl ?_
  rw [e31]
  exact hS
theorem c_X5_told2 {E : Ev} {d : Nat} {I : Mi} {L : Ml} {Z : Mz} {Q : Po} {x : Int32} {n : Nat} (hd : 3 ≤ d) (hG : GZ Z) (hn : I 10 6 = nI n) (hl : n ≤ 6) (hB : (¬ ∃ j, j < n ∧ x = nI j) → Q (some (.int (-2))) I L Z) (hS : ∀ j, j < n → x = nI j → Q (some (.int (I 11 j))) I L Z) : AC E yX5_told cX5_told 3 (some .int) d 0 0 [.ref 0, .int x, .int 2] I L Z Q := by
  refine ac_go (ls := [some (.ref 0), some (.int x), some (.int 2)]) (by decide +kernel) (Nat.le_of_ble_eq_true rfl) rfl ?_
  refine aw_iload_n dX5_told_0 rfl ?_
  refine aw_iconst (v := 0) dX5_told_1 (by decide) ?_
  refine aw_bipush (v := 9) dX5_told_2 (by decide) ?_
  refine aw_S3 dX5_told_4 cw_X5_72 (by omega) ⟨Nat.le_refl _, Nat.le_refl _⟩ (by decide) (c_X5_within (fun _ => ?_) (fun zz => absurd (by decide) zz))
  refine aw_if_eq (tgt := 22) dX5_told_7 (by decide) (fun zz => absurd zz (by decide)) (fun _ => ?_)
  refine aw_aload_n dX5_told_10 rfl rfl ?_
  refine aw_gr dX5_told_11 fw_X5_28 hG.1 hG.2.2.2.1 ?_
  refine aw_iload_n dX5_told_14 rfl ?_
  refine aw_iload_n dX5_told_15 rfl ?_
  refine aw_V2 dX5_told_16 cw_X5_79 ⟨_, _, rfl⟩ hG.2.2.2.2.2.2.2.2.2.1.1 (by omega) ⟨Nat.le_refl _, Nat.le_refl _⟩ (by decide) (c_X0_has2 (by omega) hG.2.2.2.2.2.2.2.2.2.1 (fun c16 => ?_) (fun c16 => ?_))
  · refine aw_if_ne (tgt := 25) dX5_told_19 (by decide) (fun _ => ?_) (fun zz => absurd zz (by decide))
    obtain ⟨j, hj, rfl⟩ := (ix_iff hn (by omega)).mp c16
    refine aw_aload_n dX5_told_25 rfl rfl ?_
    refine aw_gr dX5_told_26 fw_X5_28 hG.1 hG.2.2.2.1 ?_
    refine aw_iload_n dX5_told_29 rfl ?_
    refine aw_iload_n dX5_told_30 rfl ?_
    refine aw_V2 dX5_told_31 cw_X5_83 ⟨_, _, rfl⟩ hG.2.2.2.2.2.2.2.2.2.1.1 (by omega) ⟨Nat.le_refl _, Nat.le_refl _⟩ (by decide) (c_X0_noted2 (j := j) hG.2.2.2.2.2.2.2.2.2.1 (by omega) (fun r31 e31 => ?_))
    refine aw_ireturn (ty := .int) dX5_told_34 rfl rfl ?_
    rw [e31]
    exact hS j hj rfl
  · refine aw_if_ne (tgt := 25) dX5_told_19 (by decide) (fun zz => absurd zz (by decide)) (fun _ => ?_)
    refine aw_bipush (v := -2) dX5_told_22 (by decide) ?_
    refine aw_ireturn (ty := .int) dX5_told_24 rfl rfl ?_
    exact hB (fun z => c16 ((ix_iff hn (by omega)).mpr z))
theorem c_X5_told3 {E : Ev} {d : Nat} {I : Mi} {L : Ml} {Z : Mz} {Q : Po} {x : Int32} {n : Nat} (hd : 3 ≤ d) (hG : GZ Z) (hn : I 10 6 = nI n) (hl : n ≤ 6) (hB : (¬ ∃ j, j < n ∧ x = nI j) → Q (some (.int (-2))) I L Z) (hS : ∀ j, j < n → x = nI j → Q (some (.int (I 12 j))) I L Z) : AC E yX5_told cX5_told 3 (some .int) d 0 0 [.ref 0, .int x, .int 3] I L Z Q := by
  refine ac_go (ls := [some (.ref 0), some (.int x), some (.int 3)]) (by decide +kernel) (Nat.le_of_ble_eq_true rfl) rfl ?_
  refine aw_iload_n dX5_told_0 rfl ?_
  refine aw_iconst (v := 0) dX5_told_1 (by decide) ?_
  refine aw_bipush (v := 9) dX5_told_2 (by decide) ?_
  refine aw_S3 dX5_told_4 cw_X5_72 (by omega) ⟨Nat.le_refl _, Nat.le_refl _⟩ (by decide) (c_X5_within (fun _ => ?_) (fun zz => absurd (by decide) zz))
  refine aw_if_eq (tgt := 22) dX5_told_7 (by decide) (fun zz => absurd zz (by decide)) (fun _ => ?_)
  refine aw_aload_n dX5_told_10 rfl rfl ?_
  refine aw_gr dX5_told_11 fw_X5_28 hG.1 hG.2.2.2.1 ?_
  refine aw_iload_n dX5_told_14 rfl ?_
  refine aw_iload_n dX5_told_15 rfl ?_
  refine aw_V2 dX5_told_16 cw_X5_79 ⟨_, _, rfl⟩ hG.2.2.2.2.2.2.2.2.2.1.1 (by omega) ⟨Nat.le_refl _, Nat.le_refl _⟩ (by decide) (c_X0_has3 (by omega) hG.2.2.2.2.2.2.2.2.2.1 (fun c16 => ?_) (fun c16 => ?_))
  · refine aw_if_ne (tgt := 25) dX5_told_19 (by decide) (fun _ => ?_) (fun zz => absurd zz (by decide))
    obtain ⟨j, hj, rfl⟩ := (ix_iff hn (by omega)).mp c16
    refine aw_aload_n dX5_told_25 rfl rfl ?_
    refine aw_gr dX5_told_26 fw_X5_28 hG.1 hG.2.2.2.1 ?_
    refine aw_iload_n dX5_told_29 rfl ?_
    refine aw_iload_n dX5_told_30 rfl ?_
    refine aw_V2 dX5_told_31 cw_X5_83 ⟨_, _, rfl⟩ hG.2.2.2.2.2.2.2.2.2.1.1 (by omega) ⟨Nat.le_refl _, Nat.le_refl _⟩ (by decide) (c_X0_noted3 (j := j) hG.2.2.2.2.2.2.2.2.2.1 (by omega) (fun r31 e31 => ?_))
    refine aw_ireturn (ty := .int) dX5_told_34 rfl rfl ?_
    rw [e31]
    exact hS j hj rfl
  · refine aw_if_ne (tgt := 25) dX5_told_19 (by decide) (fun zz => absurd zz (by decide)) (fun _ => ?_)
    refine aw_bipush (v := -2) dX5_told_22 (by decide) ?_
    refine aw_ireturn (ty := .int) dX5_told_24 rfl rfl ?_
    exact hB (fun z => c16 ((ix_iff hn (by omega)).mpr z))
theorem c_X5_told4 {E : Ev} {d : Nat} {I : Mi} {L : Ml} {Z : Mz} {Q : Po} {x : Int32} {n : Nat} (hd : 3 ≤ d) (hG : GZ Z) (hn : I 10 13 = nI n) (hl : n ≤ 5) (hB : (¬ ∃ j, j < n ∧ x = nI j) → Q (some (.int (-2))) I L Z) (hS : ∀ j, j < n → x = nI j → Q (some (.int (I 16 j))) I L Z) : AC E yX5_told cX5_told 3 (some .int) d 0 0 [.ref 0, .int x, .int 4] I L Z Q := by
  refine ac_go (ls := [some (.ref 0), some (.int x), some (.int 4)]) (by decide +kernel) (Nat.le_of_ble_eq_true rfl) rfl ?_
  refine aw_iload_n dX5_told_0 rfl ?_
  refine aw_iconst (v := 0) dX5_told_1 (by decide) ?_
  refine aw_bipush (v := 9) dX5_told_2 (by decide) ?_
  refine aw_S3 dX5_told_4 cw_X5_72 (by omega) ⟨Nat.le_refl _, Nat.le_refl _⟩ (by decide) (c_X5_within (fun _ => ?_) (fun zz => absurd (by decide) zz))
  refine aw_if_eq (tgt := 22) dX5_told_7 (by decide) (fun zz => absurd zz (by decide)) (fun _ => ?_)
  refine aw_aload_n dX5_told_10 rfl rfl ?_
  refine aw_gr dX5_told_11 fw_X5_28 hG.1 hG.2.2.2.1 ?_
  refine aw_iload_n dX5_told_14 rfl ?_
  refine aw_iload_n dX5_told_15 rfl ?_
  refine aw_V2 dX5_told_16 cw_X5_79 ⟨_, _, rfl⟩ hG.2.2.2.2.2.2.2.2.2.1.1 (by omega) ⟨Nat.le_refl _, Nat.le_refl _⟩ (by decide) (c_X0_has4 (by omega) hG.2.2.2.2.2.2.2.2.2.1 (fun c16 => ?_) (fun c16 => ?_))
  · refine aw_if_ne (tgt := 25) dX5_told_19 (by decide) (fun _ => ?_) (fun zz => absurd zz (by decide))
    obtain ⟨j, hj, rfl⟩ := (ix_iff hn (by omega)).mp c16
    refine aw_aload_n dX5_told_25 rfl rfl ?_
    refine aw_gr dX5_told_26 fw_X5_28 hG.1 hG.2.2.2.1 ?_
    refine aw_iload_n dX5_told_29 rfl ?_
    refine aw_iload_n dX5_told_30 rfl ?_
    refine aw_V2 dX5_told_31 cw_X5_83 ⟨_, _, rfl⟩ hG.2.2.2.2.2.2.2.2.2.1.1 (by omega) ⟨Nat.le_refl _, Nat.le_refl _⟩ (by decide) (c_X0_noted4 (j := j) hG.2.2.2.2.2.2.2.2.2.1 (by omega) (fun r31 e31 => ?_))
    refine aw_ireturn (ty := .int) dX5_told_34 rfl rfl ?_
    rw [e31]
    exact hS j hj rfl
  · refine aw_if_ne (tgt := 25) dX5_told_19 (by decide) (fun zz => absurd zz (by decide)) (fun _ => ?_)
    refine aw_bipush (v := -2) dX5_told_22 (by decide) ?_
    refine aw_ireturn (ty := .int) dX5_told_24 rfl rfl ?_
    exact hB (fun z => c16 ((ix_iff hn (by omega)).mpr z))
theorem c_X5_told5 {E : Ev} {d : Nat} {I : Mi} {L : Ml} {Z : Mz} {Q : Po} {x : Int32} {n : Nat} (hd : 3 ≤ d) (hG : GZ Z) (hn : I 10 13 = nI n) (hl : n ≤ 5) (hB : (¬ ∃ j, j < n ∧ x = nI j) → Q (some (.int (-2))) I L Z) (hS : ∀ j, j < n → x = nI j → Q (some (.int (I 17 j))) I L Z) : AC E yX5_told cX5_told 3 (some .int) d 0 0 [.ref 0, .int x, .int 5] I L Z Q := by
  refine ac_go (ls := [some (.ref 0), some (.int x), some (.int 5)]) (by decide +kernel) (Nat.le_of_ble_eq_true rfl) rfl ?_
  refine aw_iload_n dX5_told_0 rfl ?_
  refine aw_iconst (v := 0) dX5_told_1 (by decide) ?_
  refine aw_bipush (v := 9) dX5_told_2 (by decide) ?_
  refine aw_S3 dX5_told_4 cw_X5_72 (by omega) ⟨Nat.le_refl _, Nat.le_refl _⟩ (by decide) (c_X5_within (fun _ => ?_) (fun zz => absurd (by decide) zz))
  refine aw_if_eq (tgt := 22) dX5_told_7 (by decide) (fun zz => absurd zz (by decide)) (fun _ => ?_)
  refine aw_aload_n dX5_told_10 rfl rfl ?_
  refine aw_gr dX5_told_11 fw_X5_28 hG.1 hG.2.2.2.1 ?_
  refine aw_iload_n dX5_told_14 rfl ?_
  refine aw_iload_n dX5_told_15 rfl ?_
  refine aw_V2 dX5_told_16 cw_X5_79 ⟨_, _, rfl⟩ hG.2.2.2.2.2.2.2.2.2.1.1 (by omega) ⟨Nat.le_refl _, Nat.le_refl _⟩ (by decide) (c_X0_has5 (by omega) hG.2.2.2.2.2.2.2.2.2.1 (fun c16 => ?_) (fun c16 => ?_))
  · refine aw_if_ne (tgt := 25) dX5_told_19 (by decide) (fun _ => ?_) (fun zz => absurd zz (by decide))
    obtain ⟨j, hj, rfl⟩ := (ix_iff hn (by omega)).mp c16
    refine aw_aload_n dX5_told_25 rfl rfl ?_
    refine aw_gr dX5_told_26 fw_X5_28 hG.1 hG.2.2.2.1 ?_
    refine aw_iload_n dX5_told_29 rfl ?_
    refine aw_iload_n dX5_told_30 rfl ?_
    refine aw_V2 dX5_told_31 cw_X5_83 ⟨_, _, rfl⟩ hG.2.2.2.2.2.2.2.2.2.1.1 (by omega) ⟨Nat.le_refl _, Nat.le_refl _⟩ (by decide) (c_X0_noted5 (j := j) hG.2.2.2.2.2.2.2.2.2.1 (by omega) (fun r31 e31 => ?_))
    refine aw_ireturn (ty := .int) dX5_told_34 rfl rfl ?_
    rw [e31]
    exact hS j hj rfl
  · refine aw_if_ne (tgt := 25) dX5_told_19 (by decide) (fun zz => absurd zz (by decide)) (fun _ => ?_)
    refine aw_bipush (v := -2) dX5_told_22 (by decide) ?_
    refine aw_ireturn (ty := .int) dX5_told_24 rfl rfl ?_
    exact hB (fun z => c16 ((ix_iff hn (by omega)).mpr z))
theorem c_X5_told6 {E : Ev} {d : Nat} {I : Mi} {L : Ml} {Z : Mz} {Q : Po} {x : Int32} {n : Nat} (hd : 3 ≤ d) (hG : GZ Z) (hn : I 10 13 = nI n) (hl : n ≤ 5) (hB : (¬ ∃ j, j < n ∧ x = nI j) → Q (some (.int (-2))) I L Z) (hS : ∀ j, j < n → x = nI j → Q (some (.int (I 15 j))) I L Z) : AC E yX5_told cX5_told 3 (some .int) d 0 0 [.ref 0, .int x, .int 6] I L Z Q := by
  refine ac_go (ls := [some (.ref 0), some (.int x), some (.int 6)]) (by decide +kernel) (Nat.le_of_ble_eq_true rfl) rfl ?_
  refine aw_iload_n dX5_told_0 rfl ?_
  refine aw_iconst (v := 0) dX5_told_1 (by decide) ?_
  refine aw_bipush (v := 9) dX5_told_2 (by decide) ?_
  refine aw_S3 dX5_told_4 cw_X5_72 (by omega) ⟨Nat.le_refl _, Nat.le_refl _⟩ (by decide) (c_X5_within (fun _ => ?_) (fun zz => absurd (by decide) zz))
  refine aw_if_eq (tgt := 22) dX5_told_7 (by decide) (fun zz => absurd zz (by decide)) (fun _ => ?_)
  refine aw_aload_n dX5_told_10 rfl rfl ?_
  refine aw_gr dX5_told_11 fw_X5_28 hG.1 hG.2.2.2.1 ?_
  refine aw_iload_n dX5_told_14 rfl ?_
  refine aw_iload_n dX5_told_15 rfl ?_
  refine aw_V2 dX5_told_16 cw_X5_79 ⟨_, _, rfl⟩ hG.2.2.2.2.2.2.2.2.2.1.1 (by omega) ⟨Nat.le_refl _, Nat.le_refl _⟩ (by decide) (c_X0_has6 (by omega) hG.2.2.2.2.2.2.2.2.2.1 (fun c16 => ?_) (fun c16 => ?_))
  · refine aw_if_ne (tgt := 25) dX5_told_19 (by decide) (fun _ => ?_) (fun zz => absurd zz (by decide))
    obtain ⟨j, hj, rfl⟩ := (ix_iff hn (by omega)).mp c16
    refine aw_aload_n dX5_told_25 rfl rfl ?_
    refine aw_gr dX5_told_26 fw_X5_28 hG.1 hG.2.2.2.1 ?_
    refine aw_iload_n dX5_told_29 rfl ?_
    refine aw_iload_n dX5_told_30 rfl ?_
    refine aw_V2 dX5_told_31 cw_X5_83 ⟨_, _, rfl⟩ hG.2.2.2.2.2.2.2.2.2.1.1 (by omega) ⟨Nat.le_refl _, Nat.le_refl _⟩ (by decide) (c_X0_noted6 (j := j) hG.2.2.2.2.2.2.2.2.2.1 (by omega) (fun r31 e31 => ?_))
    refine aw_ireturn (ty := .int) dX5_told_34 rfl rfl ?_
    rw [e31]
    exact hS j hj rfl
  · refine aw_if_ne (tgt := 25) dX5_told_19 (by decide) (fun zz => absurd zz (by decide)) (fun _ => ?_)
    refine aw_bipush (v := -2) dX5_told_22 (by decide) ?_
    refine aw_ireturn (ty := .int) dX5_told_24 rfl rfl ?_
    exact hB (fun z => c16 ((ix_iff hn (by omega)).mpr z))
theorem c_X5_told8 {E : Ev} {d : Nat} {I : Mi} {L : Ml} {Z : Mz} {Q : Po} {x : Int32} {n : Nat} (hd : 3 ≤ d) (hG : GZ Z) (hn : I 10 9 = nI n) (hl : n ≤ 12) (hB : (¬ ∃ j, j < n ∧ x = nI j) → Q (some (.int (-2))) I L Z) (hS : ∀ j, j < n → x = nI j → Q (some (.int (I 13 j))) I L Z) : AC E yX5_told cX5_told 3 (some .int) d 0 0 [.ref 0, .int x, .int 8] I L Z Q := by
  refine ac_go (ls := [some (.ref 0), some (.int x), some (.int 8)]) (by decide +kernel) (Nat.le_of_ble_eq_true rfl) rfl ?_
  refine aw_iload_n dX5_told_0 rfl ?_
  refine aw_iconst (v := 0) dX5_told_1 (by decide) ?_
  refine aw_bipush (v := 9) dX5_told_2 (by decide) ?_
  refine aw_S3 dX5_told_4 cw_X5_72 (by omega) ⟨Nat.le_refl _, Nat.le_refl _⟩ (by decide) (c_X5_within (fun _ => ?_) (fun zz => absurd (by decide) zz))
  refine aw_if_eq (tgt := 22) dX5_told_7 (by decide) (fun zz => absurd zz (by decide)) (fun _ => ?_)
  refine aw_aload_n dX5_told_10 rfl rfl ?_
  refine aw_gr dX5_told_11 fw_X5_28 hG.1 hG.2.2.2.1 ?_
  refine aw_iload_n dX5_told_14 rfl ?_
  refine aw_iload_n dX5_told_15 rfl ?_
  refine aw_V2 dX5_told_16 cw_X5_79 ⟨_, _, rfl⟩ hG.2.2.2.2.2.2.2.2.2.1.1 (by omega) ⟨Nat.le_refl _, Nat.le_refl _⟩ (by decide) (c_X0_has8 (by omega) hG.2.2.2.2.2.2.2.2.2.1 (fun c16 => ?_) (fun c16 => ?_))
  · refine aw_if_ne (tgt := 25) dX5_told_19 (by decide) (fun _ => ?_) (fun zz => absurd zz (by decide))
    obtain ⟨j, hj, rfl⟩ := (ix_iff hn (by omega)).mp c16
    refine aw_aload_n dX5_told_25 rfl rfl ?_
    refine aw_gr dX5_told_26 fw_X5_28 hG.1 hG.2.2.2.1 ?_
    refine aw_iload_n dX5_told_29 rfl ?_
    refine aw_iload_n dX5_told_30 rfl ?_
    refine aw_V2 dX5_told_31 cw_X5_83 ⟨_, _, rfl⟩ hG.2.2.2.2.2.2.2.2.2.1.1 (by omega) ⟨Nat.le_refl _, Nat.le_refl _⟩ (by decide) (c_X0_noted8 (j := j) hG.2.2.2.2.2.2.2.2.2.1 (by omega) (fun r31 e31 => ?_))
    refine aw_ireturn (ty := .int) dX5_told_34 rfl rfl ?_
    rw [e31]
    exact hS j hj rfl
  · refine aw_if_ne (tgt := 25) dX5_told_19 (by decide) (fun zz => absurd zz (by decide)) (fun _ => ?_)
    refine aw_bipush (v := -2) dX5_told_22 (by decide) ?_
    refine aw_ireturn (ty := .int) dX5_told_24 rfl rfl ?_
    exact hB (fun z => c16 ((ix_iff hn (by omega)).mpr z))
theorem c_X5_told9 {E : Ev} {d : Nat} {I : Mi} {L : Ml} {Z : Mz} {Q : Po} {x : Int32} {n : Nat} (hd : 3 ≤ d) (hG : GZ Z) (hn : I 10 9 = nI n) (hl : n ≤ 12) (hB : (¬ ∃ j, j < n ∧ x = nI j) → Q (some (.int (-2))) I L Z) (hS : ∀ j, j < n → x = nI j → Q (some (.int (I 14 j))) I L Z) : AC E yX5_told cX5_told 3 (some .int) d 0 0 [.ref 0, .int x, .int 9] I L Z Q := by
  refine ac_go (ls := [some (.ref 0), some (.int x), some (.int 9)]) (by decide +kernel) (Nat.le_of_ble_eq_true rfl) rfl ?_
  refine aw_iload_n dX5_told_0 rfl ?_
  refine aw_iconst (v := 0) dX5_told_1 (by decide) ?_
  refine aw_bipush (v := 9) dX5_told_2 (by decide) ?_
  refine aw_S3 dX5_told_4 cw_X5_72 (by omega) ⟨Nat.le_refl _, Nat.le_refl _⟩ (by decide) (c_X5_within (fun _ => ?_) (fun zz => absurd (by decide) zz))
  refine aw_if_eq (tgt := 22) dX5_told_7 (by decide) (fun zz => absurd zz (by decide)) (fun _ => ?_)
  refine aw_aload_n dX5_told_10 rfl rfl ?_
  refine aw_gr dX5_told_11 fw_X5_28 hG.1 hG.2.2.2.1 ?_
  refine aw_iload_n dX5_told_14 rfl ?_
  refine aw_iload_n dX5_told_15 rfl ?_
  refine aw_V2 dX5_told_16 cw_X5_79 ⟨_, _, rfl⟩ hG.2.2.2.2.2.2.2.2.2.1.1 (by omega) ⟨Nat.le_refl _, Nat.le_refl _⟩ (by decide) (c_X0_has9 (by omega) hG.2.2.2.2.2.2.2.2.2.1 (fun c16 => ?_) (fun c16 => ?_))
  · refine aw_if_ne (tgt := 25) dX5_told_19 (by decide) (fun _ => ?_) (fun zz => absurd zz (by decide))
    obtain ⟨j, hj, rfl⟩ := (ix_iff hn (by omega)).mp c16
    refine aw_aload_n dX5_told_25 rfl rfl ?_
    refine aw_gr dX5_told_26 fw_X5_28 hG.1 hG.2.2.2.1 ?_
    refine aw_iload_n dX5_told_29 rfl ?_
    refine aw_iload_n dX5_told_30 rfl ?_
    refine aw_V2 dX5_told_31 cw_X5_83 ⟨_, _, rfl⟩ hG.2.2.2.2.2.2.2.2.2.1.1 (by omega) ⟨Nat.le_refl _, Nat.le_refl _⟩ (by decide) (c_X0_noted9 (j := j) hG.2.2.2.2.2.2.2.2.2.1 (by omega) (fun r31 e31 => ?_))
    refine aw_ireturn (ty := .int) dX5_told_34 rfl rfl ?_
    rw [e31]
    exact hS j hj rfl
  · refine aw_if_ne (tgt := 25) dX5_told_19 (by decide) (fun zz => absurd zz (by decide)) (fun _ => ?_)
    refine aw_bipush (v := -2) dX5_told_22 (by decide) ?_
    refine aw_ireturn (ty := .int) dX5_told_24 rfl rfl ?_
    exact hB (fun z => c16 ((ix_iff hn (by omega)).mpr z))
theorem c_X5_toldX {E : Ev} {d : Nat} {I : Mi} {L : Ml} {Z : Mz} {Q : Po} {x : Int32} {w : Int32}  (hd : 3 ≤ d) (hG : GZ Z) (hw : ¬ (¬ w < 0 ∧ ¬ 9 < w)) (hB : Q (some (.int (-2))) I L Z) : AC E yX5_told cX5_told 3 (some .int) d 0 0 [.ref 0, .int x, .int w] I L Z Q := by
  refine ac_go (ls := [some (.ref 0), some (.int x), some (.int w)]) (by decide +kernel) (Nat.le_of_ble_eq_true rfl) rfl ?_
  refine aw_iload_n dX5_told_0 rfl ?_
  refine aw_iconst (v := 0) dX5_told_1 (by decide) ?_
  refine aw_bipush (v := 9) dX5_told_2 (by decide) ?_
  refine aw_S3 dX5_told_4 cw_X5_72 (by omega) ⟨Nat.le_refl _, Nat.le_refl _⟩ (by decide) (c_X5_within (fun zz => absurd zz hw) (fun c4 => ?_))
  refine aw_if_eq (tgt := 22) dX5_told_7 (by decide) (fun _ => ?_) (fun zz => absurd zz (by decide))
  refine aw_bipush (v := -2) dX5_told_22 (by decide) ?_
  refine aw_ireturn (ty := .int) dX5_told_24 rfl rfl ?_
  exact hB
/-! ===== the class: cup, reason, unsay, reader, force, image, back, count, cell, sheet, copy ===== -/
theorem c_X5_cup {E : Ev} {d : Nat} {I : Mi} {L : Ml} {Z : Mz} {Q : Po} {x : Int32} {z : Int32} {n : Nat} (hd : 3 ≤ d) (hG : GZ Z) (hn : I 10 6 = nI n) (hl : n ≤ 6) (hB : ¬ ((¬ x < 0 ∧ ¬ 4095 < x) ∧ (¬ z < 0 ∧ ¬ 11 < z)) → Q (some (.int (-2))) I L Z) (hFl : (¬ x < 0 ∧ ¬ 4095 < x) ∧ (¬ z < 0 ∧ ¬ 11 < z) → n = 6 → Q (some (.int (-4))) I L Z) (hA : (¬ x < 0 ∧ ¬ 4095 < x) ∧ (¬ z < 0 ∧ ¬ 11 < z) → n < 6 → Q (some (.int (nI n))) (iU (iU (iU I 11 n x) 12 n z) 10 6 (nI (n + 1))) L Z) : AC E yX5_cup cX5_cup 3 (some .int) d 0 0 [.ref 0, .int x, .int z] I L Z Q := by
  refine ac_go (ls := [some (.ref 0), some (.int x), some (.int z)]) (by decide +kernel) (Nat.le_of_ble_eq_true rfl) rfl ?_
  refine aw_iload_n dX5_cup_0 rfl ?_
  refine aw_S1 dX5_cup_1 cw_X5_91 (by omega) ⟨Nat.le_refl _, Nat.le_refl _⟩ (by decide) (c_X5_isSet (by omega) (fun c1 => ?_) (fun c1 => ?_))
  · refine aw_if_eq (tgt := 14) dX5_cup_4 (by decide) (fun zz => absurd zz (by decide)) (fun _ => ?_)
    refine aw_iload_n dX5_cup_7 rfl ?_
    refine aw_S1 dX5_cup_8 cw_X5_95 (by omega) ⟨Nat.le_refl _, Nat.le_refl _⟩ (by decide) (c_X5_isSaying (by omega) (fun c8 => ?_) (fun c8 => ?_))
    · refine aw_if_ne (tgt := 17) dX5_cup_11 (by decide) (fun _ => ?_) (fun zz => absurd zz (by decide))
      refine aw_aload_n dX5_cup_17 rfl rfl ?_
      refine aw_gr dX5_cup_18 fw_X5_28 hG.1 hG.2.2.2.1 ?_
      refine aw_iload_n dX5_cup_21 rfl ?_
      refine aw_iload_n dX5_cup_22 rfl ?_
      refine aw_V2 dX5_cup_23 cw_X5_98 ⟨_, _, rfl⟩ hG.2.2.2.2.2.2.2.2.2.1.1 (by omega) ⟨Nat.le_refl _, Nat.le_refl _⟩ (by decide) (c_X0_addCup hG.2.2.2.2.2.2.2.2.2.1 hn hl (fun e => ?_) (fun e => ?_))
      · refine aw_ireturn (ty := .int) dX5_cup_26 rfl rfl ?_
        exact hFl ⟨c1, c8⟩ e
      · refine aw_ireturn (ty := .int) dX5_cup_26 rfl rfl ?_
        exact hA ⟨c1, c8⟩ e
    · refine aw_if_ne (tgt := 17) dX5_cup_11 (by decide) (fun zz => absurd zz (by decide)) (fun _ => ?_)
      refine aw_bipush (v := -2) dX5_cup_14 (by decide) ?_
      refine aw_ireturn (ty := .int) dX5_cup_16 rfl rfl ?_
      exact hB (fun zz => c8 zz.2)
  · refine aw_if_eq (tgt := 14) dX5_cup_4 (by decide) (fun _ => ?_) (fun zz => absurd zz (by decide))
    refine aw_bipush (v := -2) dX5_cup_14 (by decide) ?_
    refine aw_ireturn (ty := .int) dX5_cup_16 rfl rfl ?_
    exact hB (fun zz => c1 zz.1)
theorem c_X5_reason {E : Ev} {d : Nat} {I : Mi} {L : Ml} {Z : Mz} {Q : Po} {x : Int32} {z : Int32} {n : Nat} (hd : 3 ≤ d) (hG : GZ Z) (hn : I 10 9 = nI n) (hl : n ≤ 12) (hB : ¬ ((¬ x < 0 ∧ ¬ 4095 < x) ∧ (¬ z < 0 ∧ ¬ 11 < z) ∧ x &&& (1 <<< (z &&& 31)) = 0) → Q (some (.int (-2))) I L Z) (hFl : (¬ x < 0 ∧ ¬ 4095 < x) ∧ (¬ z < 0 ∧ ¬ 11 < z) ∧ x &&& (1 <<< (z &&& 31)) = 0 → n = 12 → Q (some (.int (-4))) I L Z) (hA : (¬ x < 0 ∧ ¬ 4095 < x) ∧ (¬ z < 0 ∧ ¬ 11 < z) ∧ x &&& (1 <<< (z &&& 31)) = 0 → n < 12 → Q (some (.int (nI n))) (iU (iU (iU I 13 n x) 14 n z) 10 9 (nI (n + 1))) L Z) : AC E yX5_reason cX5_reason 3 (some .int) d 0 0 [.ref 0, .int x, .int z] I L Z Q := by
  refine ac_go (ls := [some (.ref 0), some (.int x), some (.int z)]) (by decide +kernel) (Nat.le_of_ble_eq_true rfl) rfl ?_
  refine aw_iload_n dX5_reason_0 rfl ?_
  refine aw_S1 dX5_reason_1 cw_X5_91 (by omega) ⟨Nat.le_refl _, Nat.le_refl _⟩ (by decide) (c_X5_isSet (by omega) (fun c1 => ?_) (fun c1 => ?_))
  · refine aw_if_eq (tgt := 22) dX5_reason_4 (by decide) (fun zz => absurd zz (by decide)) (fun _ => ?_)
    refine aw_iload_n dX5_reason_7 rfl ?_
    refine aw_S1 dX5_reason_8 cw_X5_95 (by omega) ⟨Nat.le_refl _, Nat.le_refl _⟩ (by decide) (c_X5_isSaying (by omega) (fun c8 => ?_) (fun c8 => ?_))
    · refine aw_if_eq (tgt := 22) dX5_reason_11 (by decide) (fun zz => absurd zz (by decide)) (fun _ => ?_)
      refine aw_iload_n dX5_reason_14 rfl ?_
      refine aw_iconst (v := 1) dX5_reason_15 (by decide) ?_
      refine aw_iload_n dX5_reason_16 rfl ?_
      refine aw_ishl dX5_reason_17 ?_
      refine aw_iand dX5_reason_18 ?_
      refine aw_if_eq (tgt := 25) dX5_reason_19 (by decide) (fun c19 => ?_) (fun c19 => ?_)
      · refine aw_aload_n dX5_reason_25 rfl rfl ?_
        refine aw_gr dX5_reason_26 fw_X5_28 hG.1 hG.2.2.2.1 ?_
        refine aw_iload_n dX5_reason_29 rfl ?_
        refine aw_iload_n dX5_reason_30 rfl ?_
        refine aw_V2 dX5_reason_31 cw_X5_101 ⟨_, _, rfl⟩ hG.2.2.2.2.2.2.2.2.2.1.1 (by omega) ⟨Nat.le_refl _, Nat.le_refl _⟩ (by decide) (c_X0_addReason hG.2.2.2.2.2.2.2.2.2.1 hn hl (fun e => ?_) (fun e => ?_))
        · refine aw_ireturn (ty := .int) dX5_reason_34 rfl rfl ?_
          exact hFl ⟨c1, c8, c19⟩ e
        · refine aw_ireturn (ty := .int) dX5_reason_34 rfl rfl ?_
          exact hA ⟨c1, c8, c19⟩ e
      · refine aw_bipush (v := -2) dX5_reason_22 (by decide) ?_
        refine aw_ireturn (ty := .int) dX5_reason_24 rfl rfl ?_
        exact hB (fun zz => c19 zz.2.2)
    · refine aw_if_eq (tgt := 22) dX5_reason_11 (by decide) (fun _ => ?_) (fun zz => absurd zz (by decide))
      refine aw_bipush (v := -2) dX5_reason_22 (by decide) ?_
      refine aw_ireturn (ty := .int) dX5_reason_24 rfl rfl ?_
      exact hB (fun zz => c8 zz.2.1)
  · refine aw_if_eq (tgt := 22) dX5_reason_4 (by decide) (fun _ => ?_) (fun zz => absurd zz (by decide))
    refine aw_bipush (v := -2) dX5_reason_22 (by decide) ?_
    refine aw_ireturn (ty := .int) dX5_reason_24 rfl rfl ?_
    exact hB (fun zz => c1 zz.1)
theorem c_X5_unsay {E : Ev} {d : Nat} {I : Mi} {L : Ml} {Z : Mz} {Q : Po}  {n : Nat} (hd : 3 ≤ d) (hG : GZ Z) (hn : I 10 9 = nI n) (hl : n ≤ 12) (hB : n = 0 → Q (some (.int (-3))) I L Z) (hA : 0 < n → Q (some (.int (nI (n - 1)))) (iU I 10 9 (nI (n - 1))) L Z) : AC E yX5_unsay cX5_unsay 1 (some .int) d 0 0 [.ref 0] I L Z Q := by
  refine ac_go (ls := [some (.ref 0)]) (by decide +kernel) (Nat.le_of_ble_eq_true rfl) rfl ?_
  have h0 : I 10 9 = 0 ↔ n = 0 := by rw [hn]; exact nI_eq (b := 0) (by omega) (by decide)
  refine aw_aload_n dX5_unsay_0 rfl rfl ?_
  refine aw_gr dX5_unsay_1 fw_X5_28 hG.1 hG.2.2.2.1 ?_
  refine aw_gi dX5_unsay_4 fw_X5_104 hG.2.2.2.2.2.2.2.2.2.1.1 ?_
  refine aw_if_ne (tgt := 13) dX5_unsay_7 (by decide) (fun c7 => ?_) (fun c7 => ?_)
  · refine aw_aload_n dX5_unsay_13 rfl rfl ?_
    refine aw_gr dX5_unsay_14 fw_X5_28 hG.1 hG.2.2.2.1 ?_
    refine aw_V0 dX5_unsay_17 cw_X5_108 ⟨_, _, rfl⟩ hG.2.2.2.2.2.2.2.2.2.1.1 (by omega) ⟨Nat.le_refl _, Nat.le_refl _⟩ (by decide) (c_X0_dropReason hG.2.2.2.2.2.2.2.2.2.1 hn hl (fun e => absurd (h0.mpr e) c7) (fun e => ?_))
    refine aw_aload_n dX5_unsay_20 rfl rfl ?_
    refine aw_gr dX5_unsay_21 fw_X5_28 hG.1 hG.2.2.2.1 ?_
    refine aw_gi dX5_unsay_24 fw_X5_104 hG.2.2.2.2.2.2.2.2.2.1.1 ?_
    refine aw_ireturn (ty := .int) dX5_unsay_27 rfl rfl ?_
    rw [iU_same]
    exact hA e
  · refine aw_bipush (v := -3) dX5_unsay_10 (by decide) ?_
    refine aw_ireturn (ty := .int) dX5_unsay_12 rfl rfl ?_
    exact hB (h0.mp c7)
theorem c_X5_reader {E : Ev} {d : Nat} {I : Mi} {L : Ml} {Z : Mz} {Q : Po} {x : Int32} {z : Int32} {n : Nat} (hd : 3 ≤ d) (hG : GZ Z) (hn : I 10 13 = nI n) (hl : n ≤ 5) (hB : ¬ ((¬ x < 0 ∧ ¬ 5 < x) ∧ (¬ z < 0 ∧ ¬ 9 < z)) → Q (some (.int (-2))) I L Z) (hFl : (¬ x < 0 ∧ ¬ 5 < x) ∧ (¬ z < 0 ∧ ¬ 9 < z) → n = 5 → Q (some (.int (-4))) I L Z) (hA : (¬ x < 0 ∧ ¬ 5 < x) ∧ (¬ z < 0 ∧ ¬ 9 < z) → n < 5 → Q (some (.int (nI n))) (iU (iU (iU (iU I 15 n x) 16 n z) 17 n 0) 10 13 (nI (n + 1))) L Z) : AC E yX5_reader cX5_reader 3 (some .int) d 0 0 [.ref 0, .int x, .int z] I L Z Q := by
  refine ac_go (ls := [some (.ref 0), some (.int x), some (.int z)]) (by decide +kernel) (Nat.le_of_ble_eq_true rfl) rfl ?_
  refine aw_iload_n dX5_reader_0 rfl ?_
  refine aw_S1 dX5_reader_1 cw_X5_111 (by omega) ⟨Nat.le_refl _, Nat.le_refl _⟩ (by decide) (c_X5_isKind (by omega) (fun c1 => ?_) (fun c1 => ?_))
  · refine aw_if_eq (tgt := 17) dX5_reader_4 (by decide) (fun zz => absurd zz (by decide)) (fun _ => ?_)
    refine aw_iload_n dX5_reader_7 rfl ?_
    refine aw_iconst (v := 0) dX5_reader_8 (by decide) ?_
    refine aw_bipush (v := 9) dX5_reader_9 (by decide) ?_
    refine aw_S3 dX5_reader_11 cw_X5_72 (by omega) ⟨Nat.le_refl _, Nat.le_refl _⟩ (by decide) (c_X5_within (fun c11 => ?_) (fun c11 => ?_))
    · refine aw_if_ne (tgt := 20) dX5_reader_14 (by decide) (fun _ => ?_) (fun zz => absurd zz (by decide))
      refine aw_aload_n dX5_reader_20 rfl rfl ?_
      refine aw_gr dX5_reader_21 fw_X5_28 hG.1 hG.2.2.2.1 ?_
      refine aw_iload_n dX5_reader_24 rfl ?_
      refine aw_iload_n dX5_reader_25 rfl ?_
      refine aw_V2 dX5_reader_26 cw_X5_114 ⟨_, _, rfl⟩ hG.2.2.2.2.2.2.2.2.2.1.1 (by omega) ⟨Nat.le_refl _, Nat.le_refl _⟩ (by decide) (c_X0_addReader hG.2.2.2.2.2.2.2.2.2.1 hn hl (fun e => ?_) (fun e => ?_))
      · refine aw_ireturn (ty := .int) dX5_reader_29 rfl rfl ?_
        exact hFl ⟨c1, c11⟩ e
      · refine aw_ireturn (ty := .int) dX5_reader_29 rfl rfl ?_
        exact hA ⟨c1, c11⟩ e
    · refine aw_if_ne (tgt := 20) dX5_reader_14 (by decide) (fun zz => absurd zz (by decide)) (fun _ => ?_)
      refine aw_bipush (v := -2) dX5_reader_17 (by decide) ?_
      refine aw_ireturn (ty := .int) dX5_reader_19 rfl rfl ?_
      exact hB (fun zz => c11 zz.2)
  · refine aw_if_eq (tgt := 17) dX5_reader_4 (by decide) (fun _ => ?_) (fun zz => absurd zz (by decide))
    refine aw_bipush (v := -2) dX5_reader_17 (by decide) ?_
    refine aw_ireturn (ty := .int) dX5_reader_19 rfl rfl ?_
    exact hB (fun zz => c1 zz.1)
theorem c_X5_force {E : Ev} {d : Nat} {I : Mi} {L : Ml} {Z : Mz} {Q : Po} {x : Int32} {n : Nat} (hd : 3 ≤ d) (hG : GZ Z) (hn : I 1 2 = nI n) (hl : n ≤ 6) (h1 : 1 ≤ n) (hB : ¬ (¬ x < 0 ∧ ¬ nI (n - 1) < x) → Q (some (.int (-2))) I L Z) (hA : (¬ x < 0 ∧ ¬ nI (n - 1) < x) → Q (some (.int (I 10 3))) (iU I 10 3 x) L Z) : AC E yX5_force cX5_force 3 (some .int) d 0 0 [.ref 0, .int x] I L Z Q := by
  refine ac_go (ls := [some (.ref 0), some (.int x), none]) (by decide +kernel) (Nat.le_of_ble_eq_true rfl) rfl ?_
  refine aw_iload_n dX5_force_0 rfl ?_
  refine aw_iconst (v := 0) dX5_force_1 (by decide) ?_
  refine aw_aload_n dX5_force_2 rfl rfl ?_
  refine aw_gr dX5_force_3 fw_X5_10 hG.1 hG.2.1 ?_
  refine aw_gi dX5_force_6 fw_X5_147 hG.2.2.2.2.2.2.2.2.2.2.2.2.1.1 ?_
  refine aw_iconst (v := 1) dX5_force_9 (by decide) ?_
  refine aw_isub dX5_force_10 ?_
  rw [hn, nI_m1 (by omega)]
  refine aw_S3 dX5_force_11 cw_X5_72 (by omega) ⟨Nat.le_refl _, Nat.le_refl _⟩ (by decide) (c_X5_within (fun c11 => ?_) (fun c11 => ?_))
  · refine aw_if_ne (tgt := 20) dX5_force_14 (by decide) (fun _ => ?_) (fun zz => absurd zz (by decide))
    refine aw_aload_n dX5_force_20 rfl rfl ?_
    refine aw_gr dX5_force_21 fw_X5_28 hG.1 hG.2.2.2.1 ?_
    refine aw_gi dX5_force_24 fw_X5_150 hG.2.2.2.2.2.2.2.2.2.1.1 ?_
    refine aw_istore_n (ls' := [_, _, _]) dX5_force_27 (by decide) rfl rfl ?_
    refine aw_aload_n dX5_force_28 rfl rfl ?_
    refine aw_gr dX5_force_29 fw_X5_28 hG.1 hG.2.2.2.1 ?_
    refine aw_iload_n dX5_force_32 rfl ?_
    refine aw_pi dX5_force_33 fw_X5_150 (ww_X5_150 _) hG.2.2.2.2.2.2.2.2.2.1.1 rfl ?_
    refine aw_iload_n dX5_force_36 rfl ?_
    refine aw_ireturn (ty := .int) dX5_force_37 rfl rfl ?_
    exact hA c11
  · refine aw_if_ne (tgt := 20) dX5_force_14 (by decide) (fun zz => absurd zz (by decide)) (fun _ => ?_)
    refine aw_bipush (v := -2) dX5_force_17 (by decide) ?_
    refine aw_ireturn (ty := .int) dX5_force_19 rfl rfl ?_
    exact hB c11
theorem c_X5_image {E : Ev} {d : Nat} {I : Mi} {L : Ml} {Z : Mz} {Q : Po}   (hd : 3 ≤ d) (hG : GZ Z) (hQ : Q (some (.int (iU (blM I 19 10) 0 6 1 10 13))) (iU (blM I 19 10) 0 6 1) L Z) : AC E yX5_image cX5_image 1 (some .int) d 0 0 [.ref 0] I L Z Q := by
  refine ac_go (ls := [some (.ref 0)]) (by decide +kernel) (Nat.le_of_ble_eq_true rfl) rfl ?_
  refine aw_aload_n dX5_image_0 rfl rfl ?_
  refine aw_gr dX5_image_1 fw_X5_32 hG.1 hG.2.2.2.2.1 ?_
  refine aw_aload_n dX5_image_4 rfl rfl ?_
  refine aw_gr dX5_image_5 fw_X5_28 hG.1 hG.2.2.2.1 ?_
  refine aw_V1 dX5_image_8 cw_X5_248 ⟨_, _, rfl⟩ hG.2.2.2.2.2.2.2.2.2.2.1.1 (by omega) ⟨Nat.le_refl _, Nat.le_refl _⟩ (by decide) (c_X0_becomeLike (by omega) hG.2.2.2.2.2.2.2.2.2.2.1 hG.2.2.2.2.2.2.2.2.2.1 (by omega) ?_)
  refine aw_aload_n dX5_image_11 rfl rfl ?_
  refine aw_iconst (v := 1) dX5_image_12 (by decide) ?_
  refine aw_pz dX5_image_13 fw_X5_252 (ww_X5_252 _) hG.1 rfl (by decide) ?_
  refine aw_aload_n dX5_image_16 rfl rfl ?_
  refine aw_gr dX5_image_17 fw_X5_28 hG.1 hG.2.2.2.1 ?_
  refine aw_gi dX5_image_20 fw_X5_256 hG.2.2.2.2.2.2.2.2.2.1.1 ?_
  refine aw_ireturn (ty := .int) dX5_image_23 rfl rfl ?_
  exact hQ
theorem c_X5_back {E : Ev} {d : Nat} {I : Mi} {L : Ml} {Z : Mz} {Q : Po}   (hd : 3 ≤ d) (hG : GZ Z) (hB : I 0 6 = 0 → Q (some (.int (-3))) I L Z) (hA : ¬ I 0 6 = 0 → Q (some (.int (blM I 10 19 10 13))) (blM I 10 19) L Z) : AC E yX5_back cX5_back 1 (some .int) d 0 0 [.ref 0] I L Z Q := by
  refine ac_go (ls := [some (.ref 0)]) (by decide +kernel) (Nat.le_of_ble_eq_true rfl) rfl ?_
  refine aw_aload_n dX5_back_0 rfl rfl ?_
  refine aw_gi dX5_back_1 fw_X5_252 hG.1 ?_
  refine aw_if_ne (tgt := 10) dX5_back_4 (by decide) (fun c4 => ?_) (fun c4 => ?_)
  · refine aw_aload_n dX5_back_10 rfl rfl ?_
    refine aw_gr dX5_back_11 fw_X5_28 hG.1 hG.2.2.2.1 ?_
    refine aw_aload_n dX5_back_14 rfl rfl ?_
    refine aw_gr dX5_back_15 fw_X5_32 hG.1 hG.2.2.2.2.1 ?_
    refine aw_V1 dX5_back_18 cw_X5_248 ⟨_, _, rfl⟩ hG.2.2.2.2.2.2.2.2.2.1.1 (by omega) ⟨Nat.le_refl _, Nat.le_refl _⟩ (by decide) (c_X0_becomeLike (by omega) hG.2.2.2.2.2.2.2.2.2.1 hG.2.2.2.2.2.2.2.2.2.2.1 (by omega) ?_)
    refine aw_aload_n dX5_back_21 rfl rfl ?_
    refine aw_gr dX5_back_22 fw_X5_28 hG.1 hG.2.2.2.1 ?_
    refine aw_gi dX5_back_25 fw_X5_256 hG.2.2.2.2.2.2.2.2.2.1.1 ?_
    refine aw_ireturn (ty := .int) dX5_back_28 rfl rfl ?_
    exact hA c4
  · refine aw_bipush (v := -3) dX5_back_7 (by decide) ?_
    refine aw_ireturn (ty := .int) dX5_back_9 rfl rfl ?_
    exact hB c4
theorem c_X5_count0 {E : Ev} {d : Nat} {I : Mi} {L : Ml} {Z : Mz} {Q : Po}   (hG : GZ Z) (hA : Q (some (.int (I 10 13))) I L Z) : AC E yX5_count cX5_count 2 (some .int) d 0 0 [.ref 0, .int 0] I L Z Q := by
  refine ac_go (ls := [some (.ref 0), some (.int 0)]) (by decide +kernel) (Nat.le_of_ble_eq_true rfl) rfl ?_
  refine aw_iload_n dX5_count_0 rfl ?_
  refine aw_tableIn (off := 39) (tgt := 40) dX5_count_1 (by decide) (by decide) (by rfl) (by decide) ?_
  refine aw_aload_n dX5_count_40 rfl rfl ?_
  refine aw_gr dX5_count_41 fw_X5_28 hG.1 hG.2.2.2.1 ?_
  refine aw_gi dX5_count_44 fw_X5_256 hG.2.2.2.2.2.2.2.2.2.1.1 ?_
  refine aw_ireturn (ty := .int) dX5_count_47 rfl rfl ?_
  exact hA
theorem c_X5_count1 {E : Ev} {d : Nat} {I : Mi} {L : Ml} {Z : Mz} {Q : Po}   (hG : GZ Z) (hA : Q (some (.int (I 10 6))) I L Z) : AC E yX5_count cX5_count 2 (some .int) d 0 0 [.ref 0, .int 1] I L Z Q := by
  refine ac_go (ls := [some (.ref 0), some (.int 1)]) (by decide +kernel) (Nat.le_of_ble_eq_true rfl) rfl ?_
  refine aw_iload_n dX5_count_0 rfl ?_
  refine aw_tableIn (off := 47) (tgt := 48) dX5_count_1 (by decide) (by decide) (by rfl) (by decide) ?_
  refine aw_aload_n dX5_count_48 rfl rfl ?_
  refine aw_gr dX5_count_49 fw_X5_28 hG.1 hG.2.2.2.1 ?_
  refine aw_gi dX5_count_52 fw_X5_205 hG.2.2.2.2.2.2.2.2.2.1.1 ?_
  refine aw_ireturn (ty := .int) dX5_count_55 rfl rfl ?_
  exact hA
theorem c_X5_count2 {E : Ev} {d : Nat} {I : Mi} {L : Ml} {Z : Mz} {Q : Po}   (hG : GZ Z) (hA : Q (some (.int (I 10 9))) I L Z) : AC E yX5_count cX5_count 2 (some .int) d 0 0 [.ref 0, .int 2] I L Z Q := by
  refine ac_go (ls := [some (.ref 0), some (.int 2)]) (by decide +kernel) (Nat.le_of_ble_eq_true rfl) rfl ?_
  refine aw_iload_n dX5_count_0 rfl ?_
  refine aw_tableIn (off := 55) (tgt := 56) dX5_count_1 (by decide) (by decide) (by rfl) (by decide) ?_
  refine aw_aload_n dX5_count_56 rfl rfl ?_
  refine aw_gr dX5_count_57 fw_X5_28 hG.1 hG.2.2.2.1 ?_
  refine aw_gi dX5_count_60 fw_X5_104 hG.2.2.2.2.2.2.2.2.2.1.1 ?_
  refine aw_ireturn (ty := .int) dX5_count_63 rfl rfl ?_
  exact hA
theorem c_X5_count3 {E : Ev} {d : Nat} {I : Mi} {L : Ml} {Z : Mz} {Q : Po}   (hG : GZ Z) (hA : Q (some (.int (I 1 2))) I L Z) : AC E yX5_count cX5_count 2 (some .int) d 0 0 [.ref 0, .int 3] I L Z Q := by
  refine ac_go (ls := [some (.ref 0), some (.int 3)]) (by decide +kernel) (Nat.le_of_ble_eq_true rfl) rfl ?_
  refine aw_iload_n dX5_count_0 rfl ?_
  refine aw_tableIn (off := 63) (tgt := 64) dX5_count_1 (by decide) (by decide) (by rfl) (by decide) ?_
  refine aw_aload_n dX5_count_64 rfl rfl ?_
  refine aw_gr dX5_count_65 fw_X5_10 hG.1 hG.2.1 ?_
  refine aw_gi dX5_count_68 fw_X5_147 hG.2.2.2.2.2.2.2.2.2.2.2.2.1.1 ?_
  refine aw_ireturn (ty := .int) dX5_count_71 rfl rfl ?_
  exact hA
theorem c_X5_count4 {E : Ev} {d : Nat} {I : Mi} {L : Ml} {Z : Mz} {Q : Po}   (hG : GZ Z) (hA : Q (some (.int (I 4 1))) I L Z) : AC E yX5_count cX5_count 2 (some .int) d 0 0 [.ref 0, .int 4] I L Z Q := by
  refine ac_go (ls := [some (.ref 0), some (.int 4)]) (by decide +kernel) (Nat.le_of_ble_eq_true rfl) rfl ?_
  refine aw_iload_n dX5_count_0 rfl ?_
  refine aw_tableIn (off := 71) (tgt := 72) dX5_count_1 (by decide) (by decide) (by rfl) (by decide) ?_
  refine aw_aload_n dX5_count_72 rfl rfl ?_
  refine aw_gr dX5_count_73 fw_X5_19 hG.1 hG.2.2.1 ?_
  refine aw_gi dX5_count_76 fw_X5_259 hG.2.2.2.2.2.2.2.2.2.2.2.2.2.1 ?_
  refine aw_ireturn (ty := .int) dX5_count_79 rfl rfl ?_
  exact hA
theorem c_X5_count5 {E : Ev} {d : Nat} {I : Mi} {L : Ml} {Z : Mz} {Q : Po}   (hG : GZ Z) (hA : Q (some (.int (I 10 3))) I L Z) : AC E yX5_count cX5_count 2 (some .int) d 0 0 [.ref 0, .int 5] I L Z Q := by
  refine ac_go (ls := [some (.ref 0), some (.int 5)]) (by decide +kernel) (Nat.le_of_ble_eq_true rfl) rfl ?_
  refine aw_iload_n dX5_count_0 rfl ?_
  refine aw_tableIn (off := 79) (tgt := 80) dX5_count_1 (by decide) (by decide) (by rfl) (by decide) ?_
  refine aw_aload_n dX5_count_80 rfl rfl ?_
  refine aw_gr dX5_count_81 fw_X5_28 hG.1 hG.2.2.2.1 ?_
  refine aw_gi dX5_count_84 fw_X5_150 hG.2.2.2.2.2.2.2.2.2.1.1 ?_
  refine aw_ireturn (ty := .int) dX5_count_87 rfl rfl ?_
  exact hA
theorem c_X5_countX {E : Ev} {d : Nat} {I : Mi} {L : Ml} {Z : Mz} {Q : Po} {x : Int32}  (hG : GZ Z) (hx : x.toInt < 0 ∨ 5 < x.toInt) (hA : Q (some (.int (-2))) I L Z) : AC E yX5_count cX5_count 2 (some .int) d 0 0 [.ref 0, .int x] I L Z Q := by
  refine ac_go (ls := [some (.ref 0), some (.int x)]) (by decide +kernel) (Nat.le_of_ble_eq_true rfl) rfl ?_
  refine aw_iload_n dX5_count_0 rfl ?_
  refine aw_tableOut (tgt := 88) dX5_count_1 hx (by decide) ?_
  refine aw_bipush (v := -2) dX5_count_88 (by decide) ?_
  refine aw_ireturn (ty := .int) dX5_count_90 rfl rfl ?_
  exact hA
