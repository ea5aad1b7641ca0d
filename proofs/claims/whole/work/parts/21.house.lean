/-! ===== a house: what is there, adding, taking away ===== -/
theorem c_X0_hasCup {E : Ev} {d : Nat} {I : Mi} {L : Ml} {Z : Mz} {Q : Po} {h : Nat} {x : Int32}  (hH : HZ Z h) (hT : (¬ x < 0 ∧ ¬ I h 6 ≤ x) → Q (some (.int 1)) I L Z) (hF : ¬ (¬ x < 0 ∧ ¬ I h 6 ≤ x) → Q (some (.int 0)) I L Z) : AC E yX0_hasCup cX0_hasCup 2 (some .boolean) d 0 0 [.ref h, .int x] I L Z Q := by
  refine ac_go (ls := [some (.ref h), some (.int x)]) (by decide +kernel) (Nat.le_of_ble_eq_true rfl) rfl ?_
  refine aw_iload_n dX0_hasCup_0 rfl ?_
  refine aw_if_lt (tgt := 16) dX0_hasCup_1 (by decide) (fun c1 => ?_) (fun c1 => ?_)
  · refine aw_iconst (v := 0) dX0_hasCup_16 (by decide) ?_
    refine aw_ireturn (ty := .boolean) dX0_hasCup_17 rfl (by decide) ?_
    exact hF (by simp only [c1, not_true_eq_false, not_false_eq_true, and_true, true_and, and_false, false_and, or_true, true_or, or_false, false_or, ite_true, ite_false, if_true, if_false, reduceIte, and_self, or_self])
  · refine aw_iload_n dX0_hasCup_4 rfl ?_
    refine aw_aload_n dX0_hasCup_5 rfl rfl ?_
    refine aw_gi dX0_hasCup_6 fw_X0_50 hH.1 ?_
    refine aw_icmp_ge (tgt := 16) dX0_hasCup_9 (by decide) (fun c9 => ?_) (fun c9 => ?_)
    · refine aw_iconst (v := 0) dX0_hasCup_16 (by decide) ?_
      refine aw_ireturn (ty := .boolean) dX0_hasCup_17 rfl (by decide) ?_
      exact hF (by simp only [c1, c9, not_true_eq_false, not_false_eq_true, and_true, true_and, and_false, false_and, or_true, true_or, or_false, false_or, ite_true, ite_false, if_true, if_false, reduceIte, and_self, or_self])
    · refine aw_iconst (v := 1) dX0_hasCup_12 (by decide) ?_
      refine aw_goto (tgt := 17) dX0_hasCup_13 (by decide) ?_
      refine aw_ireturn (ty := .boolean) dX0_hasCup_17 rfl (by decide) ?_
      exact hT (by simp only [c1, c9, not_true_eq_false, not_false_eq_true, and_true, true_and, and_false, false_and, or_true, true_or, or_false, false_or, ite_true, ite_false, if_true, if_false, reduceIte, and_self, or_self])
theorem c_X0_hasReader {E : Ev} {d : Nat} {I : Mi} {L : Ml} {Z : Mz} {Q : Po} {h : Nat} {x : Int32}  (hH : HZ Z h) (hT : (¬ x < 0 ∧ ¬ I h 13 ≤ x) → Q (some (.int 1)) I L Z) (hF : ¬ (¬ x < 0 ∧ ¬ I h 13 ≤ x) → Q (some (.int 0)) I L Z) : AC E yX0_hasReader cX0_hasReader 2 (some .boolean) d 0 0 [.ref h, .int x] I L Z Q := by
  refine ac_go (ls := [some (.ref h), some (.int x)]) (by decide +kernel) (Nat.le_of_ble_eq_true rfl) rfl ?_
  refine aw_iload_n dX0_hasReader_0 rfl ?_
  refine aw_if_lt (tgt := 16) dX0_hasReader_1 (by decide) (fun c1 => ?_) (fun c1 => ?_)
  · refine aw_iconst (v := 0) dX0_hasReader_16 (by decide) ?_
    refine aw_ireturn (ty := .boolean) dX0_hasReader_17 rfl (by decide) ?_
    exact hF (by simp only [c1, not_true_eq_false, not_false_eq_true, and_true, true_and, and_false, false_and, or_true, true_or, or_false, false_or, ite_true, ite_false, if_true, if_false, reduceIte, and_self, or_self])
  · refine aw_iload_n dX0_hasReader_4 rfl ?_
    refine aw_aload_n dX0_hasReader_5 rfl rfl ?_
    refine aw_gi dX0_hasReader_6 fw_X0_56 hH.1 ?_
    refine aw_icmp_ge (tgt := 16) dX0_hasReader_9 (by decide) (fun c9 => ?_) (fun c9 => ?_)
    · refine aw_iconst (v := 0) dX0_hasReader_16 (by decide) ?_
      refine aw_ireturn (ty := .boolean) dX0_hasReader_17 rfl (by decide) ?_
      exact hF (by simp only [c1, c9, not_true_eq_false, not_false_eq_true, and_true, true_and, and_false, false_and, or_true, true_or, or_false, false_or, ite_true, ite_false, if_true, if_false, reduceIte, and_self, or_self])
    · refine aw_iconst (v := 1) dX0_hasReader_12 (by decide) ?_
      refine aw_goto (tgt := 17) dX0_hasReader_13 (by decide) ?_
      refine aw_ireturn (ty := .boolean) dX0_hasReader_17 rfl (by decide) ?_
      exact hT (by simp only [c1, c9, not_true_eq_false, not_false_eq_true, and_true, true_and, and_false, false_and, or_true, true_or, or_false, false_or, ite_true, ite_false, if_true, if_false, reduceIte, and_self, or_self])
theorem c_X0_has0 {E : Ev} {d : Nat} {I : Mi} {L : Ml} {Z : Mz} {Q : Po} {h : Nat} {x : Int32}  (hd : 1 ≤ d) (hH : HZ Z h) (hT : (True) → Q (some (.int 1)) I L Z) (hF : ¬ (True) → Q (some (.int 0)) I L Z) : AC E yX0_has cX0_has 3 (some .boolean) d 0 0 [.ref h, .int 0, .int x] I L Z Q := by
  refine ac_go (ls := [some (.ref h), some (.int 0), some (.int x)]) (by decide +kernel) (Nat.le_of_ble_eq_true rfl) rfl ?_
  refine aw_iload_n dX0_has_0 rfl ?_
  refine aw_tableIn (off := 55) (tgt := 56) dX0_has_1 (by decide) (by decide) (by rfl) (by decide) ?_
  refine aw_iconst (v := 1) dX0_has_56 (by decide) ?_
  refine aw_ireturn (ty := .boolean) dX0_has_57 rfl (by decide) ?_
  exact hT trivial
theorem c_X0_has1 {E : Ev} {d : Nat} {I : Mi} {L : Ml} {Z : Mz} {Q : Po} {h : Nat} {x : Int32}  (hd : 1 ≤ d) (hH : HZ Z h) (hT : (True) → Q (some (.int 1)) I L Z) (hF : ¬ (True) → Q (some (.int 0)) I L Z) : AC E yX0_has cX0_has 3 (some .boolean) d 0 0 [.ref h, .int 1, .int x] I L Z Q := by
  refine ac_go (ls := [some (.ref h), some (.int 1), some (.int x)]) (by decide +kernel) (Nat.le_of_ble_eq_true rfl) rfl ?_
  refine aw_iload_n dX0_has_0 rfl ?_
  refine aw_tableIn (off := 55) (tgt := 56) dX0_has_1 (by decide) (by decide) (by rfl) (by decide) ?_
  refine aw_iconst (v := 1) dX0_has_56 (by decide) ?_
  refine aw_ireturn (ty := .boolean) dX0_has_57 rfl (by decide) ?_
  exact hT trivial
theorem c_X0_has2 {E : Ev} {d : Nat} {I : Mi} {L : Ml} {Z : Mz} {Q : Po} {h : Nat} {x : Int32}  (hd : 1 ≤ d) (hH : HZ Z h) (hT : (¬ x < 0 ∧ ¬ I h 6 ≤ x) → Q (some (.int 1)) I L Z) (hF : ¬ (¬ x < 0 ∧ ¬ I h 6 ≤ x) → Q (some (.int 0)) I L Z) : AC E yX0_has cX0_has 3 (some .boolean) d 0 0 [.ref h, .int 2, .int x] I L Z Q := by
  refine ac_go (ls := [some (.ref h), some (.int 2), some (.int x)]) (by decide +kernel) (Nat.le_of_ble_eq_true rfl) rfl ?_
  refine aw_iload_n dX0_has_0 rfl ?_
  refine aw_tableIn (off := 57) (tgt := 58) dX0_has_1 (by decide) (by decide) (by rfl) (by decide) ?_
  refine aw_aload_n dX0_has_58 rfl rfl ?_
  refine aw_iload_n dX0_has_59 rfl ?_
  refine aw_V1 dX0_has_60 cw_X0_65 ⟨_, _, rfl⟩ hH.1 (by omega) ⟨Nat.le_refl _, Nat.le_refl _⟩ (by decide) (c_X0_hasCup hH (fun c60 => ?_) (fun c60 => ?_))
  · refine aw_ireturn (ty := .boolean) dX0_has_63 rfl (by decide) ?_
    exact hT c60
  · refine aw_ireturn (ty := .boolean) dX0_has_63 rfl (by decide) ?_
    exact hF c60
theorem c_X0_has3 {E : Ev} {d : Nat} {I : Mi} {L : Ml} {Z : Mz} {Q : Po} {h : Nat} {x : Int32}  (hd : 1 ≤ d) (hH : HZ Z h) (hT : (¬ x < 0 ∧ ¬ I h 6 ≤ x) → Q (some (.int 1)) I L Z) (hF : ¬ (¬ x < 0 ∧ ¬ I h 6 ≤ x) → Q (some (.int 0)) I L Z) : AC E yX0_has cX0_has 3 (some .boolean) d 0 0 [.ref h, .int 3, .int x] I L Z Q := by
  refine ac_go (ls := [some (.ref h), some (.int 3), some (.int x)]) (by decide +kernel) (Nat.le_of_ble_eq_true rfl) rfl ?_
  refine aw_iload_n dX0_has_0 rfl ?_
  refine aw_tableIn (off := 57) (tgt := 58) dX0_has_1 (by decide) (by decide) (by rfl) (by decide) ?_
  refine aw_aload_n dX0_has_58 rfl rfl ?_
  refine aw_iload_n dX0_has_59 rfl ?_
  refine aw_V1 dX0_has_60 cw_X0_65 ⟨_, _, rfl⟩ hH.1 (by omega) ⟨Nat.le_refl _, Nat.le_refl _⟩ (by decide) (c_X0_hasCup hH (fun c60 => ?_) (fun c60 => ?_))
  · refine aw_ireturn (ty := .boolean) dX0_has_63 rfl (by decide) ?_
    exact hT c60
  · refine aw_ireturn (ty := .boolean) dX0_has_63 rfl (by decide) ?_
    exact hF c60
theorem c_X0_has4 {E : Ev} {d : Nat} {I : Mi} {L : Ml} {Z : Mz} {Q : Po} {h : Nat} {x : Int32}  (hd : 1 ≤ d) (hH : HZ Z h) (hT : (¬ x < 0 ∧ ¬ I h 13 ≤ x) → Q (some (.int 1)) I L Z) (hF : ¬ (¬ x < 0 ∧ ¬ I h 13 ≤ x) → Q (some (.int 0)) I L Z) : AC E yX0_has cX0_has 3 (some .boolean) d 0 0 [.ref h, .int 4, .int x] I L Z Q := by
  refine ac_go (ls := [some (.ref h), some (.int 4), some (.int x)]) (by decide +kernel) (Nat.le_of_ble_eq_true rfl) rfl ?_
  refine aw_iload_n dX0_has_0 rfl ?_
  refine aw_tableIn (off := 63) (tgt := 64) dX0_has_1 (by decide) (by decide) (by rfl) (by decide) ?_
  refine aw_aload_n dX0_has_64 rfl rfl ?_
  refine aw_iload_n dX0_has_65 rfl ?_
  refine aw_V1 dX0_has_66 cw_X0_69 ⟨_, _, rfl⟩ hH.1 (by omega) ⟨Nat.le_refl _, Nat.le_refl _⟩ (by decide) (c_X0_hasReader hH (fun c66 => ?_) (fun c66 => ?_))
  · refine aw_ireturn (ty := .boolean) dX0_has_69 rfl (by decide) ?_
    exact hT c66
  · refine aw_ireturn (ty := .boolean) dX0_has_69 rfl (by decide) ?_
    exact hF c66
theorem c_X0_has5 {E : Ev} {d : Nat} {I : Mi} {L : Ml} {Z : Mz} {Q : Po} {h : Nat} {x : Int32}  (hd : 1 ≤ d) (hH : HZ Z h) (hT : (¬ x < 0 ∧ ¬ I h 13 ≤ x) → Q (some (.int 1)) I L Z) (hF : ¬ (¬ x < 0 ∧ ¬ I h 13 ≤ x) → Q (some (.int 0)) I L Z) : AC E yX0_has cX0_has 3 (some .boolean) d 0 0 [.ref h, .int 5, .int x] I L Z Q := by
  refine ac_go (ls := [some (.ref h), some (.int 5), some (.int x)]) (by decide +kernel) (Nat.le_of_ble_eq_true rfl) rfl ?_
  refine aw_iload_n dX0_has_0 rfl ?_
  refine aw_tableIn (off := 63) (tgt := 64) dX0_has_1 (by decide) (by decide) (by rfl) (by decide) ?_
  refine aw_aload_n dX0_has_64 rfl rfl ?_
  refine aw_iload_n dX0_has_65 rfl ?_
  refine aw_V1 dX0_has_66 cw_X0_69 ⟨_, _, rfl⟩ hH.1 (by omega) ⟨Nat.le_refl _, Nat.le_refl _⟩ (by decide) (c_X0_hasReader hH (fun c66 => ?_) (fun c66 => ?_))
  · refine aw_ireturn (ty := .boolean) dX0_has_69 rfl (by decide) ?_
    exact hT c66
  · refine aw_ireturn (ty := .boolean) dX0_has_69 rfl (by decide) ?_
    exact hF c66
theorem c_X0_has6 {E : Ev} {d : Nat} {I : Mi} {L : Ml} {Z : Mz} {Q : Po} {h : Nat} {x : Int32}  (hd : 1 ≤ d) (hH : HZ Z h) (hT : (¬ x < 0 ∧ ¬ I h 13 ≤ x) → Q (some (.int 1)) I L Z) (hF : ¬ (¬ x < 0 ∧ ¬ I h 13 ≤ x) → Q (some (.int 0)) I L Z) : AC E yX0_has cX0_has 3 (some .boolean) d 0 0 [.ref h, .int 6, .int x] I L Z Q := by
  refine ac_go (ls := [some (.ref h), some (.int 6), some (.int x)]) (by decide +kernel) (Nat.le_of_ble_eq_true rfl) rfl ?_
  refine aw_iload_n dX0_has_0 rfl ?_
  refine aw_tableIn (off := 63) (tgt := 64) dX0_has_1 (by decide) (by decide) (by rfl) (by decide) ?_
  refine aw_aload_n dX0_has_64 rfl rfl ?_
  refine aw_iload_n dX0_has_65 rfl ?_
  refine aw_V1 dX0_has_66 cw_X0_69 ⟨_, _, rfl⟩ hH.1 (by omega) ⟨Nat.le_refl _, Nat.le_refl _⟩ (by decide) (c_X0_hasReader hH (fun c66 => ?_) (fun c66 => ?_))
  · refine aw_ireturn (ty := .boolean) dX0_has_69 rfl (by decide) ?_
    exact hT c66
  · refine aw_ireturn (ty := .boolean) dX0_has_69 rfl (by decide) ?_
    exact hF c66
theorem c_X0_has7 {E : Ev} {d : Nat} {I : Mi} {L : Ml} {Z : Mz} {Q : Po} {h : Nat} {x : Int32}  (hd : 1 ≤ d) (hH : HZ Z h) (hT : (¬ x < 0 ∧ ¬ I h 13 ≤ x) → Q (some (.int 1)) I L Z) (hF : ¬ (¬ x < 0 ∧ ¬ I h 13 ≤ x) → Q (some (.int 0)) I L Z) : AC E yX0_has cX0_has 3 (some .boolean) d 0 0 [.ref h, .int 7, .int x] I L Z Q := by
  refine ac_go (ls := [some (.ref h), some (.int 7), some (.int x)]) (by decide +kernel) (Nat.le_of_ble_eq_true rfl) rfl ?_
  refine aw_iload_n dX0_has_0 rfl ?_
  refine aw_tableIn (off := 63) (tgt := 64) dX0_has_1 (by decide) (by decide) (by rfl) (by decide) ?_
  refine aw_aload_n dX0_has_64 rfl rfl ?_
  refine aw_iload_n dX0_has_65 rfl ?_
  refine aw_V1 dX0_has_66 cw_X0_69 ⟨_, _, rfl⟩ hH.1 (by omega) ⟨Nat.le_refl _, Nat.le_refl _⟩ (by decide) (c_X0_hasReader hH (fun c66 => ?_) (fun c66 => ?_))
  · refine aw_ireturn (ty := .boolean) dX0_has_69 rfl (by decide) ?_
    exact hT c66
  · refine aw_ireturn (ty := .boolean) dX0_has_69 rfl (by decide) ?_
    exact hF c66
theorem c_X0_has8 {E : Ev} {d : Nat} {I : Mi} {L : Ml} {Z : Mz} {Q : Po} {h : Nat} {x : Int32}  (hd : 1 ≤ d) (hH : HZ Z h) (hT : (¬ x < 0 ∧ ¬ I h 9 ≤ x) → Q (some (.int 1)) I L Z) (hF : ¬ (¬ x < 0 ∧ ¬ I h 9 ≤ x) → Q (some (.int 0)) I L Z) : AC E yX0_has cX0_has 3 (some .boolean) d 0 0 [.ref h, .int 8, .int x] I L Z Q := by
  refine ac_go (ls := [some (.ref h), some (.int 8), some (.int x)]) (by decide +kernel) (Nat.le_of_ble_eq_true rfl) rfl ?_
  refine aw_iload_n dX0_has_0 rfl ?_
  refine aw_tableIn (off := 69) (tgt := 70) dX0_has_1 (by decide) (by decide) (by rfl) (by decide) ?_
  refine aw_iload_n dX0_has_70 rfl ?_
  refine aw_if_lt (tgt := 86) dX0_has_71 (by decide) (fun c71 => ?_) (fun c71 => ?_)
  · refine aw_iconst (v := 0) dX0_has_86 (by decide) ?_
    refine aw_ireturn (ty := .boolean) dX0_has_87 rfl (by decide) ?_
    exact hF (by simp only [c71, not_true_eq_false, not_false_eq_true, and_true, true_and, and_false, false_and, or_true, true_or, or_false, false_or, ite_true, ite_false, if_true, if_false, reduceIte, and_self, or_self])
  · refine aw_iload_n dX0_has_74 rfl ?_
    refine aw_aload_n dX0_has_75 rfl rfl ?_
    refine aw_gi dX0_has_76 fw_X0_53 hH.1 ?_
    refine aw_icmp_ge (tgt := 86) dX0_has_79 (by decide) (fun c79 => ?_) (fun c79 => ?_)
    · refine aw_iconst (v := 0) dX0_has_86 (by decide) ?_
      refine aw_ireturn (ty := .boolean) dX0_has_87 rfl (by decide) ?_
      exact hF (by simp only [c71, c79, not_true_eq_false, not_false_eq_true, and_true, true_and, and_false, false_and, or_true, true_or, or_false, false_or, ite_true, ite_false, if_true, if_false, reduceIte, and_self, or_self])
    · refine aw_iconst (v := 1) dX0_has_82 (by decide) ?_
      refine aw_goto (tgt := 87) dX0_has_83 (by decide) ?_
      refine aw_ireturn (ty := .boolean) dX0_has_87 rfl (by decide) ?_
      exact hT (by simp only [c71, c79, not_true_eq_false, not_false_eq_true, and_true, true_and, and_false, false_and, or_true, true_or, or_false, false_or, ite_true, ite_false, if_true, if_false, reduceIte, and_self, or_self])
theorem c_X0_has9 {E : Ev} {d : Nat} {I : Mi} {L : Ml} {Z : Mz} {Q : Po} {h : Nat} {x : Int32}  (hd : 1 ≤ d) (hH : HZ Z h) (hT : (¬ x < 0 ∧ ¬ I h 9 ≤ x) → Q (some (.int 1)) I L Z) (hF : ¬ (¬ x < 0 ∧ ¬ I h 9 ≤ x) → Q (some (.int 0)) I L Z) : AC E yX0_has cX0_has 3 (some .boolean) d 0 0 [.ref h, .int 9, .int x] I L Z Q := by
  refine ac_go (ls := [some (.ref h), some (.int 9), some (.int x)]) (by decide +kernel) (Nat.le_of_ble_eq_true rfl) rfl ?_
  refine aw_iload_n dX0_has_0 rfl ?_
  refine aw_tableIn (off := 69) (tgt := 70) dX0_has_1 (by decide) (by decide) (by rfl) (by decide) ?_
  refine aw_iload_n dX0_has_70 rfl ?_
  refine aw_if_lt (tgt := 86) dX0_has_71 (by decide) (fun c71 => ?_) (fun c71 => ?_)
  · refine aw_iconst (v := 0) dX0_has_86 (by decide) ?_
    refine aw_ireturn (ty := .boolean) dX0_has_87 rfl (by decide) ?_
    exact hF (by simp only [c71, not_true_eq_false, not_false_eq_true, and_true, true_and, and_false, false_and, or_true, true_or, or_false, false_or, ite_true, ite_false, if_true, if_false, reduceIte, and_self, or_self])
  · refine aw_iload_n dX0_has_74 rfl ?_
    refine aw_aload_n dX0_has_75 rfl rfl ?_
    refine aw_gi dX0_has_76 fw_X0_53 hH.1 ?_
    refine aw_icmp_ge (tgt := 86) dX0_has_79 (by decide) (fun c79 => ?_) (fun c79 => ?_)
    · refine aw_iconst (v := 0) dX0_has_86 (by decide) ?_
      refine aw_ireturn (ty := .boolean) dX0_has_87 rfl (by decide) ?_
      exact hF (by simp only [c71, c79, not_true_eq_false, not_false_eq_true, and_true, true_and, and_false, false_and, or_true, true_or, or_false, false_or, ite_true, ite_false, if_true, if_false, reduceIte, and_self, or_self])
    · refine aw_iconst (v := 1) dX0_has_82 (by decide) ?_
      refine aw_goto (tgt := 87) dX0_has_83 (by decide) ?_
      refine aw_ireturn (ty := .boolean) dX0_has_87 rfl (by decide) ?_
      exact hT (by simp only [c71, c79, not_true_eq_false, not_false_eq_true, and_true, true_and, and_false, false_and, or_true, true_or, or_false, false_or, ite_true, ite_false, if_true, if_false, reduceIte, and_self, or_self])
theorem c_X0_noted0 {E : Ev} {d : Nat} {I : Mi} {L : Ml} {Z : Mz} {Q : Po} {h : Nat} {x : Int32}  (hH : HZ Z h) (hQ : ∀ rv : Int32, rv = (I h 1) → Q (some (.int rv)) I L Z) : AC E yX0_noted cX0_noted 3 (some .int) d 0 0 [.ref h, .int 0, .int x] I L Z Q := by
  refine ac_go (ls := [some (.ref h), some (.int 0), some (.int x)]) (by decide +kernel) (Nat.le_of_ble_eq_true rfl) rfl ?_
  refine aw_iload_n dX0_noted_0 rfl ?_
  refine aw_tableIn (off := 51) (tgt := 52) dX0_noted_1 (by decide) (by decide) (by rfl) (by decide) ?_
  refine aw_aload_n dX0_noted_52 rfl rfl ?_
  refine aw_gi dX0_noted_53 fw_X0_40 hH.1 ?_
  refine aw_ireturn (ty := .int) dX0_noted_56 rfl rfl ?_
  exact hQ _ rfl
theorem c_X0_noted1 {E : Ev} {d : Nat} {I : Mi} {L : Ml} {Z : Mz} {Q : Po} {h : Nat} {x : Int32}  (hH : HZ Z h) (hQ : ∀ rv : Int32, rv = (I h 2) → Q (some (.int rv)) I L Z) : AC E yX0_noted cX0_noted 3 (some .int) d 0 0 [.ref h, .int 1, .int x] I L Z Q := by
  refine ac_go (ls := [some (.ref h), some (.int 1), some (.int x)]) (by decide +kernel) (Nat.le_of_ble_eq_true rfl) rfl ?_
  refine aw_iload_n dX0_noted_0 rfl ?_
  refine aw_tableIn (off := 56) (tgt := 57) dX0_noted_1 (by decide) (by decide) (by rfl) (by decide) ?_
  refine aw_aload_n dX0_noted_57 rfl rfl ?_
  refine aw_gi dX0_noted_58 fw_X0_44 hH.1 ?_
  refine aw_ireturn (ty := .int) dX0_noted_61 rfl rfl ?_
  exact hQ _ rfl
theorem c_X0_noted2 {E : Ev} {d : Nat} {I : Mi} {L : Ml} {Z : Mz} {Q : Po} {h : Nat} {j : Nat} (hH : HZ Z h) (hj : j < 6) (hQ : ∀ rv : Int32, rv = (I (h + 1) j) → Q (some (.int rv)) I L Z) : AC E yX0_noted cX0_noted 3 (some .int) d 0 0 [.ref h, .int 2, .int (nI j)] I L Z Q := by
  refine ac_go (ls := [some (.ref h), some (.int 2), some (.int (nI j))]) (by decide +kernel) (Nat.le_of_ble_eq_true rfl) rfl ?_
  refine aw_iload_n dX0_noted_0 rfl ?_
  refine aw_tableIn (off := 61) (tgt := 62) dX0_noted_1 (by decide) (by decide) (by rfl) (by decide) ?_
  refine aw_aload_n dX0_noted_62 rfl rfl ?_
  refine aw_gr dX0_noted_63 fw_X0_9 hH.1 hH.2.2.1 ?_
  refine aw_iload_n dX0_noted_66 rfl ?_
  refine aw_ia j dX0_noted_67 hH.2.2.2.2.2.2.2.2.2.2.1 rfl (by omega) (by decide) ?_
  refine aw_ireturn (ty := .int) dX0_noted_68 rfl rfl ?_
  exact hQ _ rfl
theorem c_X0_noted3 {E : Ev} {d : Nat} {I : Mi} {L : Ml} {Z : Mz} {Q : Po} {h : Nat} {j : Nat} (hH : HZ Z h) (hj : j < 6) (hQ : ∀ rv : Int32, rv = (I (h + 2) j) → Q (some (.int rv)) I L Z) : AC E yX0_noted cX0_noted 3 (some .int) d 0 0 [.ref h, .int 3, .int (nI j)] I L Z Q := by
  refine ac_go (ls := [some (.ref h), some (.int 3), some (.int (nI j))]) (by decide +kernel) (Nat.le_of_ble_eq_true rfl) rfl ?_
  refine aw_iload_n dX0_noted_0 rfl ?_
  refine aw_tableIn (off := 68) (tgt := 69) dX0_noted_1 (by decide) (by decide) (by rfl) (by decide) ?_
  refine aw_aload_n dX0_noted_69 rfl rfl ?_
  refine aw_gr dX0_noted_70 fw_X0_15 hH.1 hH.2.2.2.1 ?_
  refine aw_iload_n dX0_noted_73 rfl ?_
  refine aw_ia j dX0_noted_74 hH.2.2.2.2.2.2.2.2.2.2.2.1 rfl (by omega) (by decide) ?_
  refine aw_ireturn (ty := .int) dX0_noted_75 rfl rfl ?_
  exact hQ _ rfl
theorem c_X0_noted4 {E : Ev} {d : Nat} {I : Mi} {L : Ml} {Z : Mz} {Q : Po} {h : Nat} {j : Nat} (hH : HZ Z h) (hj : j < 5) (hQ : ∀ rv : Int32, rv = (I (h + 6) j) → Q (some (.int rv)) I L Z) : AC E yX0_noted cX0_noted 3 (some .int) d 0 0 [.ref h, .int 4, .int (nI j)] I L Z Q := by
  refine ac_go (ls := [some (.ref h), some (.int 4), some (.int (nI j))]) (by decide +kernel) (Nat.le_of_ble_eq_true rfl) rfl ?_
  refine aw_iload_n dX0_noted_0 rfl ?_
  refine aw_tableIn (off := 75) (tgt := 76) dX0_noted_1 (by decide) (by decide) (by rfl) (by decide) ?_
  refine aw_aload_n dX0_noted_76 rfl rfl ?_
  refine aw_gr dX0_noted_77 fw_X0_27 hH.1 hH.2.2.2.2.2.2.2.1 ?_
  refine aw_iload_n dX0_noted_80 rfl ?_
  refine aw_ia j dX0_noted_81 hH.2.2.2.2.2.2.2.2.2.2.2.2.2.2.2.1 rfl (by omega) (by decide) ?_
  refine aw_ireturn (ty := .int) dX0_noted_82 rfl rfl ?_
  exact hQ _ rfl
theorem c_X0_noted5 {E : Ev} {d : Nat} {I : Mi} {L : Ml} {Z : Mz} {Q : Po} {h : Nat} {j : Nat} (hH : HZ Z h) (hj : j < 5) (hQ : ∀ rv : Int32, rv = (I (h + 7) j) → Q (some (.int rv)) I L Z) : AC E yX0_noted cX0_noted 3 (some .int) d 0 0 [.ref h, .int 5, .int (nI j)] I L Z Q := by
  refine ac_go (ls := [some (.ref h), some (.int 5), some (.int (nI j))]) (by decide +kernel) (Nat.le_of_ble_eq_true rfl) rfl ?_
  refine aw_iload_n dX0_noted_0 rfl ?_
  refine aw_tableIn (off := 82) (tgt := 83) dX0_noted_1 (by decide) (by decide) (by rfl) (by decide) ?_
  refine aw_aload_n dX0_noted_83 rfl rfl ?_
  refine aw_gr dX0_noted_84 fw_X0_30 hH.1 hH.2.2.2.2.2.2.2.2.1 ?_
  refine aw_iload_n dX0_noted_87 rfl ?_
  refine aw_ia j dX0_noted_88 hH.2.2.2.2.2.2.2.2.2.2.2.2.2.2.2.2.1 rfl (by omega) (by decide) ?_
  refine aw_ireturn (ty := .int) dX0_noted_89 rfl rfl ?_
  exact hQ _ rfl
theorem c_X0_noted6 {E : Ev} {d : Nat} {I : Mi} {L : Ml} {Z : Mz} {Q : Po} {h : Nat} {j : Nat} (hH : HZ Z h) (hj : j < 5) (hQ : ∀ rv : Int32, rv = (I (h + 5) j) → Q (some (.int rv)) I L Z) : AC E yX0_noted cX0_noted 3 (some .int) d 0 0 [.ref h, .int 6, .int (nI j)] I L Z Q := by
  refine ac_go (ls := [some (.ref h), some (.int 6), some (.int (nI j))]) (by decide +kernel) (Nat.le_of_ble_eq_true rfl) rfl ?_
  refine aw_iload_n dX0_noted_0 rfl ?_
  refine aw_tableIn (off := 89) (tgt := 90) dX0_noted_1 (by decide) (by decide) (by rfl) (by decide) ?_
  refine aw_aload_n dX0_noted_90 rfl rfl ?_
  refine aw_gr dX0_noted_91 fw_X0_24 hH.1 hH.2.2.2.2.2.2.1 ?_
  refine aw_iload_n dX0_noted_94 rfl ?_
  refine aw_ia j dX0_noted_95 hH.2.2.2.2.2.2.2.2.2.2.2.2.2.2.1 rfl (by omega) (by decide) ?_
  refine aw_ireturn (ty := .int) dX0_noted_96 rfl rfl ?_
  exact hQ _ rfl
theorem c_X0_noted8 {E : Ev} {d : Nat} {I : Mi} {L : Ml} {Z : Mz} {Q : Po} {h : Nat} {j : Nat} (hH : HZ Z h) (hj : j < 12) (hQ : ∀ rv : Int32, rv = (I (h + 3) j) → Q (some (.int rv)) I L Z) : AC E yX0_noted cX0_noted 3 (some .int) d 0 0 [.ref h, .int 8, .int (nI j)] I L Z Q := by
  refine ac_go (ls := [some (.ref h), some (.int 8), some (.int (nI j))]) (by decide +kernel) (Nat.le_of_ble_eq_true rfl) rfl ?_
  refine aw_iload_n dX0_noted_0 rfl ?_
  refine aw_tableIn (off := 105) (tgt := 106) dX0_noted_1 (by decide) (by decide) (by rfl) (by decide) ?_
  refine aw_aload_n dX0_noted_106 rfl rfl ?_
  refine aw_gr dX0_noted_107 fw_X0_18 hH.1 hH.2.2.2.2.1 ?_
  refine aw_iload_n dX0_noted_110 rfl ?_
  refine aw_ia j dX0_noted_111 hH.2.2.2.2.2.2.2.2.2.2.2.2.1 rfl (by omega) (by decide) ?_
  refine aw_ireturn (ty := .int) dX0_noted_112 rfl rfl ?_
  exact hQ _ rfl
theorem c_X0_noted9 {E : Ev} {d : Nat} {I : Mi} {L : Ml} {Z : Mz} {Q : Po} {h : Nat} {j : Nat} (hH : HZ Z h) (hj : j < 12) (hQ : ∀ rv : Int32, rv = (I (h + 4) j) → Q (some (.int rv)) I L Z) : AC E yX0_noted cX0_noted 3 (some .int) d 0 0 [.ref h, .int 9, .int (nI j)] I L Z Q := by
  refine ac_go (ls := [some (.ref h), some (.int 9), some (.int (nI j))]) (by decide +kernel) (Nat.le_of_ble_eq_true rfl) rfl ?_
  refine aw_iload_n dX0_noted_0 rfl ?_
  refine aw_tableOut (tgt := 113) dX0_noted_1 (by decide) (by decide) ?_
  refine aw_aload_n dX0_noted_113 rfl rfl ?_
  refine aw_gr dX0_noted_114 fw_X0_21 hH.1 hH.2.2.2.2.2.1 ?_
  refine aw_iload_n dX0_noted_117 rfl ?_
  refine aw_ia j dX0_noted_118 hH.2.2.2.2.2.2.2.2.2.2.2.2.2.1 rfl (by omega) (by decide) ?_
  refine aw_ireturn (ty := .int) dX0_noted_119 rfl rfl ?_
  exact hQ _ rfl
theorem c_X0_note0 {E : Ev} {d : Nat} {I : Mi} {L : Ml} {Z : Mz} {Q : Po} {h : Nat} {x : Int32} {v : Int32}  (hH : HZ Z h) (hQ : Q none (iU I h 1 v) L Z) : AC E yX0_note cX0_note 4 none d 0 0 [.ref h, .int 0, .int x, .int v] I L Z Q := by
  refine ac_go (ls := [some (.ref h), some (.int 0), some (.int x), some (.int v)]) (by decide +kernel) (Nat.le_of_ble_eq_true rfl) rfl ?_
  refine aw_iload_n dX0_note_0 rfl ?_
  refine aw_tableIn (off := 59) (tgt := 60) dX0_note_1 (by decide) (by decide) (by rfl) (by decide) ?_
  refine aw_aload_n dX0_note_60 rfl rfl ?_
  refine aw_iload_n dX0_note_61 rfl ?_
  refine aw_pi dX0_note_62 fw_X0_40 (ww_X0_40 _) hH.1 rfl ?_
  refine aw_goto (tgt := 134) dX0_note_65 (by decide) ?_
  refine aw_return dX0_note_134 rfl ?_
  exact hQ
theorem c_X0_note1 {E : Ev} {d : Nat} {I : Mi} {L : Ml} {Z : Mz} {Q : Po} {h : Nat} {x : Int32} {v : Int32}  (hH : HZ Z h) (hQ : Q none (iU I h 2 v) L Z) : AC E yX0_note cX0_note 4 none d 0 0 [.ref h, .int 1, .int x, .int v] I L Z Q := by
  refine ac_go (ls := [some (.ref h), some (.int 1), some (.int x), some (.int v)]) (by decide +kernel) (Nat.le_of_ble_eq_true rfl) rfl ?_
  refine aw_iload_n dX0_note_0 rfl ?_
  refine aw_tableIn (off := 67) (tgt := 68) dX0_note_1 (by decide) (by decide) (by rfl) (by decide) ?_
  refine aw_aload_n dX0_note_68 rfl rfl ?_
  refine aw_iload_n dX0_note_69 rfl ?_
  refine aw_pi dX0_note_70 fw_X0_44 (ww_X0_44 _) hH.1 rfl ?_
  refine aw_goto (tgt := 134) dX0_note_73 (by decide) ?_
  refine aw_return dX0_note_134 rfl ?_
  exact hQ
theorem c_X0_note2 {E : Ev} {d : Nat} {I : Mi} {L : Ml} {Z : Mz} {Q : Po} {h : Nat} {v : Int32} {j : Nat} (hH : HZ Z h) (hj : j < 6) (hQ : Q none (iU I (h + 1) j v) L Z) : AC E yX0_note cX0_note 4 none d 0 0 [.ref h, .int 2, .int (nI j), .int v] I L Z Q := by
  refine ac_go (ls := [some (.ref h), some (.int 2), some (.int (nI j)), some (.int v)]) (by decide +kernel) (Nat.le_of_ble_eq_true rfl) rfl ?_
  refine aw_iload_n dX0_note_0 rfl ?_
  refine aw_tableIn (off := 75) (tgt := 76) dX0_note_1 (by decide) (by decide) (by rfl) (by decide) ?_
  refine aw_aload_n dX0_note_76 rfl rfl ?_
  refine aw_gr dX0_note_77 fw_X0_9 hH.1 hH.2.2.1 ?_
  refine aw_iload_n dX0_note_80 rfl ?_
  refine aw_iload_n dX0_note_81 rfl ?_
  refine aw_is j dX0_note_82 hH.2.2.2.2.2.2.2.2.2.2.1 rfl (by omega) (by decide) ?_
  refine aw_goto (tgt := 134) dX0_note_83 (by decide) ?_
  refine aw_return dX0_note_134 rfl ?_
  exact hQ
theorem c_X0_note3 {E : Ev} {d : Nat} {I : Mi} {L : Ml} {Z : Mz} {Q : Po} {h : Nat} {v : Int32} {j : Nat} (hH : HZ Z h) (hj : j < 6) (hQ : Q none (iU I (h + 2) j v) L Z) : AC E yX0_note cX0_note 4 none d 0 0 [.ref h, .int 3, .int (nI j), .int v] I L Z Q := by
  refine ac_go (ls := [some (.ref h), some (.int 3), some (.int (nI j)), some (.int v)]) (by decide +kernel) (Nat.le_of_ble_eq_true rfl) rfl ?_
  refine aw_iload_n dX0_note_0 rfl ?_
  refine aw_tableIn (off := 85) (tgt := 86) dX0_note_1 (by decide) (by decide) (by rfl) (by decide) ?_
  refine aw_aload_n dX0_note_86 rfl rfl ?_
  refine aw_gr dX0_note_87 fw_X0_15 hH.1 hH.2.2.2.1 ?_
  refine aw_iload_n dX0_note_90 rfl ?_
  refine aw_iload_n dX0_note_91 rfl ?_
  refine aw_is j dX0_note_92 hH.2.2.2.2.2.2.2.2.2.2.2.1 rfl (by omega) (by decide) ?_
  refine aw_goto (tgt := 134) dX0_note_93 (by decide) ?_
  refine aw_return dX0_note_134 rfl ?_
  exact hQ
theorem c_X0_note4 {E : Ev} {d : Nat} {I : Mi} {L : Ml} {Z : Mz} {Q : Po} {h : Nat} {v : Int32} {j : Nat} (hH : HZ Z h) (hj : j < 5) (hQ : Q none (iU I (h + 6) j v) L Z) : AC E yX0_note cX0_note 4 none d 0 0 [.ref h, .int 4, .int (nI j), .int v] I L Z Q := by
  refine ac_go (ls := [some (.ref h), some (.int 4), some (.int (nI j)), some (.int v)]) (by decide +kernel) (Nat.le_of_ble_eq_true rfl) rfl ?_
  refine aw_iload_n dX0_note_0 rfl ?_
  refine aw_tableIn (off := 95) (tgt := 96) dX0_note_1 (by decide) (by decide) (by rfl) (by decide) ?_
  refine aw_aload_n dX0_note_96 rfl rfl ?_
  refine aw_gr dX0_note_97 fw_X0_27 hH.1 hH.2.2.2.2.2.2.2.1 ?_
  refine aw_iload_n dX0_note_100 rfl ?_
  refine aw_iload_n dX0_note_101 rfl ?_
  refine aw_is j dX0_note_102 hH.2.2.2.2.2.2.2.2.2.2.2.2.2.2.2.1 rfl (by omega) (by decide) ?_
  refine aw_goto (tgt := 134) dX0_note_103 (by decide) ?_
  refine aw_return dX0_note_134 rfl ?_
  exact hQ
theorem c_X0_note5 {E : Ev} {d : Nat} {I : Mi} {L : Ml} {Z : Mz} {Q : Po} {h : Nat} {v : Int32} {j : Nat} (hH : HZ Z h) (hj : j < 5) (hQ : Q none (iU I (h + 7) j v) L Z) : AC E yX0_note cX0_note 4 none d 0 0 [.ref h, .int 5, .int (nI j), .int v] I L Z Q := by
  refine ac_go (ls := [some (.ref h), some (.int 5), some (.int (nI j)), some (.int v)]) (by decide +kernel) (Nat.le_of_ble_eq_true rfl) rfl ?_
  refine aw_iload_n dX0_note_0 rfl ?_
  refine aw_tableIn (off := 105) (tgt := 106) dX0_note_1 (by decide) (by decide) (by rfl) (by decide) ?_
  refine aw_aload_n dX0_note_106 rfl rfl ?_
  refine aw_gr dX0_note_107 fw_X0_30 hH.1 hH.2.2.2.2.2.2.2.2.1 ?_
  refine aw_iload_n dX0_note_110 rfl ?_
  refine aw_iload_n dX0_note_111 rfl ?_
  refine aw_is j dX0_note_112 hH.2.2.2.2.2.2.2.2.2.2.2.2.2.2.2.2.1 rfl (by omega) (by decide) ?_
  refine aw_goto (tgt := 134) dX0_note_113 (by decide) ?_
  refine aw_return dX0_note_134 rfl ?_
  exact hQ
theorem c_X0_note6 {E : Ev} {d : Nat} {I : Mi} {L : Ml} {Z : Mz} {Q : Po} {h : Nat} {v : Int32} {j : Nat} (hH : HZ Z h) (hj : j < 5) (hQ : Q none (iU I (h + 5) j v) L Z) : AC E yX0_note cX0_note 4 none d 0 0 [.ref h, .int 6, .int (nI j), .int v] I L Z Q := by
  refine ac_go (ls := [some (.ref h), some (.int 6), some (.int (nI j)), some (.int v)]) (by decide +kernel) (Nat.le_of_ble_eq_true rfl) rfl ?_
  refine aw_iload_n dX0_note_0 rfl ?_
  refine aw_tableIn (off := 115) (tgt := 116) dX0_note_1 (by decide) (by decide) (by rfl) (by decide) ?_
  refine aw_aload_n dX0_note_116 rfl rfl ?_
  refine aw_gr dX0_note_117 fw_X0_24 hH.1 hH.2.2.2.2.2.2.1 ?_
  refine aw_iload_n dX0_note_120 rfl ?_
  refine aw_iload_n dX0_note_121 rfl ?_
  refine aw_is j dX0_note_122 hH.2.2.2.2.2.2.2.2.2.2.2.2.2.2.1 rfl (by omega) (by decide) ?_
  refine aw_goto (tgt := 134) dX0_note_123 (by decide) ?_
  refine aw_return dX0_note_134 rfl ?_
  exact hQ
theorem c_X0_note10 {E : Ev} {d : Nat} {I : Mi} {L : Ml} {Z : Mz} {Q : Po} {h : Nat} {x : Int32} {v : Int32}  (hH : HZ Z h) (hQ : Q none (iU I h 3 v) L Z) : AC E yX0_note cX0_note 4 none d 0 0 [.ref h, .int 10, .int x, .int v] I L Z Q := by
  refine ac_go (ls := [some (.ref h), some (.int 10), some (.int x), some (.int v)]) (by decide +kernel) (Nat.le_of_ble_eq_true rfl) rfl ?_
  refine aw_iload_n dX0_note_0 rfl ?_
  refine aw_tableIn (off := 125) (tgt := 126) dX0_note_1 (by decide) (by decide) (by rfl) (by decide) ?_
  refine aw_aload_n dX0_note_126 rfl rfl ?_
  refine aw_iload_n dX0_note_127 rfl ?_
  refine aw_pi dX0_note_128 fw_X0_47 (ww_X0_47 _) hH.1 rfl ?_
  refine aw_goto (tgt := 134) dX0_note_131 (by decide) ?_
  refine aw_return dX0_note_134 rfl ?_
  exact hQ
theorem iU_at {I : Mi} {a k b j : Nat} {x : Int32} (h : ¬ (b = a ∧ j = k)) : iU I a k x b j = I b j := by simp only [iU, if_neg h]
theorem iU_same {I : Mi} {a k : Nat} {x : Int32} : iU I a k x a k = x := by simp only [iU, and_self, if_true]
