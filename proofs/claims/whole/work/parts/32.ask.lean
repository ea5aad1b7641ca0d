/-! ===== the class: follows, best, why, next, alike, share ===== -/
theorem c_X5_follows0 {E : Ev} {d : Nat} {I : Mi} {L : Ml} {Z : Mz} {Q : Po} {x : Int32} {r : Nat} (hd : 4 ≤ d) (hG : GZ Z) (hrn : I 10 9 = nI r) (hr : r ≤ 12) (hB : ¬ (¬ x < 0 ∧ ¬ 4095 < x) → Q (some (.int (-2))) I L Z) (hS : (¬ x < 0 ∧ ¬ 4095 < x) → ∀ rv : Int32, rv = (foH I 10 r (-1) x) → Q (some (.int rv)) I L Z) : AC E yX5_follows cX5_follows 4 (some .int) d 0 0 [.ref 0, .int x, .int 0] I L Z Q := by
  refine ac_go (ls := [some (.ref 0), some (.int x), some (.int 0), none]) (by decide +kernel) (Nat.le_of_ble_eq_true rfl) rfl ?_
  refine aw_iload_n dX5_follows_0 rfl ?_
  refine aw_S1 dX5_follows_1 cw_X5_91 (by omega) ⟨Nat.le_refl _, Nat.le_refl _⟩ (by decide) (c_X5_isSet (by omega) (fun c1 => ?_) (fun c1 => ?_))
  · refine aw_if_eq (tgt := 16) dX5_follows_4 (by decide) (fun zz => absurd zz (by decide)) (fun _ => ?_)
    refine aw_iload_n dX5_follows_7 rfl ?_
    refine aw_iconst (v := 0) dX5_follows_8 (by decide) ?_
    refine aw_iconst (v := 2) dX5_follows_9 (by decide) ?_
    refine aw_S3 dX5_follows_10 cw_X5_72 (by omega) ⟨Nat.le_refl _, Nat.le_refl _⟩ (by decide) (c_X5_within (fun _ => ?_) (fun zz => absurd (by decide) zz))
    refine aw_if_ne (tgt := 19) dX5_follows_13 (by decide) (fun _ => ?_) (fun zz => absurd zz (by decide))
    refine aw_iload_n dX5_follows_19 rfl ?_
    refine aw_iconst (v := 1) dX5_follows_20 (by decide) ?_
    refine aw_icmp_ne (tgt := 33) dX5_follows_21 (by decide) (fun _ => ?_) (fun zz => absurd zz (by decide))
    refine aw_aload_n dX5_follows_33 rfl rfl ?_
    refine aw_gr dX5_follows_34 fw_X5_28 hG.1 hG.2.2.2.1 ?_
    refine aw_iload_n dX5_follows_37 rfl ?_
    refine aw_iconst (v := -1) dX5_follows_38 (by decide) ?_
    refine aw_V2 dX5_follows_39 cw_X5_165 ⟨_, _, rfl⟩ hG.2.2.2.2.2.2.2.2.2.1.1 (by omega) ⟨Nat.le_refl _, Nat.le_refl _⟩ (by decide) (c_X0_following (by omega) hG.2.2.2.2.2.2.2.2.2.1 hrn hr (fun r39 e39 => ?_))
    refine aw_istore_n (ls' := [_, _, _, _]) dX5_follows_42 (by decide) rfl rfl ?_
    refine aw_iload_n dX5_follows_43 rfl ?_
    refine aw_if_ne (tgt := 51) dX5_follows_44 (by decide) (fun zz => absurd zz (by decide)) (fun _ => ?_)
    refine aw_iload_n dX5_follows_47 rfl ?_
    refine aw_goto (tgt := 58) dX5_follows_48 (by decide) ?_
    refine aw_ireturn (ty := .int) dX5_follows_58 rfl rfl ?_
    exact hS c1 _ e39
  · refine aw_if_eq (tgt := 16) dX5_follows_4 (by decide) (fun _ => ?_) (fun zz => absurd zz (by decide))
    refine aw_bipush (v := -2) dX5_follows_16 (by decide) ?_
    refine aw_ireturn (ty := .int) dX5_follows_18 rfl rfl ?_
    exact hB c1
theorem c_X5_follows1 {E : Ev} {d : Nat} {I : Mi} {L : Ml} {Z : Mz} {Q : Po} {x : Int32} {r : Nat} (hd : 4 ≤ d) (hG : GZ Z) (hrn : I 10 9 = nI r) (hr : r ≤ 12) (hB : ¬ (¬ x < 0 ∧ ¬ 4095 < x) → Q (some (.int (-2))) I L Z) (hS : (¬ x < 0 ∧ ¬ 4095 < x) → ∀ rv : Int32, rv = (nI (stF (rdH I 10 r (-1)) 12 0 x)) → Q (some (.int rv)) I L Z) : AC E yX5_follows cX5_follows 4 (some .int) d 0 0 [.ref 0, .int x, .int 1] I L Z Q := by
  refine ac_go (ls := [some (.ref 0), some (.int x), some (.int 1), none]) (by decide +kernel) (Nat.le_of_ble_eq_true rfl) rfl ?_
  refine aw_iload_n dX5_follows_0 rfl ?_
  refine aw_S1 dX5_follows_1 cw_X5_91 (by omega) ⟨Nat.le_refl _, Nat.le_refl _⟩ (by decide) (c_X5_isSet (by omega) (fun c1 => ?_) (fun c1 => ?_))
  · refine aw_if_eq (tgt := 16) dX5_follows_4 (by decide) (fun zz => absurd zz (by decide)) (fun _ => ?_)
    refine aw_iload_n dX5_follows_7 rfl ?_
    refine aw_iconst (v := 0) dX5_follows_8 (by decide) ?_
    refine aw_iconst (v := 2) dX5_follows_9 (by decide) ?_
    refine aw_S3 dX5_follows_10 cw_X5_72 (by omega) ⟨Nat.le_refl _, Nat.le_refl _⟩ (by decide) (c_X5_within (fun _ => ?_) (fun zz => absurd (by decide) zz))
    refine aw_if_ne (tgt := 19) dX5_follows_13 (by decide) (fun _ => ?_) (fun zz => absurd zz (by decide))
    refine aw_iload_n dX5_follows_19 rfl ?_
    refine aw_iconst (v := 1) dX5_follows_20 (by decide) ?_
    refine aw_icmp_ne (tgt := 33) dX5_follows_21 (by decide) (fun zz => absurd zz (by decide)) (fun _ => ?_)
    refine aw_aload_n dX5_follows_24 rfl rfl ?_
    refine aw_gr dX5_follows_25 fw_X5_28 hG.1 hG.2.2.2.1 ?_
    refine aw_iload_n dX5_follows_28 rfl ?_
    refine aw_V1 dX5_follows_29 cw_X5_162 ⟨_, _, rfl⟩ hG.2.2.2.2.2.2.2.2.2.1.1 (by omega) ⟨Nat.le_refl _, Nat.le_refl _⟩ (by decide) (c_X0_stepsFrom (by omega) hG.2.2.2.2.2.2.2.2.2.1 hrn hr (fun r29 e29 => ?_))
    refine aw_ireturn (ty := .int) dX5_follows_32 rfl rfl ?_
    exact hS c1 _ e29
  · refine aw_if_eq (tgt := 16) dX5_follows_4 (by decide) (fun _ => ?_) (fun zz => absurd zz (by decide))
    refine aw_bipush (v := -2) dX5_follows_16 (by decide) ?_
    refine aw_ireturn (ty := .int) dX5_follows_18 rfl rfl ?_
    exact hB c1
theorem c_X5_follows2 {E : Ev} {d : Nat} {I : Mi} {L : Ml} {Z : Mz} {Q : Po} {x : Int32} {r : Nat} (hd : 4 ≤ d) (hG : GZ Z) (hrn : I 10 9 = nI r) (hr : r ≤ 12) (hB : ¬ (¬ x < 0 ∧ ¬ 4095 < x) → Q (some (.int (-2))) I L Z) (hS : (¬ x < 0 ∧ ¬ 4095 < x) → ∀ rv : Int32, rv = (if clP (foH I 10 r (-1) x) then 1 else 0) → Q (some (.int rv)) I L Z) : AC E yX5_follows cX5_follows 4 (some .int) d 0 0 [.ref 0, .int x, .int 2] I L Z Q := by
  refine ac_go (ls := [some (.ref 0), some (.int x), some (.int 2), none]) (by decide +kernel) (Nat.le_of_ble_eq_true rfl) rfl ?_
  refine aw_iload_n dX5_follows_0 rfl ?_
  refine aw_S1 dX5_follows_1 cw_X5_91 (by omega) ⟨Nat.le_refl _, Nat.le_refl _⟩ (by decide) (c_X5_isSet (by omega) (fun c1 => ?_) (fun c1 => ?_))
  · refine aw_if_eq (tgt := 16) dX5_follows_4 (by decide) (fun zz => absurd zz (by decide)) (fun _ => ?_)
    refine aw_iload_n dX5_follows_7 rfl ?_
    refine aw_iconst (v := 0) dX5_follows_8 (by decide) ?_
    refine aw_iconst (v := 2) dX5_follows_9 (by decide) ?_
    refine aw_S3 dX5_follows_10 cw_X5_72 (by omega) ⟨Nat.le_refl _, Nat.le_refl _⟩ (by decide) (c_X5_within (fun _ => ?_) (fun zz => absurd (by decide) zz))
    refine aw_if_ne (tgt := 19) dX5_follows_13 (by decide) (fun _ => ?_) (fun zz => absurd zz (by decide))
    refine aw_iload_n dX5_follows_19 rfl ?_
    refine aw_iconst (v := 1) dX5_follows_20 (by decide) ?_
    refine aw_icmp_ne (tgt := 33) dX5_follows_21 (by decide) (fun _ => ?_) (fun zz => absurd zz (by decide))
    refine aw_aload_n dX5_follows_33 rfl rfl ?_
    refine aw_gr dX5_follows_34 fw_X5_28 hG.1 hG.2.2.2.1 ?_
    refine aw_iload_n dX5_follows_37 rfl ?_
    refine aw_iconst (v := -1) dX5_follows_38 (by decide) ?_
    refine aw_V2 dX5_follows_39 cw_X5_165 ⟨_, _, rfl⟩ hG.2.2.2.2.2.2.2.2.2.1.1 (by omega) ⟨Nat.le_refl _, Nat.le_refl _⟩ (by decide) (c_X0_following (by omega) hG.2.2.2.2.2.2.2.2.2.1 hrn hr (fun r39 e39 => ?_))
    refine aw_istore_n (ls' := [_, _, _, _]) dX5_follows_42 (by decide) rfl rfl ?_
    refine aw_iload_n dX5_follows_43 rfl ?_
    refine aw_if_ne (tgt := 51) dX5_follows_44 (by decide) (fun _ => ?_) (fun zz => absurd zz (by decide))
    refine aw_iload_n dX5_follows_51 rfl ?_
    refine aw_S1 dX5_follows_52 cw_X5_168 (by omega) ⟨Nat.le_refl _, Nat.le_refl _⟩ (by decide) (c_X5_isClash (fun c52 => ?_) (fun c52 => ?_))
    · refine aw_S1 dX5_follows_55 cw_X5_171 (by omega) ⟨Nat.le_refl _, Nat.le_refl _⟩ (by decide) (c_X5_oneIf (fun r55 e55 => ?_))
      refine aw_ireturn (ty := .int) dX5_follows_58 rfl rfl ?_
      subst e39
      exact hS c1 _ (by rw [e55]; simp (decide := true) only [clP, c52, not_true_eq_false, not_false_eq_true, and_true, true_and, and_false, false_and, or_true, true_or, or_false, false_or, ite_true, ite_false, if_true, if_false, reduceIte, and_self, or_self])
    · refine aw_S1 dX5_follows_55 cw_X5_171 (by omega) ⟨Nat.le_refl _, Nat.le_refl _⟩ (by decide) (c_X5_oneIf (fun r55 e55 => ?_))
      refine aw_ireturn (ty := .int) dX5_follows_58 rfl rfl ?_
      subst e39
      exact hS c1 _ (by rw [e55]; simp (decide := true) only [clP, c52, not_true_eq_false, not_false_eq_true, and_true, true_and, and_false, false_and, or_true, true_or, or_false, false_or, ite_true, ite_false, if_true, if_false, reduceIte, and_self, or_self])
  · refine aw_if_eq (tgt := 16) dX5_follows_4 (by decide) (fun _ => ?_) (fun zz => absurd zz (by decide))
    refine aw_bipush (v := -2) dX5_follows_16 (by decide) ?_
    refine aw_ireturn (ty := .int) dX5_follows_18 rfl rfl ?_
    exact hB c1
theorem c_X5_followsX {E : Ev} {d : Nat} {I : Mi} {L : Ml} {Z : Mz} {Q : Po} {x : Int32} {w : Int32}  (hd : 4 ≤ d) (hG : GZ Z) (hw : ¬ (¬ w < 0 ∧ ¬ 2 < w)) (hB : Q (some (.int (-2))) I L Z) : AC E yX5_follows cX5_follows 4 (some .int) d 0 0 [.ref 0, .int x, .int w] I L Z Q := by
  refine ac_go (ls := [some (.ref 0), some (.int x), some (.int w), none]) (by decide +kernel) (Nat.le_of_ble_eq_true rfl) rfl ?_
  refine aw_iload_n dX5_follows_0 rfl ?_
  refine aw_S1 dX5_follows_1 cw_X5_91 (by omega) ⟨Nat.le_refl _, Nat.le_refl _⟩ (by decide) (c_X5_isSet (by omega) (fun c1 => ?_) (fun c1 => ?_))
  · refine aw_if_eq (tgt := 16) dX5_follows_4 (by decide) (fun zz => absurd zz (by decide)) (fun _ => ?_)
    refine aw_iload_n dX5_follows_7 rfl ?_
    refine aw_iconst (v := 0) dX5_follows_8 (by decide) ?_
    refine aw_iconst (v := 2) dX5_follows_9 (by decide) ?_
    refine aw_S3 dX5_follows_10 cw_X5_72 (by omega) ⟨Nat.le_refl _, Nat.le_refl _⟩ (by decide) (c_X5_within (fun zz => absurd zz hw) (fun c10 => ?_))
    refine aw_if_ne (tgt := 19) dX5_follows_13 (by decide) (fun zz => absurd zz (by decide)) (fun _ => ?_)
    refine aw_bipush (v := -2) dX5_follows_16 (by decide) ?_
    refine aw_ireturn (ty := .int) dX5_follows_18 rfl rfl ?_
    exact hB
  · refine aw_if_eq (tgt := 16) dX5_follows_4 (by decide) (fun _ => ?_) (fun zz => absurd zz (by decide))
    refine aw_bipush (v := -2) dX5_follows_16 (by decide) ?_
    refine aw_ireturn (ty := .int) dX5_follows_18 rfl rfl ?_
    exact hB
theorem c_X5_best0 {E : Ev} {d : Nat} {I : Mi} {L : Ml} {Z : Mz} {Q : Po}  {r A B : Nat} (hd : 5 ≤ d) (hG : GZ Z) (hrn : I 10 9 = nI r) (hr : r ≤ 12) (hNA : (1 : Int32) <<< (bcV (I 10 1 &&& orF (I 14) r 0 0) &&& 31) = nI A) (hA4 : A ≤ 4096) (hNB : (1 : Int32) <<< (bcV (I 10 1) &&& 31) = nI B) (hB4 : B ≤ 4096) (hS : ∀ rv : Int32, rv = (baF (foH I 10 r (-1)) (I 10 1) (I 10 1 &&& orF (I 14) r 0 0) A 0 (I 10 1)) → Q (some (.int rv)) I L Z) : AC E yX5_best cX5_best 2 (some .int) d 0 0 [.ref 0, .int 0] I L Z Q := by
  refine ac_go (ls := [some (.ref 0), some (.int 0)]) (by decide +kernel) (Nat.le_of_ble_eq_true rfl) rfl ?_
  refine aw_iload_n dX5_best_0 rfl ?_
  refine aw_tableIn (off := 39) (tgt := 40) dX5_best_1 (by decide) (by decide) (by rfl) (by decide) ?_
  refine aw_aload_n dX5_best_40 rfl rfl ?_
  refine aw_gr dX5_best_41 fw_X5_28 hG.1 hG.2.2.2.1 ?_
  refine aw_V0 dX5_best_44 cw_X5_175 ⟨_, _, rfl⟩ hG.2.2.2.2.2.2.2.2.2.1.1 (by omega) ⟨Nat.le_refl _, Nat.le_refl _⟩ (by decide) (c_X0_base (by omega) hG.2.2.2.2.2.2.2.2.2.1 hrn hr hNA hA4 (fun r44 e44 => ?_))
  refine aw_ireturn (ty := .int) dX5_best_47 rfl rfl ?_
  exact hS _ e44
theorem c_X5_best1 {E : Ev} {d : Nat} {I : Mi} {L : Ml} {Z : Mz} {Q : Po}  {r A B : Nat} (hd : 5 ≤ d) (hG : GZ Z) (hrn : I 10 9 = nI r) (hr : r ≤ 12) (hNA : (1 : Int32) <<< (bcV (I 10 1 &&& orF (I 14) r 0 0) &&& 31) = nI A) (hA4 : A ≤ 4096) (hNB : (1 : Int32) <<< (bcV (I 10 1) &&& 31) = nI B) (hB4 : B ≤ 4096) (hS : ∀ rv : Int32, rv = (szV (baF (foH I 10 r (-1)) (I 10 1) (I 10 1 &&& orF (I 14) r 0 0) A 0 (I 10 1))) → Q (some (.int rv)) I L Z) : AC E yX5_best cX5_best 2 (some .int) d 0 0 [.ref 0, .int 1] I L Z Q := by
  refine ac_go (ls := [some (.ref 0), some (.int 1)]) (by decide +kernel) (Nat.le_of_ble_eq_true rfl) rfl ?_
  refine aw_iload_n dX5_best_0 rfl ?_
  refine aw_tableIn (off := 47) (tgt := 48) dX5_best_1 (by decide) (by decide) (by rfl) (by decide) ?_
  refine aw_aload_n dX5_best_48 rfl rfl ?_
  refine aw_gr dX5_best_49 fw_X5_28 hG.1 hG.2.2.2.1 ?_
  refine aw_V0 dX5_best_52 cw_X5_175 ⟨_, _, rfl⟩ hG.2.2.2.2.2.2.2.2.2.1.1 (by omega) ⟨Nat.le_refl _, Nat.le_refl _⟩ (by decide) (c_X0_base (by omega) hG.2.2.2.2.2.2.2.2.2.1 hrn hr hNA hA4 (fun r52 e52 => ?_))
  refine aw_S1 dX5_best_55 cw_X5_178 (by omega) ⟨Nat.le_refl _, Nat.le_refl _⟩ (by decide) (c_X5_sizeOf (by omega) (fun r55 e55 => ?_))
  refine aw_ireturn (ty := .int) dX5_best_58 rfl rfl ?_
  exact hS _ (by rw [e55, e52]; rfl)
theorem c_X5_best2 {E : Ev} {d : Nat} {I : Mi} {L : Ml} {Z : Mz} {Q : Po}  {r A B : Nat} (hd : 5 ≤ d) (hG : GZ Z) (hrn : I 10 9 = nI r) (hr : r ≤ 12) (hNA : (1 : Int32) <<< (bcV (I 10 1 &&& orF (I 14) r 0 0) &&& 31) = nI A) (hA4 : A ≤ 4096) (hNB : (1 : Int32) <<< (bcV (I 10 1) &&& 31) = nI B) (hB4 : B ≤ 4096) (hS : ∀ rv : Int32, rv = (peH I 10 r B (-1)) → Q (some (.int rv)) I L Z) : AC E yX5_best cX5_best 2 (some .int) d 0 0 [.ref 0, .int 2] I L Z Q := by
  refine ac_go (ls := [some (.ref 0), some (.int 2)]) (by decide +kernel) (Nat.le_of_ble_eq_true rfl) rfl ?_
  refine aw_iload_n dX5_best_0 rfl ?_
  refine aw_tableIn (off := 58) (tgt := 59) dX5_best_1 (by decide) (by decide) (by rfl) (by decide) ?_
  refine aw_aload_n dX5_best_59 rfl rfl ?_
  refine aw_gr dX5_best_60 fw_X5_28 hG.1 hG.2.2.2.1 ?_
  refine aw_iconst (v := -1) dX5_best_63 (by decide) ?_
  refine aw_V1 dX5_best_64 cw_X5_181 ⟨_, _, rfl⟩ hG.2.2.2.2.2.2.2.2.2.1.1 (by omega) ⟨Nat.le_refl _, Nat.le_refl _⟩ (by decide) (c_X0_peace (by omega) hG.2.2.2.2.2.2.2.2.2.1 hrn hr hNB hB4 (fun r64 e64 => ?_))
  refine aw_ireturn (ty := .int) dX5_best_67 rfl rfl ?_
  exact hS _ e64
theorem c_X5_best3 {E : Ev} {d : Nat} {I : Mi} {L : Ml} {Z : Mz} {Q : Po}  {r A B : Nat} (hd : 5 ≤ d) (hG : GZ Z) (hrn : I 10 9 = nI r) (hr : r ≤ 12) (hNA : (1 : Int32) <<< (bcV (I 10 1 &&& orF (I 14) r 0 0) &&& 31) = nI A) (hA4 : A ≤ 4096) (hNB : (1 : Int32) <<< (bcV (I 10 1) &&& 31) = nI B) (hB4 : B ≤ 4096) (hS : ∀ rv : Int32, rv = (szV (peH I 10 r B (-1))) → Q (some (.int rv)) I L Z) : AC E yX5_best cX5_best 2 (some .int) d 0 0 [.ref 0, .int 3] I L Z Q := by
  refine ac_go (ls := [some (.ref 0), some (.int 3)]) (by decide +kernel) (Nat.le_of_ble_eq_true rfl) rfl ?_
  refine aw_iload_n dX5_best_0 rfl ?_
  refine aw_tableIn (off := 67) (tgt := 68) dX5_best_1 (by decide) (by decide) (by rfl) (by decide) ?_
  refine aw_aload_n dX5_best_68 rfl rfl ?_
  refine aw_gr dX5_best_69 fw_X5_28 hG.1 hG.2.2.2.1 ?_
  refine aw_iconst (v := -1) dX5_best_72 (by decide) ?_
  refine aw_V1 dX5_best_73 cw_X5_181 ⟨_, _, rfl⟩ hG.2.2.2.2.2.2.2.2.2.1.1 (by omega) ⟨Nat.le_refl _, Nat.le_refl _⟩ (by decide) (c_X0_peace (by omega) hG.2.2.2.2.2.2.2.2.2.1 hrn hr hNB hB4 (fun r73 e73 => ?_))
  refine aw_S1 dX5_best_76 cw_X5_178 (by omega) ⟨Nat.le_refl _, Nat.le_refl _⟩ (by decide) (c_X5_sizeOf (by omega) (fun r76 e76 => ?_))
  refine aw_ireturn (ty := .int) dX5_best_79 rfl rfl ?_
  exact hS _ (by rw [e76, e73]; rfl)
theorem c_X5_best4 {E : Ev} {d : Nat} {I : Mi} {L : Ml} {Z : Mz} {Q : Po}  {r A B : Nat} (hd : 5 ≤ d) (hG : GZ Z) (hrn : I 10 9 = nI r) (hr : r ≤ 12) (hNA : (1 : Int32) <<< (bcV (I 10 1 &&& orF (I 14) r 0 0) &&& 31) = nI A) (hA4 : A ≤ 4096) (hNB : (1 : Int32) <<< (bcV (I 10 1) &&& 31) = nI B) (hB4 : B ≤ 4096) (hS : ∀ rv : Int32, rv = (skF (peH I 10 r B) r 0 (-1) (-1)) → Q (some (.int rv)) I L Z) : AC E yX5_best cX5_best 2 (some .int) d 0 0 [.ref 0, .int 4] I L Z Q := by
  refine ac_go (ls := [some (.ref 0), some (.int 4)]) (by decide +kernel) (Nat.le_of_ble_eq_true rfl) rfl ?_
  refine aw_iload_n dX5_best_0 rfl ?_
  refine aw_tableIn (off := 79) (tgt := 80) dX5_best_1 (by decide) (by decide) (by rfl) (by decide) ?_
  refine aw_aload_n dX5_best_80 rfl rfl ?_
  refine aw_gr dX5_best_81 fw_X5_28 hG.1 hG.2.2.2.1 ?_
  refine aw_V0 dX5_best_84 cw_X5_184 ⟨_, _, rfl⟩ hG.2.2.2.2.2.2.2.2.2.1.1 (by omega) ⟨Nat.le_refl _, Nat.le_refl _⟩ (by decide) (c_X0_strike (by omega) hG.2.2.2.2.2.2.2.2.2.1 hrn hr hNB hB4 (fun r84 e84 => ?_))
  refine aw_ireturn (ty := .int) dX5_best_87 rfl rfl ?_
  exact hS _ e84
theorem c_X5_best5 {E : Ev} {d : Nat} {I : Mi} {L : Ml} {Z : Mz} {Q : Po}  {r A B : Nat} (hd : 5 ≤ d) (hG : GZ Z) (hrn : I 10 9 = nI r) (hr : r ≤ 12) (hNA : (1 : Int32) <<< (bcV (I 10 1 &&& orF (I 14) r 0 0) &&& 31) = nI A) (hA4 : A ≤ 4096) (hNB : (1 : Int32) <<< (bcV (I 10 1) &&& 31) = nI B) (hB4 : B ≤ 4096) (hS : ∀ rv : Int32, rv = (vaF (foH I 10 r) (I 13) (I 14) r 0 0) → Q (some (.int rv)) I L Z) : AC E yX5_best cX5_best 2 (some .int) d 0 0 [.ref 0, .int 5] I L Z Q := by
  refine ac_go (ls := [some (.ref 0), some (.int 5)]) (by decide +kernel) (Nat.le_of_ble_eq_true rfl) rfl ?_
  refine aw_iload_n dX5_best_0 rfl ?_
  refine aw_tableIn (off := 87) (tgt := 88) dX5_best_1 (by decide) (by decide) (by rfl) (by decide) ?_
  refine aw_aload_n dX5_best_88 rfl rfl ?_
  refine aw_gr dX5_best_89 fw_X5_28 hG.1 hG.2.2.2.1 ?_
  refine aw_V0 dX5_best_92 cw_X5_187 ⟨_, _, rfl⟩ hG.2.2.2.2.2.2.2.2.2.1.1 (by omega) ⟨Nat.le_refl _, Nat.le_refl _⟩ (by decide) (c_X0_vain (by omega) hG.2.2.2.2.2.2.2.2.2.1 hrn hr (fun r92 e92 => ?_))
  refine aw_ireturn (ty := .int) dX5_best_95 rfl rfl ?_
  exact hS _ e92
theorem c_X5_bestX {E : Ev} {d : Nat} {I : Mi} {L : Ml} {Z : Mz} {Q : Po} {x : Int32}  (hG : GZ Z) (hx : x.toInt < 0 ∨ 5 < x.toInt) (hA : Q (some (.int (-2))) I L Z) : AC E yX5_best cX5_best 2 (some .int) d 0 0 [.ref 0, .int x] I L Z Q := by
  refine ac_go (ls := [some (.ref 0), some (.int x)]) (by decide +kernel) (Nat.le_of_ble_eq_true rfl) rfl ?_
  refine aw_iload_n dX5_best_0 rfl ?_
  refine aw_tableOut (tgt := 96) dX5_best_1 hx (by decide) ?_
  refine aw_bipush (v := -2) dX5_best_96 (by decide) ?_
  refine aw_ireturn (ty := .int) dX5_best_98 rfl rfl ?_
  exact hA
theorem c_X5_why0 {E : Ev} {d : Nat} {I : Mi} {L : Ml} {Z : Mz} {Q : Po} {x : Int32} {r A : Nat} (hd : 4 ≤ d) (hG : GZ Z) (hrn : I 10 9 = nI r) (hr : r ≤ 12) (hN : (¬ x < 0 ∧ ¬ 11 < x) → (1 : Int32) <<< (bcV (unF (I 13) r 0 0 &&& ((1 <<< (x &&& 31)) ^^^ -1)) &&& 31) = nI A) (hA4 : A ≤ 4096) (hB : ¬ (¬ x < 0 ∧ ¬ 11 < x) → Q (some (.int (-2))) I L Z) (hS : (¬ x < 0 ∧ ¬ 11 < x) → ∀ rv : Int32, rv = ((if orF (I 14) r 0 0 &&& (1 <<< (x &&& 31)) = 0 then -1 else caF (foH I 10 r (-1)) (unF (I 13) r 0 0 &&& ((1 <<< (x &&& 31)) ^^^ -1)) (1 <<< (x &&& 31)) A 0 (unF (I 13) r 0 0 &&& ((1 <<< (x &&& 31)) ^^^ -1)))) → Q (some (.int rv)) I L Z) : AC E yX5_why cX5_why 4 (some .int) d 0 0 [.ref 0, .int x, .int 0] I L Z Q := by
  refine ac_go (ls := [some (.ref 0), some (.int x), some (.int 0), none]) (by decide +kernel) (Nat.le_of_ble_eq_true rfl) rfl ?_
  refine aw_iload_n dX5_why_0 rfl ?_
  refine aw_S1 dX5_why_1 cw_X5_95 (by omega) ⟨Nat.le_refl _, Nat.le_refl _⟩ (by decide) (c_X5_isSaying (by omega) (fun c1 => ?_) (fun c1 => ?_))
  · refine aw_if_eq (tgt := 16) dX5_why_4 (by decide) (fun zz => absurd zz (by decide)) (fun _ => ?_)
    refine aw_iload_n dX5_why_7 rfl ?_
    refine aw_iconst (v := 0) dX5_why_8 (by decide) ?_
    refine aw_iconst (v := 1) dX5_why_9 (by decide) ?_
    refine aw_S3 dX5_why_10 cw_X5_72 (by omega) ⟨Nat.le_refl _, Nat.le_refl _⟩ (by decide) (c_X5_within (fun _ => ?_) (fun zz => absurd (by decide) zz))
    refine aw_if_ne (tgt := 19) dX5_why_13 (by decide) (fun _ => ?_) (fun zz => absurd zz (by decide))
    refine aw_aload_n dX5_why_19 rfl rfl ?_
    refine aw_gr dX5_why_20 fw_X5_28 hG.1 hG.2.2.2.1 ?_
    refine aw_iload_n dX5_why_23 rfl ?_
    refine aw_V1 dX5_why_24 cw_X5_190 ⟨_, _, rfl⟩ hG.2.2.2.2.2.2.2.2.2.1.1 (by omega) ⟨Nat.le_refl _, Nat.le_refl _⟩ (by decide) (c_X0_causeOf (by omega) hG.2.2.2.2.2.2.2.2.2.1 hrn hr (hN c1) hA4 (fun r24 e24 => ?_))
    refine aw_istore_n (ls' := [_, _, _, _]) dX5_why_27 (by decide) rfl rfl ?_
    refine aw_iload_n dX5_why_28 rfl ?_
    refine aw_if_ne (tgt := 36) dX5_why_29 (by decide) (fun zz => absurd zz (by decide)) (fun _ => ?_)
    refine aw_iload_n dX5_why_32 rfl ?_
    refine aw_goto (tgt := 40) dX5_why_33 (by decide) ?_
    refine aw_ireturn (ty := .int) dX5_why_40 rfl rfl ?_
    exact hS c1 _ e24
  · refine aw_if_eq (tgt := 16) dX5_why_4 (by decide) (fun _ => ?_) (fun zz => absurd zz (by decide))
    refine aw_bipush (v := -2) dX5_why_16 (by decide) ?_
    refine aw_ireturn (ty := .int) dX5_why_18 rfl rfl ?_
    exact hB c1
theorem c_X5_why1 {E : Ev} {d : Nat} {I : Mi} {L : Ml} {Z : Mz} {Q : Po} {x : Int32} {r A : Nat} (hd : 4 ≤ d) (hG : GZ Z) (hrn : I 10 9 = nI r) (hr : r ≤ 12) (hN : (¬ x < 0 ∧ ¬ 11 < x) → (1 : Int32) <<< (bcV (unF (I 13) r 0 0 &&& ((1 <<< (x &&& 31)) ^^^ -1)) &&& 31) = nI A) (hA4 : A ≤ 4096) (hB : ¬ (¬ x < 0 ∧ ¬ 11 < x) → Q (some (.int (-2))) I L Z) (hS : (¬ x < 0 ∧ ¬ 11 < x) → ∀ rv : Int32, rv = (szV (if orF (I 14) r 0 0 &&& (1 <<< (x &&& 31)) = 0 then -1 else caF (foH I 10 r (-1)) (unF (I 13) r 0 0 &&& ((1 <<< (x &&& 31)) ^^^ -1)) (1 <<< (x &&& 31)) A 0 (unF (I 13) r 0 0 &&& ((1 <<< (x &&& 31)) ^^^ -1)))) → Q (some (.int rv)) I L Z) : AC E yX5_why cX5_why 4 (some .int) d 0 0 [.ref 0, .int x, .int 1] I L Z Q := by
  refine ac_go (ls := [some (.ref 0), some (.int x), some (.int 1), none]) (by decide +kernel) (Nat.le_of_ble_eq_true rfl) rfl ?_
  refine aw_iload_n dX5_why_0 rfl ?_
  refine aw_S1 dX5_why_1 cw_X5_95 (by omega) ⟨Nat.le_refl _, Nat.le_refl _⟩ (by decide) (c_X5_isSaying (by omega) (fun c1 => ?_) (fun c1 => ?_))
  · refine aw_if_eq (tgt := 16) dX5_why_4 (by decide) (fun zz => absurd zz (by decide)) (fun _ => ?_)
    refine aw_iload_n dX5_why_7 rfl ?_
    refine aw_iconst (v := 0) dX5_why_8 (by decide) ?_
    refine aw_iconst (v := 1) dX5_why_9 (by decide) ?_
    refine aw_S3 dX5_why_10 cw_X5_72 (by omega) ⟨Nat.le_refl _, Nat.le_refl _⟩ (by decide) (c_X5_within (fun _ => ?_) (fun zz => absurd (by decide) zz))
    refine aw_if_ne (tgt := 19) dX5_why_13 (by decide) (fun _ => ?_) (fun zz => absurd zz (by decide))
    refine aw_aload_n dX5_why_19 rfl rfl ?_
    refine aw_gr dX5_why_20 fw_X5_28 hG.1 hG.2.2.2.1 ?_
    refine aw_iload_n dX5_why_23 rfl ?_
    refine aw_V1 dX5_why_24 cw_X5_190 ⟨_, _, rfl⟩ hG.2.2.2.2.2.2.2.2.2.1.1 (by omega) ⟨Nat.le_refl _, Nat.le_refl _⟩ (by decide) (c_X0_causeOf (by omega) hG.2.2.2.2.2.2.2.2.2.1 hrn hr (hN c1) hA4 (fun r24 e24 => ?_))
    refine aw_istore_n (ls' := [_, _, _, _]) dX5_why_27 (by decide) rfl rfl ?_
    refine aw_iload_n dX5_why_28 rfl ?_
    refine aw_if_ne (tgt := 36) dX5_why_29 (by decide) (fun _ => ?_) (fun zz => absurd zz (by decide))
    refine aw_iload_n dX5_why_36 rfl ?_
    refine aw_S1 dX5_why_37 cw_X5_178 (by omega) ⟨Nat.le_refl _, Nat.le_refl _⟩ (by decide) (c_X5_sizeOf (by omega) (fun r37 e37 => ?_))
    refine aw_ireturn (ty := .int) dX5_why_40 rfl rfl ?_
    exact hS c1 _ (by rw [e37, e24]; rfl)
  · refine aw_if_eq (tgt := 16) dX5_why_4 (by decide) (fun _ => ?_) (fun zz => absurd zz (by decide))
    refine aw_bipush (v := -2) dX5_why_16 (by decide) ?_
    refine aw_ireturn (ty := .int) dX5_why_18 rfl rfl ?_
    exact hB c1
theorem c_X5_whyX {E : Ev} {d : Nat} {I : Mi} {L : Ml} {Z : Mz} {Q : Po} {x : Int32} {w : Int32}  (hd : 4 ≤ d) (hG : GZ Z) (hw : ¬ (¬ w < 0 ∧ ¬ 1 < w)) (hB : Q (some (.int (-2))) I L Z) : AC E yX5_why cX5_why 4 (some .int) d 0 0 [.ref 0, .int x, .int w] I L Z Q := by
  refine ac_go (ls := [some (.ref 0), some (.int x), some (.int w), none]) (by decide +kernel) (Nat.le_of_ble_eq_true rfl) rfl ?_
  refine aw_iload_n dX5_why_0 rfl ?_
  refine aw_S1 dX5_why_1 cw_X5_95 (by omega) ⟨Nat.le_refl _, Nat.le_refl _⟩ (by decide) (c_X5_isSaying (by omega) (fun c1 => ?_) (fun c1 => ?_))
  · refine aw_if_eq (tgt := 16) dX5_why_4 (by decide) (fun zz => absurd zz (by decide)) (fun _ => ?_)
    refine aw_iload_n dX5_why_7 rfl ?_
    refine aw_iconst (v := 0) dX5_why_8 (by decide) ?_
    refine aw_iconst (v := 1) dX5_why_9 (by decide) ?_
    refine aw_S3 dX5_why_10 cw_X5_72 (by omega) ⟨Nat.le_refl _, Nat.le_refl _⟩ (by decide) (c_X5_within (fun zz => absurd zz hw) (fun c10 => ?_))
    refine aw_if_ne (tgt := 19) dX5_why_13 (by decide) (fun zz => absurd zz (by decide)) (fun _ => ?_)
    refine aw_bipush (v := -2) dX5_why_16 (by decide) ?_
    refine aw_ireturn (ty := .int) dX5_why_18 rfl rfl ?_
    exact hB
  · refine aw_if_eq (tgt := 16) dX5_why_4 (by decide) (fun _ => ?_) (fun zz => absurd zz (by decide))
    refine aw_bipush (v := -2) dX5_why_16 (by decide) ?_
    refine aw_ireturn (ty := .int) dX5_why_18 rfl rfl ?_
    exact hB
theorem ctF_out (f : Nat → Int32) (N : Nat) : ∀ (n j : Nat) (ch mo : Int32), j + n = N → (ch = -1 ∨ ∃ c, c < N ∧ ch = nI c) → (ctF f n j ch mo = -1 ∨ ∃ c, c < N ∧ ctF f n j ch mo = nI c) := by
  intro n
  induction n with
  | zero => intro j ch mo _ h; exact h
  | succ n ih =>
    intro j ch mo hj h
    simp only [ctF]
    split
    · exact ih _ _ _ (by omega) h
    · exact ih _ _ _ (by omega) (Or.inr ⟨j, by omega, rfl⟩)
theorem c_X5_next0 {E : Ev} {d : Nat} {I : Mi} {L : Ml} {Z : Mz} {Q : Po} {x : Int32} {ru t q mm ma mb n m r : Nat} (hd : 7 ≤ d) (hG : GZ Z) (hR : RD I Z 10 ru t q mm ma mb n) (hm : I 10 13 = nI m) (hm5 : m ≤ 5) (hrn : I 10 9 = nI r) (hr : r ≤ 12) (ht : t ≠ 13 ∧ t ≠ 14) (hq : (q ≠ 3 ∧ q ≠ 18) ∧ q ≠ 13 ∧ q ≠ 14) (hB : ¬ (∃ j, j < m ∧ x = nI j) → Q (some (.int (-2))) I L Z) (hS : ∀ p, p < m → x = nI p → ∀ (rv : Int32) (I9 : Mi), SamF 10 r I I9 → rv = (if r = 12 then -1 else ctF (fwV I 10 q ma mb mm r p) n 0 (-1) (-1)) → Q (some (.int rv)) I9 L Z) : AC E yX5_next cX5_next 4 (some .int) d 0 0 [.ref 0, .int x, .int 0] I L Z Q := by
  refine ac_go (ls := [some (.ref 0), some (.int x), some (.int 0), none]) (by decide +kernel) (Nat.le_of_ble_eq_true rfl) rfl ?_
  refine aw_aload_n dX5_next_0 rfl rfl ?_
  refine aw_gr dX5_next_1 fw_X5_28 hG.1 hG.2.2.2.1 ?_
  refine aw_iload_n dX5_next_4 rfl ?_
  refine aw_V1 dX5_next_5 cw_X5_117 ⟨_, _, rfl⟩ hG.2.2.2.2.2.2.2.2.2.1.1 (by omega) ⟨Nat.le_refl _, Nat.le_refl _⟩ (by decide) (c_X0_hasReader hG.2.2.2.2.2.2.2.2.2.1 (fun c5 => ?_) (fun c5 => ?_))
  · refine aw_if_eq (tgt := 20) dX5_next_8 (by decide) (fun zz => absurd zz (by decide)) (fun _ => ?_)
    obtain ⟨p, hp, rfl⟩ := (ix_iff hm (by omega)).mp c5
    refine aw_iload_n dX5_next_11 rfl ?_
    refine aw_iconst (v := 0) dX5_next_12 (by decide) ?_
    refine aw_iconst (v := 2) dX5_next_13 (by decide) ?_
    refine aw_S3 dX5_next_14 cw_X5_72 (by omega) ⟨Nat.le_refl _, Nat.le_refl _⟩ (by decide) (c_X5_within (fun _ => ?_) (fun zz => absurd (by decide) zz))
    refine aw_if_ne (tgt := 23) dX5_next_17 (by decide) (fun _ => ?_) (fun zz => absurd zz (by decide))
    refine aw_iload_n dX5_next_23 rfl ?_
    refine aw_iconst (v := 2) dX5_next_24 (by decide) ?_
    refine aw_icmp_ne (tgt := 37) dX5_next_25 (by decide) (fun _ => ?_) (fun zz => absurd zz (by decide))
    refine aw_aload_n dX5_next_37 rfl rfl ?_
    refine aw_gr dX5_next_38 fw_X5_28 hG.1 hG.2.2.2.1 ?_
    refine aw_iload_n dX5_next_41 rfl ?_
    refine aw_V1 dX5_next_42 cw_X5_196 ⟨_, _, rfl⟩ hG.2.2.2.2.2.2.2.2.2.1.1 (by omega) ⟨Nat.le_refl _, Nat.le_refl _⟩ (by decide) (c_X0_cupToRead (by omega) hR (show p < 5 by omega) hrn hr ht hq (fun r42 I42 h42 e42 => ?_))
    refine aw_istore_n (ls' := [_, _, _, _]) dX5_next_45 (by decide) rfl rfl ?_
    refine aw_iload_n dX5_next_46 rfl ?_
    refine aw_if_ne (tgt := 52) dX5_next_47 (by decide) (fun zz => absurd zz (by decide)) (fun _ => ?_)
    refine aw_iload_n dX5_next_50 rfl ?_
    refine aw_ireturn (ty := .int) dX5_next_51 rfl rfl ?_
    exact hS p hp rfl _ _ h42 e42
  · refine aw_if_eq (tgt := 20) dX5_next_8 (by decide) (fun _ => ?_) (fun zz => absurd zz (by decide))
    refine aw_bipush (v := -2) dX5_next_20 (by decide) ?_
    refine aw_ireturn (ty := .int) dX5_next_22 rfl rfl ?_
    exact hB (fun zz => c5 ((ix_iff hm (by omega)).mpr zz))
theorem c_X5_next2 {E : Ev} {d : Nat} {I : Mi} {L : Ml} {Z : Mz} {Q : Po} {x : Int32} {ru t q mm ma mb n m r : Nat} (hd : 7 ≤ d) (hG : GZ Z) (hR : RD I Z 10 ru t q mm ma mb n) (hm : I 10 13 = nI m) (hm5 : m ≤ 5) (hrn : I 10 9 = nI r) (hr : r ≤ 12) (ht : t ≠ 13 ∧ t ≠ 14) (hq : (q ≠ 3 ∧ q ≠ 18) ∧ q ≠ 13 ∧ q ≠ 14) (hB : ¬ (∃ j, j < m ∧ x = nI j) → Q (some (.int (-2))) I L Z) (hS : ∀ p, p < m → x = nI p → ∀ (rv : Int32) (I9 : Mi), SamH 10 I I9 → rv = dgO (rbV I 10 q ma mb mm p) n n 0 0 → Q (some (.int rv)) I9 L Z) : AC E yX5_next cX5_next 4 (some .int) d 0 0 [.ref 0, .int x, .int 2] I L Z Q := by
  refine ac_go (ls := [some (.ref 0), some (.int x), some (.int 2), none]) (by decide +kernel) (Nat.le_of_ble_eq_true rfl) rfl ?_
  refine aw_aload_n dX5_next_0 rfl rfl ?_
  refine aw_gr dX5_next_1 fw_X5_28 hG.1 hG.2.2.2.1 ?_
  refine aw_iload_n dX5_next_4 rfl ?_
  refine aw_V1 dX5_next_5 cw_X5_117 ⟨_, _, rfl⟩ hG.2.2.2.2.2.2.2.2.2.1.1 (by omega) ⟨Nat.le_refl _, Nat.le_refl _⟩ (by decide) (c_X0_hasReader hG.2.2.2.2.2.2.2.2.2.1 (fun c5 => ?_) (fun c5 => ?_))
  · refine aw_if_eq (tgt := 20) dX5_next_8 (by decide) (fun zz => absurd zz (by decide)) (fun _ => ?_)
    obtain ⟨p, hp, rfl⟩ := (ix_iff hm (by omega)).mp c5
    refine aw_iload_n dX5_next_11 rfl ?_
    refine aw_iconst (v := 0) dX5_next_12 (by decide) ?_
    refine aw_iconst (v := 2) dX5_next_13 (by decide) ?_
    refine aw_S3 dX5_next_14 cw_X5_72 (by omega) ⟨Nat.le_refl _, Nat.le_refl _⟩ (by decide) (c_X5_within (fun _ => ?_) (fun zz => absurd (by decide) zz))
    refine aw_if_ne (tgt := 23) dX5_next_17 (by decide) (fun _ => ?_) (fun zz => absurd zz (by decide))
    refine aw_iload_n dX5_next_23 rfl ?_
    refine aw_iconst (v := 2) dX5_next_24 (by decide) ?_
    refine aw_icmp_ne (tgt := 37) dX5_next_25 (by decide) (fun zz => absurd zz (by decide)) (fun _ => ?_)
    refine aw_aload_n dX5_next_28 rfl rfl ?_
    refine aw_gr dX5_next_29 fw_X5_28 hG.1 hG.2.2.2.1 ?_
    refine aw_iload_n dX5_next_32 rfl ?_
    refine aw_V1 dX5_next_33 cw_X5_193 ⟨_, _, rfl⟩ hG.2.2.2.2.2.2.2.2.2.1.1 (by omega) ⟨Nat.le_refl _, Nat.le_refl _⟩ (by decide) (c_X0_dogs (by omega) hR (show p < 5 by omega) (fun r33 I33 h33 e33 => ?_))
    refine aw_ireturn (ty := .int) dX5_next_36 rfl rfl ?_
    exact hS p hp rfl _ _ h33 e33
  · refine aw_if_eq (tgt := 20) dX5_next_8 (by decide) (fun _ => ?_) (fun zz => absurd zz (by decide))
    refine aw_bipush (v := -2) dX5_next_20 (by decide) ?_
    refine aw_ireturn (ty := .int) dX5_next_22 rfl rfl ?_
    exact hB (fun zz => c5 ((ix_iff hm (by omega)).mpr zz))
theorem c_X5_next1 {E : Ev} {d : Nat} {I : Mi} {L : Ml} {Z : Mz} {Q : Po} {x : Int32} {ru t q mm ma mb n m r : Nat} (hd : 7 ≤ d) (hG : GZ Z) (hR : RD I Z 10 ru t q mm ma mb n) (hm : I 10 13 = nI m) (hm5 : m ≤ 5) (hrn : I 10 9 = nI r) (hr : r ≤ 12) (ht : t ≠ 13 ∧ t ≠ 14) (hq : (q ≠ 3 ∧ q ≠ 18) ∧ q ≠ 13 ∧ q ≠ 14) (hB : ¬ (∃ j, j < m ∧ x = nI j) → Q (some (.int (-2))) I L Z) (hS0 : ∀ p, p < m → x = nI p → (if r = 12 then -1 else ctF (fwV I 10 q ma mb mm r p) n 0 (-1) (-1)) = -1 → ∀ (rv : Int32) (I9 : Mi), SamF 10 r I I9 → rv = bcV (foH I 10 r (-1) (I 10 1)) → Q (some (.int rv)) I9 L Z) (hS1 : ∀ p, p < m → x = nI p → ∀ c, c < n → (if r = 12 then -1 else ctF (fwV I 10 q ma mb mm r p) n 0 (-1) (-1)) = nI c → ∀ (rv : Int32) (I9 : Mi), SamF 10 r I I9 → rv = fwV I 10 q ma mb mm r p c → Q (some (.int rv)) I9 L Z) : AC E yX5_next cX5_next 4 (some .int) d 0 0 [.ref 0, .int x, .int 1] I L Z Q := by
  refine ac_go (ls := [some (.ref 0), some (.int x), some (.int 1), none]) (by decide +kernel) (Nat.le_of_ble_eq_true rfl) rfl ?_
  refine aw_aload_n dX5_next_0 rfl rfl ?_
  refine aw_gr dX5_next_1 fw_X5_28 hG.1 hG.2.2.2.1 ?_
  refine aw_iload_n dX5_next_4 rfl ?_
  refine aw_V1 dX5_next_5 cw_X5_117 ⟨_, _, rfl⟩ hG.2.2.2.2.2.2.2.2.2.1.1 (by omega) ⟨Nat.le_refl _, Nat.le_refl _⟩ (by decide) (c_X0_hasReader hG.2.2.2.2.2.2.2.2.2.1 (fun c5 => ?_) (fun c5 => ?_))
  · refine aw_if_eq (tgt := 20) dX5_next_8 (by decide) (fun zz => absurd zz (by decide)) (fun _ => ?_)
    obtain ⟨p, hp, rfl⟩ := (ix_iff hm (by omega)).mp c5
    refine aw_iload_n dX5_next_11 rfl ?_
    refine aw_iconst (v := 0) dX5_next_12 (by decide) ?_
    refine aw_iconst (v := 2) dX5_next_13 (by decide) ?_
    refine aw_S3 dX5_next_14 cw_X5_72 (by omega) ⟨Nat.le_refl _, Nat.le_refl _⟩ (by decide) (c_X5_within (fun _ => ?_) (fun zz => absurd (by decide) zz))
    refine aw_if_ne (tgt := 23) dX5_next_17 (by decide) (fun _ => ?_) (fun zz => absurd zz (by decide))
    refine aw_iload_n dX5_next_23 rfl ?_
    refine aw_iconst (v := 2) dX5_next_24 (by decide) ?_
    refine aw_icmp_ne (tgt := 37) dX5_next_25 (by decide) (fun _ => ?_) (fun zz => absurd zz (by decide))
    refine aw_aload_n dX5_next_37 rfl rfl ?_
    refine aw_gr dX5_next_38 fw_X5_28 hG.1 hG.2.2.2.1 ?_
    refine aw_iload_n dX5_next_41 rfl ?_
    refine aw_V1 dX5_next_42 cw_X5_196 ⟨_, _, rfl⟩ hG.2.2.2.2.2.2.2.2.2.1.1 (by omega) ⟨Nat.le_refl _, Nat.le_refl _⟩ (by decide) (c_X0_cupToRead (by omega) hR (show p < 5 by omega) hrn hr ht hq (fun r42 I42 h42 e42 => ?_))
    have h9 : I42 10 9 = nI r := by rw [h42.1 10 (by decide) (by decide) (by decide) (by decide)]; exact hrn
    have hn6 := hR.2.2.2.2.1
    refine aw_istore_n (ls' := [_, _, _, _]) dX5_next_45 (by decide) rfl rfl ?_
    refine aw_iload_n dX5_next_46 rfl ?_
    refine aw_if_ne (tgt := 52) dX5_next_47 (by decide) (fun _ => ?_) (fun zz => absurd zz (by decide))
    refine aw_iload_n dX5_next_52 rfl ?_
    refine aw_iconst (v := -1) dX5_next_53 (by decide) ?_
    refine aw_icmp_ne (tgt := 67) dX5_next_54 (by decide) (fun c54 => ?_) (fun c54 => ?_)
    · have hr12 : r ≠ 12 := fun z => c54 (by rw [e42, if_pos z])
      obtain ⟨c, hc, ec⟩ : ∃ c, c < n ∧ r42 = nI c := by
        rw [if_neg hr12] at e42
        rcases ctF_out (fwV I 10 q ma mb mm r p) n n 0 (-1) (-1) (by omega) (Or.inl rfl) with h | ⟨c, hc, h⟩
        · exact absurd (e42.trans h) c54
        · exact ⟨c, hc, e42.trans h⟩
      rw [ec]
      refine aw_aload_n dX5_next_67 rfl rfl ?_
      refine aw_gr dX5_next_68 fw_X5_28 hG.1 hG.2.2.2.1 ?_
      refine aw_iload_n dX5_next_71 rfl ?_
      refine aw_iload_n dX5_next_72 rfl ?_
      refine aw_V2 dX5_next_73 cw_X5_202 ⟨_, _, rfl⟩ hG.2.2.2.2.2.2.2.2.2.1.1 (by omega) ⟨Nat.le_refl _, Nat.le_refl _⟩ (by decide) (c_X0_followersWith (by omega) (hR.samF h42 ht) (show p < 5 by omega) hc h9 (by omega) (fun r73 I73 h73 e73 => ?_))
      refine aw_ireturn (ty := .int) dX5_next_76 rfl rfl ?_
      refine hS1 p hp rfl c hc (by rw [← e42]; exact ec) _ _ (h42.tr h73) ?_
      rw [e73]
      exact fwV_samF h42 (by decide) hq.1 hq.2
    · refine aw_aload_n dX5_next_57 rfl rfl ?_
      refine aw_gr dX5_next_58 fw_X5_28 hG.1 hG.2.2.2.1 ?_
      refine aw_V0 dX5_next_61 cw_X5_199 ⟨_, _, rfl⟩ hG.2.2.2.2.2.2.2.2.2.1.1 (by omega) ⟨Nat.le_refl _, Nat.le_refl _⟩ (by decide) (c_X0_followers (by omega) hG.2.2.2.2.2.2.2.2.2.1 h9 hr (fun r61 e61 => ?_))
      refine aw_goto (tgt := 76) dX5_next_64 (by decide) ?_
      refine aw_ireturn (ty := .int) dX5_next_76 rfl rfl ?_
      refine hS0 p hp rfl (by rw [← e42]; exact c54) _ _ h42 ?_
      rw [e61, h42.1 10 (by decide) (by decide) (by decide) (by decide)]
      exact congrArg bcV (foX_congr fun k hk => h42.2 k hk)
  · refine aw_if_eq (tgt := 20) dX5_next_8 (by decide) (fun _ => ?_) (fun zz => absurd zz (by decide))
    refine aw_bipush (v := -2) dX5_next_20 (by decide) ?_
    refine aw_ireturn (ty := .int) dX5_next_22 rfl rfl ?_
    exact hB (fun zz => c5 ((ix_iff hm (by omega)).mpr zz))
theorem c_X5_nextX {E : Ev} {d : Nat} {I : Mi} {L : Ml} {Z : Mz} {Q : Po} {x : Int32} {w : Int32}  (hd : 4 ≤ d) (hG : GZ Z) (hw : ¬ (¬ w < 0 ∧ ¬ 2 < w)) (hB : Q (some (.int (-2))) I L Z) : AC E yX5_next cX5_next 4 (some .int) d 0 0 [.ref 0, .int x, .int w] I L Z Q := by
  refine ac_go (ls := [some (.ref 0), some (.int x), some (.int w), none]) (by decide +kernel) (Nat.le_of_ble_eq_true rfl) rfl ?_
  refine aw_aload_n dX5_next_0 rfl rfl ?_
  refine aw_gr dX5_next_1 fw_X5_28 hG.1 hG.2.2.2.1 ?_
  refine aw_iload_n dX5_next_4 rfl ?_
  refine aw_V1 dX5_next_5 cw_X5_117 ⟨_, _, rfl⟩ hG.2.2.2.2.2.2.2.2.2.1.1 (by omega) ⟨Nat.le_refl _, Nat.le_refl _⟩ (by decide) (c_X0_hasReader hG.2.2.2.2.2.2.2.2.2.1 (fun c5 => ?_) (fun c5 => ?_))
  · refine aw_if_eq (tgt := 20) dX5_next_8 (by decide) (fun zz => absurd zz (by decide)) (fun _ => ?_)
    refine aw_iload_n dX5_next_11 rfl ?_
    refine aw_iconst (v := 0) dX5_next_12 (by decide) ?_
    refine aw_iconst (v := 2) dX5_next_13 (by decide) ?_
    refine aw_S3 dX5_next_14 cw_X5_72 (by omega) ⟨Nat.le_refl _, Nat.le_refl _⟩ (by decide) (c_X5_within (fun zz => absurd zz hw) (fun c14 => ?_))
    refine aw_if_ne (tgt := 23) dX5_next_17 (by decide) (fun zz => absurd zz (by decide)) (fun _ => ?_)
    refine aw_bipush (v := -2) dX5_next_20 (by decide) ?_
    refine aw_ireturn (ty := .int) dX5_next_22 rfl rfl ?_
    exact hB
  · refine aw_if_eq (tgt := 20) dX5_next_8 (by decide) (fun _ => ?_) (fun zz => absurd zz (by decide))
    refine aw_bipush (v := -2) dX5_next_20 (by decide) ?_
    refine aw_ireturn (ty := .int) dX5_next_22 rfl rfl ?_
    exact hB
def akF (f g : Nat → Int32) : Nat → Nat → Int32 → Int32
  | 0, _, a => a
  | n + 1, j, a => akF f g n (j + 1) (if f j = g j then a ||| (1 <<< (nI j &&& 31)) else a)
theorem l_X5_alike {E : Ev} {d : Nat} {I0 : Mi} {L : Ml} {Z : Mz} {Q : Po} {p p2 ru t q mm ma mb n : Nat} (hG : GZ Z) (hR0 : RD I0 Z 10 ru t q mm ma mb n) (hd : 5 ≤ d) (hp : p < 5) (hp2 : p2 < 5) : ∀ (k j : Nat) (I : Mi) (a : Int32), j + k = n → SamH 10 I0 I → (∀ (rv : Int32) (I9 : Mi), SamH 10 I0 I9 → rv = akF (rbV I0 10 q ma mb mm p) (rbV I0 10 q ma mb mm p2) k j a → Q (some (.int rv)) I9 L Z) → AW E yX5_alike cX5_alike 5 (some .int) (rmOf d 0 0) Q 0 0 35 [some (.ref 0), some (.int (nI p)), some (.int (nI p2)), some (.int a), some (.int (nI j))] [] I L Z := by
  have hn6 := hR0.2.2.2.2.1
  intro k
  induction k with
  | zero =>
    intro j I a hj hs hQ
    have hR := hR0.sam hs
    refine aw_iload dX5_alike_35 rfl ?_
    refine aw_aload_n dX5_alike_37 rfl rfl ?_
    refine aw_gr dX5_alike_38 fw_X5_28 hG.1 hG.2.2.2.1 ?_
    refine aw_gi dX5_alike_41 fw_X5_205 hG.2.2.2.2.2.2.2.2.2.1.1 ?_
    refine aw_icmp_ge (tgt := 83) dX5_alike_44 (by decide) (fun c44 => ?_) (fun zz => absurd (by rw [hR.2.2.2.1, show j = n by omega]; exact Int32.le_refl _) zz)
    refine aw_iload_n dX5_alike_83 rfl ?_
    refine aw_ireturn (ty := .int) dX5_alike_84 rfl rfl ?_
    exact hQ _ _ hs rfl
  | succ k ih =>
    intro j I a hj hs hQ
    have hR := hR0.sam hs
    refine aw_iload dX5_alike_35 rfl ?_
    refine aw_aload_n dX5_alike_37 rfl rfl ?_
    refine aw_gr dX5_alike_38 fw_X5_28 hG.1 hG.2.2.2.1 ?_
    refine aw_gi dX5_alike_41 fw_X5_205 hG.2.2.2.2.2.2.2.2.2.1.1 ?_
    refine aw_icmp_ge (tgt := 83) dX5_alike_44 (by decide) (fun zz => absurd zz (by rw [hR.2.2.2.1]; exact nI_ge (by omega) (by omega))) (fun c44 => ?_)
    refine aw_aload_n dX5_alike_47 rfl rfl ?_
    refine aw_gr dX5_alike_48 fw_X5_28 hG.1 hG.2.2.2.1 ?_
    refine aw_iload_n dX5_alike_51 rfl ?_
    refine aw_iload dX5_alike_52 rfl ?_
    refine aw_V2 dX5_alike_54 cw_X5_137 ⟨_, _, rfl⟩ hG.2.2.2.2.2.2.2.2.2.1.1 (by omega) ⟨Nat.le_refl _, Nat.le_refl _⟩ (by decide) (c_X0_readBy (by omega) hR hp (show j < n by omega) (fun r54 I54 h54 e54 => ?_))
    refine aw_aload_n dX5_alike_57 rfl rfl ?_
    refine aw_gr dX5_alike_58 fw_X5_28 hG.1 hG.2.2.2.1 ?_
    refine aw_iload_n dX5_alike_61 rfl ?_
    refine aw_iload dX5_alike_62 rfl ?_
    refine aw_V2 dX5_alike_64 cw_X5_137 ⟨_, _, rfl⟩ hG.2.2.2.2.2.2.2.2.2.1.1 (by omega) ⟨Nat.le_refl _, Nat.le_refl _⟩ (by simp [Value.category, psh]) (c_X0_readBy (by omega) (hR.sam h54) hp2 (show j < n by omega) (fun r64 I64 h64 e64 => ?_))
    refine aw_icmp_ne (tgt := 77) dX5_alike_67 (by decide) (fun c67 => ?_) (fun c67 => ?_)
    · refine aw_iinc (v := nI (j + 1)) (ls' := [_, _, _, _, _]) dX5_alike_77 rfl (nI_1 j) (by decide) rfl rfl ?_
      refine aw_goto (tgt := 35) dX5_alike_80 (by decide) ?_
      rw [rbV_sam hs (by decide) hR0.q3] at e54
      rw [rbV_sam (hs.tr h54) (by decide) hR0.q3] at e64
      refine ih (j + 1) I64 _ (by omega) ((hs.tr h54).tr h64) (fun rv I9 h9 e0 => hQ rv I9 h9 ?_)
      subst e54 e64
      rw [e0]
      simp only [akF, c67, not_true_eq_false, not_false_eq_true, and_true, true_and, and_false, false_and, or_true, true_or, or_false, false_or, ite_true, ite_false, if_true, if_false, reduceIte, and_self, or_self]
    · refine aw_iload_n dX5_alike_70 rfl ?_
      refine aw_iconst (v := 1) dX5_alike_71 (by decide) ?_
      refine aw_iload dX5_alike_72 rfl ?_
      refine aw_ishl dX5_alike_74 ?_
      refine aw_ior dX5_alike_75 ?_
      refine aw_istore_n (ls' := [_, _, _, _, _]) dX5_alike_76 (by decide) rfl rfl ?_
      refine aw_iinc (v := nI (j + 1)) (ls' := [_, _, _, _, _]) dX5_alike_77 rfl (nI_1 j) (by decide) rfl rfl ?_
      refine aw_goto (tgt := 35) dX5_alike_80 (by decide) ?_
      rw [rbV_sam hs (by decide) hR0.q3] at e54
      rw [rbV_sam (hs.tr h54) (by decide) hR0.q3] at e64
      refine ih (j + 1) I64 _ (by omega) ((hs.tr h54).tr h64) (fun rv I9 h9 e0 => hQ rv I9 h9 ?_)
      subst e54 e64
      rw [e0]
      simp only [akF, c67, not_true_eq_false, not_false_eq_true, and_true, true_and, and_false, false_and, or_true, true_or, or_false, false_or, ite_true, ite_false, if_true, if_false, reduceIte, and_self, or_self]
theorem c_X5_alike {E : Ev} {d : Nat} {I : Mi} {L : Ml} {Z : Mz} {Q : Po} {x : Int32} {z : Int32} {ru t q mm ma mb n m r : Nat} (hd : 5 ≤ d) (hG : GZ Z) (hR : RD I Z 10 ru t q mm ma mb n) (hm : I 10 13 = nI m) (hm5 : m ≤ 5) (hB : ¬ ((∃ j, j < m ∧ x = nI j) ∧ (∃ j, j < m ∧ z = nI j) ∧ ¬ x = z) → Q (some (.int (-2))) I L Z) (hS : ∀ p p2, p < m → p2 < m → x = nI p → z = nI p2 → ¬ x = z → ∀ (rv : Int32) (I9 : Mi), SamH 10 I I9 → rv = akF (rbV I 10 q ma mb mm p) (rbV I 10 q ma mb mm p2) n 0 0 → Q (some (.int rv)) I9 L Z) : AC E yX5_alike cX5_alike 5 (some .int) d 0 0 [.ref 0, .int x, .int z] I L Z Q := by
  refine ac_go (ls := [some (.ref 0), some (.int x), some (.int z), none, none]) (by decide +kernel) (Nat.le_of_ble_eq_true rfl) rfl ?_
  refine aw_aload_n dX5_alike_0 rfl rfl ?_
  refine aw_gr dX5_alike_1 fw_X5_28 hG.1 hG.2.2.2.1 ?_
  refine aw_iload_n dX5_alike_4 rfl ?_
  refine aw_V1 dX5_alike_5 cw_X5_117 ⟨_, _, rfl⟩ hG.2.2.2.2.2.2.2.2.2.1.1 (by omega) ⟨Nat.le_refl _, Nat.le_refl _⟩ (by decide) (c_X0_hasReader hG.2.2.2.2.2.2.2.2.2.1 (fun c5 => ?_) (fun c5 => ?_))
  · refine aw_if_eq (tgt := 27) dX5_alike_8 (by decide) (fun zz => absurd zz (by decide)) (fun _ => ?_)
    refine aw_aload_n dX5_alike_11 rfl rfl ?_
    refine aw_gr dX5_alike_12 fw_X5_28 hG.1 hG.2.2.2.1 ?_
    refine aw_iload_n dX5_alike_15 rfl ?_
    refine aw_V1 dX5_alike_16 cw_X5_117 ⟨_, _, rfl⟩ hG.2.2.2.2.2.2.2.2.2.1.1 (by omega) ⟨Nat.le_refl _, Nat.le_refl _⟩ (by decide) (c_X0_hasReader hG.2.2.2.2.2.2.2.2.2.1 (fun c16 => ?_) (fun c16 => ?_))
    · refine aw_if_eq (tgt := 27) dX5_alike_19 (by decide) (fun zz => absurd zz (by decide)) (fun _ => ?_)
      refine aw_iload_n dX5_alike_22 rfl ?_
      refine aw_iload_n dX5_alike_23 rfl ?_
      refine aw_icmp_ne (tgt := 30) dX5_alike_24 (by decide) (fun c24 => ?_) (fun c24 => ?_)
      · refine aw_iconst (v := 0) dX5_alike_30 (by decide) ?_
        refine aw_istore_n (ls' := [_, _, _, _, _]) dX5_alike_31 (by decide) rfl rfl ?_
        refine aw_iconst (v := 0) dX5_alike_32 (by decide) ?_
        refine aw_istore (ls' := [_, _, _, _, _]) dX5_alike_33 (by decide) rfl rfl ?_
        obtain ⟨p, hp, rfl⟩ := (ix_iff hm (by omega)).mp c5
        obtain ⟨p2, hp2, rfl⟩ := (ix_iff hm (by omega)).mp c16
        exact l_X5_alike hG hR hd (by omega) (by omega) n 0 I _ (by omega) SamH.rf (hS p p2 hp hp2 rfl rfl c24)
      · refine aw_bipush (v := -2) dX5_alike_27 (by decide) ?_
        refine aw_ireturn (ty := .int) dX5_alike_29 rfl rfl ?_
        exact hB (fun zz => zz.2.2 c24)
    · refine aw_if_eq (tgt := 27) dX5_alike_19 (by decide) (fun _ => ?_) (fun zz => absurd zz (by decide))
      refine aw_bipush (v := -2) dX5_alike_27 (by decide) ?_
      refine aw_ireturn (ty := .int) dX5_alike_29 rfl rfl ?_
      exact hB (fun zz => c16 ((ix_iff hm (by omega)).mpr zz.2.1))
  · refine aw_if_eq (tgt := 27) dX5_alike_8 (by decide) (fun _ => ?_) (fun zz => absurd zz (by decide))
    refine aw_bipush (v := -2) dX5_alike_27 (by decide) ?_
    refine aw_ireturn (ty := .int) dX5_alike_29 rfl rfl ?_
    exact hB (fun zz => c5 ((ix_iff hm (by omega)).mpr zz.1))
def cdN (o u : Nat) : Nat → Nat
  | 0 => 1
  | k + 1 => if k = 0 then 1 else if o % (k + 1) = 0 ∧ u % (k + 1) = 0 then k + 1 else cdN o u k
theorem cdN_pos (o u : Nat) : ∀ k, 1 ≤ cdN o u k ∧ cdN o u k ≤ k + 1 := by
  intro k
  induction k with
  | zero => exact ⟨Nat.le_refl _, by simp [cdN]⟩
  | succ k ih =>
    simp only [cdN]
    split
    · omega
    · split
      · omega
      · omega
theorem l_X5_commonDivisor {E : Ev} {d : Nat} {I : Mi} {L : Ml} {Z : Mz} {Q : Po} {o u : Nat} (ho : o < 1000) (hu : u < 1000) : ∀ k : Nat, k < 1000 → (∀ rv : Int32, rv = nI (cdN o u k) → Q (some (.int rv)) I L Z) → AW E yX5_commonDivisor cX5_commonDivisor 3 (some .int) (rmOf d 0 0) Q 0 0 2 [some (.int (nI o)), some (.int (nI u)), some (.int (nI k))] [] I L Z := by
  intro k
  induction k with
  | zero =>
    intro hk hQ
    refine aw_iload_n dX5_commonDivisor_2 rfl ?_
    refine aw_iconst (v := 1) dX5_commonDivisor_3 (by decide) ?_
    refine aw_icmp_le (tgt := 27) dX5_commonDivisor_4 (by decide) (fun c4 => ?_) (fun zz => absurd (by decide) zz)
    refine aw_iconst (v := 1) dX5_commonDivisor_27 (by decide) ?_
    refine aw_ireturn (ty := .int) dX5_commonDivisor_28 rfl rfl ?_
    exact hQ _ rfl
  | succ k ih =>
    intro hk hQ
    by_cases k0 : k = 0
    · subst k0
      refine aw_iload_n dX5_commonDivisor_2 rfl ?_
      refine aw_iconst (v := 1) dX5_commonDivisor_3 (by decide) ?_
      refine aw_icmp_le (tgt := 27) dX5_commonDivisor_4 (by decide) (fun c4 => ?_) (fun zz => absurd (by decide) zz)
      refine aw_iconst (v := 1) dX5_commonDivisor_27 (by decide) ?_
      refine aw_ireturn (ty := .int) dX5_commonDivisor_28 rfl rfl ?_
      exact hQ _ rfl
    · have hne : ¬ nI (k + 1) = 0 := nI_ne0 (by omega) (by omega)
      have e1 : nI o - nI o / nI (k + 1) * nI (k + 1) = 0 ↔ o % (k + 1) = 0 := by
        rw [pk_rem (by omega) (by omega) (by omega)]
        exact nI_eq (b := 0) (by have := Nat.mod_lt o (show 0 < k + 1 by omega); omega) (by decide)
      have e2 : nI u - nI u / nI (k + 1) * nI (k + 1) = 0 ↔ u % (k + 1) = 0 := by
        rw [pk_rem (by omega) (by omega) (by omega)]
        exact nI_eq (b := 0) (by have := Nat.mod_lt u (show 0 < k + 1 by omega); omega) (by decide)
      refine aw_iload_n dX5_commonDivisor_2 rfl ?_
      refine aw_iconst (v := 1) dX5_commonDivisor_3 (by decide) ?_
      refine aw_icmp_le (tgt := 27) dX5_commonDivisor_4 (by decide) (fun zz => absurd zz (nI_ge (b := k + 1) (a := 1) (by omega) (by omega))) (fun c4 => ?_)
      refine aw_iload_n dX5_commonDivisor_7 rfl ?_
      refine aw_iload_n dX5_commonDivisor_8 rfl ?_
      refine aw_irem dX5_commonDivisor_9 hne ?_
      refine aw_if_ne (tgt := 21) dX5_commonDivisor_10 (by decide) (fun c10 => ?_) (fun c10 => ?_)
      · refine aw_iinc (v := nI k) (ls' := [_, _, _]) dX5_commonDivisor_21 rfl (pk_m1 k) (by decide) rfl rfl ?_
        refine aw_goto (tgt := 2) dX5_commonDivisor_24 (by decide) ?_
        refine ih (by omega) (fun rv e0 => hQ rv ?_)
        rw [e0]
        simp only [cdN, k0, if_false]
        rw [if_neg (fun zz => c10 (e1.mpr zz.1))]
      · refine aw_iload_n dX5_commonDivisor_13 rfl ?_
        refine aw_iload_n dX5_commonDivisor_14 rfl ?_
        refine aw_irem dX5_commonDivisor_15 hne ?_
        refine aw_if_ne (tgt := 21) dX5_commonDivisor_16 (by decide) (fun c16 => ?_) (fun c16 => ?_)
        · refine aw_iinc (v := nI k) (ls' := [_, _, _]) dX5_commonDivisor_21 rfl (pk_m1 k) (by decide) rfl rfl ?_
          refine aw_goto (tgt := 2) dX5_commonDivisor_24 (by decide) ?_
          refine ih (by omega) (fun rv e0 => hQ rv ?_)
          rw [e0]
          simp only [cdN, k0, if_false]
          rw [if_neg (fun zz => c16 (e2.mpr zz.2))]
        · refine aw_iload_n dX5_commonDivisor_19 rfl ?_
          refine aw_ireturn (ty := .int) dX5_commonDivisor_20 rfl rfl ?_
          refine hQ _ ?_
          simp only [cdN, k0, e1.mp c10, e2.mp c16, not_true_eq_false, not_false_eq_true, and_true, true_and, and_false, false_and, or_true, true_or, or_false, false_or, ite_true, ite_false, if_true, if_false, reduceIte, and_self, or_self]
theorem c_X5_commonDivisor {E : Ev} {d : Nat} {I : Mi} {L : Ml} {Z : Mz} {Q : Po}  {o u : Nat} (ho : o < 1000) (hu : u < 1000) (hQ : ∀ rv : Int32, rv = (nI (cdN o u u)) → Q (some (.int rv)) I L Z) : AC E yX5_commonDivisor cX5_commonDivisor 3 (some .int) d 0 0 [.int (nI o), .int (nI u)] I L Z Q := by
  refine ac_go (ls := [some (.int (nI o)), some (.int (nI u)), none]) (by decide +kernel) (Nat.le_of_ble_eq_true rfl) rfl ?_
  refine aw_iload_n dX5_commonDivisor_0 rfl ?_
  refine aw_istore_n (ls' := [_, _, _]) dX5_commonDivisor_1 (by decide) rfl rfl ?_
  exact l_X5_commonDivisor ho hu u hu hQ
theorem c_X5_partOf0 {E : Ev} {d : Nat} {I : Mi} {L : Ml} {Z : Mz} {Q : Po}  {o u : Nat} (hd : 1 ≤ d) (ho : o < 1000) (hu : u < 1000) (hQ : ∀ rv : Int64, rv = (lN (o / cdN o u u)) → Q (some (.long rv)) I L Z) : AC E yX5_partOf cX5_partOf 5 (some .long) d 0 0 [.int (nI o), .int (nI u), .int 0] I L Z Q := by
  refine ac_go (ls := [some (.int (nI o)), some (.int (nI u)), some (.int 0), none, none]) (by decide +kernel) (Nat.le_of_ble_eq_true rfl) rfl ?_
  refine aw_iload_n dX5_partOf_0 rfl ?_
  refine aw_iload_n dX5_partOf_1 rfl ?_
  refine aw_S2 dX5_partOf_2 cw_X5_302 (by omega) ⟨Nat.le_refl _, Nat.le_refl _⟩ (by decide) (c_X5_commonDivisor ho hu (fun r2 e2 => ?_))
  refine aw_istore_n (ls' := [_, _, _, _, _]) dX5_partOf_5 (by decide) rfl rfl ?_
  refine aw_iload_n dX5_partOf_6 rfl ?_
  refine aw_if_ne (tgt := 14) dX5_partOf_7 (by decide) (fun zz => absurd zz (by decide)) (fun _ => ?_)
  refine aw_iload_n dX5_partOf_10 rfl ?_
  refine aw_goto (tgt := 15) dX5_partOf_11 (by decide) ?_
  refine aw_istore (ls' := [_, _, _, _, _]) dX5_partOf_15 (by decide) rfl rfl ?_
  refine aw_iload_n dX5_partOf_17 rfl ?_
  refine aw_iconst (v := 1) dX5_partOf_18 (by decide) ?_
  have hc := cdN_pos o u u
  refine aw_icmp_ge (tgt := 28) dX5_partOf_19 (by decide) (fun c19 => ?_) (fun zz => absurd (by rw [e2]; exact nI_le (a := 1) hc.1 (by omega)) zz)
  refine aw_iload dX5_partOf_28 rfl ?_
  refine aw_iload_n dX5_partOf_30 rfl ?_
  refine aw_idiv dX5_partOf_31 (by rw [e2]; exact nI_ne0 (by omega) (by omega)) ?_
  refine aw_i2l dX5_partOf_32 ?_
  refine aw_lreturn dX5_partOf_33 rfl ?_
  exact hQ _ (by rw [e2, pk_div (by omega) (by omega) (by omega), nI_l (by have := Nat.div_le_self o (cdN o u u); omega)])
theorem c_X5_share0 {E : Ev} {d : Nat} {I : Mi} {L : Ml} {Z : Mz} {Q : Po}  {r o : Nat} (hd : 5 ≤ d) (hG : GZ Z) (hrn : I 10 9 = nI r) (hr : r ≤ 12) (ho : bcV (foH I 10 r (-1) (I 10 1)) = nI o) (ho1 : o < 1000) (hQ : ∀ rv : Int64, rv = (lN (o / cdN o 12 12)) → Q (some (.long rv)) I L Z) : AC E yX5_share cX5_share 2 (some .long) d 0 0 [.ref 0, .int 0] I L Z Q := by
  refine ac_go (ls := [some (.ref 0), some (.int 0)]) (by decide +kernel) (Nat.le_of_ble_eq_true rfl) rfl ?_
  refine aw_iload_n dX5_share_0 rfl ?_
  refine aw_iconst (v := 0) dX5_share_1 (by decide) ?_
  refine aw_iconst (v := 1) dX5_share_2 (by decide) ?_
  refine aw_S3 dX5_share_3 cw_X5_72 (by omega) ⟨Nat.le_refl _, Nat.le_refl _⟩ (by decide) (c_X5_within (fun _ => ?_) (fun zz => absurd (by decide) zz))
  refine aw_if_ne (tgt := 13) dX5_share_6 (by decide) (fun _ => ?_) (fun zz => absurd zz (by decide))
  refine aw_aload_n dX5_share_13 rfl rfl ?_
  refine aw_gr dX5_share_14 fw_X5_28 hG.1 hG.2.2.2.1 ?_
  refine aw_V0 dX5_share_17 cw_X5_199 ⟨_, _, rfl⟩ hG.2.2.2.2.2.2.2.2.2.1.1 (by omega) ⟨Nat.le_refl _, Nat.le_refl _⟩ (by decide) (c_X0_followers (by omega) hG.2.2.2.2.2.2.2.2.2.1 hrn hr (fun r17 e17 => ?_))
  rw [e17, ho]
  refine aw_bipush (v := 12) dX5_share_20 (by decide) ?_
  refine aw_iload_n dX5_share_22 rfl ?_
  refine aw_S3 dX5_share_23 cw_X5_210 (by omega) ⟨Nat.le_refl _, Nat.le_refl _⟩ (by decide) (c_X5_partOf0 (u := 12) (by omega) ho1 (by decide) (fun r23 e23 => ?_))
  refine aw_lreturn dX5_share_26 rfl ?_
  exact hQ _ e23
theorem c_X5_partOf1 {E : Ev} {d : Nat} {I : Mi} {L : Ml} {Z : Mz} {Q : Po}  {o u : Nat} (hd : 1 ≤ d) (ho : o < 1000) (hu : u < 1000) (hQ : ∀ rv : Int64, rv = (lN (u / cdN o u u)) → Q (some (.long rv)) I L Z) : AC E yX5_partOf cX5_partOf 5 (some .long) d 0 0 [.int (nI o), .int (nI u), .int 1] I L Z Q := by
  refine ac_go (ls := [some (.int (nI o)), some (.int (nI u)), some (.int 1), none, none]) (by decide +kernel) (Nat.le_of_ble_eq_true rfl) rfl ?_
  refine aw_iload_n dX5_partOf_0 rfl ?_
  refine aw_iload_n dX5_partOf_1 rfl ?_
  refine aw_S2 dX5_partOf_2 cw_X5_302 (by omega) ⟨Nat.le_refl _, Nat.le_refl _⟩ (by decide) (c_X5_commonDivisor ho hu (fun r2 e2 => ?_))
  refine aw_istore_n (ls' := [_, _, _, _, _]) dX5_partOf_5 (by decide) rfl rfl ?_
  refine aw_iload_n dX5_partOf_6 rfl ?_
  refine aw_if_ne (tgt := 14) dX5_partOf_7 (by decide) (fun _ => ?_) (fun zz => absurd zz (by decide))
  refine aw_iload_n dX5_partOf_14 rfl ?_
  refine aw_istore (ls' := [_, _, _, _, _]) dX5_partOf_15 (by decide) rfl rfl ?_
  refine aw_iload_n dX5_partOf_17 rfl ?_
  refine aw_iconst (v := 1) dX5_partOf_18 (by decide) ?_
  have hc := cdN_pos o u u
  refine aw_icmp_ge (tgt := 28) dX5_partOf_19 (by decide) (fun c19 => ?_) (fun zz => absurd (by rw [e2]; exact nI_le (a := 1) hc.1 (by omega)) zz)
  refine aw_iload dX5_partOf_28 rfl ?_
  refine aw_iload_n dX5_partOf_30 rfl ?_
  refine aw_idiv dX5_partOf_31 (by rw [e2]; exact nI_ne0 (by omega) (by omega)) ?_
  refine aw_i2l dX5_partOf_32 ?_
  refine aw_lreturn dX5_partOf_33 rfl ?_
  exact hQ _ (by rw [e2, pk_div (by omega) (by omega) (by omega), nI_l (by have := Nat.div_le_self u (cdN o u u); omega)])
theorem c_X5_share1 {E : Ev} {d : Nat} {I : Mi} {L : Ml} {Z : Mz} {Q : Po}  {r o : Nat} (hd : 5 ≤ d) (hG : GZ Z) (hrn : I 10 9 = nI r) (hr : r ≤ 12) (ho : bcV (foH I 10 r (-1) (I 10 1)) = nI o) (ho1 : o < 1000) (hQ : ∀ rv : Int64, rv = (lN (12 / cdN o 12 12)) → Q (some (.long rv)) I L Z) : AC E yX5_share cX5_share 2 (some .long) d 0 0 [.ref 0, .int 1] I L Z Q := by
  refine ac_go (ls := [some (.ref 0), some (.int 1)]) (by decide +kernel) (Nat.le_of_ble_eq_true rfl) rfl ?_
  refine aw_iload_n dX5_share_0 rfl ?_
  refine aw_iconst (v := 0) dX5_share_1 (by decide) ?_
  refine aw_iconst (v := 1) dX5_share_2 (by decide) ?_
  refine aw_S3 dX5_share_3 cw_X5_72 (by omega) ⟨Nat.le_refl _, Nat.le_refl _⟩ (by decide) (c_X5_within (fun _ => ?_) (fun zz => absurd (by decide) zz))
  refine aw_if_ne (tgt := 13) dX5_share_6 (by decide) (fun _ => ?_) (fun zz => absurd zz (by decide))
  refine aw_aload_n dX5_share_13 rfl rfl ?_
  refine aw_gr dX5_share_14 fw_X5_28 hG.1 hG.2.2.2.1 ?_
  refine aw_V0 dX5_share_17 cw_X5_199 ⟨_, _, rfl⟩ hG.2.2.2.2.2.2.2.2.2.1.1 (by omega) ⟨Nat.le_refl _, Nat.le_refl _⟩ (by decide) (c_X0_followers (by omega) hG.2.2.2.2.2.2.2.2.2.1 hrn hr (fun r17 e17 => ?_))
  rw [e17, ho]
  refine aw_bipush (v := 12) dX5_share_20 (by decide) ?_
  refine aw_iload_n dX5_share_22 rfl ?_
  refine aw_S3 dX5_share_23 cw_X5_210 (by omega) ⟨Nat.le_refl _, Nat.le_refl _⟩ (by decide) (c_X5_partOf1 (u := 12) (by omega) ho1 (by decide) (fun r23 e23 => ?_))
  refine aw_lreturn dX5_share_26 rfl ?_
  exact hQ _ e23
theorem c_X5_shareX {E : Ev} {d : Nat} {I : Mi} {L : Ml} {Z : Mz} {Q : Po} {w : Int32}  (hd : 4 ≤ d) (hG : GZ Z) (hw : ¬ (¬ w < 0 ∧ ¬ 1 < w)) (hB : Q (some (.long (-4611686018427387904))) I L Z) : AC E yX5_share cX5_share 2 (some .long) d 0 0 [.ref 0, .int w] I L Z Q := by
  refine ac_go (ls := [some (.ref 0), some (.int w)]) (by decide +kernel) (Nat.le_of_ble_eq_true rfl) rfl ?_
  refine aw_iload_n dX5_share_0 rfl ?_
  refine aw_iconst (v := 0) dX5_share_1 (by decide) ?_
  refine aw_iconst (v := 1) dX5_share_2 (by decide) ?_
  refine aw_S3 dX5_share_3 cw_X5_72 (by omega) ⟨Nat.le_refl _, Nat.le_refl _⟩ (by decide) (c_X5_within (fun zz => absurd zz hw) (fun c3 => ?_))
  refine aw_if_ne (tgt := 13) dX5_share_6 (by decide) (fun zz => absurd zz (by decide)) (fun _ => ?_)
  refine aw_ldc2 dX5_share_9 kw_X5_208 ?_
  refine aw_lreturn dX5_share_12 rfl ?_
  exact hB
