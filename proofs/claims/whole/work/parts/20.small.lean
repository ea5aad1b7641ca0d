/-! ===== the JDK's small ones ===== -/
def usr (x k : Int32) : Int32 := (x.toUInt32 >>> (k.toUInt32 &&& Int32.toUInt32 31)).toInt32
def bc1 (x : Int32) : Int32 := x - (usr x 1 &&& 1431655765)
def bc2 (x : Int32) : Int32 := (x &&& 858993459) + (usr x 2 &&& 858993459)
def bc3 (x : Int32) : Int32 := (x + usr x 4) &&& 252645135
def bc4 (x : Int32) : Int32 := x + usr x 8
def bc5 (x : Int32) : Int32 := x + usr x 16
/-- Integer.bitCount -/
def bcV (x : Int32) : Int32 := bc5 (bc4 (bc3 (bc2 (bc1 x)))) &&& 63
def remV (x y : Int32) : Int32 := x - x / y * y
/-- Math.floorMod -/
def fmV (x y : Int32) : Int32 := if ¬ 0 ≤ x ^^^ y ∧ ¬ remV x y = 0 then remV x y + y else remV x y
theorem c_bc {E : Ev} {d : Nat} {I : Mi} {L : Ml} {Z : Mz} {Q : Po} {x : Int32}   (hQ : ∀ rv : Int32, rv = (bcV x) → Q (some (.int rv)) I L Z) : AC E yJ6_bitCount_0f7a4 cJ6_bitCount_0f7a4 1 (some .int) d 0 0 [.int x] I L Z Q := by
  refine ac_go (ls := [some (.int x)]) (by decide +kernel) (Nat.le_of_ble_eq_true rfl) rfl ?_
  refine aw_iload_n dJ6_bitCount_0f7a4_0 rfl ?_
  refine aw_iload_n dJ6_bitCount_0f7a4_1 rfl ?_
  refine aw_iconst (v := 1) dJ6_bitCount_0f7a4_2 (by decide) ?_
  refine aw_iushr dJ6_bitCount_0f7a4_3 ?_
  refine aw_ldcw dJ6_bitCount_0f7a4_4 kw_J6_265 ?_
  refine aw_iand dJ6_bitCount_0f7a4_7 ?_
  refine aw_isub dJ6_bitCount_0f7a4_8 ?_
  refine aw_istore_n (ls' := [_]) dJ6_bitCount_0f7a4_9 (by decide) rfl rfl ?_
  refine aw_iload_n dJ6_bitCount_0f7a4_10 rfl ?_
  refine aw_ldcw dJ6_bitCount_0f7a4_11 kw_J6_266 ?_
  refine aw_iand dJ6_bitCount_0f7a4_14 ?_
  refine aw_iload_n dJ6_bitCount_0f7a4_15 rfl ?_
  refine aw_iconst (v := 2) dJ6_bitCount_0f7a4_16 (by decide) ?_
  refine aw_iushr dJ6_bitCount_0f7a4_17 ?_
  refine aw_ldcw dJ6_bitCount_0f7a4_18 kw_J6_266 ?_
  refine aw_iand dJ6_bitCount_0f7a4_21 ?_
  refine aw_iadd dJ6_bitCount_0f7a4_22 ?_
  refine aw_istore_n (ls' := [_]) dJ6_bitCount_0f7a4_23 (by decide) rfl rfl ?_
  refine aw_iload_n dJ6_bitCount_0f7a4_24 rfl ?_
  refine aw_iload_n dJ6_bitCount_0f7a4_25 rfl ?_
  refine aw_iconst (v := 4) dJ6_bitCount_0f7a4_26 (by decide) ?_
  refine aw_iushr dJ6_bitCount_0f7a4_27 ?_
  refine aw_iadd dJ6_bitCount_0f7a4_28 ?_
  refine aw_ldcw dJ6_bitCount_0f7a4_29 kw_J6_267 ?_
  refine aw_iand dJ6_bitCount_0f7a4_32 ?_
  refine aw_istore_n (ls' := [_]) dJ6_bitCount_0f7a4_33 (by decide) rfl rfl ?_
  refine aw_iload_n dJ6_bitCount_0f7a4_34 rfl ?_
  refine aw_iload_n dJ6_bitCount_0f7a4_35 rfl ?_
  refine aw_bipush (v := 8) dJ6_bitCount_0f7a4_36 (by decide) ?_
  refine aw_iushr dJ6_bitCount_0f7a4_38 ?_
  refine aw_iadd dJ6_bitCount_0f7a4_39 ?_
  refine aw_istore_n (ls' := [_]) dJ6_bitCount_0f7a4_40 (by decide) rfl rfl ?_
  refine aw_iload_n dJ6_bitCount_0f7a4_41 rfl ?_
  refine aw_iload_n dJ6_bitCount_0f7a4_42 rfl ?_
  refine aw_bipush (v := 16) dJ6_bitCount_0f7a4_43 (by decide) ?_
  refine aw_iushr dJ6_bitCount_0f7a4_45 ?_
  refine aw_iadd dJ6_bitCount_0f7a4_46 ?_
  refine aw_istore_n (ls' := [_]) dJ6_bitCount_0f7a4_47 (by decide) rfl rfl ?_
  refine aw_iload_n dJ6_bitCount_0f7a4_48 rfl ?_
  refine aw_bipush (v := 63) dJ6_bitCount_0f7a4_49 (by decide) ?_
  refine aw_iand dJ6_bitCount_0f7a4_51 ?_
  refine aw_ireturn (ty := .int) dJ6_bitCount_0f7a4_52 rfl rfl ?_
  exact hQ _ rfl
theorem c_fm {E : Ev} {d : Nat} {I : Mi} {L : Ml} {Z : Mz} {Q : Po} {x : Int32} {z : Int32}  (hz : ¬ z = 0) (hQ : ∀ rv : Int32, rv = (fmV x z) → Q (some (.int rv)) I L Z) : AC E yJ9_floorMod_7cf53 cJ9_floorMod_7cf53 3 (some .int) d 0 0 [.int x, .int z] I L Z Q := by
  refine ac_goF (ls := [some (.int x), some (.int z), none]) (by decide +kernel) (Nat.le_of_ble_eq_true rfl) rfl ?_
  refine aw_iload_n dJ9_floorMod_7cf53_0 rfl ?_
  refine aw_iload_n dJ9_floorMod_7cf53_1 rfl ?_
  refine aw_irem dJ9_floorMod_7cf53_2 hz ?_
  refine aw_istore_n (ls' := [_, _, _]) dJ9_floorMod_7cf53_3 (by decide) rfl rfl ?_
  refine aw_iload_n dJ9_floorMod_7cf53_4 rfl ?_
  refine aw_iload_n dJ9_floorMod_7cf53_5 rfl ?_
  refine aw_ixor dJ9_floorMod_7cf53_6 ?_
  refine aw_if_ge (tgt := 18) dJ9_floorMod_7cf53_7 (by decide) (fun c7 => ?_) (fun c7 => ?_)
  · refine aw_iload_n dJ9_floorMod_7cf53_18 rfl ?_
    refine aw_ireturn (ty := .int) dJ9_floorMod_7cf53_19 rfl rfl ?_
    exact hQ _ (by unfold fmV; simp only [remV, c7, not_true_eq_false, not_false_eq_true, and_true, true_and, and_false, false_and, or_true, true_or, or_false, false_or, ite_true, ite_false, if_true, if_false, reduceIte, and_self, or_self])
  · refine aw_iload_n dJ9_floorMod_7cf53_10 rfl ?_
    refine aw_if_eq (tgt := 18) dJ9_floorMod_7cf53_11 (by decide) (fun c11 => ?_) (fun c11 => ?_)
    · refine aw_iload_n dJ9_floorMod_7cf53_18 rfl ?_
      refine aw_ireturn (ty := .int) dJ9_floorMod_7cf53_19 rfl rfl ?_
      exact hQ _ (by unfold fmV; simp only [remV, c7, c11, not_true_eq_false, not_false_eq_true, and_true, true_and, and_false, false_and, or_true, true_or, or_false, false_or, ite_true, ite_false, if_true, if_false, reduceIte, and_self, or_self])
    · refine aw_iload_n dJ9_floorMod_7cf53_14 rfl ?_
      refine aw_iload_n dJ9_floorMod_7cf53_15 rfl ?_
      refine aw_iadd dJ9_floorMod_7cf53_16 ?_
      refine aw_ireturn (ty := .int) dJ9_floorMod_7cf53_17 rfl rfl ?_
      exact hQ _ (by unfold fmV; simp only [remV, c7, c11, not_true_eq_false, not_false_eq_true, and_true, true_and, and_false, false_and, or_true, true_or, or_false, false_or, ite_true, ite_false, if_true, if_false, reduceIte, and_self, or_self])
/-! ===== small ones of the class ===== -/
theorem c_X5_within {E : Ev} {d : Nat} {I : Mi} {L : Ml} {Z : Mz} {Q : Po} {v : Int32} {l : Int32} {m : Int32}   (hT : (¬ v < l ∧ ¬ m < v) → Q (some (.int 1)) I L Z) (hF : ¬ (¬ v < l ∧ ¬ m < v) → Q (some (.int 0)) I L Z) : AC E yX5_within cX5_within 3 (some .boolean) d 0 0 [.int v, .int l, .int m] I L Z Q := by
  refine ac_go (ls := [some (.int v), some (.int l), some (.int m)]) (by decide +kernel) (Nat.le_of_ble_eq_true rfl) rfl ?_
  refine aw_iload_n dX5_within_0 rfl ?_
  refine aw_iload_n dX5_within_1 rfl ?_
  refine aw_icmp_lt (tgt := 14) dX5_within_2 (by decide) (fun c2 => ?_) (fun c2 => ?_)
  · refine aw_iconst (v := 0) dX5_within_14 (by decide) ?_
    refine aw_ireturn (ty := .boolean) dX5_within_15 rfl (by decide) ?_
    exact hF (by simp only [c2, not_true_eq_false, not_false_eq_true, and_true, true_and, and_false, false_and, or_true, true_or, or_false, false_or, ite_true, ite_false, if_true, if_false, reduceIte, and_self, or_self])
  · refine aw_iload_n dX5_within_5 rfl ?_
    refine aw_iload_n dX5_within_6 rfl ?_
    refine aw_icmp_gt (tgt := 14) dX5_within_7 (by decide) (fun c7 => ?_) (fun c7 => ?_)
    · refine aw_iconst (v := 0) dX5_within_14 (by decide) ?_
      refine aw_ireturn (ty := .boolean) dX5_within_15 rfl (by decide) ?_
      exact hF (by simp only [c2, c7, not_true_eq_false, not_false_eq_true, and_true, true_and, and_false, false_and, or_true, true_or, or_false, false_or, ite_true, ite_false, if_true, if_false, reduceIte, and_self, or_self])
    · refine aw_iconst (v := 1) dX5_within_10 (by decide) ?_
      refine aw_goto (tgt := 15) dX5_within_11 (by decide) ?_
      refine aw_ireturn (ty := .boolean) dX5_within_15 rfl (by decide) ?_
      exact hT (by simp only [c2, c7, not_true_eq_false, not_false_eq_true, and_true, true_and, and_false, false_and, or_true, true_or, or_false, false_or, ite_true, ite_false, if_true, if_false, reduceIte, and_self, or_self])
theorem c_X5_isSet {E : Ev} {d : Nat} {I : Mi} {L : Ml} {Z : Mz} {Q : Po} {x : Int32}  (hd : 1 ≤ d)  (hT : (¬ x < 0 ∧ ¬ 4095 < x) → Q (some (.int 1)) I L Z) (hF : ¬ (¬ x < 0 ∧ ¬ 4095 < x) → Q (some (.int 0)) I L Z) : AC E yX5_isSet cX5_isSet 1 (some .boolean) d 0 0 [.int x] I L Z Q := by
  refine ac_go (ls := [some (.int x)]) (by decide +kernel) (Nat.le_of_ble_eq_true rfl) rfl ?_
  refine aw_iload_n dX5_isSet_0 rfl ?_
  refine aw_iconst (v := 0) dX5_isSet_1 (by decide) ?_
  refine aw_sipush (v := 4095) dX5_isSet_2 (by decide) ?_
  refine aw_S3 dX5_isSet_5 cw_X5_72 (by omega) ⟨Nat.le_refl _, Nat.le_refl _⟩ (by decide) (c_X5_within (fun c5 => ?_) (fun c5 => ?_))
  · refine aw_ireturn (ty := .boolean) dX5_isSet_8 rfl (by decide) ?_
    exact hT c5
  · refine aw_ireturn (ty := .boolean) dX5_isSet_8 rfl (by decide) ?_
    exact hF c5
theorem c_X5_isSaying {E : Ev} {d : Nat} {I : Mi} {L : Ml} {Z : Mz} {Q : Po} {x : Int32}  (hd : 1 ≤ d)  (hT : (¬ x < 0 ∧ ¬ 11 < x) → Q (some (.int 1)) I L Z) (hF : ¬ (¬ x < 0 ∧ ¬ 11 < x) → Q (some (.int 0)) I L Z) : AC E yX5_isSaying cX5_isSaying 1 (some .boolean) d 0 0 [.int x] I L Z Q := by
  refine ac_go (ls := [some (.int x)]) (by decide +kernel) (Nat.le_of_ble_eq_true rfl) rfl ?_
  refine aw_iload_n dX5_isSaying_0 rfl ?_
  refine aw_iconst (v := 0) dX5_isSaying_1 (by decide) ?_
  refine aw_bipush (v := 11) dX5_isSaying_2 (by decide) ?_
  refine aw_S3 dX5_isSaying_4 cw_X5_72 (by omega) ⟨Nat.le_refl _, Nat.le_refl _⟩ (by decide) (c_X5_within (fun c4 => ?_) (fun c4 => ?_))
  · refine aw_ireturn (ty := .boolean) dX5_isSaying_7 rfl (by decide) ?_
    exact hT c4
  · refine aw_ireturn (ty := .boolean) dX5_isSaying_7 rfl (by decide) ?_
    exact hF c4
theorem c_X5_isKind {E : Ev} {d : Nat} {I : Mi} {L : Ml} {Z : Mz} {Q : Po} {x : Int32}  (hd : 1 ≤ d)  (hT : (¬ x < 0 ∧ ¬ 5 < x) → Q (some (.int 1)) I L Z) (hF : ¬ (¬ x < 0 ∧ ¬ 5 < x) → Q (some (.int 0)) I L Z) : AC E yX5_isKind cX5_isKind 1 (some .boolean) d 0 0 [.int x] I L Z Q := by
  refine ac_go (ls := [some (.int x)]) (by decide +kernel) (Nat.le_of_ble_eq_true rfl) rfl ?_
  refine aw_iload_n dX5_isKind_0 rfl ?_
  refine aw_iconst (v := 0) dX5_isKind_1 (by decide) ?_
  refine aw_iconst (v := 5) dX5_isKind_2 (by decide) ?_
  refine aw_S3 dX5_isKind_3 cw_X5_72 (by omega) ⟨Nat.le_refl _, Nat.le_refl _⟩ (by decide) (c_X5_within (fun c3 => ?_) (fun c3 => ?_))
  · refine aw_ireturn (ty := .boolean) dX5_isKind_6 rfl (by decide) ?_
    exact hT c3
  · refine aw_ireturn (ty := .boolean) dX5_isKind_6 rfl (by decide) ?_
    exact hF c3
theorem c_X5_isSheet {E : Ev} {d : Nat} {I : Mi} {L : Ml} {Z : Mz} {Q : Po} {x : Int32}  (hd : 1 ≤ d)  (hT : (¬ x < 0 ∧ ¬ 3 < x) → Q (some (.int 1)) I L Z) (hF : ¬ (¬ x < 0 ∧ ¬ 3 < x) → Q (some (.int 0)) I L Z) : AC E yX5_isSheet cX5_isSheet 1 (some .boolean) d 0 0 [.int x] I L Z Q := by
  refine ac_go (ls := [some (.int x)]) (by decide +kernel) (Nat.le_of_ble_eq_true rfl) rfl ?_
  refine aw_iload_n dX5_isSheet_0 rfl ?_
  refine aw_iconst (v := 0) dX5_isSheet_1 (by decide) ?_
  refine aw_iconst (v := 3) dX5_isSheet_2 (by decide) ?_
  refine aw_S3 dX5_isSheet_3 cw_X5_72 (by omega) ⟨Nat.le_refl _, Nat.le_refl _⟩ (by decide) (c_X5_within (fun c3 => ?_) (fun c3 => ?_))
  · refine aw_ireturn (ty := .boolean) dX5_isSheet_6 rfl (by decide) ?_
    exact hT c3
  · refine aw_ireturn (ty := .boolean) dX5_isSheet_6 rfl (by decide) ?_
    exact hF c3
theorem c_X5_oneIf {E : Ev} {d : Nat} {I : Mi} {L : Ml} {Z : Mz} {Q : Po} {x : Int32}   (hQ : ∀ rv : Int32, rv = (if x = 0 then 0 else 1) → Q (some (.int rv)) I L Z) : AC E yX5_oneIf cX5_oneIf 1 (some .int) d 0 0 [.int x] I L Z Q := by
  refine ac_go (ls := [some (.int x)]) (by decide +kernel) (Nat.le_of_ble_eq_true rfl) rfl ?_
  refine aw_iload_n dX5_oneIf_0 rfl ?_
  refine aw_if_eq (tgt := 8) dX5_oneIf_1 (by decide) (fun c1 => ?_) (fun c1 => ?_)
  · refine aw_iconst (v := 0) dX5_oneIf_8 (by decide) ?_
    refine aw_ireturn (ty := .int) dX5_oneIf_9 rfl rfl ?_
    exact hQ _ (by simp only [c1, not_true_eq_false, not_false_eq_true, and_true, true_and, and_false, false_and, or_true, true_or, or_false, false_or, ite_true, ite_false, if_true, if_false, reduceIte, and_self, or_self])
  · refine aw_iconst (v := 1) dX5_oneIf_4 (by decide) ?_
    refine aw_goto (tgt := 9) dX5_oneIf_5 (by decide) ?_
    refine aw_ireturn (ty := .int) dX5_oneIf_9 rfl rfl ?_
    exact hQ _ (by simp only [c1, not_true_eq_false, not_false_eq_true, and_true, true_and, and_false, false_and, or_true, true_or, or_false, false_or, ite_true, ite_false, if_true, if_false, reduceIte, and_self, or_self])
theorem c_X5_drawAfter {E : Ev} {d : Nat} {I : Mi} {L : Ml} {Z : Mz} {Q : Po} {x : Int32}   (hQ : ∀ rv : Int32, rv = (x * 1103515245 + 12345) → Q (some (.int rv)) I L Z) : AC E yX5_drawAfter cX5_drawAfter 1 (some .int) d 0 0 [.int x] I L Z Q := by
  refine ac_go (ls := [some (.int x)]) (by decide +kernel) (Nat.le_of_ble_eq_true rfl) rfl ?_
  refine aw_iload_n dX5_drawAfter_0 rfl ?_
  refine aw_ldcw dX5_drawAfter_1 kw_X5_293 ?_
  refine aw_imul dX5_drawAfter_4 ?_
  refine aw_sipush (v := 12345) dX5_drawAfter_5 (by decide) ?_
  refine aw_iadd dX5_drawAfter_8 ?_
  refine aw_ireturn (ty := .int) dX5_drawAfter_9 rfl rfl ?_
  exact hQ _ rfl
theorem c_X5_isClash {E : Ev} {d : Nat} {I : Mi} {L : Ml} {Z : Mz} {Q : Po} {x : Int32}   (hT : (¬ (x &&& (x >>> (6 &&& 31))) &&& 63 = 0) → Q (some (.int 1)) I L Z) (hF : ¬ (¬ (x &&& (x >>> (6 &&& 31))) &&& 63 = 0) → Q (some (.int 0)) I L Z) : AC E yX5_isClash cX5_isClash 1 (some .boolean) d 0 0 [.int x] I L Z Q := by
  refine ac_go (ls := [some (.int x)]) (by decide +kernel) (Nat.le_of_ble_eq_true rfl) rfl ?_
  refine aw_iload_n dX5_isClash_0 rfl ?_
  refine aw_iload_n dX5_isClash_1 rfl ?_
  refine aw_bipush (v := 6) dX5_isClash_2 (by decide) ?_
  refine aw_ishr dX5_isClash_4 ?_
  refine aw_iand dX5_isClash_5 ?_
  refine aw_bipush (v := 63) dX5_isClash_6 (by decide) ?_
  refine aw_iand dX5_isClash_8 ?_
  refine aw_if_eq (tgt := 16) dX5_isClash_9 (by decide) (fun c9 => ?_) (fun c9 => ?_)
  · refine aw_iconst (v := 0) dX5_isClash_16 (by decide) ?_
    refine aw_ireturn (ty := .boolean) dX5_isClash_17 rfl (by decide) ?_
    exact hF (by simp only [c9, not_true_eq_false, not_false_eq_true, and_true, true_and, and_false, false_and, or_true, true_or, or_false, false_or, ite_true, ite_false, if_true, if_false, reduceIte, and_self, or_self])
  · refine aw_iconst (v := 1) dX5_isClash_12 (by decide) ?_
    refine aw_goto (tgt := 17) dX5_isClash_13 (by decide) ?_
    refine aw_ireturn (ty := .boolean) dX5_isClash_17 rfl (by decide) ?_
    exact hT (by simp only [c9, not_true_eq_false, not_false_eq_true, and_true, true_and, and_false, false_and, or_true, true_or, or_false, false_or, ite_true, ite_false, if_true, if_false, reduceIte, and_self, or_self])
theorem c_X5_sizeOf {E : Ev} {d : Nat} {I : Mi} {L : Ml} {Z : Mz} {Q : Po} {x : Int32}  (hd : 1 ≤ d)  (hQ : ∀ rv : Int32, rv = (if x = -1 then -1 else bcV x) → Q (some (.int rv)) I L Z) : AC E yX5_sizeOf cX5_sizeOf 1 (some .int) d 0 0 [.int x] I L Z Q := by
  refine ac_go (ls := [some (.int x)]) (by decide +kernel) (Nat.le_of_ble_eq_true rfl) rfl ?_
  refine aw_iload_n dX5_sizeOf_0 rfl ?_
  refine aw_iconst (v := -1) dX5_sizeOf_1 (by decide) ?_
  refine aw_icmp_ne (tgt := 9) dX5_sizeOf_2 (by decide) (fun c2 => ?_) (fun c2 => ?_)
  · refine aw_iload_n dX5_sizeOf_9 rfl ?_
    refine aw_S1 dX5_sizeOf_10 cw_X5_294 (by omega) ⟨Nat.le_refl _, Nat.le_refl _⟩ (by decide) (c_bc (fun r10 e10 => ?_))
    refine aw_ireturn (ty := .int) dX5_sizeOf_13 rfl rfl ?_
    exact hQ _ (by simp only [c2, e10, not_true_eq_false, not_false_eq_true, and_true, true_and, and_false, false_and, or_true, true_or, or_false, false_or, ite_true, ite_false, if_true, if_false, reduceIte, and_self, or_self])
  · refine aw_iconst (v := -1) dX5_sizeOf_5 (by decide) ?_
    refine aw_goto (tgt := 13) dX5_sizeOf_6 (by decide) ?_
    refine aw_ireturn (ty := .int) dX5_sizeOf_13 rfl rfl ?_
    exact hQ _ (by simp only [c2, not_true_eq_false, not_false_eq_true, and_true, true_and, and_false, false_and, or_true, true_or, or_false, false_or, ite_true, ite_false, if_true, if_false, reduceIte, and_self, or_self])
theorem c_X0_withoutLeast {E : Ev} {d : Nat} {I : Mi} {L : Ml} {Z : Mz} {Q : Po} {x : Int32}   (hQ : ∀ rv : Int32, rv = (x &&& (x - 1)) → Q (some (.int rv)) I L Z) : AC E yX0_withoutLeast cX0_withoutLeast 1 (some .int) d 0 0 [.int x] I L Z Q := by
  refine ac_go (ls := [some (.int x)]) (by decide +kernel) (Nat.le_of_ble_eq_true rfl) rfl ?_
  refine aw_iload_n dX0_withoutLeast_0 rfl ?_
  refine aw_iload_n dX0_withoutLeast_1 rfl ?_
  refine aw_iconst (v := 1) dX0_withoutLeast_2 (by decide) ?_
  refine aw_isub dX0_withoutLeast_3 ?_
  refine aw_iand dX0_withoutLeast_4 ?_
  refine aw_ireturn (ty := .int) dX0_withoutLeast_5 rfl rfl ?_
  exact hQ _ rfl
theorem c_X0_setAfter {E : Ev} {d : Nat} {I : Mi} {L : Ml} {Z : Mz} {Q : Po} {x : Int32} {z : Int32}   (hQ : ∀ rv : Int32, rv = ((x - z) &&& z) → Q (some (.int rv)) I L Z) : AC E yX0_setAfter cX0_setAfter 2 (some .int) d 0 0 [.int x, .int z] I L Z Q := by
  refine ac_go (ls := [some (.int x), some (.int z)]) (by decide +kernel) (Nat.le_of_ble_eq_true rfl) rfl ?_
  refine aw_iload_n dX0_setAfter_0 rfl ?_
  refine aw_iload_n dX0_setAfter_1 rfl ?_
  refine aw_isub dX0_setAfter_2 ?_
  refine aw_iload_n dX0_setAfter_3 rfl ?_
  refine aw_iand dX0_setAfter_4 ?_
  refine aw_ireturn (ty := .int) dX0_setAfter_5 rfl rfl ?_
  exact hQ _ rfl
/-- a set turned -/
def tuV (x b : Int32) : Int32 := 4095 &&& ((x <<< (b &&& 31)) ||| (x >>> ((12 - b) &&& 31)))
theorem c_X0_turned {E : Ev} {d : Nat} {I : Mi} {L : Ml} {Z : Mz} {Q : Po} {x : Int32} {z : Int32}  (hd : 1 ≤ d)  (hQ : ∀ rv : Int32, rv = (tuV x (fmV z 12)) → Q (some (.int rv)) I L Z) : AC E yX0_turned cX0_turned 3 (some .int) d 0 0 [.int x, .int z] I L Z Q := by
  refine ac_go (ls := [some (.int x), some (.int z), none]) (by decide +kernel) (Nat.le_of_ble_eq_true rfl) rfl ?_
  refine aw_iload_n dX0_turned_0 rfl ?_
  refine aw_bipush (v := 12) dX0_turned_1 (by decide) ?_
  refine aw_S2 dX0_turned_3 cw_X0_122 (by omega) ⟨Nat.le_refl _, Nat.le_refl _⟩ (by decide) (c_fm (by decide) (fun r3 e3 => ?_))
  refine aw_istore_n (ls' := [_, _, _]) dX0_turned_6 (by decide) rfl rfl ?_
  refine aw_sipush (v := 4095) dX0_turned_7 (by decide) ?_
  refine aw_iload_n dX0_turned_10 rfl ?_
  refine aw_iload_n dX0_turned_11 rfl ?_
  refine aw_ishl dX0_turned_12 ?_
  refine aw_iload_n dX0_turned_13 rfl ?_
  refine aw_bipush (v := 12) dX0_turned_14 (by decide) ?_
  refine aw_iload_n dX0_turned_16 rfl ?_
  refine aw_isub dX0_turned_17 ?_
  refine aw_ishr dX0_turned_18 ?_
  refine aw_ior dX0_turned_19 ?_
  refine aw_iand dX0_turned_20 ?_
  refine aw_ireturn (ty := .int) dX0_turned_21 rfl rfl ?_
  exact hQ _ (by rw [e3]; rfl)
