/-! ===== the reference: its shape, small ones ===== -/
def MZ (Z : Mz) : Prop := ObjZ Z 48 6 ∧ zP Z 48 1 = some 49 ∧ ArrI Z 49 960 ∧ zP Z 48 2 = some 50 ∧ ArrI Z 50 6 ∧ zP Z 48 5 = some 51 ∧ ArrI Z 51 160 ∧ zP Z 48 9 = some 52 ∧ ArrI Z 52 12 ∧ zP Z 48 11 = some 53 ∧ ArrI Z 53 26 ∧ zP Z 48 13 = some 54 ∧ ArrI Z 54 5 ∧ zP Z 48 14 = some 55 ∧ ArrI Z 55 10 ∧ zP Z 48 32 = some 56 ∧ ArrI Z 56 10 ∧ zP Z 48 33 = some 57 ∧ ArrI Z 57 12 ∧ zP Z 48 34 = some 58 ∧ ArrI Z 58 26 ∧ zP Z 48 35 = some 59 ∧ ArrI Z 59 10 ∧ zP Z 48 42 = some 60 ∧ ArrB Z 60 4 ∧ zP Z 48 43 = some 61 ∧ ArrI Z 61 4 ∧ zP Z 48 44 = some 62 ∧ ArrI Z 62 4 ∧ zP Z 48 45 = some 63 ∧ ArrI Z 63 160
theorem wide_lt (a b : Int32) : a.toInt64 < b.toInt64 ↔ a < b := by rw [Int64.lt_iff_toInt_lt, Int32.lt_iff_toInt_lt, Int32.toInt_toInt64, Int32.toInt_toInt64]
theorem iU_self (I : Mi) (a k : Nat) : iU I a k (I a k) = I := by
  funext b j
  by_cases h : b = a ∧ j = k
  · obtain ⟨rfl, rfl⟩ := h; exact iU_same
  · exact iU_at h
theorem ixm_iff {x c : Int32} {n : Nat} (hc : c = nI n) (hn : n < 2 ^ 31) : (¬ x < 0 ∧ ¬ c - 1 < x) ↔ ∃ j, j < n ∧ x = nI j := by
  subst hc
  by_cases h0 : n = 0
  · subst h0
    constructor
    · rintro ⟨h1, h2⟩
      exact absurd (by rw [Int32.lt_iff_toInt_lt] at *; have : (nI 0 - 1 : Int32).toInt = -1 := by decide
                       have e0 : (0 : Int32).toInt = 0 := by decide
                       omega) h2
    · rintro ⟨j, hj, -⟩; omega
  · rw [nI_m1 (by omega)]
    constructor
    · rintro ⟨h1, h2⟩
      obtain ⟨j, hj, rfl⟩ := nI_of h1
      have : j ≤ n - 1 := Nat.not_lt.mp fun w => h2 (nI_lt w hj)
      exact ⟨j, by omega, rfl⟩
    · rintro ⟨j, hj, rfl⟩
      exact ⟨nI_pos (by omega), nI_nlt (by omega) (by omega)⟩
theorem ix2 (j a b c : Nat) (h : c + b = 2 * j + a) : nI 2 * nI j + nI a - nI b = nI c := by
  rw [pk_mul, nI_add, pk_sub (by omega), show 2 * j + a - b = c by omega]
theorem ix0 (j : Nat) : nI 2 * nI j = nI (2 * j) := pk_mul 2 j
theorem ix1 (j : Nat) : nI 2 * nI j + nI 1 = nI (2 * j + 1) := by rw [pk_mul, nI_add]
theorem c_X6_in {E : Ev} {d : Nat} {I : Mi} {L : Ml} {Z : Mz} {Q : Po} {v : Int64} {l : Int64} {m : Int64} {x a b : Int32} (hv : v = x.toInt64) (hl : l = a.toInt64) (hm : m = b.toInt64) (hT : (¬ x < a ∧ ¬ b < x) → Q (some (.int 1)) I L Z) (hF : ¬ (¬ x < a ∧ ¬ b < x) → Q (some (.int 0)) I L Z) : AC E yX6_in cX6_in 6 (some .boolean) d 0 0 [.long v, .long l, .long m] I L Z Q := by
  refine ac_go (ls := [some (.long v), none, some (.long l), none, some (.long m), none]) (by decide +kernel) (Nat.le_of_ble_eq_true rfl) rfl ?_
  refine aw_lload_n dX6_in_0 rfl ?_
  refine aw_lload_n dX6_in_1 rfl ?_
  refine aw_lcmp dX6_in_2 ?_
  refine aw_if_lt (tgt := 17) dX6_in_3 (by decide) (fun c3 => ?_) (fun c3 => ?_)
  · refine aw_iconst (v := 0) dX6_in_17 (by decide) ?_
    refine aw_ireturn (ty := .boolean) dX6_in_18 rfl (by decide) ?_
    subst hv hl hm
    rw [lg_cmp_lt, wide_lt] at c3
    exact hF (by simp only [c3, not_true_eq_false, not_false_eq_true, and_true, true_and, and_false, false_and, or_true, true_or, or_false, false_or, ite_true, ite_false, if_true, if_false, reduceIte, and_self, or_self])
  · refine aw_lload_n dX6_in_6 rfl ?_
    refine aw_lload dX6_in_7 rfl ?_
    refine aw_lcmp dX6_in_9 ?_
    refine aw_if_gt (tgt := 17) dX6_in_10 (by decide) (fun c10 => ?_) (fun c10 => ?_)
    · refine aw_iconst (v := 0) dX6_in_17 (by decide) ?_
      refine aw_ireturn (ty := .boolean) dX6_in_18 rfl (by decide) ?_
      subst hv hl hm
      rw [lg_cmp_lt, wide_lt] at c3
      rw [lg_cmp_gt, wide_lt] at c10
      exact hF (by simp only [c3, c10, not_true_eq_false, not_false_eq_true, and_true, true_and, and_false, false_and, or_true, true_or, or_false, false_or, ite_true, ite_false, if_true, if_false, reduceIte, and_self, or_self])
    · refine aw_iconst (v := 1) dX6_in_13 (by decide) ?_
      refine aw_goto (tgt := 18) dX6_in_14 (by decide) ?_
      refine aw_ireturn (ty := .boolean) dX6_in_18 rfl (by decide) ?_
      subst hv hl hm
      rw [lg_cmp_lt, wide_lt] at c3
      rw [lg_cmp_gt, wide_lt] at c10
      exact hT (by simp only [c3, c10, not_true_eq_false, not_false_eq_true, and_true, true_and, and_false, false_and, or_true, true_or, or_false, false_or, ite_true, ite_false, if_true, if_false, reduceIte, and_self, or_self])
theorem c_X6_within {E : Ev} {d : Nat} {I : Mi} {L : Ml} {Z : Mz} {Q : Po} {v : Int32} {l : Int32} {m : Int32}   (hQ : ∀ rv : Int32, rv = (if l ≤ v then (if v ≤ m then v else m) else l) → Q (some (.int rv)) I L Z) : AC E yX6_within cX6_within 3 (some .int) d 0 0 [.int v, .int l, .int m] I L Z Q := by
  refine ac_go (ls := [some (.int v), some (.int l), some (.int m)]) (by decide +kernel) (Nat.le_of_ble_eq_true rfl) rfl ?_
  refine aw_iload_n dX6_within_0 rfl ?_
  refine aw_iload_n dX6_within_1 rfl ?_
  refine aw_icmp_ge (tgt := 9) dX6_within_2 (by decide) (fun c2 => ?_) (fun c2 => ?_)
  · refine aw_iload_n dX6_within_9 rfl ?_
    refine aw_iload_n dX6_within_10 rfl ?_
    refine aw_icmp_le (tgt := 18) dX6_within_11 (by decide) (fun c11 => ?_) (fun c11 => ?_)
    · refine aw_iload_n dX6_within_18 rfl ?_
      refine aw_ireturn (ty := .int) dX6_within_19 rfl rfl ?_
      exact hQ _ (by simp only [c2, c11, not_true_eq_false, not_false_eq_true, and_true, true_and, and_false, false_and, or_true, true_or, or_false, false_or, ite_true, ite_false, if_true, if_false, reduceIte, and_self, or_self])
    · refine aw_iload_n dX6_within_14 rfl ?_
      refine aw_goto (tgt := 19) dX6_within_15 (by decide) ?_
      refine aw_ireturn (ty := .int) dX6_within_19 rfl rfl ?_
      exact hQ _ (by simp only [c2, c11, not_true_eq_false, not_false_eq_true, and_true, true_and, and_false, false_and, or_true, true_or, or_false, false_or, ite_true, ite_false, if_true, if_false, reduceIte, and_self, or_self])
  · refine aw_iload_n dX6_within_5 rfl ?_
    refine aw_goto (tgt := 19) dX6_within_6 (by decide) ?_
    refine aw_ireturn (ty := .int) dX6_within_19 rfl rfl ?_
    exact hQ _ (by simp only [c2, not_true_eq_false, not_false_eq_true, and_true, true_and, and_false, false_and, or_true, true_or, or_false, false_or, ite_true, ite_false, if_true, if_false, reduceIte, and_self, or_self])
theorem c_X6_isSaying {E : Ev} {d : Nat} {I : Mi} {L : Ml} {Z : Mz} {Q : Po} {x : Int32}  (hd : 1 ≤ d)  (hT : (¬ x < 0 ∧ ¬ 11 < x) → Q (some (.int 1)) I L Z) (hF : ¬ (¬ x < 0 ∧ ¬ 11 < x) → Q (some (.int 0)) I L Z) : AC E yX6_isSaying cX6_isSaying 1 (some .boolean) d 0 0 [.int x] I L Z Q := by
  refine ac_go (ls := [some (.int x)]) (by decide +kernel) (Nat.le_of_ble_eq_true rfl) rfl ?_
  refine aw_iload_n dX6_isSaying_0 rfl ?_
  refine aw_i2l dX6_isSaying_1 ?_
  refine aw_lconst (v := 0) dX6_isSaying_2 (by decide) ?_
  refine aw_ldc2 dX6_isSaying_3 kw_X6_80 ?_
  refine aw_S3 dX6_isSaying_6 cw_X6_73 (by omega) ⟨Nat.le_refl _, Nat.le_refl _⟩ (by decide) (c_X6_in (x := x) (a := 0) (b := 11) rfl (by decide) (by decide) (fun c6 => ?_) (fun c6 => ?_))
  · refine aw_ireturn (ty := .boolean) dX6_isSaying_9 rfl (by decide) ?_
    exact hT c6
  · refine aw_ireturn (ty := .boolean) dX6_isSaying_9 rfl (by decide) ?_
    exact hF c6
theorem c_X6_isSheet {E : Ev} {d : Nat} {I : Mi} {L : Ml} {Z : Mz} {Q : Po} {x : Int32}  (hd : 1 ≤ d)  (hT : (¬ x < 0 ∧ ¬ 3 < x) → Q (some (.int 1)) I L Z) (hF : ¬ (¬ x < 0 ∧ ¬ 3 < x) → Q (some (.int 0)) I L Z) : AC E yX6_isSheet cX6_isSheet 1 (some .boolean) d 0 0 [.int x] I L Z Q := by
  refine ac_go (ls := [some (.int x)]) (by decide +kernel) (Nat.le_of_ble_eq_true rfl) rfl ?_
  refine aw_iload_n dX6_isSheet_0 rfl ?_
  refine aw_i2l dX6_isSheet_1 ?_
  refine aw_lconst (v := 0) dX6_isSheet_2 (by decide) ?_
  refine aw_ldc2 dX6_isSheet_3 kw_X6_445 ?_
  refine aw_S3 dX6_isSheet_6 cw_X6_73 (by omega) ⟨Nat.le_refl _, Nat.le_refl _⟩ (by decide) (c_X6_in (x := x) (a := 0) (b := 3) rfl (by decide) (by decide) (fun c6 => ?_) (fun c6 => ?_))
  · refine aw_ireturn (ty := .boolean) dX6_isSheet_9 rfl (by decide) ?_
    exact hT c6
  · refine aw_ireturn (ty := .boolean) dX6_isSheet_9 rfl (by decide) ?_
    exact hF c6
theorem c_X6_isOne {E : Ev} {d : Nat} {I : Mi} {L : Ml} {Z : Mz} {Q : Po} {x : Int32} {n : Nat} (hd : 1 ≤ d) (hM : MZ Z) (hn : I 48 15 = nI n) (hl : n ≤ 5) (hT : (∃ j, j < n ∧ x = nI j) → Q (some (.int 1)) I L Z) (hF : ¬ (∃ j, j < n ∧ x = nI j) → Q (some (.int 0)) I L Z) : AC E yX6_isOne cX6_isOne 2 (some .boolean) d 0 0 [.ref 48, .int x] I L Z Q := by
  refine ac_go (ls := [some (.ref 48), some (.int x)]) (by decide +kernel) (Nat.le_of_ble_eq_true rfl) rfl ?_
  refine aw_iload_n dX6_isOne_0 rfl ?_
  refine aw_i2l dX6_isOne_1 ?_
  refine aw_lconst (v := 0) dX6_isOne_2 (by decide) ?_
  refine aw_aload_n dX6_isOne_3 rfl rfl ?_
  refine aw_gi dX6_isOne_4 fw_X6_70 hM.1 ?_
  refine aw_iconst (v := 1) dX6_isOne_7 (by decide) ?_
  refine aw_isub dX6_isOne_8 ?_
  refine aw_i2l dX6_isOne_9 ?_
  refine aw_S3 dX6_isOne_10 cw_X6_73 (by omega) ⟨Nat.le_refl _, Nat.le_refl _⟩ (by decide) (c_X6_in (x := x) (a := 0) (b := I 48 15 - 1) rfl (by decide) rfl (fun c10 => ?_) (fun c10 => ?_))
  · refine aw_ireturn (ty := .boolean) dX6_isOne_13 rfl (by decide) ?_
    exact hT ((ixm_iff hn (by omega)).mp c10)
  · refine aw_ireturn (ty := .boolean) dX6_isOne_13 rfl (by decide) ?_
    exact hF (fun z => c10 ((ixm_iff hn (by omega)).mpr z))
theorem c_X6_isCup {E : Ev} {d : Nat} {I : Mi} {L : Ml} {Z : Mz} {Q : Po} {x : Int32} {n : Nat} (hd : 1 ≤ d) (hM : MZ Z) (hn : I 48 10 = nI n) (hl : n ≤ 6) (hT : (∃ j, j < n ∧ x = nI j) → Q (some (.int 1)) I L Z) (hF : ¬ (∃ j, j < n ∧ x = nI j) → Q (some (.int 0)) I L Z) : AC E yX6_isCup cX6_isCup 2 (some .boolean) d 0 0 [.ref 48, .int x] I L Z Q := by
  refine ac_go (ls := [some (.ref 48), some (.int x)]) (by decide +kernel) (Nat.le_of_ble_eq_true rfl) rfl ?_
  refine aw_iload_n dX6_isCup_0 rfl ?_
  refine aw_i2l dX6_isCup_1 ?_
  refine aw_lconst (v := 0) dX6_isCup_2 (by decide) ?_
  refine aw_aload_n dX6_isCup_3 rfl rfl ?_
  refine aw_gi dX6_isCup_4 fw_X6_77 hM.1 ?_
  refine aw_iconst (v := 1) dX6_isCup_7 (by decide) ?_
  refine aw_isub dX6_isCup_8 ?_
  refine aw_i2l dX6_isCup_9 ?_
  refine aw_S3 dX6_isCup_10 cw_X6_73 (by omega) ⟨Nat.le_refl _, Nat.le_refl _⟩ (by decide) (c_X6_in (x := x) (a := 0) (b := I 48 10 - 1) rfl (by decide) rfl (fun c10 => ?_) (fun c10 => ?_))
  · refine aw_ireturn (ty := .boolean) dX6_isCup_13 rfl (by decide) ?_
    exact hT ((ixm_iff hn (by omega)).mp c10)
  · refine aw_ireturn (ty := .boolean) dX6_isCup_13 rfl (by decide) ?_
    exact hF (fun z => c10 ((ixm_iff hn (by omega)).mpr z))
theorem c_X6_isOf0 {E : Ev} {d : Nat} {I : Mi} {L : Ml} {Z : Mz} {Q : Po} {x : Int32}  (hd : 2 ≤ d) (hM : MZ Z) (hT : (True) → Q (some (.int 1)) I L Z) (hF : ¬ (True) → Q (some (.int 0)) I L Z) : AC E yX6_isOf cX6_isOf 3 (some .boolean) d 0 0 [.ref 48, .int 0, .int x] I L Z Q := by
  refine ac_go (ls := [some (.ref 48), some (.int 0), some (.int x)]) (by decide +kernel) (Nat.le_of_ble_eq_true rfl) rfl ?_
  refine aw_iload_n dX6_isOf_0 rfl ?_
  refine aw_iconst (v := 2) dX6_isOf_1 (by decide) ?_
  refine aw_icmp_ge (tgt := 7) dX6_isOf_2 (by decide) (fun zz => absurd zz (by decide)) (fun _ => ?_)
  refine aw_iconst (v := 1) dX6_isOf_5 (by decide) ?_
  refine aw_ireturn (ty := .boolean) dX6_isOf_6 rfl (by decide) ?_
  exact hT trivial
theorem c_X6_isOf1 {E : Ev} {d : Nat} {I : Mi} {L : Ml} {Z : Mz} {Q : Po} {x : Int32}  (hd : 2 ≤ d) (hM : MZ Z) (hT : (True) → Q (some (.int 1)) I L Z) (hF : ¬ (True) → Q (some (.int 0)) I L Z) : AC E yX6_isOf cX6_isOf 3 (some .boolean) d 0 0 [.ref 48, .int 1, .int x] I L Z Q := by
  refine ac_go (ls := [some (.ref 48), some (.int 1), some (.int x)]) (by decide +kernel) (Nat.le_of_ble_eq_true rfl) rfl ?_
  refine aw_iload_n dX6_isOf_0 rfl ?_
  refine aw_iconst (v := 2) dX6_isOf_1 (by decide) ?_
  refine aw_icmp_ge (tgt := 7) dX6_isOf_2 (by decide) (fun zz => absurd zz (by decide)) (fun _ => ?_)
  refine aw_iconst (v := 1) dX6_isOf_5 (by decide) ?_
  refine aw_ireturn (ty := .boolean) dX6_isOf_6 rfl (by decide) ?_
  exact hT trivial
theorem c_X6_isOf2 {E : Ev} {d : Nat} {I : Mi} {L : Ml} {Z : Mz} {Q : Po} {x : Int32} {n : Nat} (hd : 2 ≤ d) (hM : MZ Z) (hn : I 48 10 = nI n) (hl : n ≤ 6) (hT : (∃ j, j < n ∧ x = nI j) → Q (some (.int 1)) I L Z) (hF : ¬ (∃ j, j < n ∧ x = nI j) → Q (some (.int 0)) I L Z) : AC E yX6_isOf cX6_isOf 3 (some .boolean) d 0 0 [.ref 48, .int 2, .int x] I L Z Q := by
  refine ac_go (ls := [some (.ref 48), some (.int 2), some (.int x)]) (by decide +kernel) (Nat.le_of_ble_eq_true rfl) rfl ?_
  refine aw_iload_n dX6_isOf_0 rfl ?_
  refine aw_iconst (v := 2) dX6_isOf_1 (by decide) ?_
  refine aw_icmp_ge (tgt := 7) dX6_isOf_2 (by decide) (fun _ => ?_) (fun zz => absurd zz (by decide))
  refine aw_iload_n dX6_isOf_7 rfl ?_
  refine aw_iconst (v := 4) dX6_isOf_8 (by decide) ?_
  refine aw_icmp_ge (tgt := 20) dX6_isOf_9 (by decide) (fun zz => absurd zz (by decide)) (fun _ => ?_)
  refine aw_aload_n dX6_isOf_12 rfl rfl ?_
  refine aw_iload_n dX6_isOf_13 rfl ?_
  refine aw_V1 dX6_isOf_14 cw_X6_82 ⟨_, _, rfl⟩ hM.1 (by omega) ⟨Nat.le_refl _, Nat.le_refl _⟩ (by decide) (c_X6_isCup (by omega) hM hn hl (fun c14 => ?_) (fun c14 => ?_))
  · refine aw_goto (tgt := 47) dX6_isOf_17 (by decide) ?_
    refine aw_ireturn (ty := .boolean) dX6_isOf_47 rfl (by decide) ?_
    exact hT c14
  · refine aw_goto (tgt := 47) dX6_isOf_17 (by decide) ?_
    refine aw_ireturn (ty := .boolean) dX6_isOf_47 rfl (by decide) ?_
    exact hF c14
theorem c_X6_isOf3 {E : Ev} {d : Nat} {I : Mi} {L : Ml} {Z : Mz} {Q : Po} {x : Int32} {n : Nat} (hd : 2 ≤ d) (hM : MZ Z) (hn : I 48 10 = nI n) (hl : n ≤ 6) (hT : (∃ j, j < n ∧ x = nI j) → Q (some (.int 1)) I L Z) (hF : ¬ (∃ j, j < n ∧ x = nI j) → Q (some (.int 0)) I L Z) : AC E yX6_isOf cX6_isOf 3 (some .boolean) d 0 0 [.ref 48, .int 3, .int x] I L Z Q := by
  refine ac_go (ls := [some (.ref 48), some (.int 3), some (.int x)]) (by decide +kernel) (Nat.le_of_ble_eq_true rfl) rfl ?_
  refine aw_iload_n dX6_isOf_0 rfl ?_
  refine aw_iconst (v := 2) dX6_isOf_1 (by decide) ?_
  refine aw_icmp_ge (tgt := 7) dX6_isOf_2 (by decide) (fun _ => ?_) (fun zz => absurd zz (by decide))
  refine aw_iload_n dX6_isOf_7 rfl ?_
  refine aw_iconst (v := 4) dX6_isOf_8 (by decide) ?_
  refine aw_icmp_ge (tgt := 20) dX6_isOf_9 (by decide) (fun zz => absurd zz (by decide)) (fun _ => ?_)
  refine aw_aload_n dX6_isOf_12 rfl rfl ?_
  refine aw_iload_n dX6_isOf_13 rfl ?_
  refine aw_V1 dX6_isOf_14 cw_X6_82 ⟨_, _, rfl⟩ hM.1 (by omega) ⟨Nat.le_refl _, Nat.le_refl _⟩ (by decide) (c_X6_isCup (by omega) hM hn hl (fun c14 => ?_) (fun c14 => ?_))
  · refine aw_goto (tgt := 47) dX6_isOf_17 (by decide) ?_
    refine aw_ireturn (ty := .boolean) dX6_isOf_47 rfl (by decide) ?_
    exact hT c14
  · refine aw_goto (tgt := 47) dX6_isOf_17 (by decide) ?_
    refine aw_ireturn (ty := .boolean) dX6_isOf_47 rfl (by decide) ?_
    exact hF c14
theorem c_X6_isOf4 {E : Ev} {d : Nat} {I : Mi} {L : Ml} {Z : Mz} {Q : Po} {x : Int32} {n : Nat} (hd : 2 ≤ d) (hM : MZ Z) (hn : I 48 15 = nI n) (hl : n ≤ 5) (hT : (∃ j, j < n ∧ x = nI j) → Q (some (.int 1)) I L Z) (hF : ¬ (∃ j, j < n ∧ x = nI j) → Q (some (.int 0)) I L Z) : AC E yX6_isOf cX6_isOf 3 (some .boolean) d 0 0 [.ref 48, .int 4, .int x] I L Z Q := by
  refine ac_go (ls := [some (.ref 48), some (.int 4), some (.int x)]) (by decide +kernel) (Nat.le_of_ble_eq_true rfl) rfl ?_
  refine aw_iload_n dX6_isOf_0 rfl ?_
  refine aw_iconst (v := 2) dX6_isOf_1 (by decide) ?_
  refine aw_icmp_ge (tgt := 7) dX6_isOf_2 (by decide) (fun _ => ?_) (fun zz => absurd zz (by decide))
  refine aw_iload_n dX6_isOf_7 rfl ?_
  refine aw_iconst (v := 4) dX6_isOf_8 (by decide) ?_
  refine aw_icmp_ge (tgt := 20) dX6_isOf_9 (by decide) (fun _ => ?_) (fun zz => absurd zz (by decide))
  refine aw_iload_n dX6_isOf_20 rfl ?_
  refine aw_bipush (v := 8) dX6_isOf_21 (by decide) ?_
  refine aw_icmp_ge (tgt := 34) dX6_isOf_23 (by decide) (fun zz => absurd zz (by decide)) (fun _ => ?_)
  refine aw_aload_n dX6_isOf_26 rfl rfl ?_
  refine aw_iload_n dX6_isOf_27 rfl ?_
  refine aw_V1 dX6_isOf_28 cw_X6_86 ⟨_, _, rfl⟩ hM.1 (by omega) ⟨Nat.le_refl _, Nat.le_refl _⟩ (by decide) (c_X6_isOne (by omega) hM hn hl (fun c28 => ?_) (fun c28 => ?_))
  · refine aw_goto (tgt := 47) dX6_isOf_31 (by decide) ?_
    refine aw_ireturn (ty := .boolean) dX6_isOf_47 rfl (by decide) ?_
    exact hT c28
  · refine aw_goto (tgt := 47) dX6_isOf_31 (by decide) ?_
    refine aw_ireturn (ty := .boolean) dX6_isOf_47 rfl (by decide) ?_
    exact hF c28
theorem c_X6_isOf5 {E : Ev} {d : Nat} {I : Mi} {L : Ml} {Z : Mz} {Q : Po} {x : Int32} {n : Nat} (hd : 2 ≤ d) (hM : MZ Z) (hn : I 48 15 = nI n) (hl : n ≤ 5) (hT : (∃ j, j < n ∧ x = nI j) → Q (some (.int 1)) I L Z) (hF : ¬ (∃ j, j < n ∧ x = nI j) → Q (some (.int 0)) I L Z) : AC E yX6_isOf cX6_isOf 3 (some .boolean) d 0 0 [.ref 48, .int 5, .int x] I L Z Q := by
  refine ac_go (ls := [some (.ref 48), some (.int 5), some (.int x)]) (by decide +kernel) (Nat.le_of_ble_eq_true rfl) rfl ?_
  refine aw_iload_n dX6_isOf_0 rfl ?_
  refine aw_iconst (v := 2) dX6_isOf_1 (by decide) ?_
  refine aw_icmp_ge (tgt := 7) dX6_isOf_2 (by decide) (fun _ => ?_) (fun zz => absurd zz (by decide))
  refine aw_iload_n dX6_isOf_7 rfl ?_
  refine aw_iconst (v := 4) dX6_isOf_8 (by decide) ?_
  refine aw_icmp_ge (tgt := 20) dX6_isOf_9 (by decide) (fun _ => ?_) (fun zz => absurd zz (by decide))
  refine aw_iload_n dX6_isOf_20 rfl ?_
  refine aw_bipush (v := 8) dX6_isOf_21 (by decide) ?_
  refine aw_icmp_ge (tgt := 34) dX6_isOf_23 (by decide) (fun zz => absurd zz (by decide)) (fun _ => ?_)
  refine aw_aload_n dX6_isOf_26 rfl rfl ?_
  refine aw_iload_n dX6_isOf_27 rfl ?_
  refine aw_V1 dX6_isOf_28 cw_X6_86 ⟨_, _, rfl⟩ hM.1 (by omega) ⟨Nat.le_refl _, Nat.le_refl _⟩ (by decide) (c_X6_isOne (by omega) hM hn hl (fun c28 => ?_) (fun c28 => ?_))
  · refine aw_goto (tgt := 47) dX6_isOf_31 (by decide) ?_
    refine aw_ireturn (ty := .boolean) dX6_isOf_47 rfl (by decide) ?_
    exact hT c28
  · refine aw_goto (tgt := 47) dX6_isOf_31 (by decide) ?_
    refine aw_ireturn (ty := .boolean) dX6_isOf_47 rfl (by decide) ?_
    exact hF c28
theorem c_X6_isOf6 {E : Ev} {d : Nat} {I : Mi} {L : Ml} {Z : Mz} {Q : Po} {x : Int32} {n : Nat} (hd : 2 ≤ d) (hM : MZ Z) (hn : I 48 15 = nI n) (hl : n ≤ 5) (hT : (∃ j, j < n ∧ x = nI j) → Q (some (.int 1)) I L Z) (hF : ¬ (∃ j, j < n ∧ x = nI j) → Q (some (.int 0)) I L Z) : AC E yX6_isOf cX6_isOf 3 (some .boolean) d 0 0 [.ref 48, .int 6, .int x] I L Z Q := by
  refine ac_go (ls := [some (.ref 48), some (.int 6), some (.int x)]) (by decide +kernel) (Nat.le_of_ble_eq_true rfl) rfl ?_
  refine aw_iload_n dX6_isOf_0 rfl ?_
  refine aw_iconst (v := 2) dX6_isOf_1 (by decide) ?_
  refine aw_icmp_ge (tgt := 7) dX6_isOf_2 (by decide) (fun _ => ?_) (fun zz => absurd zz (by decide))
  refine aw_iload_n dX6_isOf_7 rfl ?_
  refine aw_iconst (v := 4) dX6_isOf_8 (by decide) ?_
  refine aw_icmp_ge (tgt := 20) dX6_isOf_9 (by decide) (fun _ => ?_) (fun zz => absurd zz (by decide))
  refine aw_iload_n dX6_isOf_20 rfl ?_
  refine aw_bipush (v := 8) dX6_isOf_21 (by decide) ?_
  refine aw_icmp_ge (tgt := 34) dX6_isOf_23 (by decide) (fun zz => absurd zz (by decide)) (fun _ => ?_)
  refine aw_aload_n dX6_isOf_26 rfl rfl ?_
  refine aw_iload_n dX6_isOf_27 rfl ?_
  refine aw_V1 dX6_isOf_28 cw_X6_86 ⟨_, _, rfl⟩ hM.1 (by omega) ⟨Nat.le_refl _, Nat.le_refl _⟩ (by decide) (c_X6_isOne (by omega) hM hn hl (fun c28 => ?_) (fun c28 => ?_))
  · refine aw_goto (tgt := 47) dX6_isOf_31 (by decide) ?_
    refine aw_ireturn (ty := .boolean) dX6_isOf_47 rfl (by decide) ?_
    exact hT c28
  · refine aw_goto (tgt := 47) dX6_isOf_31 (by decide) ?_
    refine aw_ireturn (ty := .boolean) dX6_isOf_47 rfl (by decide) ?_
    exact hF c28
theorem c_X6_isOf7 {E : Ev} {d : Nat} {I : Mi} {L : Ml} {Z : Mz} {Q : Po} {x : Int32} {n : Nat} (hd : 2 ≤ d) (hM : MZ Z) (hn : I 48 15 = nI n) (hl : n ≤ 5) (hT : (∃ j, j < n ∧ x = nI j) → Q (some (.int 1)) I L Z) (hF : ¬ (∃ j, j < n ∧ x = nI j) → Q (some (.int 0)) I L Z) : AC E yX6_isOf cX6_isOf 3 (some .boolean) d 0 0 [.ref 48, .int 7, .int x] I L Z Q := by
  refine ac_go (ls := [some (.ref 48), some (.int 7), some (.int x)]) (by decide +kernel) (Nat.le_of_ble_eq_true rfl) rfl ?_
  refine aw_iload_n dX6_isOf_0 rfl ?_
  refine aw_iconst (v := 2) dX6_isOf_1 (by decide) ?_
  refine aw_icmp_ge (tgt := 7) dX6_isOf_2 (by decide) (fun _ => ?_) (fun zz => absurd zz (by decide))
  refine aw_iload_n dX6_isOf_7 rfl ?_
  refine aw_iconst (v := 4) dX6_isOf_8 (by decide) ?_
  refine aw_icmp_ge (tgt := 20) dX6_isOf_9 (by decide) (fun _ => ?_) (fun zz => absurd zz (by decide))
  refine aw_iload_n dX6_isOf_20 rfl ?_
  refine aw_bipush (v := 8) dX6_isOf_21 (by decide) ?_
  refine aw_icmp_ge (tgt := 34) dX6_isOf_23 (by decide) (fun zz => absurd zz (by decide)) (fun _ => ?_)
  refine aw_aload_n dX6_isOf_26 rfl rfl ?_
  refine aw_iload_n dX6_isOf_27 rfl ?_
  refine aw_V1 dX6_isOf_28 cw_X6_86 ⟨_, _, rfl⟩ hM.1 (by omega) ⟨Nat.le_refl _, Nat.le_refl _⟩ (by decide) (c_X6_isOne (by omega) hM hn hl (fun c28 => ?_) (fun c28 => ?_))
  · refine aw_goto (tgt := 47) dX6_isOf_31 (by decide) ?_
    refine aw_ireturn (ty := .boolean) dX6_isOf_47 rfl (by decide) ?_
    exact hT c28
  · refine aw_goto (tgt := 47) dX6_isOf_31 (by decide) ?_
    refine aw_ireturn (ty := .boolean) dX6_isOf_47 rfl (by decide) ?_
    exact hF c28
theorem c_X6_isOf8 {E : Ev} {d : Nat} {I : Mi} {L : Ml} {Z : Mz} {Q : Po} {x : Int32} {n : Nat} (hd : 2 ≤ d) (hM : MZ Z) (hn : I 48 12 = nI n) (hl : n ≤ 12) (hT : (∃ j, j < n ∧ x = nI j) → Q (some (.int 1)) I L Z) (hF : ¬ (∃ j, j < n ∧ x = nI j) → Q (some (.int 0)) I L Z) : AC E yX6_isOf cX6_isOf 3 (some .boolean) d 0 0 [.ref 48, .int 8, .int x] I L Z Q := by
  refine ac_go (ls := [some (.ref 48), some (.int 8), some (.int x)]) (by decide +kernel) (Nat.le_of_ble_eq_true rfl) rfl ?_
  refine aw_iload_n dX6_isOf_0 rfl ?_
  refine aw_iconst (v := 2) dX6_isOf_1 (by decide) ?_
  refine aw_icmp_ge (tgt := 7) dX6_isOf_2 (by decide) (fun _ => ?_) (fun zz => absurd zz (by decide))
  refine aw_iload_n dX6_isOf_7 rfl ?_
  refine aw_iconst (v := 4) dX6_isOf_8 (by decide) ?_
  refine aw_icmp_ge (tgt := 20) dX6_isOf_9 (by decide) (fun _ => ?_) (fun zz => absurd zz (by decide))
  refine aw_iload_n dX6_isOf_20 rfl ?_
  refine aw_bipush (v := 8) dX6_isOf_21 (by decide) ?_
  refine aw_icmp_ge (tgt := 34) dX6_isOf_23 (by decide) (fun _ => ?_) (fun zz => absurd zz (by decide))
  refine aw_iload_n dX6_isOf_34 rfl ?_
  refine aw_i2l dX6_isOf_35 ?_
  refine aw_lconst (v := 0) dX6_isOf_36 (by decide) ?_
  refine aw_aload_n dX6_isOf_37 rfl rfl ?_
  refine aw_gi dX6_isOf_38 fw_X6_89 hM.1 ?_
  refine aw_iconst (v := 1) dX6_isOf_41 (by decide) ?_
  refine aw_isub dX6_isOf_42 ?_
  refine aw_i2l dX6_isOf_43 ?_
  refine aw_S3 dX6_isOf_44 cw_X6_73 (by omega) ⟨Nat.le_refl _, Nat.le_refl _⟩ (by decide) (c_X6_in (x := x) (a := 0) (b := I 48 12 - 1) rfl (by decide) rfl (fun c44 => ?_) (fun c44 => ?_))
  · refine aw_ireturn (ty := .boolean) dX6_isOf_47 rfl (by decide) ?_
    exact hT ((ixm_iff hn (by omega)).mp c44)
  · refine aw_ireturn (ty := .boolean) dX6_isOf_47 rfl (by decide) ?_
    exact hF (fun z => c44 ((ixm_iff hn (by omega)).mpr z))
theorem c_X6_isOf9 {E : Ev} {d : Nat} {I : Mi} {L : Ml} {Z : Mz} {Q : Po} {x : Int32} {n : Nat} (hd : 2 ≤ d) (hM : MZ Z) (hn : I 48 12 = nI n) (hl : n ≤ 12) (hT : (∃ j, j < n ∧ x = nI j) → Q (some (.int 1)) I L Z) (hF : ¬ (∃ j, j < n ∧ x = nI j) → Q (some (.int 0)) I L Z) : AC E yX6_isOf cX6_isOf 3 (some .boolean) d 0 0 [.ref 48, .int 9, .int x] I L Z Q := by
  refine ac_go (ls := [some (.ref 48), some (.int 9), some (.int x)]) (by decide +kernel) (Nat.le_of_ble_eq_true rfl) rfl ?_
  refine aw_iload_n dX6_isOf_0 rfl ?_
  refine aw_iconst (v := 2) dX6_isOf_1 (by decide) ?_
  refine aw_icmp_ge (tgt := 7) dX6_isOf_2 (by decide) (fun _ => ?_) (fun zz => absurd zz (by decide))
  refine aw_iload_n dX6_isOf_7 rfl ?_
  refine aw_iconst (v := 4) dX6_isOf_8 (by decide) ?_
  refine aw_icmp_ge (tgt := 20) dX6_isOf_9 (by decide) (fun _ => ?_) (fun zz => absurd zz (by decide))
  refine aw_iload_n dX6_isOf_20 rfl ?_
  refine aw_bipush (v := 8) dX6_isOf_21 (by decide) ?_
  refine aw_icmp_ge (tgt := 34) dX6_isOf_23 (by decide) (fun _ => ?_) (fun zz => absurd zz (by decide))
  refine aw_iload_n dX6_isOf_34 rfl ?_
  refine aw_i2l dX6_isOf_35 ?_
  refine aw_lconst (v := 0) dX6_isOf_36 (by decide) ?_
  refine aw_aload_n dX6_isOf_37 rfl rfl ?_
  refine aw_gi dX6_isOf_38 fw_X6_89 hM.1 ?_
  refine aw_iconst (v := 1) dX6_isOf_41 (by decide) ?_
  refine aw_isub dX6_isOf_42 ?_
  refine aw_i2l dX6_isOf_43 ?_
  refine aw_S3 dX6_isOf_44 cw_X6_73 (by omega) ⟨Nat.le_refl _, Nat.le_refl _⟩ (by decide) (c_X6_in (x := x) (a := 0) (b := I 48 12 - 1) rfl (by decide) rfl (fun c44 => ?_) (fun c44 => ?_))
  · refine aw_ireturn (ty := .boolean) dX6_isOf_47 rfl (by decide) ?_
    exact hT ((ixm_iff hn (by omega)).mp c44)
  · refine aw_ireturn (ty := .boolean) dX6_isOf_47 rfl (by decide) ?_
    exact hF (fun z => c44 ((ixm_iff hn (by omega)).mpr z))
theorem c_X6_mostOf0 {E : Ev} {d : Nat} {I : Mi} {L : Ml} {Z : Mz} {Q : Po}    (hQ : ∀ rv : Int32, rv = (4095) → Q (some (.int rv)) I L Z) : AC E yX6_mostOf cX6_mostOf 1 (some .int) d 0 0 [.int 0] I L Z Q := by
  refine ac_go (ls := [some (.int 0)]) (by decide +kernel) (Nat.le_of_ble_eq_true rfl) rfl ?_
  refine aw_iload_n dX6_mostOf_0 rfl ?_
  refine aw_if_eq (tgt := 9) dX6_mostOf_1 (by decide) (fun _ => ?_) (fun zz => absurd zz (by decide))
  refine aw_sipush (v := 4095) dX6_mostOf_9 (by decide) ?_
  refine aw_goto (tgt := 48) dX6_mostOf_12 (by decide) ?_
  refine aw_ireturn (ty := .int) dX6_mostOf_48 rfl rfl ?_
  exact hQ _ rfl
theorem c_X6_mostOf1 {E : Ev} {d : Nat} {I : Mi} {L : Ml} {Z : Mz} {Q : Po}    (hQ : ∀ rv : Int32, rv = (999) → Q (some (.int rv)) I L Z) : AC E yX6_mostOf cX6_mostOf 1 (some .int) d 0 0 [.int 1] I L Z Q := by
  refine ac_go (ls := [some (.int 1)]) (by decide +kernel) (Nat.le_of_ble_eq_true rfl) rfl ?_
  refine aw_iload_n dX6_mostOf_0 rfl ?_
  refine aw_if_eq (tgt := 9) dX6_mostOf_1 (by decide) (fun zz => absurd zz (by decide)) (fun _ => ?_)
  refine aw_iload_n dX6_mostOf_4 rfl ?_
  refine aw_iconst (v := 2) dX6_mostOf_5 (by decide) ?_
  refine aw_icmp_ne (tgt := 15) dX6_mostOf_6 (by decide) (fun _ => ?_) (fun zz => absurd zz (by decide))
  refine aw_iload_n dX6_mostOf_15 rfl ?_
  refine aw_iconst (v := 1) dX6_mostOf_16 (by decide) ?_
  refine aw_icmp_ne (tgt := 26) dX6_mostOf_17 (by decide) (fun zz => absurd zz (by decide)) (fun _ => ?_)
  refine aw_sipush (v := 999) dX6_mostOf_20 (by decide) ?_
  refine aw_goto (tgt := 48) dX6_mostOf_23 (by decide) ?_
  refine aw_ireturn (ty := .int) dX6_mostOf_48 rfl rfl ?_
  exact hQ _ rfl
theorem c_X6_mostOf2 {E : Ev} {d : Nat} {I : Mi} {L : Ml} {Z : Mz} {Q : Po}    (hQ : ∀ rv : Int32, rv = (4095) → Q (some (.int rv)) I L Z) : AC E yX6_mostOf cX6_mostOf 1 (some .int) d 0 0 [.int 2] I L Z Q := by
  refine ac_go (ls := [some (.int 2)]) (by decide +kernel) (Nat.le_of_ble_eq_true rfl) rfl ?_
  refine aw_iload_n dX6_mostOf_0 rfl ?_
  refine aw_if_eq (tgt := 9) dX6_mostOf_1 (by decide) (fun zz => absurd zz (by decide)) (fun _ => ?_)
  refine aw_iload_n dX6_mostOf_4 rfl ?_
  refine aw_iconst (v := 2) dX6_mostOf_5 (by decide) ?_
  refine aw_icmp_ne (tgt := 15) dX6_mostOf_6 (by decide) (fun zz => absurd zz (by decide)) (fun _ => ?_)
  refine aw_sipush (v := 4095) dX6_mostOf_9 (by decide) ?_
  refine aw_goto (tgt := 48) dX6_mostOf_12 (by decide) ?_
  refine aw_ireturn (ty := .int) dX6_mostOf_48 rfl rfl ?_
  exact hQ _ rfl
theorem c_X6_mostOf3 {E : Ev} {d : Nat} {I : Mi} {L : Ml} {Z : Mz} {Q : Po}    (hQ : ∀ rv : Int32, rv = (11) → Q (some (.int rv)) I L Z) : AC E yX6_mostOf cX6_mostOf 1 (some .int) d 0 0 [.int 3] I L Z Q := by
  refine ac_go (ls := [some (.int 3)]) (by decide +kernel) (Nat.le_of_ble_eq_true rfl) rfl ?_
  refine aw_iload_n dX6_mostOf_0 rfl ?_
  refine aw_if_eq (tgt := 9) dX6_mostOf_1 (by decide) (fun zz => absurd zz (by decide)) (fun _ => ?_)
  refine aw_iload_n dX6_mostOf_4 rfl ?_
  refine aw_iconst (v := 2) dX6_mostOf_5 (by decide) ?_
  refine aw_icmp_ne (tgt := 15) dX6_mostOf_6 (by decide) (fun _ => ?_) (fun zz => absurd zz (by decide))
  refine aw_iload_n dX6_mostOf_15 rfl ?_
  refine aw_iconst (v := 1) dX6_mostOf_16 (by decide) ?_
  refine aw_icmp_ne (tgt := 26) dX6_mostOf_17 (by decide) (fun _ => ?_) (fun zz => absurd zz (by decide))
  refine aw_iload_n dX6_mostOf_26 rfl ?_
  refine aw_iconst (v := 3) dX6_mostOf_27 (by decide) ?_
  refine aw_icmp_ne (tgt := 36) dX6_mostOf_28 (by decide) (fun zz => absurd zz (by decide)) (fun _ => ?_)
  refine aw_bipush (v := 11) dX6_mostOf_31 (by decide) ?_
  refine aw_goto (tgt := 48) dX6_mostOf_33 (by decide) ?_
  refine aw_ireturn (ty := .int) dX6_mostOf_48 rfl rfl ?_
  exact hQ _ rfl
theorem c_X6_mostOf4 {E : Ev} {d : Nat} {I : Mi} {L : Ml} {Z : Mz} {Q : Po}    (hQ : ∀ rv : Int32, rv = (9) → Q (some (.int rv)) I L Z) : AC E yX6_mostOf cX6_mostOf 1 (some .int) d 0 0 [.int 4] I L Z Q := by
  refine ac_go (ls := [some (.int 4)]) (by decide +kernel) (Nat.le_of_ble_eq_true rfl) rfl ?_
  refine aw_iload_n dX6_mostOf_0 rfl ?_
  refine aw_if_eq (tgt := 9) dX6_mostOf_1 (by decide) (fun zz => absurd zz (by decide)) (fun _ => ?_)
  refine aw_iload_n dX6_mostOf_4 rfl ?_
  refine aw_iconst (v := 2) dX6_mostOf_5 (by decide) ?_
  refine aw_icmp_ne (tgt := 15) dX6_mostOf_6 (by decide) (fun _ => ?_) (fun zz => absurd zz (by decide))
  refine aw_iload_n dX6_mostOf_15 rfl ?_
  refine aw_iconst (v := 1) dX6_mostOf_16 (by decide) ?_
  refine aw_icmp_ne (tgt := 26) dX6_mostOf_17 (by decide) (fun _ => ?_) (fun zz => absurd zz (by decide))
  refine aw_iload_n dX6_mostOf_26 rfl ?_
  refine aw_iconst (v := 3) dX6_mostOf_27 (by decide) ?_
  refine aw_icmp_ne (tgt := 36) dX6_mostOf_28 (by decide) (fun _ => ?_) (fun zz => absurd zz (by decide))
  refine aw_iload_n dX6_mostOf_36 rfl ?_
  refine aw_iconst (v := 4) dX6_mostOf_37 (by decide) ?_
  refine aw_icmp_ne (tgt := 46) dX6_mostOf_38 (by decide) (fun zz => absurd zz (by decide)) (fun _ => ?_)
  refine aw_bipush (v := 9) dX6_mostOf_41 (by decide) ?_
  refine aw_goto (tgt := 48) dX6_mostOf_43 (by decide) ?_
  refine aw_ireturn (ty := .int) dX6_mostOf_48 rfl rfl ?_
  exact hQ _ rfl
theorem c_X6_mostOf5 {E : Ev} {d : Nat} {I : Mi} {L : Ml} {Z : Mz} {Q : Po}    (hQ : ∀ rv : Int32, rv = (99) → Q (some (.int rv)) I L Z) : AC E yX6_mostOf cX6_mostOf 1 (some .int) d 0 0 [.int 5] I L Z Q := by
  refine ac_go (ls := [some (.int 5)]) (by decide +kernel) (Nat.le_of_ble_eq_true rfl) rfl ?_
  refine aw_iload_n dX6_mostOf_0 rfl ?_
  refine aw_if_eq (tgt := 9) dX6_mostOf_1 (by decide) (fun zz => absurd zz (by decide)) (fun _ => ?_)
  refine aw_iload_n dX6_mostOf_4 rfl ?_
  refine aw_iconst (v := 2) dX6_mostOf_5 (by decide) ?_
  refine aw_icmp_ne (tgt := 15) dX6_mostOf_6 (by decide) (fun _ => ?_) (fun zz => absurd zz (by decide))
  refine aw_iload_n dX6_mostOf_15 rfl ?_
  refine aw_iconst (v := 1) dX6_mostOf_16 (by decide) ?_
  refine aw_icmp_ne (tgt := 26) dX6_mostOf_17 (by decide) (fun _ => ?_) (fun zz => absurd zz (by decide))
  refine aw_iload_n dX6_mostOf_26 rfl ?_
  refine aw_iconst (v := 3) dX6_mostOf_27 (by decide) ?_
  refine aw_icmp_ne (tgt := 36) dX6_mostOf_28 (by decide) (fun _ => ?_) (fun zz => absurd zz (by decide))
  refine aw_iload_n dX6_mostOf_36 rfl ?_
  refine aw_iconst (v := 4) dX6_mostOf_37 (by decide) ?_
  refine aw_icmp_ne (tgt := 46) dX6_mostOf_38 (by decide) (fun _ => ?_) (fun zz => absurd zz (by decide))
  refine aw_bipush (v := 99) dX6_mostOf_46 (by decide) ?_
  refine aw_ireturn (ty := .int) dX6_mostOf_48 rfl rfl ?_
  exact hQ _ rfl
theorem c_X6_told0 {E : Ev} {d : Nat} {I : Mi} {L : Ml} {Z : Mz} {Q : Po} {x : Int32}  (hd : 3 ≤ d) (hM : MZ Z) (hS : Q (some (.int (I 48 7))) I L Z) : AC E yX6_told cX6_told 3 (some .int) d 0 0 [.ref 48, .int x, .int 0] I L Z Q := by
  refine ac_go (ls := [some (.ref 48), some (.int x), some (.int 0)]) (by decide +kernel) (Nat.le_of_ble_eq_true rfl) rfl ?_
  refine aw_iload_n dX6_told_0 rfl ?_
  refine aw_i2l dX6_told_1 ?_
  refine aw_lconst (v := 0) dX6_told_2 (by decide) ?_
  refine aw_ldc2 dX6_told_3 kw_X6_128 ?_
  refine aw_S3 dX6_told_6 cw_X6_73 (by omega) ⟨Nat.le_refl _, Nat.le_refl _⟩ (by decide) (c_X6_in (x := 0) (a := 0) (b := 9) rfl (by decide) (by decide) (fun c6 => ?_) (fun zz => absurd (by decide) zz))
  refine aw_if_eq (tgt := 21) dX6_told_9 (by decide) (fun zz => absurd zz (by decide)) (fun _ => ?_)
  refine aw_aload_n dX6_told_12 rfl rfl ?_
  refine aw_iload_n dX6_told_13 rfl ?_
  refine aw_iload_n dX6_told_14 rfl ?_
  refine aw_V2 dX6_told_15 cw_X6_94 ⟨_, _, rfl⟩ hM.1 (by omega) ⟨Nat.le_refl _, Nat.le_refl _⟩ (by decide) (c_X6_isOf0 (by omega) hM (fun c15 => ?_) (fun zz => absurd trivial zz))
  refine aw_if_ne (tgt := 24) dX6_told_18 (by decide) (fun _ => ?_) (fun zz => absurd zz (by decide))
  refine aw_iload_n dX6_told_24 rfl ?_
  refine aw_iconst (v := 4) dX6_told_25 (by decide) ?_
  refine aw_icmp_ge (tgt := 65) dX6_told_26 (by decide) (fun zz => absurd zz (by decide)) (fun _ => ?_)
  refine aw_iload_n dX6_told_29 rfl ?_
  refine aw_if_ne (tgt := 40) dX6_told_30 (by decide) (fun zz => absurd zz (by decide)) (fun _ => ?_)
  refine aw_aload_n dX6_told_33 rfl rfl ?_
  refine aw_gi dX6_told_34 fw_X6_110 hM.1 ?_
  refine aw_goto (tgt := 64) dX6_told_37 (by decide) ?_
  refine aw_ireturn (ty := .int) dX6_told_64 rfl rfl ?_
  exact hS
theorem c_X6_told1 {E : Ev} {d : Nat} {I : Mi} {L : Ml} {Z : Mz} {Q : Po} {x : Int32}  (hd : 3 ≤ d) (hM : MZ Z) (hS : Q (some (.int (I 48 8))) I L Z) : AC E yX6_told cX6_told 3 (some .int) d 0 0 [.ref 48, .int x, .int 1] I L Z Q := by
  refine ac_go (ls := [some (.ref 48), some (.int x), some (.int 1)]) (by decide +kernel) (Nat.le_of_ble_eq_true rfl) rfl ?_
  refine aw_iload_n dX6_told_0 rfl ?_
  refine aw_i2l dX6_told_1 ?_
  refine aw_lconst (v := 0) dX6_told_2 (by decide) ?_
  refine aw_ldc2 dX6_told_3 kw_X6_128 ?_
  refine aw_S3 dX6_told_6 cw_X6_73 (by omega) ⟨Nat.le_refl _, Nat.le_refl _⟩ (by decide) (c_X6_in (x := 1) (a := 0) (b := 9) rfl (by decide) (by decide) (fun c6 => ?_) (fun zz => absurd (by decide) zz))
  refine aw_if_eq (tgt := 21) dX6_told_9 (by decide) (fun zz => absurd zz (by decide)) (fun _ => ?_)
  refine aw_aload_n dX6_told_12 rfl rfl ?_
  refine aw_iload_n dX6_told_13 rfl ?_
  refine aw_iload_n dX6_told_14 rfl ?_
  refine aw_V2 dX6_told_15 cw_X6_94 ⟨_, _, rfl⟩ hM.1 (by omega) ⟨Nat.le_refl _, Nat.le_refl _⟩ (by decide) (c_X6_isOf1 (by omega) hM (fun c15 => ?_) (fun zz => absurd trivial zz))
  refine aw_if_ne (tgt := 24) dX6_told_18 (by decide) (fun _ => ?_) (fun zz => absurd zz (by decide))
  refine aw_iload_n dX6_told_24 rfl ?_
  refine aw_iconst (v := 4) dX6_told_25 (by decide) ?_
  refine aw_icmp_ge (tgt := 65) dX6_told_26 (by decide) (fun zz => absurd zz (by decide)) (fun _ => ?_)
  refine aw_iload_n dX6_told_29 rfl ?_
  refine aw_if_ne (tgt := 40) dX6_told_30 (by decide) (fun _ => ?_) (fun zz => absurd zz (by decide))
  refine aw_iload_n dX6_told_40 rfl ?_
  refine aw_iconst (v := 1) dX6_told_41 (by decide) ?_
  refine aw_icmp_ne (tgt := 52) dX6_told_42 (by decide) (fun zz => absurd zz (by decide)) (fun _ => ?_)
  refine aw_aload_n dX6_told_45 rfl rfl ?_
  refine aw_gi dX6_told_46 fw_X6_113 hM.1 ?_
  refine aw_goto (tgt := 64) dX6_told_49 (by decide) ?_
  refine aw_ireturn (ty := .int) dX6_told_64 rfl rfl ?_
  exact hS
theorem c_X6_told2 {E : Ev} {d : Nat} {I : Mi} {L : Ml} {Z : Mz} {Q : Po} {x : Int32} {n : Nat} (hd : 3 ≤ d) (hM : MZ Z) (hn : I 48 10 = nI n) (hl : n ≤ 6) (hB : (¬ ∃ j, j < n ∧ x = nI j) → Q (some (.int (-2))) I L Z) (hS : ∀ j, j < n → x = nI j → Q (some (.int (I 52 (2 * j)))) I L Z) : AC E yX6_told cX6_told 3 (some .int) d 0 0 [.ref 48, .int x, .int 2] I L Z Q := by
  refine ac_go (ls := [some (.ref 48), some (.int x), some (.int 2)]) (by decide +kernel) (Nat.le_of_ble_eq_true rfl) rfl ?_
  refine aw_iload_n dX6_told_0 rfl ?_
  refine aw_i2l dX6_told_1 ?_
  refine aw_lconst (v := 0) dX6_told_2 (by decide) ?_
  refine aw_ldc2 dX6_told_3 kw_X6_128 ?_
  refine aw_S3 dX6_told_6 cw_X6_73 (by omega) ⟨Nat.le_refl _, Nat.le_refl _⟩ (by decide) (c_X6_in (x := 2) (a := 0) (b := 9) rfl (by decide) (by decide) (fun c6 => ?_) (fun zz => absurd (by decide) zz))
  refine aw_if_eq (tgt := 21) dX6_told_9 (by decide) (fun zz => absurd zz (by decide)) (fun _ => ?_)
  refine aw_aload_n dX6_told_12 rfl rfl ?_
  refine aw_iload_n dX6_told_13 rfl ?_
  refine aw_iload_n dX6_told_14 rfl ?_
  refine aw_V2 dX6_told_15 cw_X6_94 ⟨_, _, rfl⟩ hM.1 (by omega) ⟨Nat.le_refl _, Nat.le_refl _⟩ (by decide) (c_X6_isOf2 (by omega) hM hn hl (fun c15 => ?_) (fun c15 => ?_))
  · refine aw_if_ne (tgt := 24) dX6_told_18 (by decide) (fun _ => ?_) (fun zz => absurd zz (by decide))
    obtain ⟨j, hj, rfl⟩ := c15
    refine aw_iload_n dX6_told_24 rfl ?_
    refine aw_iconst (v := 4) dX6_told_25 (by decide) ?_
    refine aw_icmp_ge (tgt := 65) dX6_told_26 (by decide) (fun zz => absurd zz (by decide)) (fun _ => ?_)
    refine aw_iload_n dX6_told_29 rfl ?_
    refine aw_if_ne (tgt := 40) dX6_told_30 (by decide) (fun _ => ?_) (fun zz => absurd zz (by decide))
    refine aw_iload_n dX6_told_40 rfl ?_
    refine aw_iconst (v := 1) dX6_told_41 (by decide) ?_
    refine aw_icmp_ne (tgt := 52) dX6_told_42 (by decide) (fun _ => ?_) (fun zz => absurd zz (by decide))
    refine aw_aload_n dX6_told_52 rfl rfl ?_
    refine aw_gr dX6_told_53 fw_X6_23 hM.1 hM.2.2.2.2.2.2.2.1 ?_
    refine aw_iconst (v := 2) dX6_told_56 (by decide) ?_
    refine aw_iload_n dX6_told_57 rfl ?_
    refine aw_imul dX6_told_58 ?_
    refine aw_iload_n dX6_told_59 rfl ?_
    refine aw_iadd dX6_told_60 ?_
    refine aw_iconst (v := 2) dX6_told_61 (by decide) ?_
    refine aw_isub dX6_told_62 ?_
    refine aw_ia (2 * j) dX6_told_63 hM.2.2.2.2.2.2.2.2.1 (ix2 j 2 2 _ (by omega)) (by omega) (by decide) ?_
    refine aw_ireturn (ty := .int) dX6_told_64 rfl rfl ?_
    exact hS j hj rfl
  · refine aw_if_ne (tgt := 24) dX6_told_18 (by decide) (fun zz => absurd zz (by decide)) (fun _ => ?_)
    refine aw_bipush (v := -2) dX6_told_21 (by decide) ?_
    refine aw_ireturn (ty := .int) dX6_told_23 rfl rfl ?_
    exact hB c15
theorem c_X6_told3 {E : Ev} {d : Nat} {I : Mi} {L : Ml} {Z : Mz} {Q : Po} {x : Int32} {n : Nat} (hd : 3 ≤ d) (hM : MZ Z) (hn : I 48 10 = nI n) (hl : n ≤ 6) (hB : (¬ ∃ j, j < n ∧ x = nI j) → Q (some (.int (-2))) I L Z) (hS : ∀ j, j < n → x = nI j → Q (some (.int (I 52 (2 * j + 1)))) I L Z) : AC E yX6_told cX6_told 3 (some .int) d 0 0 [.ref 48, .int x, .int 3] I L Z Q := by
  refine ac_go (ls := [some (.ref 48), some (.int x), some (.int 3)]) (by decide +kernel) (Nat.le_of_ble_eq_true rfl) rfl ?_
  refine aw_iload_n dX6_told_0 rfl ?_
  refine aw_i2l dX6_told_1 ?_
  refine aw_lconst (v := 0) dX6_told_2 (by decide) ?_
  refine aw_ldc2 dX6_told_3 kw_X6_128 ?_
  refine aw_S3 dX6_told_6 cw_X6_73 (by omega) ⟨Nat.le_refl _, Nat.le_refl _⟩ (by decide) (c_X6_in (x := 3) (a := 0) (b := 9) rfl (by decide) (by decide) (fun c6 => ?_) (fun zz => absurd (by decide) zz))
  refine aw_if_eq (tgt := 21) dX6_told_9 (by decide) (fun zz => absurd zz (by decide)) (fun _ => ?_)
  refine aw_aload_n dX6_told_12 rfl rfl ?_
  refine aw_iload_n dX6_told_13 rfl ?_
  refine aw_iload_n dX6_told_14 rfl ?_
  refine aw_V2 dX6_told_15 cw_X6_94 ⟨_, _, rfl⟩ hM.1 (by omega) ⟨Nat.le_refl _, Nat.le_refl _⟩ (by decide) (c_X6_isOf3 (by omega) hM hn hl (fun c15 => ?_) (fun c15 => ?_))
  · refine aw_if_ne (tgt := 24) dX6_told_18 (by decide) (fun _ => ?_) (fun zz => absurd zz (by decide))
    obtain ⟨j, hj, rfl⟩ := c15
    refine aw_iload_n dX6_told_24 rfl ?_
    refine aw_iconst (v := 4) dX6_told_25 (by decide) ?_
    refine aw_icmp_ge (tgt := 65) dX6_told_26 (by decide) (fun zz => absurd zz (by decide)) (fun _ => ?_)
    refine aw_iload_n dX6_told_29 rfl ?_
    refine aw_if_ne (tgt := 40) dX6_told_30 (by decide) (fun _ => ?_) (fun zz => absurd zz (by decide))
    refine aw_iload_n dX6_told_40 rfl ?_
    refine aw_iconst (v := 1) dX6_told_41 (by decide) ?_
    refine aw_icmp_ne (tgt := 52) dX6_told_42 (by decide) (fun _ => ?_) (fun zz => absurd zz (by decide))
    refine aw_aload_n dX6_told_52 rfl rfl ?_
    refine aw_gr dX6_told_53 fw_X6_23 hM.1 hM.2.2.2.2.2.2.2.1 ?_
    refine aw_iconst (v := 2) dX6_told_56 (by decide) ?_
    refine aw_iload_n dX6_told_57 rfl ?_
    refine aw_imul dX6_told_58 ?_
    refine aw_iload_n dX6_told_59 rfl ?_
    refine aw_iadd dX6_told_60 ?_
    refine aw_iconst (v := 2) dX6_told_61 (by decide) ?_
    refine aw_isub dX6_told_62 ?_
    refine aw_ia (2 * j + 1) dX6_told_63 hM.2.2.2.2.2.2.2.2.1 (ix2 j 3 2 _ (by omega)) (by omega) (by decide) ?_
    refine aw_ireturn (ty := .int) dX6_told_64 rfl rfl ?_
    exact hS j hj rfl
  · refine aw_if_ne (tgt := 24) dX6_told_18 (by decide) (fun zz => absurd zz (by decide)) (fun _ => ?_)
    refine aw_bipush (v := -2) dX6_told_21 (by decide) ?_
    refine aw_ireturn (ty := .int) dX6_told_23 rfl rfl ?_
    exact hB c15
theorem c_X6_told4 {E : Ev} {d : Nat} {I : Mi} {L : Ml} {Z : Mz} {Q : Po} {x : Int32} {n : Nat} (hd : 3 ≤ d) (hM : MZ Z) (hn : I 48 15 = nI n) (hl : n ≤ 5) (hB : (¬ ∃ j, j < n ∧ x = nI j) → Q (some (.int (-2))) I L Z) (hS : ∀ j, j < n → x = nI j → Q (some (.int (I 55 (2 * j)))) I L Z) : AC E yX6_told cX6_told 3 (some .int) d 0 0 [.ref 48, .int x, .int 4] I L Z Q := by
  refine ac_go (ls := [some (.ref 48), some (.int x), some (.int 4)]) (by decide +kernel) (Nat.le_of_ble_eq_true rfl) rfl ?_
  refine aw_iload_n dX6_told_0 rfl ?_
  refine aw_i2l dX6_told_1 ?_
  refine aw_lconst (v := 0) dX6_told_2 (by decide) ?_
  refine aw_ldc2 dX6_told_3 kw_X6_128 ?_
  refine aw_S3 dX6_told_6 cw_X6_73 (by omega) ⟨Nat.le_refl _, Nat.le_refl _⟩ (by decide) (c_X6_in (x := 4) (a := 0) (b := 9) rfl (by decide) (by decide) (fun c6 => ?_) (fun zz => absurd (by decide) zz))
  refine aw_if_eq (tgt := 21) dX6_told_9 (by decide) (fun zz => absurd zz (by decide)) (fun _ => ?_)
  refine aw_aload_n dX6_told_12 rfl rfl ?_
  refine aw_iload_n dX6_told_13 rfl ?_
  refine aw_iload_n dX6_told_14 rfl ?_
  refine aw_V2 dX6_told_15 cw_X6_94 ⟨_, _, rfl⟩ hM.1 (by omega) ⟨Nat.le_refl _, Nat.le_refl _⟩ (by decide) (c_X6_isOf4 (by omega) hM hn hl (fun c15 => ?_) (fun c15 => ?_))
  · refine aw_if_ne (tgt := 24) dX6_told_18 (by decide) (fun _ => ?_) (fun zz => absurd zz (by decide))
    obtain ⟨j, hj, rfl⟩ := c15
    refine aw_iload_n dX6_told_24 rfl ?_
    refine aw_iconst (v := 4) dX6_told_25 (by decide) ?_
    refine aw_icmp_ge (tgt := 65) dX6_told_26 (by decide) (fun _ => ?_) (fun zz => absurd zz (by decide))
    refine aw_iload_n dX6_told_65 rfl ?_
    refine aw_bipush (v := 7) dX6_told_66 (by decide) ?_
    refine aw_icmp_ge (tgt := 99) dX6_told_68 (by decide) (fun zz => absurd zz (by decide)) (fun _ => ?_)
    refine aw_iload_n dX6_told_71 rfl ?_
    refine aw_bipush (v := 6) dX6_told_72 (by decide) ?_
    refine aw_icmp_ge (tgt := 92) dX6_told_74 (by decide) (fun zz => absurd zz (by decide)) (fun _ => ?_)
    refine aw_aload_n dX6_told_77 rfl rfl ?_
    refine aw_gr dX6_told_78 fw_X6_32 hM.1 hM.2.2.2.2.2.2.2.2.2.2.2.2.2.1 ?_
    refine aw_iconst (v := 2) dX6_told_81 (by decide) ?_
    refine aw_iload_n dX6_told_82 rfl ?_
    refine aw_imul dX6_told_83 ?_
    refine aw_iload_n dX6_told_84 rfl ?_
    refine aw_iadd dX6_told_85 ?_
    refine aw_iconst (v := 4) dX6_told_86 (by decide) ?_
    refine aw_isub dX6_told_87 ?_
    refine aw_ia (2 * j) dX6_told_88 hM.2.2.2.2.2.2.2.2.2.2.2.2.2.2.1 (ix2 j 4 4 _ (by omega)) (by omega) (by decide) ?_
    refine aw_goto (tgt := 98) dX6_told_89 (by decide) ?_
    refine aw_ireturn (ty := .int) dX6_told_98 rfl rfl ?_
    exact hS j hj rfl
  · refine aw_if_ne (tgt := 24) dX6_told_18 (by decide) (fun zz => absurd zz (by decide)) (fun _ => ?_)
    refine aw_bipush (v := -2) dX6_told_21 (by decide) ?_
    refine aw_ireturn (ty := .int) dX6_told_23 rfl rfl ?_
    exact hB c15
theorem c_X6_told5 {E : Ev} {d : Nat} {I : Mi} {L : Ml} {Z : Mz} {Q : Po} {x : Int32} {n : Nat} (hd : 3 ≤ d) (hM : MZ Z) (hn : I 48 15 = nI n) (hl : n ≤ 5) (hB : (¬ ∃ j, j < n ∧ x = nI j) → Q (some (.int (-2))) I L Z) (hS : ∀ j, j < n → x = nI j → Q (some (.int (I 55 (2 * j + 1)))) I L Z) : AC E yX6_told cX6_told 3 (some .int) d 0 0 [.ref 48, .int x, .int 5] I L Z Q := by
  refine ac_go (ls := [some (.ref 48), some (.int x), some (.int 5)]) (by decide +kernel) (Nat.le_of_ble_eq_true rfl) rfl ?_
  refine aw_iload_n dX6_told_0 rfl ?_
  refine aw_i2l dX6_told_1 ?_
  refine aw_lconst (v := 0) dX6_told_2 (by decide) ?_
  refine aw_ldc2 dX6_told_3 kw_X6_128 ?_
  refine aw_S3 dX6_told_6 cw_X6_73 (by omega) ⟨Nat.le_refl _, Nat.le_refl _⟩ (by decide) (c_X6_in (x := 5) (a := 0) (b := 9) rfl (by decide) (by decide) (fun c6 => ?_) (fun zz => absurd (by decide) zz))
  refine aw_if_eq (tgt := 21) dX6_told_9 (by decide) (fun zz => absurd zz (by decide)) (fun _ => ?_)
  refine aw_aload_n dX6_told_12 rfl rfl ?_
  refine aw_iload_n dX6_told_13 rfl ?_
  refine aw_iload_n dX6_told_14 rfl ?_
  refine aw_V2 dX6_told_15 cw_X6_94 ⟨_, _, rfl⟩ hM.1 (by omega) ⟨Nat.le_refl _, Nat.le_refl _⟩ (by decide) (c_X6_isOf5 (by omega) hM hn hl (fun c15 => ?_) (fun c15 => ?_))
  · refine aw_if_ne (tgt := 24) dX6_told_18 (by decide) (fun _ => ?_) (fun zz => absurd zz (by decide))
    obtain ⟨j, hj, rfl⟩ := c15
    refine aw_iload_n dX6_told_24 rfl ?_
    refine aw_iconst (v := 4) dX6_told_25 (by decide) ?_
    refine aw_icmp_ge (tgt := 65) dX6_told_26 (by decide) (fun _ => ?_) (fun zz => absurd zz (by decide))
    refine aw_iload_n dX6_told_65 rfl ?_
    refine aw_bipush (v := 7) dX6_told_66 (by decide) ?_
    refine aw_icmp_ge (tgt := 99) dX6_told_68 (by decide) (fun zz => absurd zz (by decide)) (fun _ => ?_)
    refine aw_iload_n dX6_told_71 rfl ?_
    refine aw_bipush (v := 6) dX6_told_72 (by decide) ?_
    refine aw_icmp_ge (tgt := 92) dX6_told_74 (by decide) (fun zz => absurd zz (by decide)) (fun _ => ?_)
    refine aw_aload_n dX6_told_77 rfl rfl ?_
    refine aw_gr dX6_told_78 fw_X6_32 hM.1 hM.2.2.2.2.2.2.2.2.2.2.2.2.2.1 ?_
    refine aw_iconst (v := 2) dX6_told_81 (by decide) ?_
    refine aw_iload_n dX6_told_82 rfl ?_
    refine aw_imul dX6_told_83 ?_
    refine aw_iload_n dX6_told_84 rfl ?_
    refine aw_iadd dX6_told_85 ?_
    refine aw_iconst (v := 4) dX6_told_86 (by decide) ?_
    refine aw_isub dX6_told_87 ?_
    refine aw_ia (2 * j + 1) dX6_told_88 hM.2.2.2.2.2.2.2.2.2.2.2.2.2.2.1 (ix2 j 5 4 _ (by omega)) (by omega) (by decide) ?_
    refine aw_goto (tgt := 98) dX6_told_89 (by decide) ?_
    refine aw_ireturn (ty := .int) dX6_told_98 rfl rfl ?_
    exact hS j hj rfl
  · refine aw_if_ne (tgt := 24) dX6_told_18 (by decide) (fun zz => absurd zz (by decide)) (fun _ => ?_)
    refine aw_bipush (v := -2) dX6_told_21 (by decide) ?_
    refine aw_ireturn (ty := .int) dX6_told_23 rfl rfl ?_
    exact hB c15
theorem c_X6_told6 {E : Ev} {d : Nat} {I : Mi} {L : Ml} {Z : Mz} {Q : Po} {x : Int32} {n : Nat} (hd : 3 ≤ d) (hM : MZ Z) (hn : I 48 15 = nI n) (hl : n ≤ 5) (hB : (¬ ∃ j, j < n ∧ x = nI j) → Q (some (.int (-2))) I L Z) (hS : ∀ j, j < n → x = nI j → Q (some (.int (I 54 j))) I L Z) : AC E yX6_told cX6_told 3 (some .int) d 0 0 [.ref 48, .int x, .int 6] I L Z Q := by
  refine ac_go (ls := [some (.ref 48), some (.int x), some (.int 6)]) (by decide +kernel) (Nat.le_of_ble_eq_true rfl) rfl ?_
  refine aw_iload_n dX6_told_0 rfl ?_
  refine aw_i2l dX6_told_1 ?_
  refine aw_lconst (v := 0) dX6_told_2 (by decide) ?_
  refine aw_ldc2 dX6_told_3 kw_X6_128 ?_
  refine aw_S3 dX6_told_6 cw_X6_73 (by omega) ⟨Nat.le_refl _, Nat.le_refl _⟩ (by decide) (c_X6_in (x := 6) (a := 0) (b := 9) rfl (by decide) (by decide) (fun c6 => ?_) (fun zz => absurd (by decide) zz))
  refine aw_if_eq (tgt := 21) dX6_told_9 (by decide) (fun zz => absurd zz (by decide)) (fun _ => ?_)
  refine aw_aload_n dX6_told_12 rfl rfl ?_
  refine aw_iload_n dX6_told_13 rfl ?_
  refine aw_iload_n dX6_told_14 rfl ?_
  refine aw_V2 dX6_told_15 cw_X6_94 ⟨_, _, rfl⟩ hM.1 (by omega) ⟨Nat.le_refl _, Nat.le_refl _⟩ (by decide) (c_X6_isOf6 (by omega) hM hn hl (fun c15 => ?_) (fun c15 => ?_))
  · refine aw_if_ne (tgt := 24) dX6_told_18 (by decide) (fun _ => ?_) (fun zz => absurd zz (by decide))
    obtain ⟨j, hj, rfl⟩ := c15
    refine aw_iload_n dX6_told_24 rfl ?_
    refine aw_iconst (v := 4) dX6_told_25 (by decide) ?_
    refine aw_icmp_ge (tgt := 65) dX6_told_26 (by decide) (fun _ => ?_) (fun zz => absurd zz (by decide))
    refine aw_iload_n dX6_told_65 rfl ?_
    refine aw_bipush (v := 7) dX6_told_66 (by decide) ?_
    refine aw_icmp_ge (tgt := 99) dX6_told_68 (by decide) (fun zz => absurd zz (by decide)) (fun _ => ?_)
    refine aw_iload_n dX6_told_71 rfl ?_
    refine aw_bipush (v := 6) dX6_told_72 (by decide) ?_
    refine aw_icmp_ge (tgt := 92) dX6_told_74 (by decide) (fun _ => ?_) (fun zz => absurd zz (by decide))
    refine aw_aload_n dX6_told_92 rfl rfl ?_
    refine aw_gr dX6_told_93 fw_X6_29 hM.1 hM.2.2.2.2.2.2.2.2.2.2.2.1 ?_
    refine aw_iload_n dX6_told_96 rfl ?_
    refine aw_ia j dX6_told_97 hM.2.2.2.2.2.2.2.2.2.2.2.2.1 rfl (by omega) (by decide) ?_
    refine aw_ireturn (ty := .int) dX6_told_98 rfl rfl ?_
    exact hS j hj rfl
  · refine aw_if_ne (tgt := 24) dX6_told_18 (by decide) (fun zz => absurd zz (by decide)) (fun _ => ?_)
    refine aw_bipush (v := -2) dX6_told_21 (by decide) ?_
    refine aw_ireturn (ty := .int) dX6_told_23 rfl rfl ?_
    exact hB c15
theorem c_X6_told8 {E : Ev} {d : Nat} {I : Mi} {L : Ml} {Z : Mz} {Q : Po} {x : Int32} {n : Nat} (hd : 3 ≤ d) (hM : MZ Z) (hn : I 48 12 = nI n) (hl : n ≤ 12) (hB : (¬ ∃ j, j < n ∧ x = nI j) → Q (some (.int (-2))) I L Z) (hS : ∀ j, j < n → x = nI j → Q (some (.int (I 53 (2 * j)))) I L Z) : AC E yX6_told cX6_told 3 (some .int) d 0 0 [.ref 48, .int x, .int 8] I L Z Q := by
  refine ac_go (ls := [some (.ref 48), some (.int x), some (.int 8)]) (by decide +kernel) (Nat.le_of_ble_eq_true rfl) rfl ?_
  refine aw_iload_n dX6_told_0 rfl ?_
  refine aw_i2l dX6_told_1 ?_
  refine aw_lconst (v := 0) dX6_told_2 (by decide) ?_
  refine aw_ldc2 dX6_told_3 kw_X6_128 ?_
  refine aw_S3 dX6_told_6 cw_X6_73 (by omega) ⟨Nat.le_refl _, Nat.le_refl _⟩ (by decide) (c_X6_in (x := 8) (a := 0) (b := 9) rfl (by decide) (by decide) (fun c6 => ?_) (fun zz => absurd (by decide) zz))
  refine aw_if_eq (tgt := 21) dX6_told_9 (by decide) (fun zz => absurd zz (by decide)) (fun _ => ?_)
  refine aw_aload_n dX6_told_12 rfl rfl ?_
  refine aw_iload_n dX6_told_13 rfl ?_
  refine aw_iload_n dX6_told_14 rfl ?_
  refine aw_V2 dX6_told_15 cw_X6_94 ⟨_, _, rfl⟩ hM.1 (by omega) ⟨Nat.le_refl _, Nat.le_refl _⟩ (by decide) (c_X6_isOf8 (by omega) hM hn hl (fun c15 => ?_) (fun c15 => ?_))
  · refine aw_if_ne (tgt := 24) dX6_told_18 (by decide) (fun _ => ?_) (fun zz => absurd zz (by decide))
    obtain ⟨j, hj, rfl⟩ := c15
    refine aw_iload_n dX6_told_24 rfl ?_
    refine aw_iconst (v := 4) dX6_told_25 (by decide) ?_
    refine aw_icmp_ge (tgt := 65) dX6_told_26 (by decide) (fun _ => ?_) (fun zz => absurd zz (by decide))
    refine aw_iload_n dX6_told_65 rfl ?_
    refine aw_bipush (v := 7) dX6_told_66 (by decide) ?_
    refine aw_icmp_ge (tgt := 99) dX6_told_68 (by decide) (fun _ => ?_) (fun zz => absurd zz (by decide))
    refine aw_iload_n dX6_told_99 rfl ?_
    refine aw_bipush (v := 7) dX6_told_100 (by decide) ?_
    refine aw_icmp_ne (tgt := 121) dX6_told_102 (by decide) (fun _ => ?_) (fun zz => absurd zz (by decide))
    refine aw_aload_n dX6_told_121 rfl rfl ?_
    refine aw_gr dX6_told_122 fw_X6_26 hM.1 hM.2.2.2.2.2.2.2.2.2.1 ?_
    refine aw_iconst (v := 2) dX6_told_125 (by decide) ?_
    refine aw_iload_n dX6_told_126 rfl ?_
    refine aw_imul dX6_told_127 ?_
    refine aw_iload_n dX6_told_128 rfl ?_
    refine aw_iadd dX6_told_129 ?_
    refine aw_bipush (v := 8) dX6_told_130 (by decide) ?_
    refine aw_isub dX6_told_132 ?_
    refine aw_ia (2 * j) dX6_told_133 hM.2.2.2.2.2.2.2.2.2.2.1 (ix2 j 8 8 _ (by omega)) (by omega) (by decide) ?_
    refine aw_ireturn (ty := .int) dX6_told_134 rfl rfl ?_
    exact hS j hj rfl
  · refine aw_if_ne (tgt := 24) dX6_told_18 (by decide) (fun zz => absurd zz (by decide)) (fun _ => ?_)
    refine aw_bipush (v := -2) dX6_told_21 (by decide) ?_
    refine aw_ireturn (ty := .int) dX6_told_23 rfl rfl ?_
    exact hB c15
theorem c_X6_told9 {E : Ev} {d : Nat} {I : Mi} {L : Ml} {Z : Mz} {Q : Po} {x : Int32} {n : Nat} (hd : 3 ≤ d) (hM : MZ Z) (hn : I 48 12 = nI n) (hl : n ≤ 12) (hB : (¬ ∃ j, j < n ∧ x = nI j) → Q (some (.int (-2))) I L Z) (hS : ∀ j, j < n → x = nI j → Q (some (.int (I 53 (2 * j + 1)))) I L Z) : AC E yX6_told cX6_told 3 (some .int) d 0 0 [.ref 48, .int x, .int 9] I L Z Q := by
  refine ac_go (ls := [some (.ref 48), some (.int x), some (.int 9)]) (by decide +kernel) (Nat.le_of_ble_eq_true rfl) rfl ?_
  refine aw_iload_n dX6_told_0 rfl ?_
  refine aw_i2l dX6_told_1 ?_
  refine aw_lconst (v := 0) dX6_told_2 (by decide) ?_
  refine aw_ldc2 dX6_told_3 kw_X6_128 ?_
  refine aw_S3 dX6_told_6 cw_X6_73 (by omega) ⟨Nat.le_refl _, Nat.le_refl _⟩ (by decide) (c_X6_in (x := 9) (a := 0) (b := 9) rfl (by decide) (by decide) (fun c6 => ?_) (fun zz => absurd (by decide) zz))
  refine aw_if_eq (tgt := 21) dX6_told_9 (by decide) (fun zz => absurd zz (by decide)) (fun _ => ?_)
  refine aw_aload_n dX6_told_12 rfl rfl ?_
  refine aw_iload_n dX6_told_13 rfl ?_
  refine aw_iload_n dX6_told_14 rfl ?_
  refine aw_V2 dX6_told_15 cw_X6_94 ⟨_, _, rfl⟩ hM.1 (by omega) ⟨Nat.le_refl _, Nat.le_refl _⟩ (by decide) (c_X6_isOf9 (by omega) hM hn hl (fun c15 => ?_) (fun c15 => ?_))
  · refine aw_if_ne (tgt := 24) dX6_told_18 (by decide) (fun _ => ?_) (fun zz => absurd zz (by decide))
    obtain ⟨j, hj, rfl⟩ := c15
    refine aw_iload_n dX6_told_24 rfl ?_
    refine aw_iconst (v := 4) dX6_told_25 (by decide) ?_
    refine aw_icmp_ge (tgt := 65) dX6_told_26 (by decide) (fun _ => ?_) (fun zz => absurd zz (by decide))
    refine aw_iload_n dX6_told_65 rfl ?_
    refine aw_bipush (v := 7) dX6_told_66 (by decide) ?_
    refine aw_icmp_ge (tgt := 99) dX6_told_68 (by decide) (fun _ => ?_) (fun zz => absurd zz (by decide))
    refine aw_iload_n dX6_told_99 rfl ?_
    refine aw_bipush (v := 7) dX6_told_100 (by decide) ?_
    refine aw_icmp_ne (tgt := 121) dX6_told_102 (by decide) (fun _ => ?_) (fun zz => absurd zz (by decide))
    refine aw_aload_n dX6_told_121 rfl rfl ?_
    refine aw_gr dX6_told_122 fw_X6_26 hM.1 hM.2.2.2.2.2.2.2.2.2.1 ?_
    refine aw_iconst (v := 2) dX6_told_125 (by decide) ?_
    refine aw_iload_n dX6_told_126 rfl ?_
    refine aw_imul dX6_told_127 ?_
    refine aw_iload_n dX6_told_128 rfl ?_
    refine aw_iadd dX6_told_129 ?_
    refine aw_bipush (v := 8) dX6_told_130 (by decide) ?_
    refine aw_isub dX6_told_132 ?_
    refine aw_ia (2 * j + 1) dX6_told_133 hM.2.2.2.2.2.2.2.2.2.2.1 (ix2 j 9 8 _ (by omega)) (by omega) (by decide) ?_
    refine aw_ireturn (ty := .int) dX6_told_134 rfl rfl ?_
    exact hS j hj rfl
  · refine aw_if_ne (tgt := 24) dX6_told_18 (by decide) (fun zz => absurd zz (by decide)) (fun _ => ?_)
    refine aw_bipush (v := -2) dX6_told_21 (by decide) ?_
    refine aw_ireturn (ty := .int) dX6_told_23 rfl rfl ?_
    exact hB c15
theorem c_X6_toldX {E : Ev} {d : Nat} {I : Mi} {L : Ml} {Z : Mz} {Q : Po} {x : Int32} {w : Int32}  (hd : 3 ≤ d) (hM : MZ Z) (hw : ¬ (¬ w < 0 ∧ ¬ 9 < w)) (hB : Q (some (.int (-2))) I L Z) : AC E yX6_told cX6_told 3 (some .int) d 0 0 [.ref 48, .int x, .int w] I L Z Q := by
  refine ac_go (ls := [some (.ref 48), some (.int x), some (.int w)]) (by decide +kernel) (Nat.le_of_ble_eq_true rfl) rfl ?_
  refine aw_iload_n dX6_told_0 rfl ?_
  refine aw_i2l dX6_told_1 ?_
  refine aw_lconst (v := 0) dX6_told_2 (by decide) ?_
  refine aw_ldc2 dX6_told_3 kw_X6_128 ?_
  refine aw_S3 dX6_told_6 cw_X6_73 (by omega) ⟨Nat.le_refl _, Nat.le_refl _⟩ (by decide) (c_X6_in (x := w) (a := 0) (b := 9) rfl (by decide) (by decide) (fun zz => absurd zz hw) (fun c6 => ?_))
  refine aw_if_eq (tgt := 21) dX6_told_9 (by decide) (fun _ => ?_) (fun zz => absurd zz (by decide))
  refine aw_bipush (v := -2) dX6_told_21 (by decide) ?_
  refine aw_ireturn (ty := .int) dX6_told_23 rfl rfl ?_
  exact hB
theorem c_X6_lays0 {E : Ev} {d : Nat} {I : Mi} {L : Ml} {Z : Mz} {Q : Po} {x : Int32} {v : Int32}  (hM : MZ Z) (hQ : Q none (iU I 48 7 v) L Z) : AC E yX6_lays cX6_lays 4 none d 0 0 [.ref 48, .int 0, .int x, .int v] I L Z Q := by
  refine ac_go (ls := [some (.ref 48), some (.int 0), some (.int x), some (.int v)]) (by decide +kernel) (Nat.le_of_ble_eq_true rfl) rfl ?_
  refine aw_iload_n dX6_lays_0 rfl ?_
  refine aw_iconst (v := 2) dX6_lays_1 (by decide) ?_
  refine aw_icmp_ge (tgt := 41) dX6_lays_2 (by decide) (fun zz => absurd zz (by decide)) (fun _ => ?_)
  refine aw_aload_n dX6_lays_5 rfl rfl ?_
  refine aw_iload_n dX6_lays_6 rfl ?_
  refine aw_if_ne (tgt := 14) dX6_lays_7 (by decide) (fun zz => absurd zz (by decide)) (fun _ => ?_)
  refine aw_iload_n dX6_lays_10 rfl ?_
  refine aw_goto (tgt := 18) dX6_lays_11 (by decide) ?_
  refine aw_pi dX6_lays_18 fw_X6_110 (ww_X6_110 _) hM.1 rfl ?_
  refine aw_aload_n dX6_lays_21 rfl rfl ?_
  refine aw_iload_n dX6_lays_22 rfl ?_
  refine aw_iconst (v := 1) dX6_lays_23 (by decide) ?_
  refine aw_icmp_ne (tgt := 31) dX6_lays_24 (by decide) (fun _ => ?_) (fun zz => absurd zz (by decide))
  refine aw_aload_n dX6_lays_31 rfl rfl ?_
  refine aw_gi dX6_lays_32 fw_X6_113 hM.1 ?_
  refine aw_pi dX6_lays_35 fw_X6_113 (ww_X6_113 _) hM.1 rfl ?_
  refine aw_goto (tgt := 105) dX6_lays_38 (by decide) ?_
  refine aw_return dX6_lays_105 rfl ?_
  rw [iU_self]
  exact hQ
theorem c_X6_lays1 {E : Ev} {d : Nat} {I : Mi} {L : Ml} {Z : Mz} {Q : Po} {x : Int32} {v : Int32}  (hM : MZ Z) (hQ : Q none (iU I 48 8 v) L Z) : AC E yX6_lays cX6_lays 4 none d 0 0 [.ref 48, .int 1, .int x, .int v] I L Z Q := by
  refine ac_go (ls := [some (.ref 48), some (.int 1), some (.int x), some (.int v)]) (by decide +kernel) (Nat.le_of_ble_eq_true rfl) rfl ?_
  refine aw_iload_n dX6_lays_0 rfl ?_
  refine aw_iconst (v := 2) dX6_lays_1 (by decide) ?_
  refine aw_icmp_ge (tgt := 41) dX6_lays_2 (by decide) (fun zz => absurd zz (by decide)) (fun _ => ?_)
  refine aw_aload_n dX6_lays_5 rfl rfl ?_
  refine aw_iload_n dX6_lays_6 rfl ?_
  refine aw_if_ne (tgt := 14) dX6_lays_7 (by decide) (fun _ => ?_) (fun zz => absurd zz (by decide))
  refine aw_aload_n dX6_lays_14 rfl rfl ?_
  refine aw_gi dX6_lays_15 fw_X6_110 hM.1 ?_
  refine aw_pi dX6_lays_18 fw_X6_110 (ww_X6_110 _) hM.1 rfl ?_
  refine aw_aload_n dX6_lays_21 rfl rfl ?_
  refine aw_iload_n dX6_lays_22 rfl ?_
  refine aw_iconst (v := 1) dX6_lays_23 (by decide) ?_
  refine aw_icmp_ne (tgt := 31) dX6_lays_24 (by decide) (fun zz => absurd zz (by decide)) (fun _ => ?_)
  refine aw_iload_n dX6_lays_27 rfl ?_
  refine aw_goto (tgt := 35) dX6_lays_28 (by decide) ?_
  refine aw_pi dX6_lays_35 fw_X6_113 (ww_X6_113 _) hM.1 rfl ?_
  refine aw_goto (tgt := 105) dX6_lays_38 (by decide) ?_
  refine aw_return dX6_lays_105 rfl ?_
  rw [iU_self]
  exact hQ
theorem c_X6_lays2 {E : Ev} {d : Nat} {I : Mi} {L : Ml} {Z : Mz} {Q : Po} {v : Int32} {j : Nat} (hM : MZ Z) (hj : j < 6) (hQ : Q none (iU I 52 (2 * j) v) L Z) : AC E yX6_lays cX6_lays 4 none d 0 0 [.ref 48, .int 2, .int (nI j), .int v] I L Z Q := by
  refine ac_go (ls := [some (.ref 48), some (.int 2), some (.int (nI j)), some (.int v)]) (by decide +kernel) (Nat.le_of_ble_eq_true rfl) rfl ?_
  refine aw_iload_n dX6_lays_0 rfl ?_
  refine aw_iconst (v := 2) dX6_lays_1 (by decide) ?_
  refine aw_icmp_ge (tgt := 41) dX6_lays_2 (by decide) (fun _ => ?_) (fun zz => absurd zz (by decide))
  refine aw_iload_n dX6_lays_41 rfl ?_
  refine aw_iconst (v := 4) dX6_lays_42 (by decide) ?_
  refine aw_icmp_ge (tgt := 62) dX6_lays_43 (by decide) (fun zz => absurd zz (by decide)) (fun _ => ?_)
  refine aw_aload_n dX6_lays_46 rfl rfl ?_
  refine aw_gr dX6_lays_47 fw_X6_23 hM.1 hM.2.2.2.2.2.2.2.1 ?_
  refine aw_iconst (v := 2) dX6_lays_50 (by decide) ?_
  refine aw_iload_n dX6_lays_51 rfl ?_
  refine aw_imul dX6_lays_52 ?_
  refine aw_iload_n dX6_lays_53 rfl ?_
  refine aw_iadd dX6_lays_54 ?_
  refine aw_iconst (v := 2) dX6_lays_55 (by decide) ?_
  refine aw_isub dX6_lays_56 ?_
  refine aw_iload_n dX6_lays_57 rfl ?_
  refine aw_is (2 * j) dX6_lays_58 hM.2.2.2.2.2.2.2.2.1 (ix2 j 2 2 _ (by omega)) (by omega) (by decide) ?_
  refine aw_goto (tgt := 105) dX6_lays_59 (by decide) ?_
  refine aw_return dX6_lays_105 rfl ?_
  exact hQ
theorem c_X6_lays3 {E : Ev} {d : Nat} {I : Mi} {L : Ml} {Z : Mz} {Q : Po} {v : Int32} {j : Nat} (hM : MZ Z) (hj : j < 6) (hQ : Q none (iU I 52 (2 * j + 1) v) L Z) : AC E yX6_lays cX6_lays 4 none d 0 0 [.ref 48, .int 3, .int (nI j), .int v] I L Z Q := by
  refine ac_go (ls := [some (.ref 48), some (.int 3), some (.int (nI j)), some (.int v)]) (by decide +kernel) (Nat.le_of_ble_eq_true rfl) rfl ?_
  refine aw_iload_n dX6_lays_0 rfl ?_
  refine aw_iconst (v := 2) dX6_lays_1 (by decide) ?_
  refine aw_icmp_ge (tgt := 41) dX6_lays_2 (by decide) (fun _ => ?_) (fun zz => absurd zz (by decide))
  refine aw_iload_n dX6_lays_41 rfl ?_
  refine aw_iconst (v := 4) dX6_lays_42 (by decide) ?_
  refine aw_icmp_ge (tgt := 62) dX6_lays_43 (by decide) (fun zz => absurd zz (by decide)) (fun _ => ?_)
  refine aw_aload_n dX6_lays_46 rfl rfl ?_
  refine aw_gr dX6_lays_47 fw_X6_23 hM.1 hM.2.2.2.2.2.2.2.1 ?_
  refine aw_iconst (v := 2) dX6_lays_50 (by decide) ?_
  refine aw_iload_n dX6_lays_51 rfl ?_
  refine aw_imul dX6_lays_52 ?_
  refine aw_iload_n dX6_lays_53 rfl ?_
  refine aw_iadd dX6_lays_54 ?_
  refine aw_iconst (v := 2) dX6_lays_55 (by decide) ?_
  refine aw_isub dX6_lays_56 ?_
  refine aw_iload_n dX6_lays_57 rfl ?_
  refine aw_is (2 * j + 1) dX6_lays_58 hM.2.2.2.2.2.2.2.2.1 (ix2 j 3 2 _ (by omega)) (by omega) (by decide) ?_
  refine aw_goto (tgt := 105) dX6_lays_59 (by decide) ?_
  refine aw_return dX6_lays_105 rfl ?_
  exact hQ
theorem c_X6_lays4 {E : Ev} {d : Nat} {I : Mi} {L : Ml} {Z : Mz} {Q : Po} {v : Int32} {j : Nat} (hM : MZ Z) (hj : j < 5) (hQ : Q none (iU I 55 (2 * j) v) L Z) : AC E yX6_lays cX6_lays 4 none d 0 0 [.ref 48, .int 4, .int (nI j), .int v] I L Z Q := by
  refine ac_go (ls := [some (.ref 48), some (.int 4), some (.int (nI j)), some (.int v)]) (by decide +kernel) (Nat.le_of_ble_eq_true rfl) rfl ?_
  refine aw_iload_n dX6_lays_0 rfl ?_
  refine aw_iconst (v := 2) dX6_lays_1 (by decide) ?_
  refine aw_icmp_ge (tgt := 41) dX6_lays_2 (by decide) (fun _ => ?_) (fun zz => absurd zz (by decide))
  refine aw_iload_n dX6_lays_41 rfl ?_
  refine aw_iconst (v := 4) dX6_lays_42 (by decide) ?_
  refine aw_icmp_ge (tgt := 62) dX6_lays_43 (by decide) (fun _ => ?_) (fun zz => absurd zz (by decide))
  refine aw_iload_n dX6_lays_62 rfl ?_
  refine aw_bipush (v := 6) dX6_lays_63 (by decide) ?_
  refine aw_icmp_ge (tgt := 84) dX6_lays_65 (by decide) (fun zz => absurd zz (by decide)) (fun _ => ?_)
  refine aw_aload_n dX6_lays_68 rfl rfl ?_
  refine aw_gr dX6_lays_69 fw_X6_32 hM.1 hM.2.2.2.2.2.2.2.2.2.2.2.2.2.1 ?_
  refine aw_iconst (v := 2) dX6_lays_72 (by decide) ?_
  refine aw_iload_n dX6_lays_73 rfl ?_
  refine aw_imul dX6_lays_74 ?_
  refine aw_iload_n dX6_lays_75 rfl ?_
  refine aw_iadd dX6_lays_76 ?_
  refine aw_iconst (v := 4) dX6_lays_77 (by decide) ?_
  refine aw_isub dX6_lays_78 ?_
  refine aw_iload_n dX6_lays_79 rfl ?_
  refine aw_is (2 * j) dX6_lays_80 hM.2.2.2.2.2.2.2.2.2.2.2.2.2.2.1 (ix2 j 4 4 _ (by omega)) (by omega) (by decide) ?_
  refine aw_goto (tgt := 105) dX6_lays_81 (by decide) ?_
  refine aw_return dX6_lays_105 rfl ?_
  exact hQ
theorem c_X6_lays5 {E : Ev} {d : Nat} {I : Mi} {L : Ml} {Z : Mz} {Q : Po} {v : Int32} {j : Nat} (hM : MZ Z) (hj : j < 5) (hQ : Q none (iU I 55 (2 * j + 1) v) L Z) : AC E yX6_lays cX6_lays 4 none d 0 0 [.ref 48, .int 5, .int (nI j), .int v] I L Z Q := by
  refine ac_go (ls := [some (.ref 48), some (.int 5), some (.int (nI j)), some (.int v)]) (by decide +kernel) (Nat.le_of_ble_eq_true rfl) rfl ?_
  refine aw_iload_n dX6_lays_0 rfl ?_
  refine aw_iconst (v := 2) dX6_lays_1 (by decide) ?_
  refine aw_icmp_ge (tgt := 41) dX6_lays_2 (by decide) (fun _ => ?_) (fun zz => absurd zz (by decide))
  refine aw_iload_n dX6_lays_41 rfl ?_
  refine aw_iconst (v := 4) dX6_lays_42 (by decide) ?_
  refine aw_icmp_ge (tgt := 62) dX6_lays_43 (by decide) (fun _ => ?_) (fun zz => absurd zz (by decide))
  refine aw_iload_n dX6_lays_62 rfl ?_
  refine aw_bipush (v := 6) dX6_lays_63 (by decide) ?_
  refine aw_icmp_ge (tgt := 84) dX6_lays_65 (by decide) (fun zz => absurd zz (by decide)) (fun _ => ?_)
  refine aw_aload_n dX6_lays_68 rfl rfl ?_
  refine aw_gr dX6_lays_69 fw_X6_32 hM.1 hM.2.2.2.2.2.2.2.2.2.2.2.2.2.1 ?_
  refine aw_iconst (v := 2) dX6_lays_72 (by decide) ?_
  refine aw_iload_n dX6_lays_73 rfl ?_
  refine aw_imul dX6_lays_74 ?_
  refine aw_iload_n dX6_lays_75 rfl ?_
  refine aw_iadd dX6_lays_76 ?_
  refine aw_iconst (v := 4) dX6_lays_77 (by decide) ?_
  refine aw_isub dX6_lays_78 ?_
  refine aw_iload_n dX6_lays_79 rfl ?_
  refine aw_is (2 * j + 1) dX6_lays_80 hM.2.2.2.2.2.2.2.2.2.2.2.2.2.2.1 (ix2 j 5 4 _ (by omega)) (by omega) (by decide) ?_
  refine aw_goto (tgt := 105) dX6_lays_81 (by decide) ?_
  refine aw_return dX6_lays_105 rfl ?_
  exact hQ
theorem c_X6_lays6 {E : Ev} {d : Nat} {I : Mi} {L : Ml} {Z : Mz} {Q : Po} {v : Int32} {j : Nat} (hM : MZ Z) (hj : j < 5) (hQ : Q none (iU I 54 j v) L Z) : AC E yX6_lays cX6_lays 4 none d 0 0 [.ref 48, .int 6, .int (nI j), .int v] I L Z Q := by
  refine ac_go (ls := [some (.ref 48), some (.int 6), some (.int (nI j)), some (.int v)]) (by decide +kernel) (Nat.le_of_ble_eq_true rfl) rfl ?_
  refine aw_iload_n dX6_lays_0 rfl ?_
  refine aw_iconst (v := 2) dX6_lays_1 (by decide) ?_
  refine aw_icmp_ge (tgt := 41) dX6_lays_2 (by decide) (fun _ => ?_) (fun zz => absurd zz (by decide))
  refine aw_iload_n dX6_lays_41 rfl ?_
  refine aw_iconst (v := 4) dX6_lays_42 (by decide) ?_
  refine aw_icmp_ge (tgt := 62) dX6_lays_43 (by decide) (fun _ => ?_) (fun zz => absurd zz (by decide))
  refine aw_iload_n dX6_lays_62 rfl ?_
  refine aw_bipush (v := 6) dX6_lays_63 (by decide) ?_
  refine aw_icmp_ge (tgt := 84) dX6_lays_65 (by decide) (fun _ => ?_) (fun zz => absurd zz (by decide))
  refine aw_iload_n dX6_lays_84 rfl ?_
  refine aw_bipush (v := 6) dX6_lays_85 (by decide) ?_
  refine aw_icmp_ne (tgt := 100) dX6_lays_87 (by decide) (fun zz => absurd zz (by decide)) (fun _ => ?_)
  refine aw_aload_n dX6_lays_90 rfl rfl ?_
  refine aw_gr dX6_lays_91 fw_X6_29 hM.1 hM.2.2.2.2.2.2.2.2.2.2.2.1 ?_
  refine aw_iload_n dX6_lays_94 rfl ?_
  refine aw_iload_n dX6_lays_95 rfl ?_
  refine aw_is j dX6_lays_96 hM.2.2.2.2.2.2.2.2.2.2.2.2.1 rfl (by omega) (by decide) ?_
  refine aw_goto (tgt := 105) dX6_lays_97 (by decide) ?_
  refine aw_return dX6_lays_105 rfl ?_
  exact hQ
theorem c_X6_lays7 {E : Ev} {d : Nat} {I : Mi} {L : Ml} {Z : Mz} {Q : Po} {x : Int32} {v : Int32}  (hM : MZ Z) (hQ : Q none (iU I 48 4 v) L Z) : AC E yX6_lays cX6_lays 4 none d 0 0 [.ref 48, .int 7, .int x, .int v] I L Z Q := by
  refine ac_go (ls := [some (.ref 48), some (.int 7), some (.int x), some (.int v)]) (by decide +kernel) (Nat.le_of_ble_eq_true rfl) rfl ?_
  refine aw_iload_n dX6_lays_0 rfl ?_
  refine aw_iconst (v := 2) dX6_lays_1 (by decide) ?_
  refine aw_icmp_ge (tgt := 41) dX6_lays_2 (by decide) (fun _ => ?_) (fun zz => absurd zz (by decide))
  refine aw_iload_n dX6_lays_41 rfl ?_
  refine aw_iconst (v := 4) dX6_lays_42 (by decide) ?_
  refine aw_icmp_ge (tgt := 62) dX6_lays_43 (by decide) (fun _ => ?_) (fun zz => absurd zz (by decide))
  refine aw_iload_n dX6_lays_62 rfl ?_
  refine aw_bipush (v := 6) dX6_lays_63 (by decide) ?_
  refine aw_icmp_ge (tgt := 84) dX6_lays_65 (by decide) (fun _ => ?_) (fun zz => absurd zz (by decide))
  refine aw_iload_n dX6_lays_84 rfl ?_
  refine aw_bipush (v := 6) dX6_lays_85 (by decide) ?_
  refine aw_icmp_ne (tgt := 100) dX6_lays_87 (by decide) (fun _ => ?_) (fun zz => absurd zz (by decide))
  refine aw_aload_n dX6_lays_100 rfl rfl ?_
  refine aw_iload_n dX6_lays_101 rfl ?_
  refine aw_pi dX6_lays_102 fw_X6_116 (ww_X6_116 _) hM.1 rfl ?_
  refine aw_return dX6_lays_105 rfl ?_
  exact hQ
theorem c_X6_set0 {E : Ev} {d : Nat} {I : Mi} {L : Ml} {Z : Mz} {Q : Po} {x : Int32} {v : Int32}  (hd : 4 ≤ d) (hM : MZ Z) (hB : ¬ (¬ v < 0 ∧ ¬ 4095 < v) → Q (some (.int (-2))) I L Z) (hS : (¬ v < 0 ∧ ¬ 4095 < v) → Q (some (.int (I 48 7))) (iU I 48 7 v) L Z) : AC E yX6_set cX6_set 5 (some .int) d 0 0 [.ref 48, .int 0, .int x, .int v] I L Z Q := by
  refine ac_go (ls := [some (.ref 48), some (.int 0), some (.int x), some (.int v), none]) (by decide +kernel) (Nat.le_of_ble_eq_true rfl) rfl ?_
  refine aw_iload_n dX6_set_0 rfl ?_
  refine aw_i2l dX6_set_1 ?_
  refine aw_lconst (v := 0) dX6_set_2 (by decide) ?_
  refine aw_ldc2 dX6_set_3 kw_X6_92 ?_
  refine aw_S3 dX6_set_6 cw_X6_73 (by omega) ⟨Nat.le_refl _, Nat.le_refl _⟩ (by decide) (c_X6_in (x := 0) (a := 0) (b := 5) rfl (by decide) (by decide) (fun c6 => ?_) (fun zz => absurd (by decide) zz))
  refine aw_if_eq (tgt := 35) dX6_set_9 (by decide) (fun zz => absurd zz (by decide)) (fun _ => ?_)
  refine aw_aload_n dX6_set_12 rfl rfl ?_
  refine aw_iload_n dX6_set_13 rfl ?_
  refine aw_iload_n dX6_set_14 rfl ?_
  refine aw_V2 dX6_set_15 cw_X6_94 ⟨_, _, rfl⟩ hM.1 (by omega) ⟨Nat.le_refl _, Nat.le_refl _⟩ (by decide) (c_X6_isOf0 (by omega) hM (fun c15 => ?_) (fun zz => absurd trivial zz))
  refine aw_if_eq (tgt := 35) dX6_set_18 (by decide) (fun zz => absurd zz (by decide)) (fun _ => ?_)
  refine aw_iload_n dX6_set_21 rfl ?_
  refine aw_i2l dX6_set_22 ?_
  refine aw_lconst (v := 0) dX6_set_23 (by decide) ?_
  refine aw_iload_n dX6_set_24 rfl ?_
  refine aw_S1 dX6_set_25 cw_X6_98 (by omega) ⟨Nat.le_refl _, Nat.le_refl _⟩ (by simp [Value.category, psh]) (c_X6_mostOf0 (fun r25 e25 => ?_))
  refine aw_i2l dX6_set_28 ?_
  refine aw_S3 dX6_set_29 cw_X6_73 (by omega) ⟨Nat.le_refl _, Nat.le_refl _⟩ (by decide) (c_X6_in (x := v) (a := 0) (b := 4095) rfl (by decide) (by rw [e25]) (fun c29 => ?_) (fun c29 => ?_))
  · refine aw_if_ne (tgt := 38) dX6_set_32 (by decide) (fun _ => ?_) (fun zz => absurd zz (by decide))
    refine aw_aload_n dX6_set_38 rfl rfl ?_
    refine aw_iload_n dX6_set_39 rfl ?_
    refine aw_iload_n dX6_set_40 rfl ?_
    refine aw_V2 dX6_set_41 cw_X6_102 ⟨_, _, rfl⟩ hM.1 (by omega) ⟨Nat.le_refl _, Nat.le_refl _⟩ (by decide) (c_X6_told0 (by omega) hM ?_)
    refine aw_istore (ls' := [_, _, _, _, _]) dX6_set_44 (by decide) rfl rfl ?_
    refine aw_aload_n dX6_set_46 rfl rfl ?_
    refine aw_iload_n dX6_set_47 rfl ?_
    refine aw_iload_n dX6_set_48 rfl ?_
    refine aw_iload_n dX6_set_49 rfl ?_
    refine aw_V3 dX6_set_50 cw_X6_106 ⟨_, _, rfl⟩ hM.1 (by omega) ⟨Nat.le_refl _, Nat.le_refl _⟩ (by decide) (c_X6_lays0 hM ?_)
    refine aw_iload dX6_set_53 rfl ?_
    refine aw_ireturn (ty := .int) dX6_set_55 rfl rfl ?_
    exact hS c29
  · refine aw_if_ne (tgt := 38) dX6_set_32 (by decide) (fun zz => absurd zz (by decide)) (fun _ => ?_)
    refine aw_bipush (v := -2) dX6_set_35 (by decide) ?_
    refine aw_ireturn (ty := .int) dX6_set_37 rfl rfl ?_
    exact hB c29
theorem c_X6_set1 {E : Ev} {d : Nat} {I : Mi} {L : Ml} {Z : Mz} {Q : Po} {x : Int32} {v : Int32}  (hd : 4 ≤ d) (hM : MZ Z) (hB : ¬ (¬ v < 0 ∧ ¬ 999 < v) → Q (some (.int (-2))) I L Z) (hS : (¬ v < 0 ∧ ¬ 999 < v) → Q (some (.int (I 48 8))) (iU I 48 8 v) L Z) : AC E yX6_set cX6_set 5 (some .int) d 0 0 [.ref 48, .int 1, .int x, .int v] I L Z Q := by
  refine ac_go (ls := [some (.ref 48), some (.int 1), some (.int x), some (.int v), none]) (by decide +kernel) (Nat.le_of_ble_eq_true rfl) rfl ?_
  refine aw_iload_n dX6_set_0 rfl ?_
  refine aw_i2l dX6_set_1 ?_
  refine aw_lconst (v := 0) dX6_set_2 (by decide) ?_
  refine aw_ldc2 dX6_set_3 kw_X6_92 ?_
  refine aw_S3 dX6_set_6 cw_X6_73 (by omega) ⟨Nat.le_refl _, Nat.le_refl _⟩ (by decide) (c_X6_in (x := 1) (a := 0) (b := 5) rfl (by decide) (by decide) (fun c6 => ?_) (fun zz => absurd (by decide) zz))
  refine aw_if_eq (tgt := 35) dX6_set_9 (by decide) (fun zz => absurd zz (by decide)) (fun _ => ?_)
  refine aw_aload_n dX6_set_12 rfl rfl ?_
  refine aw_iload_n dX6_set_13 rfl ?_
  refine aw_iload_n dX6_set_14 rfl ?_
  refine aw_V2 dX6_set_15 cw_X6_94 ⟨_, _, rfl⟩ hM.1 (by omega) ⟨Nat.le_refl _, Nat.le_refl _⟩ (by decide) (c_X6_isOf1 (by omega) hM (fun c15 => ?_) (fun zz => absurd trivial zz))
  refine aw_if_eq (tgt := 35) dX6_set_18 (by decide) (fun zz => absurd zz (by decide)) (fun _ => ?_)
  refine aw_iload_n dX6_set_21 rfl ?_
  refine aw_i2l dX6_set_22 ?_
  refine aw_lconst (v := 0) dX6_set_23 (by decide) ?_
  refine aw_iload_n dX6_set_24 rfl ?_
  refine aw_S1 dX6_set_25 cw_X6_98 (by omega) ⟨Nat.le_refl _, Nat.le_refl _⟩ (by simp [Value.category, psh]) (c_X6_mostOf1 (fun r25 e25 => ?_))
  refine aw_i2l dX6_set_28 ?_
  refine aw_S3 dX6_set_29 cw_X6_73 (by omega) ⟨Nat.le_refl _, Nat.le_refl _⟩ (by decide) (c_X6_in (x := v) (a := 0) (b := 999) rfl (by decide) (by rw [e25]) (fun c29 => ?_) (fun c29 => ?_))
  · refine aw_if_ne (tgt := 38) dX6_set_32 (by decide) (fun _ => ?_) (fun zz => absurd zz (by decide))
    refine aw_aload_n dX6_set_38 rfl rfl ?_
    refine aw_iload_n dX6_set_39 rfl ?_
    refine aw_iload_n dX6_set_40 rfl ?_
    refine aw_V2 dX6_set_41 cw_X6_102 ⟨_, _, rfl⟩ hM.1 (by omega) ⟨Nat.le_refl _, Nat.le_refl _⟩ (by decide) (c_X6_told1 (by omega) hM ?_)
    refine aw_istore (ls' := [_, _, _, _, _]) dX6_set_44 (by decide) rfl rfl ?_
    refine aw_aload_n dX6_set_46 rfl rfl ?_
    refine aw_iload_n dX6_set_47 rfl ?_
    refine aw_iload_n dX6_set_48 rfl ?_
    refine aw_iload_n dX6_set_49 rfl ?_
    refine aw_V3 dX6_set_50 cw_X6_106 ⟨_, _, rfl⟩ hM.1 (by omega) ⟨Nat.le_refl _, Nat.le_refl _⟩ (by decide) (c_X6_lays1 hM ?_)
    refine aw_iload dX6_set_53 rfl ?_
    refine aw_ireturn (ty := .int) dX6_set_55 rfl rfl ?_
    exact hS c29
  · refine aw_if_ne (tgt := 38) dX6_set_32 (by decide) (fun zz => absurd zz (by decide)) (fun _ => ?_)
    refine aw_bipush (v := -2) dX6_set_35 (by decide) ?_
    refine aw_ireturn (ty := .int) dX6_set_37 rfl rfl ?_
    exact hB c29
theorem c_X6_set2 {E : Ev} {d : Nat} {I : Mi} {L : Ml} {Z : Mz} {Q : Po} {x : Int32} {v : Int32} {n : Nat} (hd : 4 ≤ d) (hM : MZ Z) (hn : I 48 10 = nI n) (hl : n ≤ 6) (hB : ¬ ((¬ v < 0 ∧ ¬ 4095 < v) ∧ ∃ j, j < n ∧ x = nI j) → Q (some (.int (-2))) I L Z) (hS : (¬ v < 0 ∧ ¬ 4095 < v) → ∀ j, j < n → x = nI j → Q (some (.int (I 52 (2 * j)))) (iU I 52 (2 * j) v) L Z) : AC E yX6_set cX6_set 5 (some .int) d 0 0 [.ref 48, .int 2, .int x, .int v] I L Z Q := by
  refine ac_go (ls := [some (.ref 48), some (.int 2), some (.int x), some (.int v), none]) (by decide +kernel) (Nat.le_of_ble_eq_true rfl) rfl ?_
  refine aw_iload_n dX6_set_0 rfl ?_
  refine aw_i2l dX6_set_1 ?_
  refine aw_lconst (v := 0) dX6_set_2 (by decide) ?_
  refine aw_ldc2 dX6_set_3 kw_X6_92 ?_
  refine aw_S3 dX6_set_6 cw_X6_73 (by omega) ⟨Nat.le_refl _, Nat.le_refl _⟩ (by decide) (c_X6_in (x := 2) (a := 0) (b := 5) rfl (by decide) (by decide) (fun c6 => ?_) (fun zz => absurd (by decide) zz))
  refine aw_if_eq (tgt := 35) dX6_set_9 (by decide) (fun zz => absurd zz (by decide)) (fun _ => ?_)
  refine aw_aload_n dX6_set_12 rfl rfl ?_
  refine aw_iload_n dX6_set_13 rfl ?_
  refine aw_iload_n dX6_set_14 rfl ?_
  refine aw_V2 dX6_set_15 cw_X6_94 ⟨_, _, rfl⟩ hM.1 (by omega) ⟨Nat.le_refl _, Nat.le_refl _⟩ (by decide) (c_X6_isOf2 (by omega) hM hn hl (fun c15 => ?_) (fun c15 => ?_))
  · refine aw_if_eq (tgt := 35) dX6_set_18 (by decide) (fun zz => absurd zz (by decide)) (fun _ => ?_)
    refine aw_iload_n dX6_set_21 rfl ?_
    refine aw_i2l dX6_set_22 ?_
    refine aw_lconst (v := 0) dX6_set_23 (by decide) ?_
    refine aw_iload_n dX6_set_24 rfl ?_
    refine aw_S1 dX6_set_25 cw_X6_98 (by omega) ⟨Nat.le_refl _, Nat.le_refl _⟩ (by simp [Value.category, psh]) (c_X6_mostOf2 (fun r25 e25 => ?_))
    refine aw_i2l dX6_set_28 ?_
    refine aw_S3 dX6_set_29 cw_X6_73 (by omega) ⟨Nat.le_refl _, Nat.le_refl _⟩ (by decide) (c_X6_in (x := v) (a := 0) (b := 4095) rfl (by decide) (by rw [e25]) (fun c29 => ?_) (fun c29 => ?_))
    · refine aw_if_ne (tgt := 38) dX6_set_32 (by decide) (fun _ => ?_) (fun zz => absurd zz (by decide))
      obtain ⟨j, hj, rfl⟩ := c15
      refine aw_aload_n dX6_set_38 rfl rfl ?_
      refine aw_iload_n dX6_set_39 rfl ?_
      refine aw_iload_n dX6_set_40 rfl ?_
      refine aw_V2 dX6_set_41 cw_X6_102 ⟨_, _, rfl⟩ hM.1 (by omega) ⟨Nat.le_refl _, Nat.le_refl _⟩ (by decide) (c_X6_told2 (by omega) hM hn hl (fun zz => absurd ⟨j, hj, rfl⟩ zz) (fun j2 hj2 e2 => ?_))
      have ej : j = j2 := (nI_eq (by omega) (by omega)).mp e2
      subst ej
      refine aw_istore (ls' := [_, _, _, _, _]) dX6_set_44 (by decide) rfl rfl ?_
      refine aw_aload_n dX6_set_46 rfl rfl ?_
      refine aw_iload_n dX6_set_47 rfl ?_
      refine aw_iload_n dX6_set_48 rfl ?_
      refine aw_iload_n dX6_set_49 rfl ?_
      refine aw_V3 dX6_set_50 cw_X6_106 ⟨_, _, rfl⟩ hM.1 (by omega) ⟨Nat.le_refl _, Nat.le_refl _⟩ (by decide) (c_X6_lays2 (j := j) hM (by omega) ?_)
      refine aw_iload dX6_set_53 rfl ?_
      refine aw_ireturn (ty := .int) dX6_set_55 rfl rfl ?_
      exact hS c29 j hj rfl
    · refine aw_if_ne (tgt := 38) dX6_set_32 (by decide) (fun zz => absurd zz (by decide)) (fun _ => ?_)
      refine aw_bipush (v := -2) dX6_set_35 (by decide) ?_
      refine aw_ireturn (ty := .int) dX6_set_37 rfl rfl ?_
      exact hB (fun zz => c29 zz.1)
  · refine aw_if_eq (tgt := 35) dX6_set_18 (by decide) (fun _ => ?_) (fun zz => absurd zz (by decide))
    refine aw_bipush (v := -2) dX6_set_35 (by decide) ?_
    refine aw_ireturn (ty := .int) dX6_set_37 rfl rfl ?_
    exact hB (fun zz => c15 zz.2)
theorem c_X6_set3 {E : Ev} {d : Nat} {I : Mi} {L : Ml} {Z : Mz} {Q : Po} {x : Int32} {v : Int32} {n : Nat} (hd : 4 ≤ d) (hM : MZ Z) (hn : I 48 10 = nI n) (hl : n ≤ 6) (hB : ¬ ((¬ v < 0 ∧ ¬ 11 < v) ∧ ∃ j, j < n ∧ x = nI j) → Q (some (.int (-2))) I L Z) (hS : (¬ v < 0 ∧ ¬ 11 < v) → ∀ j, j < n → x = nI j → Q (some (.int (I 52 (2 * j + 1)))) (iU I 52 (2 * j + 1) v) L Z) : AC E yX6_set cX6_set 5 (some .int) d 0 0 [.ref 48, .int 3, .int x, .int v] I L Z Q := by
  refine ac_go (ls := [some (.ref 48), some (.int 3), some (.int x), some (.int v), none]) (by decide +kernel) (Nat.le_of_ble_eq_true rfl) rfl ?_
  refine aw_iload_n dX6_set_0 rfl ?_
  refine aw_i2l dX6_set_1 ?_
  refine aw_lconst (v := 0) dX6_set_2 (by decide) ?_
  refine aw_ldc2 dX6_set_3 kw_X6_92 ?_
  refine aw_S3 dX6_set_6 cw_X6_73 (by omega) ⟨Nat.le_refl _, Nat.le_refl _⟩ (by decide) (c_X6_in (x := 3) (a := 0) (b := 5) rfl (by decide) (by decide) (fun c6 => ?_) (fun zz => absurd (by decide) zz))
  refine aw_if_eq (tgt := 35) dX6_set_9 (by decide) (fun zz => absurd zz (by decide)) (fun _ => ?_)
  refine aw_aload_n dX6_set_12 rfl rfl ?_
  refine aw_iload_n dX6_set_13 rfl ?_
  refine aw_iload_n dX6_set_14 rfl ?_
  refine aw_V2 dX6_set_15 cw_X6_94 ⟨_, _, rfl⟩ hM.1 (by omega) ⟨Nat.le_refl _, Nat.le_refl _⟩ (by decide) (c_X6_isOf3 (by omega) hM hn hl (fun c15 => ?_) (fun c15 => ?_))
  · refine aw_if_eq (tgt := 35) dX6_set_18 (by decide) (fun zz => absurd zz (by decide)) (fun _ => ?_)
    refine aw_iload_n dX6_set_21 rfl ?_
    refine aw_i2l dX6_set_22 ?_
    refine aw_lconst (v := 0) dX6_set_23 (by decide) ?_
    refine aw_iload_n dX6_set_24 rfl ?_
    refine aw_S1 dX6_set_25 cw_X6_98 (by omega) ⟨Nat.le_refl _, Nat.le_refl _⟩ (by simp [Value.category, psh]) (c_X6_mostOf3 (fun r25 e25 => ?_))
    refine aw_i2l dX6_set_28 ?_
    refine aw_S3 dX6_set_29 cw_X6_73 (by omega) ⟨Nat.le_refl _, Nat.le_refl _⟩ (by decide) (c_X6_in (x := v) (a := 0) (b := 11) rfl (by decide) (by rw [e25]) (fun c29 => ?_) (fun c29 => ?_))
    · refine aw_if_ne (tgt := 38) dX6_set_32 (by decide) (fun _ => ?_) (fun zz => absurd zz (by decide))
      obtain ⟨j, hj, rfl⟩ := c15
      refine aw_aload_n dX6_set_38 rfl rfl ?_
      refine aw_iload_n dX6_set_39 rfl ?_
      refine aw_iload_n dX6_set_40 rfl ?_
      refine aw_V2 dX6_set_41 cw_X6_102 ⟨_, _, rfl⟩ hM.1 (by omega) ⟨Nat.le_refl _, Nat.le_refl _⟩ (by decide) (c_X6_told3 (by omega) hM hn hl (fun zz => absurd ⟨j, hj, rfl⟩ zz) (fun j2 hj2 e2 => ?_))
      have ej : j = j2 := (nI_eq (by omega) (by omega)).mp e2
      subst ej
      refine aw_istore (ls' := [_, _, _, _, _]) dX6_set_44 (by decide) rfl rfl ?_
      refine aw_aload_n dX6_set_46 rfl rfl ?_
      refine aw_iload_n dX6_set_47 rfl ?_
      refine aw_iload_n dX6_set_48 rfl ?_
      refine aw_iload_n dX6_set_49 rfl ?_
      refine aw_V3 dX6_set_50 cw_X6_106 ⟨_, _, rfl⟩ hM.1 (by omega) ⟨Nat.le_refl _, Nat.le_refl _⟩ (by decide) (c_X6_lays3 (j := j) hM (by omega) ?_)
      refine aw_iload dX6_set_53 rfl ?_
      refine aw_ireturn (ty := .int) dX6_set_55 rfl rfl ?_
      exact hS c29 j hj rfl
    · refine aw_if_ne (tgt := 38) dX6_set_32 (by decide) (fun zz => absurd zz (by decide)) (fun _ => ?_)
      refine aw_bipush (v := -2) dX6_set_35 (by decide) ?_
      refine aw_ireturn (ty := .int) dX6_set_37 rfl rfl ?_
      exact hB (fun zz => c29 zz.1)
  · refine aw_if_eq (tgt := 35) dX6_set_18 (by decide) (fun _ => ?_) (fun zz => absurd zz (by decide))
    refine aw_bipush (v := -2) dX6_set_35 (by decide) ?_
    refine aw_ireturn (ty := .int) dX6_set_37 rfl rfl ?_
    exact hB (fun zz => c15 zz.2)
theorem c_X6_set4 {E : Ev} {d : Nat} {I : Mi} {L : Ml} {Z : Mz} {Q : Po} {x : Int32} {v : Int32} {n : Nat} (hd : 4 ≤ d) (hM : MZ Z) (hn : I 48 15 = nI n) (hl : n ≤ 5) (hB : ¬ ((¬ v < 0 ∧ ¬ 9 < v) ∧ ∃ j, j < n ∧ x = nI j) → Q (some (.int (-2))) I L Z) (hS : (¬ v < 0 ∧ ¬ 9 < v) → ∀ j, j < n → x = nI j → Q (some (.int (I 55 (2 * j)))) (iU I 55 (2 * j) v) L Z) : AC E yX6_set cX6_set 5 (some .int) d 0 0 [.ref 48, .int 4, .int x, .int v] I L Z Q := by
  refine ac_go (ls := [some (.ref 48), some (.int 4), some (.int x), some (.int v), none]) (by decide +kernel) (Nat.le_of_ble_eq_true rfl) rfl ?_
  refine aw_iload_n dX6_set_0 rfl ?_
  refine aw_i2l dX6_set_1 ?_
  refine aw_lconst (v := 0) dX6_set_2 (by decide) ?_
  refine aw_ldc2 dX6_set_3 kw_X6_92 ?_
  refine aw_S3 dX6_set_6 cw_X6_73 (by omega) ⟨Nat.le_refl _, Nat.le_refl _⟩ (by decide) (c_X6_in (x := 4) (a := 0) (b := 5) rfl (by decide) (by decide) (fun c6 => ?_) (fun zz => absurd (by decide) zz))
  refine aw_if_eq (tgt := 35) dX6_set_9 (by decide) (fun zz => absurd zz (by decide)) (fun _ => ?_)
  refine aw_aload_n dX6_set_12 rfl rfl ?_
  refine aw_iload_n dX6_set_13 rfl ?_
  refine aw_iload_n dX6_set_14 rfl ?_
  refine aw_V2 dX6_set_15 cw_X6_94 ⟨_, _, rfl⟩ hM.1 (by omega) ⟨Nat.le_refl _, Nat.le_refl _⟩ (by decide) (c_X6_isOf4 (by omega) hM hn hl (fun c15 => ?_) (fun c15 => ?_))
  · refine aw_if_eq (tgt := 35) dX6_set_18 (by decide) (fun zz => absurd zz (by decide)) (fun _ => ?_)
    refine aw_iload_n dX6_set_21 rfl ?_
    refine aw_i2l dX6_set_22 ?_
    refine aw_lconst (v := 0) dX6_set_23 (by decide) ?_
    refine aw_iload_n dX6_set_24 rfl ?_
    refine aw_S1 dX6_set_25 cw_X6_98 (by omega) ⟨Nat.le_refl _, Nat.le_refl _⟩ (by simp [Value.category, psh]) (c_X6_mostOf4 (fun r25 e25 => ?_))
    refine aw_i2l dX6_set_28 ?_
    refine aw_S3 dX6_set_29 cw_X6_73 (by omega) ⟨Nat.le_refl _, Nat.le_refl _⟩ (by decide) (c_X6_in (x := v) (a := 0) (b := 9) rfl (by decide) (by rw [e25]) (fun c29 => ?_) (fun c29 => ?_))
    · refine aw_if_ne (tgt := 38) dX6_set_32 (by decide) (fun _ => ?_) (fun zz => absurd zz (by decide))
      obtain ⟨j, hj, rfl⟩ := c15
      refine aw_aload_n dX6_set_38 rfl rfl ?_
      refine aw_iload_n dX6_set_39 rfl ?_
      refine aw_iload_n dX6_set_40 rfl ?_
      refine aw_V2 dX6_set_41 cw_X6_102 ⟨_, _, rfl⟩ hM.1 (by omega) ⟨Nat.le_refl _, Nat.le_refl _⟩ (by decide) (c_X6_told4 (by omega) hM hn hl (fun zz => absurd ⟨j, hj, rfl⟩ zz) (fun j2 hj2 e2 => ?_))
      have ej : j = j2 := (nI_eq (by omega) (by omega)).mp e2
      subst ej
      refine aw_istore (ls' := [_, _, _, _, _]) dX6_set_44 (by decide) rfl rfl ?_
      refine aw_aload_n dX6_set_46 rfl rfl ?_
      refine aw_iload_n dX6_set_47 rfl ?_
      refine aw_iload_n dX6_set_48 rfl ?_
      refine aw_iload_n dX6_set_49 rfl ?_
      refine aw_V3 dX6_set_50 cw_X6_106 ⟨_, _, rfl⟩ hM.1 (by omega) ⟨Nat.le_refl _, Nat.le_refl _⟩ (by decide) (c_X6_lays4 (j := j) hM (by omega) ?_)
      refine aw_iload dX6_set_53 rfl ?_
      refine aw_ireturn (ty := .int) dX6_set_55 rfl rfl ?_
      exact hS c29 j hj rfl
    · refine aw_if_ne (tgt := 38) dX6_set_32 (by decide) (fun zz => absurd zz (by decide)) (fun _ => ?_)
      refine aw_bipush (v := -2) dX6_set_35 (by decide) ?_
      refine aw_ireturn (ty := .int) dX6_set_37 rfl rfl ?_
      exact hB (fun zz => c29 zz.1)
  · refine aw_if_eq (tgt := 35) dX6_set_18 (by decide) (fun _ => ?_) (fun zz => absurd zz (by decide))
    refine aw_bipush (v := -2) dX6_set_35 (by decide) ?_
    refine aw_ireturn (ty := .int) dX6_set_37 rfl rfl ?_
    exact hB (fun zz => c15 zz.2)
theorem c_X6_set5 {E : Ev} {d : Nat} {I : Mi} {L : Ml} {Z : Mz} {Q : Po} {x : Int32} {v : Int32} {n : Nat} (hd : 4 ≤ d) (hM : MZ Z) (hn : I 48 15 = nI n) (hl : n ≤ 5) (hB : ¬ ((¬ v < 0 ∧ ¬ 99 < v) ∧ ∃ j, j < n ∧ x = nI j) → Q (some (.int (-2))) I L Z) (hS : (¬ v < 0 ∧ ¬ 99 < v) → ∀ j, j < n → x = nI j → Q (some (.int (I 55 (2 * j + 1)))) (iU I 55 (2 * j + 1) v) L Z) : AC E yX6_set cX6_set 5 (some .int) d 0 0 [.ref 48, .int 5, .int x, .int v] I L Z Q := by
  refine ac_go (ls := [some (.ref 48), some (.int 5), some (.int x), some (.int v), none]) (by decide +kernel) (Nat.le_of_ble_eq_true rfl) rfl ?_
  refine aw_iload_n dX6_set_0 rfl ?_
  refine aw_i2l dX6_set_1 ?_
  refine aw_lconst (v := 0) dX6_set_2 (by decide) ?_
  refine aw_ldc2 dX6_set_3 kw_X6_92 ?_
  refine aw_S3 dX6_set_6 cw_X6_73 (by omega) ⟨Nat.le_refl _, Nat.le_refl _⟩ (by decide) (c_X6_in (x := 5) (a := 0) (b := 5) rfl (by decide) (by decide) (fun c6 => ?_) (fun zz => absurd (by decide) zz))
  refine aw_if_eq (tgt := 35) dX6_set_9 (by decide) (fun zz => absurd zz (by decide)) (fun _ => ?_)
  refine aw_aload_n dX6_set_12 rfl rfl ?_
  refine aw_iload_n dX6_set_13 rfl ?_
  refine aw_iload_n dX6_set_14 rfl ?_
  refine aw_V2 dX6_set_15 cw_X6_94 ⟨_, _, rfl⟩ hM.1 (by omega) ⟨Nat.le_refl _, Nat.le_refl _⟩ (by decide) (c_X6_isOf5 (by omega) hM hn hl (fun c15 => ?_) (fun c15 => ?_))
  · refine aw_if_eq (tgt := 35) dX6_set_18 (by decide) (fun zz => absurd zz (by decide)) (fun _ => ?_)
    refine aw_iload_n dX6_set_21 rfl ?_
    refine aw_i2l dX6_set_22 ?_
    refine aw_lconst (v := 0) dX6_set_23 (by decide) ?_
    refine aw_iload_n dX6_set_24 rfl ?_
    refine aw_S1 dX6_set_25 cw_X6_98 (by omega) ⟨Nat.le_refl _, Nat.le_refl _⟩ (by simp [Value.category, psh]) (c_X6_mostOf5 (fun r25 e25 => ?_))
    refine aw_i2l dX6_set_28 ?_
    refine aw_S3 dX6_set_29 cw_X6_73 (by omega) ⟨Nat.le_refl _, Nat.le_refl _⟩ (by decide) (c_X6_in (x := v) (a := 0) (b := 99) rfl (by decide) (by rw [e25]) (fun c29 => ?_) (fun c29 => ?_))
    · refine aw_if_ne (tgt := 38) dX6_set_32 (by decide) (fun _ => ?_) (fun zz => absurd zz (by decide))
      obtain ⟨j, hj, rfl⟩ := c15
      refine aw_aload_n dX6_set_38 rfl rfl ?_
      refine aw_iload_n dX6_set_39 rfl ?_
      refine aw_iload_n dX6_set_40 rfl ?_
      refine aw_V2 dX6_set_41 cw_X6_102 ⟨_, _, rfl⟩ hM.1 (by omega) ⟨Nat.le_refl _, Nat.le_refl _⟩ (by decide) (c_X6_told5 (by omega) hM hn hl (fun zz => absurd ⟨j, hj, rfl⟩ zz) (fun j2 hj2 e2 => ?_))
      have ej : j = j2 := (nI_eq (by omega) (by omega)).mp e2
      subst ej
      refine aw_istore (ls' := [_, _, _, _, _]) dX6_set_44 (by decide) rfl rfl ?_
      refine aw_aload_n dX6_set_46 rfl rfl ?_
      refine aw_iload_n dX6_set_47 rfl ?_
      refine aw_iload_n dX6_set_48 rfl ?_
      refine aw_iload_n dX6_set_49 rfl ?_
      refine aw_V3 dX6_set_50 cw_X6_106 ⟨_, _, rfl⟩ hM.1 (by omega) ⟨Nat.le_refl _, Nat.le_refl _⟩ (by decide) (c_X6_lays5 (j := j) hM (by omega) ?_)
      refine aw_iload dX6_set_53 rfl ?_
      refine aw_ireturn (ty := .int) dX6_set_55 rfl rfl ?_
      exact hS c29 j hj rfl
    · refine aw_if_ne (tgt := 38) dX6_set_32 (by decide) (fun zz => absurd zz (by decide)) (fun _ => ?_)
      refine aw_bipush (v := -2) dX6_set_35 (by decide) ?_
      refine aw_ireturn (ty := .int) dX6_set_37 rfl rfl ?_
      exact hB (fun zz => c29 zz.1)
  · refine aw_if_eq (tgt := 35) dX6_set_18 (by decide) (fun _ => ?_) (fun zz => absurd zz (by decide))
    refine aw_bipush (v := -2) dX6_set_35 (by decide) ?_
    refine aw_ireturn (ty := .int) dX6_set_37 rfl rfl ?_
    exact hB (fun zz => c15 zz.2)
theorem c_X6_setX {E : Ev} {d : Nat} {I : Mi} {L : Ml} {Z : Mz} {Q : Po} {w : Int32} {x : Int32} {v : Int32}  (hd : 3 ≤ d) (hM : MZ Z) (hw : ¬ (¬ w < 0 ∧ ¬ 5 < w)) (hB : Q (some (.int (-2))) I L Z) : AC E yX6_set cX6_set 5 (some .int) d 0 0 [.ref 48, .int w, .int x, .int v] I L Z Q := by
  refine ac_go (ls := [some (.ref 48), some (.int w), some (.int x), some (.int v), none]) (by decide +kernel) (Nat.le_of_ble_eq_true rfl) rfl ?_
  refine aw_iload_n dX6_set_0 rfl ?_
  refine aw_i2l dX6_set_1 ?_
  refine aw_lconst (v := 0) dX6_set_2 (by decide) ?_
  refine aw_ldc2 dX6_set_3 kw_X6_92 ?_
  refine aw_S3 dX6_set_6 cw_X6_73 (by omega) ⟨Nat.le_refl _, Nat.le_refl _⟩ (by decide) (c_X6_in (x := w) (a := 0) (b := 5) rfl (by decide) (by decide) (fun zz => absurd zz hw) (fun c6 => ?_))
  refine aw_if_eq (tgt := 35) dX6_set_9 (by decide) (fun _ => ?_) (fun zz => absurd zz (by decide))
  refine aw_bipush (v := -2) dX6_set_35 (by decide) ?_
  refine aw_ireturn (ty := .int) dX6_set_37 rfl rfl ?_
  exact hB
