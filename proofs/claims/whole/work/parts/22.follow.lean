/-! ===== a house: adding, taking away; what follows ===== -/
theorem nI_m1 {n : Nat} (h : 0 < n) : nI n - 1 = nI (n - 1) := by
  obtain ⟨k, rfl⟩ : ∃ k, n = k + 1 := ⟨n - 1, by omega⟩
  exact nI_pred k
theorem c_X0_addCup {E : Ev} {d : Nat} {I : Mi} {L : Ml} {Z : Mz} {Q : Po} {h : Nat} {x : Int32} {z : Int32} {n : Nat} (hH : HZ Z h) (hn : I h 6 = nI n) (hl : n ≤ 6) (hFull : n = 6 → Q (some (.int (-4))) I L Z) (hAdd : n < 6 → Q (some (.int (nI n))) (iU (iU (iU I (h + 1) n x) (h + 2) n z) h 6 (nI (n + 1))) L Z) : AC E yX0_addCup cX0_addCup 3 (some .int) d 0 0 [.ref h, .int x, .int z] I L Z Q := by
  refine ac_go (ls := [some (.ref h), some (.int x), some (.int z)]) (by decide +kernel) (Nat.le_of_ble_eq_true rfl) rfl ?_
  refine aw_aload_n dX0_addCup_0 rfl rfl ?_
  refine aw_gi dX0_addCup_1 fw_X0_50 hH.1 ?_
  refine aw_bipush (v := 6) dX0_addCup_4 (by decide) ?_
  have hlt : I h 6 < 6 ↔ n < 6 := by rw [hn]; exact nI_ltI (b := 6) (by omega) (by decide)
  refine aw_icmp_lt (tgt := 12) dX0_addCup_6 (by decide) (fun c6 => ?_) (fun c6 => ?_)
  · refine aw_aload_n dX0_addCup_12 rfl rfl ?_
    refine aw_gr dX0_addCup_13 fw_X0_9 hH.1 hH.2.2.1 ?_
    refine aw_aload_n dX0_addCup_16 rfl rfl ?_
    refine aw_gi dX0_addCup_17 fw_X0_50 hH.1 ?_
    refine aw_iload_n dX0_addCup_20 rfl ?_
    refine aw_is n dX0_addCup_21 hH.2.2.2.2.2.2.2.2.2.2.1 hn (hlt.mp c6) (by decide) ?_
    refine aw_aload_n dX0_addCup_22 rfl rfl ?_
    refine aw_gr dX0_addCup_23 fw_X0_15 hH.1 hH.2.2.2.1 ?_
    refine aw_aload_n dX0_addCup_26 rfl rfl ?_
    refine aw_gi dX0_addCup_27 fw_X0_50 hH.1 ?_
    refine aw_iload_n dX0_addCup_30 rfl ?_
    refine aw_is n dX0_addCup_31 hH.2.2.2.2.2.2.2.2.2.2.2.1 (by rw [iU_at (by omega)]; exact hn) (hlt.mp c6) (by decide) ?_
    refine aw_aload_n dX0_addCup_32 rfl rfl ?_
    refine aw_dup dX0_addCup_33 rfl ?_
    refine aw_gi dX0_addCup_34 fw_X0_50 hH.1 ?_
    refine aw_iconst (v := 1) dX0_addCup_37 (by decide) ?_
    refine aw_iadd dX0_addCup_38 ?_
    refine aw_pi dX0_addCup_39 fw_X0_50 (ww_X0_50 _) hH.1 rfl ?_
    refine aw_aload_n dX0_addCup_42 rfl rfl ?_
    refine aw_gi dX0_addCup_43 fw_X0_50 hH.1 ?_
    refine aw_iconst (v := 1) dX0_addCup_46 (by decide) ?_
    refine aw_isub dX0_addCup_47 ?_
    refine aw_ireturn (ty := .int) dX0_addCup_48 rfl rfl ?_
    have e : (iU (iU I (h + 1) n x) (h + 2) n z) h 6 = nI n := by rw [iU_at (by omega), iU_at (by omega)]; exact hn
    rw [iU_same, e, nI_1 n, nI_pred n]
    exact hAdd (hlt.mp c6)
  · refine aw_bipush (v := -4) dX0_addCup_9 (by decide) ?_
    refine aw_ireturn (ty := .int) dX0_addCup_11 rfl rfl ?_
    exact hFull (Nat.le_antisymm hl (Nat.not_lt.mp (fun z => c6 (hlt.mpr z))))
theorem c_X0_addReason {E : Ev} {d : Nat} {I : Mi} {L : Ml} {Z : Mz} {Q : Po} {h : Nat} {x : Int32} {z : Int32} {n : Nat} (hH : HZ Z h) (hn : I h 9 = nI n) (hl : n ≤ 12) (hFull : n = 12 → Q (some (.int (-4))) I L Z) (hAdd : n < 12 → Q (some (.int (nI n))) (iU (iU (iU I (h + 3) n x) (h + 4) n z) h 9 (nI (n + 1))) L Z) : AC E yX0_addReason cX0_addReason 3 (some .int) d 0 0 [.ref h, .int x, .int z] I L Z Q := by
  refine ac_go (ls := [some (.ref h), some (.int x), some (.int z)]) (by decide +kernel) (Nat.le_of_ble_eq_true rfl) rfl ?_
  refine aw_aload_n dX0_addReason_0 rfl rfl ?_
  refine aw_gi dX0_addReason_1 fw_X0_53 hH.1 ?_
  refine aw_bipush (v := 12) dX0_addReason_4 (by decide) ?_
  have hlt : I h 9 < 12 ↔ n < 12 := by rw [hn]; exact nI_ltI (b := 12) (by omega) (by decide)
  refine aw_icmp_lt (tgt := 12) dX0_addReason_6 (by decide) (fun c6 => ?_) (fun c6 => ?_)
  · refine aw_aload_n dX0_addReason_12 rfl rfl ?_
    refine aw_gr dX0_addReason_13 fw_X0_18 hH.1 hH.2.2.2.2.1 ?_
    refine aw_aload_n dX0_addReason_16 rfl rfl ?_
    refine aw_gi dX0_addReason_17 fw_X0_53 hH.1 ?_
    refine aw_iload_n dX0_addReason_20 rfl ?_
    refine aw_is n dX0_addReason_21 hH.2.2.2.2.2.2.2.2.2.2.2.2.1 hn (hlt.mp c6) (by decide) ?_
    refine aw_aload_n dX0_addReason_22 rfl rfl ?_
    refine aw_gr dX0_addReason_23 fw_X0_21 hH.1 hH.2.2.2.2.2.1 ?_
    refine aw_aload_n dX0_addReason_26 rfl rfl ?_
    refine aw_gi dX0_addReason_27 fw_X0_53 hH.1 ?_
    refine aw_iload_n dX0_addReason_30 rfl ?_
    refine aw_is n dX0_addReason_31 hH.2.2.2.2.2.2.2.2.2.2.2.2.2.1 (by rw [iU_at (by omega)]; exact hn) (hlt.mp c6) (by decide) ?_
    refine aw_aload_n dX0_addReason_32 rfl rfl ?_
    refine aw_dup dX0_addReason_33 rfl ?_
    refine aw_gi dX0_addReason_34 fw_X0_53 hH.1 ?_
    refine aw_iconst (v := 1) dX0_addReason_37 (by decide) ?_
    refine aw_iadd dX0_addReason_38 ?_
    refine aw_pi dX0_addReason_39 fw_X0_53 (ww_X0_53 _) hH.1 rfl ?_
    refine aw_aload_n dX0_addReason_42 rfl rfl ?_
    refine aw_gi dX0_addReason_43 fw_X0_53 hH.1 ?_
    refine aw_iconst (v := 1) dX0_addReason_46 (by decide) ?_
    refine aw_isub dX0_addReason_47 ?_
    refine aw_ireturn (ty := .int) dX0_addReason_48 rfl rfl ?_
    have e : (iU (iU I (h + 3) n x) (h + 4) n z) h 9 = nI n := by rw [iU_at (by omega), iU_at (by omega)]; exact hn
    rw [iU_same, e, nI_1 n, nI_pred n]
    exact hAdd (hlt.mp c6)
  · refine aw_bipush (v := -4) dX0_addReason_9 (by decide) ?_
    refine aw_ireturn (ty := .int) dX0_addReason_11 rfl rfl ?_
    exact hFull (Nat.le_antisymm hl (Nat.not_lt.mp (fun z => c6 (hlt.mpr z))))
theorem c_X0_dropReason {E : Ev} {d : Nat} {I : Mi} {L : Ml} {Z : Mz} {Q : Po} {h : Nat} {n : Nat} (hH : HZ Z h) (hn : I h 9 = nI n) (hl : n ≤ 12) (hNo : n = 0 → Q none I L Z) (hDrop : 0 < n → Q none (iU I h 9 (nI (n - 1))) L Z) : AC E yX0_dropReason cX0_dropReason 1 none d 0 0 [.ref h] I L Z Q := by
  refine ac_go (ls := [some (.ref h)]) (by decide +kernel) (Nat.le_of_ble_eq_true rfl) rfl ?_
  have hle : I h 9 ≤ 0 ↔ n ≤ 0 := by rw [hn]; exact nI_leI (b := 0) (by omega) (by decide)
  refine aw_aload_n dX0_dropReason_0 rfl rfl ?_
  refine aw_gi dX0_dropReason_1 fw_X0_53 hH.1 ?_
  refine aw_if_le (tgt := 17) dX0_dropReason_4 (by decide) (fun c4 => ?_) (fun c4 => ?_)
  · refine aw_return dX0_dropReason_17 rfl ?_
    first
      | exact hNo (Nat.le_zero.mp (hle.mp c4))
      | (rw [hn, nI_m1 (Nat.pos_of_ne_zero (fun z => c4 (hle.mpr (Nat.le_of_eq z))))]; exact hDrop (Nat.pos_of_ne_zero (fun z => c4 (hle.mpr (Nat.le_of_eq z)))))
  · refine aw_aload_n dX0_dropReason_7 rfl rfl ?_
    refine aw_dup dX0_dropReason_8 rfl ?_
    refine aw_gi dX0_dropReason_9 fw_X0_53 hH.1 ?_
    refine aw_iconst (v := 1) dX0_dropReason_12 (by decide) ?_
    refine aw_isub dX0_dropReason_13 ?_
    refine aw_pi dX0_dropReason_14 fw_X0_53 (ww_X0_53 _) hH.1 rfl ?_
    refine aw_return dX0_dropReason_17 rfl ?_
    first
      | exact hNo (Nat.le_zero.mp (hle.mp c4))
      | (rw [hn, nI_m1 (Nat.pos_of_ne_zero (fun z => c4 (hle.mpr (Nat.le_of_eq z))))]; exact hDrop (Nat.pos_of_ne_zero (fun z => c4 (hle.mpr (Nat.le_of_eq z)))))
theorem c_X0_addReader {E : Ev} {d : Nat} {I : Mi} {L : Ml} {Z : Mz} {Q : Po} {h : Nat} {x : Int32} {z : Int32} {n : Nat} (hH : HZ Z h) (hn : I h 13 = nI n) (hl : n ≤ 5) (hFull : n = 5 → Q (some (.int (-4))) I L Z) (hAdd : n < 5 → Q (some (.int (nI n))) (iU (iU (iU (iU I (h + 5) n x) (h + 6) n z) (h + 7) n 0) h 13 (nI (n + 1))) L Z) : AC E yX0_addReader cX0_addReader 3 (some .int) d 0 0 [.ref h, .int x, .int z] I L Z Q := by
  refine ac_go (ls := [some (.ref h), some (.int x), some (.int z)]) (by decide +kernel) (Nat.le_of_ble_eq_true rfl) rfl ?_
  have hlt : I h 13 < 5 ↔ n < 5 := by rw [hn]; exact nI_ltI (b := 5) (by omega) (by decide)
  refine aw_aload_n dX0_addReader_0 rfl rfl ?_
  refine aw_gi dX0_addReader_1 fw_X0_56 hH.1 ?_
  refine aw_iconst (v := 5) dX0_addReader_4 (by decide) ?_
  refine aw_icmp_lt (tgt := 11) dX0_addReader_5 (by decide) (fun c5 => ?_) (fun c5 => ?_)
  · refine aw_aload_n dX0_addReader_11 rfl rfl ?_
    refine aw_gr dX0_addReader_12 fw_X0_24 hH.1 hH.2.2.2.2.2.2.1 ?_
    refine aw_aload_n dX0_addReader_15 rfl rfl ?_
    refine aw_gi dX0_addReader_16 fw_X0_56 hH.1 ?_
    refine aw_iload_n dX0_addReader_19 rfl ?_
    refine aw_is n dX0_addReader_20 hH.2.2.2.2.2.2.2.2.2.2.2.2.2.2.1 hn (hlt.mp c5) (by decide) ?_
    refine aw_aload_n dX0_addReader_21 rfl rfl ?_
    refine aw_gr dX0_addReader_22 fw_X0_27 hH.1 hH.2.2.2.2.2.2.2.1 ?_
    refine aw_aload_n dX0_addReader_25 rfl rfl ?_
    refine aw_gi dX0_addReader_26 fw_X0_56 hH.1 ?_
    refine aw_iload_n dX0_addReader_29 rfl ?_
    refine aw_is n dX0_addReader_30 hH.2.2.2.2.2.2.2.2.2.2.2.2.2.2.2.1 (by rw [iU_at (by omega)]; exact hn) (hlt.mp c5) (by decide) ?_
    refine aw_aload_n dX0_addReader_31 rfl rfl ?_
    refine aw_gr dX0_addReader_32 fw_X0_30 hH.1 hH.2.2.2.2.2.2.2.2.1 ?_
    refine aw_aload_n dX0_addReader_35 rfl rfl ?_
    refine aw_gi dX0_addReader_36 fw_X0_56 hH.1 ?_
    refine aw_iconst (v := 0) dX0_addReader_39 (by decide) ?_
    refine aw_is n dX0_addReader_40 hH.2.2.2.2.2.2.2.2.2.2.2.2.2.2.2.2.1 (by rw [iU_at (by omega), iU_at (by omega)]; exact hn) (hlt.mp c5) (by decide) ?_
    refine aw_aload_n dX0_addReader_41 rfl rfl ?_
    refine aw_dup dX0_addReader_42 rfl ?_
    refine aw_gi dX0_addReader_43 fw_X0_56 hH.1 ?_
    refine aw_iconst (v := 1) dX0_addReader_46 (by decide) ?_
    refine aw_iadd dX0_addReader_47 ?_
    refine aw_pi dX0_addReader_48 fw_X0_56 (ww_X0_56 _) hH.1 rfl ?_
    refine aw_aload_n dX0_addReader_51 rfl rfl ?_
    refine aw_gi dX0_addReader_52 fw_X0_56 hH.1 ?_
    refine aw_iconst (v := 1) dX0_addReader_55 (by decide) ?_
    refine aw_isub dX0_addReader_56 ?_
    refine aw_ireturn (ty := .int) dX0_addReader_57 rfl rfl ?_
    have e : (iU (iU (iU I (h + 5) n x) (h + 6) n z) (h + 7) n 0) h 13 = nI n := by rw [iU_at (by omega), iU_at (by omega), iU_at (by omega)]; exact hn
    rw [iU_same, e, nI_1 n, nI_pred n]
    exact hAdd (hlt.mp c5)
  · refine aw_bipush (v := -4) dX0_addReader_8 (by decide) ?_
    refine aw_ireturn (ty := .int) dX0_addReader_10 rfl rfl ?_
    exact hFull (Nat.le_antisymm hl (Nat.not_lt.mp (fun z => c5 (hlt.mpr z))))
/-- one round: the set, and what comes by all reasons but one -/
def rdF (s b : Nat → Int32) (ah lo : Int32) : Nat → Nat → Int32 → Int32
  | 0, _, all => all
  | n + 1, i, all => rdF s b ah lo n (i + 1) (if ¬ nI i = lo ∧ (s i &&& (ah ^^^ -1)) = 0 then all ||| (1 <<< (b i &&& 31)) else all)
/-- again and again, n times at most -/
def foF (f : Int32 → Int32) : Nat → Int32 → Int32
  | 0, a => a
  | n + 1, a => if f a = a then a else foF f n (f a)
def stF (f : Int32 → Int32) : Nat → Nat → Int32 → Nat
  | 0, k, _ => k
  | n + 1, k, a => if f a = a then k else stF f n (k + 1) (f a)
def orF (b : Nat → Int32) : Nat → Nat → Int32 → Int32
  | 0, _, a => a
  | n + 1, i, a => orF b n (i + 1) (a ||| (1 <<< (b i &&& 31)))
def unF (b : Nat → Int32) : Nat → Nat → Int32 → Int32
  | 0, _, a => a
  | n + 1, i, a => unF b n (i + 1) (a ||| b i)
def miF (x : Int32) : Nat → Nat → Int32 → Int32
  | 0, _, a => a
  | n + 1, k, a => miF x n (k + 1) (a ||| ((x >>> (nI k &&& 31)) &&& 1) <<< ((11 - nI k) &&& 31))
theorem l_X0_mirrored {E : Ev} {d : Nat} {I : Mi} {L : Ml} {Z : Mz} {Q : Po} {x : Int32}  : ∀ (n : Nat) (j : Nat) (a : Int32), j + n = 12 → (∀ rv : Int32, rv = miF x n j a → Q (some (.int rv)) I L Z) → AW E yX0_mirrored cX0_mirrored 3 (some .int) (rmOf d 0 0) Q 0 0 4 [some (.int x), some (.int a), some (.int (nI j))] [] I L Z := by
  intro n
  induction n with
  | zero =>
    intro j a hj hQ
    refine aw_iload_n dX0_mirrored_4 rfl ?_
    refine aw_bipush (v := 12) dX0_mirrored_5 (by decide) ?_
    refine aw_icmp_ge (tgt := 29) dX0_mirrored_7 (by decide) (fun c7 => ?_) (fun zz => absurd (by rw [show j = 12 by omega]; decide) zz)
    refine aw_iload_n dX0_mirrored_29 rfl ?_
    refine aw_ireturn (ty := .int) dX0_mirrored_30 rfl rfl ?_
    exact hQ _ rfl
  | succ n ih =>
    intro j a hj hQ
    refine aw_iload_n dX0_mirrored_4 rfl ?_
    refine aw_bipush (v := 12) dX0_mirrored_5 (by decide) ?_
    refine aw_icmp_ge (tgt := 29) dX0_mirrored_7 (by decide) (fun zz => absurd zz (nI_ge (b := 12) (by omega) (by decide))) (fun c7 => ?_)
    refine aw_iload_n dX0_mirrored_10 rfl ?_
    refine aw_iload_n dX0_mirrored_11 rfl ?_
    refine aw_iload_n dX0_mirrored_12 rfl ?_
    refine aw_ishr dX0_mirrored_13 ?_
    refine aw_iconst (v := 1) dX0_mirrored_14 (by decide) ?_
    refine aw_iand dX0_mirrored_15 ?_
    refine aw_bipush (v := 11) dX0_mirrored_16 (by decide) ?_
    refine aw_iload_n dX0_mirrored_18 rfl ?_
    refine aw_isub dX0_mirrored_19 ?_
    refine aw_ishl dX0_mirrored_20 ?_
    refine aw_ior dX0_mirrored_21 ?_
    refine aw_istore_n (ls' := [_, _, _]) dX0_mirrored_22 (by decide) rfl rfl ?_
    refine aw_iinc (v := nI (j + 1)) (ls' := [_, _, _]) dX0_mirrored_23 rfl (nI_1 j) (by decide) rfl rfl ?_
    refine aw_goto (tgt := 4) dX0_mirrored_26 (by decide) ?_
    exact ih (j + 1) _ (by omega) hQ
theorem c_X0_mirrored {E : Ev} {d : Nat} {I : Mi} {L : Ml} {Z : Mz} {Q : Po} {x : Int32}   (hQ : ∀ rv : Int32, rv = (miF x 12 0 0) → Q (some (.int rv)) I L Z) : AC E yX0_mirrored cX0_mirrored 3 (some .int) d 0 0 [.int x] I L Z Q := by
  refine ac_go (ls := [some (.int x), none, none]) (by decide +kernel) (Nat.le_of_ble_eq_true rfl) rfl ?_
  refine aw_iconst (v := 0) dX0_mirrored_0 (by decide) ?_
  refine aw_istore_n (ls' := [_, _, _]) dX0_mirrored_1 (by decide) rfl rfl ?_
  refine aw_iconst (v := 0) dX0_mirrored_2 (by decide) ?_
  refine aw_istore_n (ls' := [_, _, _]) dX0_mirrored_3 (by decide) rfl rfl ?_
  exact l_X0_mirrored 12 0 0 (by omega) hQ
theorem l_X0_afterRound {E : Ev} {d : Nat} {I : Mi} {L : Ml} {Z : Mz} {Q : Po} {h r : Nat} {x z : Int32} (hH : HZ Z h) (hn : I h 9 = nI r) (hr : r ≤ 12) : ∀ (n : Nat) (j : Nat) (a : Int32), j + n = r → (∀ rv : Int32, rv = rdF (I (h + 3)) (I (h + 4)) x z n j a → Q (some (.int rv)) I L Z) → AW E yX0_afterRound cX0_afterRound 5 (some .int) (rmOf d 0 0) Q 0 0 5 [some (.ref h), some (.int x), some (.int z), some (.int a), some (.int (nI j))] [] I L Z := by
  intro n
  induction n with
  | zero =>
    intro j a hj hQ
    refine aw_iload dX0_afterRound_5 rfl ?_
    refine aw_aload_n dX0_afterRound_7 rfl rfl ?_
    refine aw_gi dX0_afterRound_8 fw_X0_53 hH.1 ?_
    refine aw_icmp_ge (tgt := 52) dX0_afterRound_11 (by decide) (fun c11 => ?_) (fun zz => absurd (by rw [hn, show j = r by omega]; exact Int32.le_refl _) zz)
    refine aw_iload_n dX0_afterRound_52 rfl ?_
    refine aw_ireturn (ty := .int) dX0_afterRound_53 rfl rfl ?_
    exact hQ _ rfl
  | succ n ih =>
    intro j a hj hQ
    refine aw_iload dX0_afterRound_5 rfl ?_
    refine aw_aload_n dX0_afterRound_7 rfl rfl ?_
    refine aw_gi dX0_afterRound_8 fw_X0_53 hH.1 ?_
    refine aw_icmp_ge (tgt := 52) dX0_afterRound_11 (by decide) (fun zz => absurd zz (by rw [hn]; exact nI_ge (by omega) (by omega))) (fun c11 => ?_)
    refine aw_iload dX0_afterRound_14 rfl ?_
    refine aw_iload_n dX0_afterRound_16 rfl ?_
    refine aw_icmp_eq (tgt := 46) dX0_afterRound_17 (by decide) (fun c17 => ?_) (fun c17 => ?_)
    · refine aw_iinc (v := nI (j + 1)) (ls' := [_, _, _, _, _]) dX0_afterRound_46 rfl (nI_1 j) (by decide) rfl rfl ?_
      refine aw_goto (tgt := 5) dX0_afterRound_49 (by decide) ?_
      refine ih (j + 1) _ (by omega) (fun r0 e0 => hQ r0 ?_)
      rw [e0]
      simp only [rdF, c17, not_true_eq_false, not_false_eq_true, and_true, true_and, and_false, false_and, or_true, true_or, or_false, false_or, ite_true, ite_false, if_true, if_false, reduceIte, and_self, or_self]
    · refine aw_aload_n dX0_afterRound_20 rfl rfl ?_
      refine aw_gr dX0_afterRound_21 fw_X0_18 hH.1 hH.2.2.2.2.1 ?_
      refine aw_iload dX0_afterRound_24 rfl ?_
      refine aw_ia j dX0_afterRound_26 hH.2.2.2.2.2.2.2.2.2.2.2.2.1 rfl (by omega) (by decide) ?_
      refine aw_iload_n dX0_afterRound_27 rfl ?_
      refine aw_iconst (v := -1) dX0_afterRound_28 (by decide) ?_
      refine aw_ixor dX0_afterRound_29 ?_
      refine aw_iand dX0_afterRound_30 ?_
      refine aw_if_ne (tgt := 46) dX0_afterRound_31 (by decide) (fun c31 => ?_) (fun c31 => ?_)
      · refine aw_iinc (v := nI (j + 1)) (ls' := [_, _, _, _, _]) dX0_afterRound_46 rfl (nI_1 j) (by decide) rfl rfl ?_
        refine aw_goto (tgt := 5) dX0_afterRound_49 (by decide) ?_
        refine ih (j + 1) _ (by omega) (fun r0 e0 => hQ r0 ?_)
        rw [e0]
        simp only [rdF, c17, c31, not_true_eq_false, not_false_eq_true, and_true, true_and, and_false, false_and, or_true, true_or, or_false, false_or, ite_true, ite_false, if_true, if_false, reduceIte, and_self, or_self]
      · refine aw_iload_n dX0_afterRound_34 rfl ?_
        refine aw_iconst (v := 1) dX0_afterRound_35 (by decide) ?_
        refine aw_aload_n dX0_afterRound_36 rfl rfl ?_
        refine aw_gr dX0_afterRound_37 fw_X0_21 hH.1 hH.2.2.2.2.2.1 ?_
        refine aw_iload dX0_afterRound_40 rfl ?_
        refine aw_ia j dX0_afterRound_42 hH.2.2.2.2.2.2.2.2.2.2.2.2.2.1 rfl (by omega) (by decide) ?_
        refine aw_ishl dX0_afterRound_43 ?_
        refine aw_ior dX0_afterRound_44 ?_
        refine aw_istore_n (ls' := [_, _, _, _, _]) dX0_afterRound_45 (by decide) rfl rfl ?_
        refine aw_iinc (v := nI (j + 1)) (ls' := [_, _, _, _, _]) dX0_afterRound_46 rfl (nI_1 j) (by decide) rfl rfl ?_
        refine aw_goto (tgt := 5) dX0_afterRound_49 (by decide) ?_
        refine ih (j + 1) _ (by omega) (fun r0 e0 => hQ r0 ?_)
        rw [e0]
        simp only [rdF, c17, c31, not_true_eq_false, not_false_eq_true, and_true, true_and, and_false, false_and, or_true, true_or, or_false, false_or, ite_true, ite_false, if_true, if_false, reduceIte, and_self, or_self]
theorem c_X0_afterRound {E : Ev} {d : Nat} {I : Mi} {L : Ml} {Z : Mz} {Q : Po} {h : Nat} {x : Int32} {z : Int32} {r : Nat} (hH : HZ Z h) (hn : I h 9 = nI r) (hr : r ≤ 12) (hQ : ∀ rv : Int32, rv = (rdF (I (h + 3)) (I (h + 4)) x z r 0 x) → Q (some (.int rv)) I L Z) : AC E yX0_afterRound cX0_afterRound 5 (some .int) d 0 0 [.ref h, .int x, .int z] I L Z Q := by
  refine ac_go (ls := [some (.ref h), some (.int x), some (.int z), none, none]) (by decide +kernel) (Nat.le_of_ble_eq_true rfl) rfl ?_
  refine aw_iload_n dX0_afterRound_0 rfl ?_
  refine aw_istore_n (ls' := [_, _, _, _, _]) dX0_afterRound_1 (by decide) rfl rfl ?_
  refine aw_iconst (v := 0) dX0_afterRound_2 (by decide) ?_
  refine aw_istore (ls' := [_, _, _, _, _]) dX0_afterRound_3 (by decide) rfl rfl ?_
  exact l_X0_afterRound hH hn hr r 0 x (by omega) hQ
/-- one round, by the reasons of a house -/
def rdH (I : Mi) (h r : Nat) (lo x : Int32) : Int32 := rdF (I (h + 3)) (I (h + 4)) x lo r 0 x
def foH (I : Mi) (h r : Nat) (lo x : Int32) : Int32 := foF (rdH I h r lo) 12 x
theorem l_X0_following {E : Ev} {d : Nat} {I : Mi} {L : Ml} {Z : Mz} {Q : Po} {h r : Nat} {x z : Int32} (hH : HZ Z h) (hn : I h 9 = nI r) (hr : r ≤ 12) (hd : 1 ≤ d) : ∀ (n : Nat) (j : Nat) (a : Int32) (o5 : Option Value), j + n = 12 → (∀ rv : Int32, rv = foF (rdH I h r z) n a → Q (some (.int rv)) I L Z) → AW E yX0_following cX0_following 6 (some .int) (rmOf d 0 0) Q 0 0 5 [some (.ref h), some (.int x), some (.int z), some (.int a), some (.int (nI j)), o5] [] I L Z := by
  intro n
  induction n with
  | zero =>
    intro j a o5 hj hQ
    refine aw_iload dX0_following_5 rfl ?_
    refine aw_bipush (v := 12) dX0_following_7 (by decide) ?_
    refine aw_icmp_ge (tgt := 37) dX0_following_9 (by decide) (fun c9 => ?_) (fun zz => absurd (by rw [show j = 12 by omega]; decide) zz)
    refine aw_iload_n dX0_following_37 rfl ?_
    refine aw_ireturn (ty := .int) dX0_following_38 rfl rfl ?_
    exact hQ _ rfl
  | succ n ih =>
    intro j a o5 hj hQ
    refine aw_iload dX0_following_5 rfl ?_
    refine aw_bipush (v := 12) dX0_following_7 (by decide) ?_
    refine aw_icmp_ge (tgt := 37) dX0_following_9 (by decide) (fun zz => absurd zz (nI_ge (b := 12) (by omega) (by decide))) (fun c9 => ?_)
    refine aw_aload_n dX0_following_12 rfl rfl ?_
    refine aw_iload_n dX0_following_13 rfl ?_
    refine aw_iload_n dX0_following_14 rfl ?_
    refine aw_V2 dX0_following_15 cw_X0_137 ⟨_, _, rfl⟩ hH.1 (by omega) ⟨Nat.le_refl _, Nat.le_refl _⟩ (by decide) (c_X0_afterRound hH hn hr (fun r15 e15 => ?_))
    refine aw_istore (ls' := [_, _, _, _, _, _]) dX0_following_18 (by decide) rfl rfl ?_
    refine aw_iload dX0_following_20 rfl ?_
    refine aw_iload_n dX0_following_22 rfl ?_
    refine aw_icmp_ne (tgt := 28) dX0_following_23 (by decide) (fun c23 => ?_) (fun c23 => ?_)
    · refine aw_iload dX0_following_28 rfl ?_
      refine aw_istore_n (ls' := [_, _, _, _, _, _]) dX0_following_30 (by decide) rfl rfl ?_
      refine aw_iinc (v := nI (j + 1)) (ls' := [_, _, _, _, _, _]) dX0_following_31 rfl (nI_1 j) (by decide) rfl rfl ?_
      refine aw_goto (tgt := 5) dX0_following_34 (by decide) ?_
      exact ih (j + 1) _ _ (by omega) (fun r0 e0 => hQ r0 (by rw [e0, e15]; simp only [foF]; rw [if_neg (by rw [e15] at c23; exact c23)]; rfl))
    · refine aw_iload_n dX0_following_26 rfl ?_
      refine aw_ireturn (ty := .int) dX0_following_27 rfl rfl ?_
      exact hQ _ (by simp only [foF]; rw [if_pos (show rdH I h r z a = a from e15.symm.trans c23)])
theorem c_X0_following {E : Ev} {d : Nat} {I : Mi} {L : Ml} {Z : Mz} {Q : Po} {h : Nat} {x : Int32} {z : Int32} {r : Nat} (hd : 1 ≤ d) (hH : HZ Z h) (hn : I h 9 = nI r) (hr : r ≤ 12) (hQ : ∀ rv : Int32, rv = (foH I h r z x) → Q (some (.int rv)) I L Z) : AC E yX0_following cX0_following 6 (some .int) d 0 0 [.ref h, .int x, .int z] I L Z Q := by
  refine ac_go (ls := [some (.ref h), some (.int x), some (.int z), none, none, none]) (by decide +kernel) (Nat.le_of_ble_eq_true rfl) rfl ?_
  refine aw_iload_n dX0_following_0 rfl ?_
  refine aw_istore_n (ls' := [_, _, _, _, _, _]) dX0_following_1 (by decide) rfl rfl ?_
  refine aw_iconst (v := 0) dX0_following_2 (by decide) ?_
  refine aw_istore (ls' := [_, _, _, _, _, _]) dX0_following_3 (by decide) rfl rfl ?_
  exact l_X0_following hH hn hr hd 12 0 x _ (by omega) hQ
theorem l_X0_stepsFrom {E : Ev} {d : Nat} {I : Mi} {L : Ml} {Z : Mz} {Q : Po} {h r : Nat} {x : Int32} (hH : HZ Z h) (hn : I h 9 = nI r) (hr : r ≤ 12) (hd : 1 ≤ d) : ∀ (n : Nat) (j : Nat) (a : Int32) (o5 : Option Value), j + n = 12 → (∀ rv : Int32, rv = nI (stF (rdH I h r (-1)) n j a) → Q (some (.int rv)) I L Z) → AW E yX0_stepsFrom cX0_stepsFrom 5 (some .int) (rmOf d 0 0) Q 0 0 4 [some (.ref h), some (.int x), some (.int a), some (.int (nI j)), o5] [] I L Z := by
  intro n
  induction n with
  | zero =>
    intro j a o5 hj hQ
    refine aw_iload_n dX0_stepsFrom_4 rfl ?_
    refine aw_bipush (v := 12) dX0_stepsFrom_5 (by decide) ?_
    refine aw_icmp_ge (tgt := 35) dX0_stepsFrom_7 (by decide) (fun c7 => ?_) (fun zz => absurd (by rw [show j = 12 by omega]; decide) zz)
    refine aw_bipush (v := 12) dX0_stepsFrom_35 (by decide) ?_
    refine aw_ireturn (ty := .int) dX0_stepsFrom_37 rfl rfl ?_
    exact hQ _ (by rw [show j = 12 by omega]; rfl)
  | succ n ih =>
    intro j a o5 hj hQ
    refine aw_iload_n dX0_stepsFrom_4 rfl ?_
    refine aw_bipush (v := 12) dX0_stepsFrom_5 (by decide) ?_
    refine aw_icmp_ge (tgt := 35) dX0_stepsFrom_7 (by decide) (fun zz => absurd zz (nI_ge (b := 12) (by omega) (by decide))) (fun c7 => ?_)
    refine aw_aload_n dX0_stepsFrom_10 rfl rfl ?_
    refine aw_iload_n dX0_stepsFrom_11 rfl ?_
    refine aw_iconst (v := -1) dX0_stepsFrom_12 (by decide) ?_
    refine aw_V2 dX0_stepsFrom_13 cw_X0_137 ⟨_, _, rfl⟩ hH.1 (by omega) ⟨Nat.le_refl _, Nat.le_refl _⟩ (by decide) (c_X0_afterRound hH hn hr (fun r13 e13 => ?_))
    refine aw_istore (ls' := [_, _, _, _, _]) dX0_stepsFrom_16 (by decide) rfl rfl ?_
    refine aw_iload dX0_stepsFrom_18 rfl ?_
    refine aw_iload_n dX0_stepsFrom_20 rfl ?_
    refine aw_icmp_ne (tgt := 26) dX0_stepsFrom_21 (by decide) (fun c21 => ?_) (fun c21 => ?_)
    · refine aw_iload dX0_stepsFrom_26 rfl ?_
      refine aw_istore_n (ls' := [_, _, _, _, _]) dX0_stepsFrom_28 (by decide) rfl rfl ?_
      refine aw_iinc (v := nI (j + 1)) (ls' := [_, _, _, _, _]) dX0_stepsFrom_29 rfl (nI_1 j) (by decide) rfl rfl ?_
      refine aw_goto (tgt := 4) dX0_stepsFrom_32 (by decide) ?_
      exact ih (j + 1) _ _ (by omega) (fun r0 e0 => hQ r0 (by rw [e0, e13]; simp only [stF]; rw [if_neg (by rw [e13] at c21; exact c21)]; rfl))
    · refine aw_iload_n dX0_stepsFrom_24 rfl ?_
      refine aw_ireturn (ty := .int) dX0_stepsFrom_25 rfl rfl ?_
      exact hQ _ (by simp only [stF]; rw [if_pos (show rdH I h r (-1) a = a from e13.symm.trans c21)])
theorem c_X0_stepsFrom {E : Ev} {d : Nat} {I : Mi} {L : Ml} {Z : Mz} {Q : Po} {h : Nat} {x : Int32} {r : Nat} (hd : 1 ≤ d) (hH : HZ Z h) (hn : I h 9 = nI r) (hr : r ≤ 12) (hQ : ∀ rv : Int32, rv = (nI (stF (rdH I h r (-1)) 12 0 x)) → Q (some (.int rv)) I L Z) : AC E yX0_stepsFrom cX0_stepsFrom 5 (some .int) d 0 0 [.ref h, .int x] I L Z Q := by
  refine ac_go (ls := [some (.ref h), some (.int x), none, none, none]) (by decide +kernel) (Nat.le_of_ble_eq_true rfl) rfl ?_
  refine aw_iload_n dX0_stepsFrom_0 rfl ?_
  refine aw_istore_n (ls' := [_, _, _, _, _]) dX0_stepsFrom_1 (by decide) rfl rfl ?_
  refine aw_iconst (v := 0) dX0_stepsFrom_2 (by decide) ?_
  refine aw_istore_n (ls' := [_, _, _, _, _]) dX0_stepsFrom_3 (by decide) rfl rfl ?_
  exact l_X0_stepsFrom hH hn hr hd 12 0 x _ (by omega) hQ
theorem l_X0_borneByReasons {E : Ev} {d : Nat} {I : Mi} {L : Ml} {Z : Mz} {Q : Po} {h r : Nat} (hH : HZ Z h) (hn : I h 9 = nI r) (hr : r ≤ 12) : ∀ (n : Nat) (j : Nat) (a : Int32), j + n = r → (∀ rv : Int32, rv = orF (I (h + 4)) n j a → Q (some (.int rv)) I L Z) → AW E yX0_borneByReasons cX0_borneByReasons 3 (some .int) (rmOf d 0 0) Q 0 0 4 [some (.ref h), some (.int a), some (.int (nI j))] [] I L Z := by
  intro n
  induction n with
  | zero =>
    intro j a hj hQ
    refine aw_iload_n dX0_borneByReasons_4 rfl ?_
    refine aw_aload_n dX0_borneByReasons_5 rfl rfl ?_
    refine aw_gi dX0_borneByReasons_6 fw_X0_53 hH.1 ?_
    refine aw_icmp_ge (tgt := 29) dX0_borneByReasons_9 (by decide) (fun c9 => ?_) (fun zz => absurd (by rw [hn, show j = r by omega]; exact Int32.le_refl _) zz)
    refine aw_iload_n dX0_borneByReasons_29 rfl ?_
    refine aw_ireturn (ty := .int) dX0_borneByReasons_30 rfl rfl ?_
    exact hQ _ rfl
  | succ n ih =>
    intro j a hj hQ
    refine aw_iload_n dX0_borneByReasons_4 rfl ?_
    refine aw_aload_n dX0_borneByReasons_5 rfl rfl ?_
    refine aw_gi dX0_borneByReasons_6 fw_X0_53 hH.1 ?_
    refine aw_icmp_ge (tgt := 29) dX0_borneByReasons_9 (by decide) (fun zz => absurd zz (by rw [hn]; exact nI_ge (by omega) (by omega))) (fun c9 => ?_)
    refine aw_iload_n dX0_borneByReasons_12 rfl ?_
    refine aw_iconst (v := 1) dX0_borneByReasons_13 (by decide) ?_
    refine aw_aload_n dX0_borneByReasons_14 rfl rfl ?_
    refine aw_gr dX0_borneByReasons_15 fw_X0_21 hH.1 hH.2.2.2.2.2.1 ?_
    refine aw_iload_n dX0_borneByReasons_18 rfl ?_
    refine aw_ia j dX0_borneByReasons_19 hH.2.2.2.2.2.2.2.2.2.2.2.2.2.1 rfl (by omega) (by decide) ?_
    refine aw_ishl dX0_borneByReasons_20 ?_
    refine aw_ior dX0_borneByReasons_21 ?_
    refine aw_istore_n (ls' := [_, _, _]) dX0_borneByReasons_22 (by decide) rfl rfl ?_
    refine aw_iinc (v := nI (j + 1)) (ls' := [_, _, _]) dX0_borneByReasons_23 rfl (nI_1 j) (by decide) rfl rfl ?_
    refine aw_goto (tgt := 4) dX0_borneByReasons_26 (by decide) ?_
    exact ih (j + 1) _ (by omega) hQ
theorem c_X0_borneByReasons {E : Ev} {d : Nat} {I : Mi} {L : Ml} {Z : Mz} {Q : Po} {h : Nat} {r : Nat} (hH : HZ Z h) (hn : I h 9 = nI r) (hr : r ≤ 12) (hQ : ∀ rv : Int32, rv = (orF (I (h + 4)) r 0 0) → Q (some (.int rv)) I L Z) : AC E yX0_borneByReasons cX0_borneByReasons 3 (some .int) d 0 0 [.ref h] I L Z Q := by
  refine ac_go (ls := [some (.ref h), none, none]) (by decide +kernel) (Nat.le_of_ble_eq_true rfl) rfl ?_
  refine aw_iconst (v := 0) dX0_borneByReasons_0 (by decide) ?_
  refine aw_istore_n (ls' := [_, _, _]) dX0_borneByReasons_1 (by decide) rfl rfl ?_
  refine aw_iconst (v := 0) dX0_borneByReasons_2 (by decide) ?_
  refine aw_istore_n (ls' := [_, _, _]) dX0_borneByReasons_3 (by decide) rfl rfl ?_
  exact l_X0_borneByReasons hH hn hr r 0 0 (by omega) hQ
theorem l_X0_usedByReasons {E : Ev} {d : Nat} {I : Mi} {L : Ml} {Z : Mz} {Q : Po} {h r : Nat} (hH : HZ Z h) (hn : I h 9 = nI r) (hr : r ≤ 12) : ∀ (n : Nat) (j : Nat) (a : Int32), j + n = r → (∀ rv : Int32, rv = unF (I (h + 3)) n j a → Q (some (.int rv)) I L Z) → AW E yX0_usedByReasons cX0_usedByReasons 3 (some .int) (rmOf d 0 0) Q 0 0 4 [some (.ref h), some (.int a), some (.int (nI j))] [] I L Z := by
  intro n
  induction n with
  | zero =>
    intro j a hj hQ
    refine aw_iload_n dX0_usedByReasons_4 rfl ?_
    refine aw_aload_n dX0_usedByReasons_5 rfl rfl ?_
    refine aw_gi dX0_usedByReasons_6 fw_X0_53 hH.1 ?_
    refine aw_icmp_ge (tgt := 27) dX0_usedByReasons_9 (by decide) (fun c9 => ?_) (fun zz => absurd (by rw [hn, show j = r by omega]; exact Int32.le_refl _) zz)
    refine aw_iload_n dX0_usedByReasons_27 rfl ?_
    refine aw_ireturn (ty := .int) dX0_usedByReasons_28 rfl rfl ?_
    exact hQ _ rfl
  | succ n ih =>
    intro j a hj hQ
    refine aw_iload_n dX0_usedByReasons_4 rfl ?_
    refine aw_aload_n dX0_usedByReasons_5 rfl rfl ?_
    refine aw_gi dX0_usedByReasons_6 fw_X0_53 hH.1 ?_
    refine aw_icmp_ge (tgt := 27) dX0_usedByReasons_9 (by decide) (fun zz => absurd zz (by rw [hn]; exact nI_ge (by omega) (by omega))) (fun c9 => ?_)
    refine aw_iload_n dX0_usedByReasons_12 rfl ?_
    refine aw_aload_n dX0_usedByReasons_13 rfl rfl ?_
    refine aw_gr dX0_usedByReasons_14 fw_X0_18 hH.1 hH.2.2.2.2.1 ?_
    refine aw_iload_n dX0_usedByReasons_17 rfl ?_
    refine aw_ia j dX0_usedByReasons_18 hH.2.2.2.2.2.2.2.2.2.2.2.2.1 rfl (by omega) (by decide) ?_
    refine aw_ior dX0_usedByReasons_19 ?_
    refine aw_istore_n (ls' := [_, _, _]) dX0_usedByReasons_20 (by decide) rfl rfl ?_
    refine aw_iinc (v := nI (j + 1)) (ls' := [_, _, _]) dX0_usedByReasons_21 rfl (nI_1 j) (by decide) rfl rfl ?_
    refine aw_goto (tgt := 4) dX0_usedByReasons_24 (by decide) ?_
    exact ih (j + 1) _ (by omega) hQ
theorem c_X0_usedByReasons {E : Ev} {d : Nat} {I : Mi} {L : Ml} {Z : Mz} {Q : Po} {h : Nat} {r : Nat} (hH : HZ Z h) (hn : I h 9 = nI r) (hr : r ≤ 12) (hQ : ∀ rv : Int32, rv = (unF (I (h + 3)) r 0 0) → Q (some (.int rv)) I L Z) : AC E yX0_usedByReasons cX0_usedByReasons 3 (some .int) d 0 0 [.ref h] I L Z Q := by
  refine ac_go (ls := [some (.ref h), none, none]) (by decide +kernel) (Nat.le_of_ble_eq_true rfl) rfl ?_
  refine aw_iconst (v := 0) dX0_usedByReasons_0 (by decide) ?_
  refine aw_istore_n (ls' := [_, _, _]) dX0_usedByReasons_1 (by decide) rfl rfl ?_
  refine aw_iconst (v := 0) dX0_usedByReasons_2 (by decide) ?_
  refine aw_istore_n (ls' := [_, _, _]) dX0_usedByReasons_3 (by decide) rfl rfl ?_
  exact l_X0_usedByReasons hH hn hr r 0 0 (by omega) hQ
theorem c_X0_followers {E : Ev} {d : Nat} {I : Mi} {L : Ml} {Z : Mz} {Q : Po} {h : Nat} {r : Nat} (hd : 2 ≤ d) (hH : HZ Z h) (hn : I h 9 = nI r) (hr : r ≤ 12) (hQ : ∀ rv : Int32, rv = (bcV (foH I h r (-1) (I h 1))) → Q (some (.int rv)) I L Z) : AC E yX0_followers cX0_followers 1 (some .int) d 0 0 [.ref h] I L Z Q := by
  refine ac_go (ls := [some (.ref h)]) (by decide +kernel) (Nat.le_of_ble_eq_true rfl) rfl ?_
  refine aw_aload_n dX0_followers_0 rfl rfl ?_
  refine aw_aload_n dX0_followers_1 rfl rfl ?_
  refine aw_gi dX0_followers_2 fw_X0_40 hH.1 ?_
  refine aw_iconst (v := -1) dX0_followers_5 (by decide) ?_
  refine aw_V2 dX0_followers_6 cw_X0_140 ⟨_, _, rfl⟩ hH.1 (by omega) ⟨Nat.le_refl _, Nat.le_refl _⟩ (by decide) (c_X0_following (by omega) hH hn hr (fun r6 e6 => ?_))
  refine aw_S1 dX0_followers_9 cw_X0_85 (by omega) ⟨Nat.le_refl _, Nat.le_refl _⟩ (by decide) (c_bc (fun r9 e9 => ?_))
  refine aw_ireturn (ty := .int) dX0_followers_12 rfl rfl ?_
  exact hQ _ (by rw [e9, e6])
