/-! ===== the reference: cup, reason, reader, feed .. ===== -/
theorem shr_and (x z : Int32) : (∀ n : Nat, n < 12 → ((nI n) &&& 31 = nI n)) := by decide +kernel
theorem ne_le {a b : Nat} (h : a ≤ b) (c : ¬ a = b) : a < b := by omega
/-- one bit, looked at from either side -/
theorem bit_al2 : ∀ a, a < 64 → ∀ b, b < 64 → ∀ j, j < 12 → (decide ((nI (64 * a + b) >>> (nI j &&& 31)) &&& 1 = 1) = !decide (nI (64 * a + b) &&& (1 <<< (nI j &&& 31)) = 0)) := by decide +kernel
theorem by64 {P : Nat → Prop} (h : ∀ a, a < 64 → ∀ b, b < 64 → P (64 * a + b)) : ∀ v, v < 4096 → P v := fun v hv => by
  have := h (v / 64) (by omega) (v % 64) (by omega)
  rwa [Nat.div_add_mod] at this
theorem bit_all : ∀ v, v < 4096 → ∀ j, j < 12 → (decide ((nI v >>> (nI j &&& 31)) &&& 1 = 1) = !decide (nI v &&& (1 <<< (nI j &&& 31)) = 0)) := by64 bit_al2
theorem bit_two {x z : Int32} (hx : ¬ x < 0 ∧ ¬ 4095 < x) (hz : ¬ z < 0 ∧ ¬ 11 < z) : (x >>> (z &&& 31)) &&& 1 = 1 ↔ ¬ x &&& (1 <<< (z &&& 31)) = 0 := by
  obtain ⟨j, hj, rfl⟩ := nI_of2 (M := 11) (n := 11) (by decide) hz.1 (Int32.not_lt.mp hz.2)
  obtain ⟨v, hv, rfl⟩ := nI_of2 (M := 4095) (n := 4095) (by decide) hx.1 (Int32.not_lt.mp hx.2)
  have := bit_all v (by omega) j (by omega)
  rw [← decide_not, decide_eq_decide] at this
  exact this
theorem c_X6_cup {E : Ev} {d : Nat} {I : Mi} {L : Ml} {Z : Mz} {Q : Po} {x : Int32} {z : Int32} {n : Nat} (hd : 2 ≤ d) (hM : MZ Z) (hn : I 48 10 = nI n) (hl : n ≤ 6) (hB : ¬ ((¬ x < 0 ∧ ¬ 4095 < x) ∧ (¬ z < 0 ∧ ¬ 11 < z)) → Q (some (.int (-2))) I L Z) (hFl : (¬ x < 0 ∧ ¬ 4095 < x) ∧ (¬ z < 0 ∧ ¬ 11 < z) → n = 6 → Q (some (.int (-4))) I L Z) (hA : (¬ x < 0 ∧ ¬ 4095 < x) ∧ (¬ z < 0 ∧ ¬ 11 < z) → n < 6 → Q (some (.int (nI n))) (iU (iU (iU I 52 (2 * n) x) 52 (2 * n + 1) z) 48 10 (nI (n + 1))) L Z) : AC E yX6_cup cX6_cup 3 (some .int) d 0 0 [.ref 48, .int x, .int z] I L Z Q := by
  refine ac_go (ls := [some (.ref 48), some (.int x), some (.int z)]) (by decide +kernel) (Nat.le_of_ble_eq_true rfl) rfl ?_
  have hq : I 48 10 = 6 ↔ n = 6 := by rw [hn]; exact nI_eq (b := 6) (by omega) (by decide)
  refine aw_iload_n dX6_cup_0 rfl ?_
  refine aw_i2l dX6_cup_1 ?_
  refine aw_lconst (v := 0) dX6_cup_2 (by decide) ?_
  refine aw_ldc2 dX6_cup_3 kw_X6_119 ?_
  refine aw_S3 dX6_cup_6 cw_X6_73 (by omega) ⟨Nat.le_refl _, Nat.le_refl _⟩ (by decide) (c_X6_in (x := x) (a := 0) (b := 4095) rfl (by decide) (by decide) (fun c6 => ?_) (fun c6 => ?_))
  · refine aw_if_eq (tgt := 19) dX6_cup_9 (by decide) (fun zz => absurd zz (by decide)) (fun _ => ?_)
    refine aw_iload_n dX6_cup_12 rfl ?_
    refine aw_S1 dX6_cup_13 cw_X6_121 (by omega) ⟨Nat.le_refl _, Nat.le_refl _⟩ (by decide) (c_X6_isSaying (by omega) (fun c13 => ?_) (fun c13 => ?_))
    · refine aw_if_ne (tgt := 22) dX6_cup_16 (by decide) (fun _ => ?_) (fun zz => absurd zz (by decide))
      refine aw_aload_n dX6_cup_22 rfl rfl ?_
      refine aw_gi dX6_cup_23 fw_X6_77 hM.1 ?_
      refine aw_bipush (v := 6) dX6_cup_26 (by decide) ?_
      refine aw_icmp_ne (tgt := 34) dX6_cup_28 (by decide) (fun c28 => ?_) (fun c28 => ?_)
      · refine aw_aload_n dX6_cup_34 rfl rfl ?_
        refine aw_gr dX6_cup_35 fw_X6_23 hM.1 hM.2.2.2.2.2.2.2.1 ?_
        refine aw_iconst (v := 2) dX6_cup_38 (by decide) ?_
        refine aw_aload_n dX6_cup_39 rfl rfl ?_
        refine aw_gi dX6_cup_40 fw_X6_77 hM.1 ?_
        refine aw_imul dX6_cup_43 ?_
        refine aw_iload_n dX6_cup_44 rfl ?_
        refine aw_is (2 * n) dX6_cup_45 hM.2.2.2.2.2.2.2.2.1 (by rw [hn]; exact ix0 n) (by have := ne_le hl (fun w => c28 (hq.mpr w)); omega) (by decide) ?_
        refine aw_aload_n dX6_cup_46 rfl rfl ?_
        refine aw_gr dX6_cup_47 fw_X6_23 hM.1 hM.2.2.2.2.2.2.2.1 ?_
        refine aw_iconst (v := 2) dX6_cup_50 (by decide) ?_
        refine aw_aload_n dX6_cup_51 rfl rfl ?_
        refine aw_gi dX6_cup_52 fw_X6_77 hM.1 ?_
        refine aw_imul dX6_cup_55 ?_
        refine aw_iconst (v := 1) dX6_cup_56 (by decide) ?_
        refine aw_iadd dX6_cup_57 ?_
        refine aw_iload_n dX6_cup_58 rfl ?_
        refine aw_is (2 * n + 1) dX6_cup_59 hM.2.2.2.2.2.2.2.2.1 (by rw [iU_at (by omega), hn]; exact ix1 n) (by have := ne_le hl (fun w => c28 (hq.mpr w)); omega) (by decide) ?_
        refine aw_aload_n dX6_cup_60 rfl rfl ?_
        refine aw_dup dX6_cup_61 rfl ?_
        refine aw_gi dX6_cup_62 fw_X6_77 hM.1 ?_
        refine aw_iconst (v := 1) dX6_cup_65 (by decide) ?_
        refine aw_iadd dX6_cup_66 ?_
        refine aw_pi dX6_cup_67 fw_X6_77 (ww_X6_77 _) hM.1 rfl ?_
        refine aw_aload_n dX6_cup_70 rfl rfl ?_
        refine aw_gi dX6_cup_71 fw_X6_77 hM.1 ?_
        refine aw_iconst (v := 1) dX6_cup_74 (by decide) ?_
        refine aw_isub dX6_cup_75 ?_
        refine aw_ireturn (ty := .int) dX6_cup_76 rfl rfl ?_
        have e : (iU (iU I 52 (2 * n) x) 52 (2 * n + 1) z) 48 10 = nI n := by rw [iU_at (by omega), iU_at (by omega)]; exact hn
        rw [iU_same, e, nI_1 n, nI_pred n]
        exact hA ⟨c6, c13⟩ (ne_le hl (fun w => c28 (hq.mpr w)))
      · refine aw_bipush (v := -4) dX6_cup_31 (by decide) ?_
        refine aw_ireturn (ty := .int) dX6_cup_33 rfl rfl ?_
        exact hFl ⟨c6, c13⟩ (hq.mp c28)
    · refine aw_if_ne (tgt := 22) dX6_cup_16 (by decide) (fun zz => absurd zz (by decide)) (fun _ => ?_)
      refine aw_bipush (v := -2) dX6_cup_19 (by decide) ?_
      refine aw_ireturn (ty := .int) dX6_cup_21 rfl rfl ?_
      exact hB (fun zz => c13 zz.2)
  · refine aw_if_eq (tgt := 19) dX6_cup_9 (by decide) (fun _ => ?_) (fun zz => absurd zz (by decide))
    refine aw_bipush (v := -2) dX6_cup_19 (by decide) ?_
    refine aw_ireturn (ty := .int) dX6_cup_21 rfl rfl ?_
    exact hB (fun zz => c6 zz.1)
theorem c_X6_bears {E : Ev} {d : Nat} {I : Mi} {L : Ml} {Z : Mz} {Q : Po} {x : Int32} {z : Int32} {n : Nat} (hM : MZ Z) (hn : I 48 12 = nI n) (hl : n ≤ 12) (hQ : Q none (iU (iU (iU I 53 (2 * n) x) 53 (2 * n + 1) z) 48 12 (nI (n + 1))) L Z) : AC E yX6_bears cX6_bears 3 none d 0 0 [.ref 48, .int x, .int z] I L Z Q := by
  refine ac_go (ls := [some (.ref 48), some (.int x), some (.int z)]) (by decide +kernel) (Nat.le_of_ble_eq_true rfl) rfl ?_
  refine aw_aload_n dX6_bears_0 rfl rfl ?_
  refine aw_gr dX6_bears_1 fw_X6_26 hM.1 hM.2.2.2.2.2.2.2.2.2.1 ?_
  refine aw_iconst (v := 2) dX6_bears_4 (by decide) ?_
  refine aw_aload_n dX6_bears_5 rfl rfl ?_
  refine aw_gi dX6_bears_6 fw_X6_89 hM.1 ?_
  refine aw_imul dX6_bears_9 ?_
  refine aw_iload_n dX6_bears_10 rfl ?_
  refine aw_is (2 * n) dX6_bears_11 hM.2.2.2.2.2.2.2.2.2.2.1 (by rw [hn]; exact ix0 n) (by omega) (by decide) ?_
  refine aw_aload_n dX6_bears_12 rfl rfl ?_
  refine aw_gr dX6_bears_13 fw_X6_26 hM.1 hM.2.2.2.2.2.2.2.2.2.1 ?_
  refine aw_iconst (v := 2) dX6_bears_16 (by decide) ?_
  refine aw_aload_n dX6_bears_17 rfl rfl ?_
  refine aw_gi dX6_bears_18 fw_X6_89 hM.1 ?_
  refine aw_imul dX6_bears_21 ?_
  refine aw_iconst (v := 1) dX6_bears_22 (by decide) ?_
  refine aw_iadd dX6_bears_23 ?_
  refine aw_iload_n dX6_bears_24 rfl ?_
  refine aw_is (2 * n + 1) dX6_bears_25 hM.2.2.2.2.2.2.2.2.2.2.1 (by rw [iU_at (by omega), hn]; exact ix1 n) (by omega) (by decide) ?_
  refine aw_aload_n dX6_bears_26 rfl rfl ?_
  refine aw_dup dX6_bears_27 rfl ?_
  refine aw_gi dX6_bears_28 fw_X6_89 hM.1 ?_
  refine aw_iconst (v := 1) dX6_bears_31 (by decide) ?_
  refine aw_iadd dX6_bears_32 ?_
  refine aw_pi dX6_bears_33 fw_X6_89 (ww_X6_89 _) hM.1 rfl ?_
  refine aw_return dX6_bears_36 rfl ?_
  have e : (iU (iU I 53 (2 * n) x) 53 (2 * n + 1) z) 48 12 = nI n := by rw [iU_at (by omega), iU_at (by omega)]; exact hn
  rw [e, nI_1 n]
  exact hQ
theorem c_X6_reason {E : Ev} {d : Nat} {I : Mi} {L : Ml} {Z : Mz} {Q : Po} {x : Int32} {z : Int32} {n : Nat} (hd : 2 ≤ d) (hM : MZ Z) (hn : I 48 12 = nI n) (hl : n ≤ 12) (hB : ¬ ((¬ x < 0 ∧ ¬ 4095 < x) ∧ (¬ z < 0 ∧ ¬ 11 < z) ∧ x &&& (1 <<< (z &&& 31)) = 0) → Q (some (.int (-2))) I L Z) (hFl : (¬ x < 0 ∧ ¬ 4095 < x) ∧ (¬ z < 0 ∧ ¬ 11 < z) ∧ x &&& (1 <<< (z &&& 31)) = 0 → n = 12 → Q (some (.int (-4))) I L Z) (hA : (¬ x < 0 ∧ ¬ 4095 < x) ∧ (¬ z < 0 ∧ ¬ 11 < z) ∧ x &&& (1 <<< (z &&& 31)) = 0 → n < 12 → Q (some (.int (nI n))) (iU (iU (iU I 53 (2 * n) x) 53 (2 * n + 1) z) 48 12 (nI (n + 1))) L Z) : AC E yX6_reason cX6_reason 3 (some .int) d 0 0 [.ref 48, .int x, .int z] I L Z Q := by
  refine ac_go (ls := [some (.ref 48), some (.int x), some (.int z)]) (by decide +kernel) (Nat.le_of_ble_eq_true rfl) rfl ?_
  have hq : I 48 12 = 12 ↔ n = 12 := by rw [hn]; exact nI_eq (b := 12) (by omega) (by decide)
  refine aw_iload_n dX6_reason_0 rfl ?_
  refine aw_i2l dX6_reason_1 ?_
  refine aw_lconst (v := 0) dX6_reason_2 (by decide) ?_
  refine aw_ldc2 dX6_reason_3 kw_X6_119 ?_
  refine aw_S3 dX6_reason_6 cw_X6_73 (by omega) ⟨Nat.le_refl _, Nat.le_refl _⟩ (by decide) (c_X6_in (x := x) (a := 0) (b := 4095) rfl (by decide) (by decide) (fun c6 => ?_) (fun c6 => ?_))
  · refine aw_if_eq (tgt := 28) dX6_reason_9 (by decide) (fun zz => absurd zz (by decide)) (fun _ => ?_)
    refine aw_iload_n dX6_reason_12 rfl ?_
    refine aw_S1 dX6_reason_13 cw_X6_121 (by omega) ⟨Nat.le_refl _, Nat.le_refl _⟩ (by decide) (c_X6_isSaying (by omega) (fun c13 => ?_) (fun c13 => ?_))
    · refine aw_if_eq (tgt := 28) dX6_reason_16 (by decide) (fun zz => absurd zz (by decide)) (fun _ => ?_)
      refine aw_iload_n dX6_reason_19 rfl ?_
      refine aw_iload_n dX6_reason_20 rfl ?_
      refine aw_ishr dX6_reason_21 ?_
      refine aw_iconst (v := 1) dX6_reason_22 (by decide) ?_
      refine aw_iand dX6_reason_23 ?_
      refine aw_iconst (v := 1) dX6_reason_24 (by decide) ?_
      refine aw_icmp_ne (tgt := 31) dX6_reason_25 (by decide) (fun c25 => ?_) (fun c25 => ?_)
      · refine aw_aload_n dX6_reason_31 rfl rfl ?_
        refine aw_gi dX6_reason_32 fw_X6_89 hM.1 ?_
        refine aw_bipush (v := 12) dX6_reason_35 (by decide) ?_
        refine aw_icmp_ne (tgt := 43) dX6_reason_37 (by decide) (fun c37 => ?_) (fun c37 => ?_)
        · refine aw_aload_n dX6_reason_43 rfl rfl ?_
          refine aw_iload_n dX6_reason_44 rfl ?_
          refine aw_iload_n dX6_reason_45 rfl ?_
          refine aw_V2 dX6_reason_46 cw_X6_124 ⟨_, _, rfl⟩ hM.1 (by omega) ⟨Nat.le_refl _, Nat.le_refl _⟩ (by decide) (c_X6_bears hM hn hl ?_)
          refine aw_aload_n dX6_reason_49 rfl rfl ?_
          refine aw_gi dX6_reason_50 fw_X6_89 hM.1 ?_
          refine aw_iconst (v := 1) dX6_reason_53 (by decide) ?_
          refine aw_isub dX6_reason_54 ?_
          refine aw_ireturn (ty := .int) dX6_reason_55 rfl rfl ?_
          rw [iU_same, nI_pred n]
          exact hA ⟨c6, c13, Decidable.not_not.mp (fun w => c25 ((bit_two c6 c13).mpr w))⟩ (ne_le hl (fun w => c37 (hq.mpr w)))
        · refine aw_bipush (v := -4) dX6_reason_40 (by decide) ?_
          refine aw_ireturn (ty := .int) dX6_reason_42 rfl rfl ?_
          exact hFl ⟨c6, c13, Decidable.not_not.mp (fun w => c25 ((bit_two c6 c13).mpr w))⟩ (hq.mp c37)
      · refine aw_bipush (v := -2) dX6_reason_28 (by decide) ?_
        refine aw_ireturn (ty := .int) dX6_reason_30 rfl rfl ?_
        exact hB (fun zz => (bit_two c6 c13).mp c25 zz.2.2)
    · refine aw_if_eq (tgt := 28) dX6_reason_16 (by decide) (fun _ => ?_) (fun zz => absurd zz (by decide))
      refine aw_bipush (v := -2) dX6_reason_28 (by decide) ?_
      refine aw_ireturn (ty := .int) dX6_reason_30 rfl rfl ?_
      exact hB (fun zz => c13 zz.2.1)
  · refine aw_if_eq (tgt := 28) dX6_reason_9 (by decide) (fun _ => ?_) (fun zz => absurd zz (by decide))
    refine aw_bipush (v := -2) dX6_reason_28 (by decide) ?_
    refine aw_ireturn (ty := .int) dX6_reason_30 rfl rfl ?_
    exact hB (fun zz => c6 zz.1)
theorem c_X6_unsay {E : Ev} {d : Nat} {I : Mi} {L : Ml} {Z : Mz} {Q : Po}  {n : Nat} (hM : MZ Z) (hn : I 48 12 = nI n) (hl : n ≤ 12) (hB : n = 0 → Q (some (.int (-3))) I L Z) (hA : 0 < n → Q (some (.int (nI (n - 1)))) (iU I 48 12 (nI (n - 1))) L Z) : AC E yX6_unsay cX6_unsay 1 (some .int) d 0 0 [.ref 48] I L Z Q := by
  refine ac_go (ls := [some (.ref 48)]) (by decide +kernel) (Nat.le_of_ble_eq_true rfl) rfl ?_
  have hq : I 48 12 = 0 ↔ n = 0 := by rw [hn]; exact nI_eq (b := 0) (by omega) (by decide)
  refine aw_aload_n dX6_unsay_0 rfl rfl ?_
  refine aw_gi dX6_unsay_1 fw_X6_89 hM.1 ?_
  refine aw_if_ne (tgt := 10) dX6_unsay_4 (by decide) (fun c4 => ?_) (fun c4 => ?_)
  · refine aw_aload_n dX6_unsay_10 rfl rfl ?_
    refine aw_dup dX6_unsay_11 rfl ?_
    refine aw_gi dX6_unsay_12 fw_X6_89 hM.1 ?_
    refine aw_iconst (v := 1) dX6_unsay_15 (by decide) ?_
    refine aw_isub dX6_unsay_16 ?_
    refine aw_pi dX6_unsay_17 fw_X6_89 (ww_X6_89 _) hM.1 rfl ?_
    refine aw_aload_n dX6_unsay_20 rfl rfl ?_
    refine aw_gi dX6_unsay_21 fw_X6_89 hM.1 ?_
    refine aw_ireturn (ty := .int) dX6_unsay_24 rfl rfl ?_
    have hp : 0 < n := Nat.pos_of_ne_zero (fun w => c4 (hq.mpr w))
    rw [iU_same, hn, nI_m1 hp]
    exact hA hp
  · refine aw_bipush (v := -3) dX6_unsay_7 (by decide) ?_
    refine aw_ireturn (ty := .int) dX6_unsay_9 rfl rfl ?_
    exact hB (hq.mp c4)
theorem c_X6_reader {E : Ev} {d : Nat} {I : Mi} {L : Ml} {Z : Mz} {Q : Po} {x : Int32} {z : Int32} {n : Nat} (hd : 2 ≤ d) (hM : MZ Z) (hn : I 48 15 = nI n) (hl : n ≤ 5) (hB : ¬ ((¬ x < 0 ∧ ¬ 5 < x) ∧ (¬ z < 0 ∧ ¬ 9 < z)) → Q (some (.int (-2))) I L Z) (hFl : (¬ x < 0 ∧ ¬ 5 < x) ∧ (¬ z < 0 ∧ ¬ 9 < z) → n = 5 → Q (some (.int (-4))) I L Z) (hA : (¬ x < 0 ∧ ¬ 5 < x) ∧ (¬ z < 0 ∧ ¬ 9 < z) → n < 5 → Q (some (.int (nI n))) (iU (iU (iU (iU I 54 n x) 55 (2 * n) z) 55 (2 * n + 1) 0) 48 15 (nI (n + 1))) L Z) : AC E yX6_reader cX6_reader 3 (some .int) d 0 0 [.ref 48, .int x, .int z] I L Z Q := by
  refine ac_go (ls := [some (.ref 48), some (.int x), some (.int z)]) (by decide +kernel) (Nat.le_of_ble_eq_true rfl) rfl ?_
  have hq : I 48 15 = 5 ↔ n = 5 := by rw [hn]; exact nI_eq (b := 5) (by omega) (by decide)
  refine aw_iload_n dX6_reader_0 rfl ?_
  refine aw_i2l dX6_reader_1 ?_
  refine aw_lconst (v := 0) dX6_reader_2 (by decide) ?_
  refine aw_ldc2 dX6_reader_3 kw_X6_92 ?_
  refine aw_S3 dX6_reader_6 cw_X6_73 (by omega) ⟨Nat.le_refl _, Nat.le_refl _⟩ (by decide) (c_X6_in (x := x) (a := 0) (b := 5) rfl (by decide) (by decide) (fun c6 => ?_) (fun c6 => ?_))
  · refine aw_if_eq (tgt := 24) dX6_reader_9 (by decide) (fun zz => absurd zz (by decide)) (fun _ => ?_)
    refine aw_iload_n dX6_reader_12 rfl ?_
    refine aw_i2l dX6_reader_13 ?_
    refine aw_lconst (v := 0) dX6_reader_14 (by decide) ?_
    refine aw_ldc2 dX6_reader_15 kw_X6_128 ?_
    refine aw_S3 dX6_reader_18 cw_X6_73 (by omega) ⟨Nat.le_refl _, Nat.le_refl _⟩ (by decide) (c_X6_in (x := z) (a := 0) (b := 9) rfl (by decide) (by decide) (fun c18 => ?_) (fun c18 => ?_))
    · refine aw_if_ne (tgt := 27) dX6_reader_21 (by decide) (fun _ => ?_) (fun zz => absurd zz (by decide))
      refine aw_aload_n dX6_reader_27 rfl rfl ?_
      refine aw_gi dX6_reader_28 fw_X6_70 hM.1 ?_
      refine aw_iconst (v := 5) dX6_reader_31 (by decide) ?_
      refine aw_icmp_ne (tgt := 38) dX6_reader_32 (by decide) (fun c32 => ?_) (fun c32 => ?_)
      · refine aw_aload_n dX6_reader_38 rfl rfl ?_
        refine aw_gr dX6_reader_39 fw_X6_29 hM.1 hM.2.2.2.2.2.2.2.2.2.2.2.1 ?_
        refine aw_aload_n dX6_reader_42 rfl rfl ?_
        refine aw_gi dX6_reader_43 fw_X6_70 hM.1 ?_
        refine aw_iload_n dX6_reader_46 rfl ?_
        refine aw_is n dX6_reader_47 hM.2.2.2.2.2.2.2.2.2.2.2.2.1 hn (ne_le hl (fun w => c32 (hq.mpr w))) (by decide) ?_
        refine aw_aload_n dX6_reader_48 rfl rfl ?_
        refine aw_gr dX6_reader_49 fw_X6_32 hM.1 hM.2.2.2.2.2.2.2.2.2.2.2.2.2.1 ?_
        refine aw_iconst (v := 2) dX6_reader_52 (by decide) ?_
        refine aw_aload_n dX6_reader_53 rfl rfl ?_
        refine aw_gi dX6_reader_54 fw_X6_70 hM.1 ?_
        refine aw_imul dX6_reader_57 ?_
        refine aw_iload_n dX6_reader_58 rfl ?_
        refine aw_is (2 * n) dX6_reader_59 hM.2.2.2.2.2.2.2.2.2.2.2.2.2.2.1 (by rw [iU_at (by omega), hn]; exact ix0 n) (by have := ne_le hl (fun w => c32 (hq.mpr w)); omega) (by decide) ?_
        refine aw_aload_n dX6_reader_60 rfl rfl ?_
        refine aw_gr dX6_reader_61 fw_X6_32 hM.1 hM.2.2.2.2.2.2.2.2.2.2.2.2.2.1 ?_
        refine aw_iconst (v := 2) dX6_reader_64 (by decide) ?_
        refine aw_aload_n dX6_reader_65 rfl rfl ?_
        refine aw_gi dX6_reader_66 fw_X6_70 hM.1 ?_
        refine aw_imul dX6_reader_69 ?_
        refine aw_iconst (v := 1) dX6_reader_70 (by decide) ?_
        refine aw_iadd dX6_reader_71 ?_
        refine aw_iconst (v := 0) dX6_reader_72 (by decide) ?_
        refine aw_is (2 * n + 1) dX6_reader_73 hM.2.2.2.2.2.2.2.2.2.2.2.2.2.2.1 (by rw [iU_at (by omega), iU_at (by omega), hn]; exact ix1 n) (by have := ne_le hl (fun w => c32 (hq.mpr w)); omega) (by decide) ?_
        refine aw_aload_n dX6_reader_74 rfl rfl ?_
        refine aw_dup dX6_reader_75 rfl ?_
        refine aw_gi dX6_reader_76 fw_X6_70 hM.1 ?_
        refine aw_iconst (v := 1) dX6_reader_79 (by decide) ?_
        refine aw_iadd dX6_reader_80 ?_
        refine aw_pi dX6_reader_81 fw_X6_70 (ww_X6_70 _) hM.1 rfl ?_
        refine aw_aload_n dX6_reader_84 rfl rfl ?_
        refine aw_gi dX6_reader_85 fw_X6_70 hM.1 ?_
        refine aw_iconst (v := 1) dX6_reader_88 (by decide) ?_
        refine aw_isub dX6_reader_89 ?_
        refine aw_ireturn (ty := .int) dX6_reader_90 rfl rfl ?_
        have e : (iU (iU (iU I 54 n x) 55 (2 * n) z) 55 (2 * n + 1) 0) 48 15 = nI n := by rw [iU_at (by omega), iU_at (by omega), iU_at (by omega)]; exact hn
        rw [iU_same, e, nI_1 n, nI_pred n]
        exact hA ⟨c6, c18⟩ (ne_le hl (fun w => c32 (hq.mpr w)))
      · refine aw_bipush (v := -4) dX6_reader_35 (by decide) ?_
        refine aw_ireturn (ty := .int) dX6_reader_37 rfl rfl ?_
        exact hFl ⟨c6, c18⟩ (hq.mp c32)
    · refine aw_if_ne (tgt := 27) dX6_reader_21 (by decide) (fun zz => absurd zz (by decide)) (fun _ => ?_)
      refine aw_bipush (v := -2) dX6_reader_24 (by decide) ?_
      refine aw_ireturn (ty := .int) dX6_reader_26 rfl rfl ?_
      exact hB (fun zz => c18 zz.2)
  · refine aw_if_eq (tgt := 24) dX6_reader_9 (by decide) (fun _ => ?_) (fun zz => absurd zz (by decide))
    refine aw_bipush (v := -2) dX6_reader_24 (by decide) ?_
    refine aw_ireturn (ty := .int) dX6_reader_26 rfl rfl ?_
    exact hB (fun zz => c6 zz.1)
theorem c_X6_feed {E : Ev} {d : Nat} {I : Mi} {L : Ml} {Z : Mz} {Q : Po} {x : Int32} {n : Nat} (hd : 1 ≤ d) (hM : MZ Z) (hn : I 48 6 = nI n) (hl : n ≤ 160) (hB : ¬ (¬ x < 0 ∧ ¬ 255 < x) → Q (some (.int (-2))) I L Z) (hFl : (¬ x < 0 ∧ ¬ 255 < x) → n = 160 → Q (some (.int (-4))) I L Z) (hA : (¬ x < 0 ∧ ¬ 255 < x) → n < 160 → Q (some (.int (nI (n + 1)))) (iU (iU I 51 n x) 48 6 (nI (n + 1))) L Z) : AC E yX6_feed cX6_feed 2 (some .int) d 0 0 [.ref 48, .int x] I L Z Q := by
  refine ac_go (ls := [some (.ref 48), some (.int x)]) (by decide +kernel) (Nat.le_of_ble_eq_true rfl) rfl ?_
  have hq : I 48 6 = 160 ↔ n = 160 := by rw [hn]; exact nI_eq (b := 160) (by omega) (by decide)
  refine aw_iload_n dX6_feed_0 rfl ?_
  refine aw_i2l dX6_feed_1 ?_
  refine aw_lconst (v := 0) dX6_feed_2 (by decide) ?_
  refine aw_ldc2 dX6_feed_3 kw_X6_133 ?_
  refine aw_S3 dX6_feed_6 cw_X6_73 (by omega) ⟨Nat.le_refl _, Nat.le_refl _⟩ (by decide) (c_X6_in (x := x) (a := 0) (b := 255) rfl (by decide) (by decide) (fun c6 => ?_) (fun c6 => ?_))
  · refine aw_if_ne (tgt := 15) dX6_feed_9 (by decide) (fun _ => ?_) (fun zz => absurd zz (by decide))
    refine aw_aload_n dX6_feed_15 rfl rfl ?_
    refine aw_gi dX6_feed_16 fw_X6_135 hM.1 ?_
    refine aw_sipush (v := 160) dX6_feed_19 (by decide) ?_
    refine aw_icmp_ne (tgt := 28) dX6_feed_22 (by decide) (fun c22 => ?_) (fun c22 => ?_)
    · refine aw_aload_n dX6_feed_28 rfl rfl ?_
      refine aw_gr dX6_feed_29 fw_X6_20 hM.1 hM.2.2.2.2.2.1 ?_
      refine aw_aload_n dX6_feed_32 rfl rfl ?_
      refine aw_gi dX6_feed_33 fw_X6_135 hM.1 ?_
      refine aw_iload_n dX6_feed_36 rfl ?_
      refine aw_is n dX6_feed_37 hM.2.2.2.2.2.2.1 hn (ne_le hl (fun w => c22 (hq.mpr w))) (by decide) ?_
      refine aw_aload_n dX6_feed_38 rfl rfl ?_
      refine aw_dup dX6_feed_39 rfl ?_
      refine aw_gi dX6_feed_40 fw_X6_135 hM.1 ?_
      refine aw_iconst (v := 1) dX6_feed_43 (by decide) ?_
      refine aw_iadd dX6_feed_44 ?_
      refine aw_pi dX6_feed_45 fw_X6_135 (ww_X6_135 _) hM.1 rfl ?_
      refine aw_aload_n dX6_feed_48 rfl rfl ?_
      refine aw_gi dX6_feed_49 fw_X6_135 hM.1 ?_
      refine aw_ireturn (ty := .int) dX6_feed_52 rfl rfl ?_
      have e : (iU I 51 n x) 48 6 = nI n := by rw [iU_at (by omega)]; exact hn
      rw [iU_same, e, nI_1 n]
      exact hA c6 (ne_le hl (fun w => c22 (hq.mpr w)))
    · refine aw_bipush (v := -4) dX6_feed_25 (by decide) ?_
      refine aw_ireturn (ty := .int) dX6_feed_27 rfl rfl ?_
      exact hFl c6 (hq.mp c22)
  · refine aw_if_ne (tgt := 15) dX6_feed_9 (by decide) (fun zz => absurd zz (by decide)) (fun _ => ?_)
    refine aw_bipush (v := -2) dX6_feed_12 (by decide) ?_
    refine aw_ireturn (ty := .int) dX6_feed_14 rfl rfl ?_
    exact hB c6
theorem c_X6_force {E : Ev} {d : Nat} {I : Mi} {L : Ml} {Z : Mz} {Q : Po} {x : Int32} {n : Nat} (hd : 1 ≤ d) (hM : MZ Z) (hn : I 48 3 = nI n) (hl : n ≤ 6) (h1 : 1 ≤ n) (hB : ¬ (¬ x < 0 ∧ ¬ nI (n - 1) < x) → Q (some (.int (-2))) I L Z) (hA : (¬ x < 0 ∧ ¬ nI (n - 1) < x) → Q (some (.int (I 48 4))) (iU I 48 4 x) L Z) : AC E yX6_force cX6_force 3 (some .int) d 0 0 [.ref 48, .int x] I L Z Q := by
  refine ac_go (ls := [some (.ref 48), some (.int x), none]) (by decide +kernel) (Nat.le_of_ble_eq_true rfl) rfl ?_
  refine aw_iload_n dX6_force_0 rfl ?_
  refine aw_i2l dX6_force_1 ?_
  refine aw_lconst (v := 0) dX6_force_2 (by decide) ?_
  refine aw_aload_n dX6_force_3 rfl rfl ?_
  refine aw_gi dX6_force_4 fw_X6_67 hM.1 ?_
  refine aw_iconst (v := 1) dX6_force_7 (by decide) ?_
  refine aw_isub dX6_force_8 ?_
  refine aw_i2l dX6_force_9 ?_
  refine aw_S3 dX6_force_10 cw_X6_73 (by omega) ⟨Nat.le_refl _, Nat.le_refl _⟩ (by decide) (c_X6_in (x := x) (a := 0) (b := nI (n - 1)) rfl (by decide) (by rw [hn, nI_m1 (by omega)]) (fun c10 => ?_) (fun c10 => ?_))
  · refine aw_if_ne (tgt := 19) dX6_force_13 (by decide) (fun _ => ?_) (fun zz => absurd zz (by decide))
    refine aw_aload_n dX6_force_19 rfl rfl ?_
    refine aw_gi dX6_force_20 fw_X6_116 hM.1 ?_
    refine aw_istore_n (ls' := [_, _, _]) dX6_force_23 (by decide) rfl rfl ?_
    refine aw_aload_n dX6_force_24 rfl rfl ?_
    refine aw_iload_n dX6_force_25 rfl ?_
    refine aw_pi dX6_force_26 fw_X6_116 (ww_X6_116 _) hM.1 rfl ?_
    refine aw_iload_n dX6_force_29 rfl ?_
    refine aw_ireturn (ty := .int) dX6_force_30 rfl rfl ?_
    exact hA c10
  · refine aw_if_ne (tgt := 19) dX6_force_13 (by decide) (fun zz => absurd zz (by decide)) (fun _ => ?_)
    refine aw_bipush (v := -2) dX6_force_16 (by decide) ?_
    refine aw_ireturn (ty := .int) dX6_force_18 rfl rfl ?_
    exact hB c10
theorem c_X6_count0 {E : Ev} {d : Nat} {I : Mi} {L : Ml} {Z : Mz} {Q : Po}   (hd : 1 ≤ d) (hM : MZ Z) (hA : Q (some (.int (I 48 15))) I L Z) : AC E yX6_count cX6_count 2 (some .int) d 0 0 [.ref 48, .int 0] I L Z Q := by
  refine ac_go (ls := [some (.ref 48), some (.int 0)]) (by decide +kernel) (Nat.le_of_ble_eq_true rfl) rfl ?_
  refine aw_iload_n dX6_count_0 rfl ?_
  refine aw_i2l dX6_count_1 ?_
  refine aw_lconst (v := 0) dX6_count_2 (by decide) ?_
  refine aw_ldc2 dX6_count_3 kw_X6_92 ?_
  refine aw_S3 dX6_count_6 cw_X6_73 (by omega) ⟨Nat.le_refl _, Nat.le_refl _⟩ (by decide) (c_X6_in (x := 0) (a := 0) (b := 5) rfl (by decide) (by decide) (fun c6 => ?_) (fun zz => absurd (by decide) zz))
  refine aw_if_ne (tgt := 15) dX6_count_9 (by decide) (fun _ => ?_) (fun zz => absurd zz (by decide))
  refine aw_iload_n dX6_count_15 rfl ?_
  refine aw_if_ne (tgt := 26) dX6_count_16 (by decide) (fun zz => absurd zz (by decide)) (fun _ => ?_)
  refine aw_aload_n dX6_count_19 rfl rfl ?_
  refine aw_gi dX6_count_20 fw_X6_70 hM.1 ?_
  refine aw_goto (tgt := 78) dX6_count_23 (by decide) ?_
  refine aw_ireturn (ty := .int) dX6_count_78 rfl rfl ?_
  exact hA
theorem c_X6_count1 {E : Ev} {d : Nat} {I : Mi} {L : Ml} {Z : Mz} {Q : Po}   (hd : 1 ≤ d) (hM : MZ Z) (hA : Q (some (.int (I 48 10))) I L Z) : AC E yX6_count cX6_count 2 (some .int) d 0 0 [.ref 48, .int 1] I L Z Q := by
  refine ac_go (ls := [some (.ref 48), some (.int 1)]) (by decide +kernel) (Nat.le_of_ble_eq_true rfl) rfl ?_
  refine aw_iload_n dX6_count_0 rfl ?_
  refine aw_i2l dX6_count_1 ?_
  refine aw_lconst (v := 0) dX6_count_2 (by decide) ?_
  refine aw_ldc2 dX6_count_3 kw_X6_92 ?_
  refine aw_S3 dX6_count_6 cw_X6_73 (by omega) ⟨Nat.le_refl _, Nat.le_refl _⟩ (by decide) (c_X6_in (x := 1) (a := 0) (b := 5) rfl (by decide) (by decide) (fun c6 => ?_) (fun zz => absurd (by decide) zz))
  refine aw_if_ne (tgt := 15) dX6_count_9 (by decide) (fun _ => ?_) (fun zz => absurd zz (by decide))
  refine aw_iload_n dX6_count_15 rfl ?_
  refine aw_if_ne (tgt := 26) dX6_count_16 (by decide) (fun _ => ?_) (fun zz => absurd zz (by decide))
  refine aw_iload_n dX6_count_26 rfl ?_
  refine aw_iconst (v := 1) dX6_count_27 (by decide) ?_
  refine aw_icmp_ne (tgt := 38) dX6_count_28 (by decide) (fun zz => absurd zz (by decide)) (fun _ => ?_)
  refine aw_aload_n dX6_count_31 rfl rfl ?_
  refine aw_gi dX6_count_32 fw_X6_77 hM.1 ?_
  refine aw_goto (tgt := 78) dX6_count_35 (by decide) ?_
  refine aw_ireturn (ty := .int) dX6_count_78 rfl rfl ?_
  exact hA
theorem c_X6_count2 {E : Ev} {d : Nat} {I : Mi} {L : Ml} {Z : Mz} {Q : Po}   (hd : 1 ≤ d) (hM : MZ Z) (hA : Q (some (.int (I 48 12))) I L Z) : AC E yX6_count cX6_count 2 (some .int) d 0 0 [.ref 48, .int 2] I L Z Q := by
  refine ac_go (ls := [some (.ref 48), some (.int 2)]) (by decide +kernel) (Nat.le_of_ble_eq_true rfl) rfl ?_
  refine aw_iload_n dX6_count_0 rfl ?_
  refine aw_i2l dX6_count_1 ?_
  refine aw_lconst (v := 0) dX6_count_2 (by decide) ?_
  refine aw_ldc2 dX6_count_3 kw_X6_92 ?_
  refine aw_S3 dX6_count_6 cw_X6_73 (by omega) ⟨Nat.le_refl _, Nat.le_refl _⟩ (by decide) (c_X6_in (x := 2) (a := 0) (b := 5) rfl (by decide) (by decide) (fun c6 => ?_) (fun zz => absurd (by decide) zz))
  refine aw_if_ne (tgt := 15) dX6_count_9 (by decide) (fun _ => ?_) (fun zz => absurd zz (by decide))
  refine aw_iload_n dX6_count_15 rfl ?_
  refine aw_if_ne (tgt := 26) dX6_count_16 (by decide) (fun _ => ?_) (fun zz => absurd zz (by decide))
  refine aw_iload_n dX6_count_26 rfl ?_
  refine aw_iconst (v := 1) dX6_count_27 (by decide) ?_
  refine aw_icmp_ne (tgt := 38) dX6_count_28 (by decide) (fun _ => ?_) (fun zz => absurd zz (by decide))
  refine aw_iload_n dX6_count_38 rfl ?_
  refine aw_iconst (v := 2) dX6_count_39 (by decide) ?_
  refine aw_icmp_ne (tgt := 50) dX6_count_40 (by decide) (fun zz => absurd zz (by decide)) (fun _ => ?_)
  refine aw_aload_n dX6_count_43 rfl rfl ?_
  refine aw_gi dX6_count_44 fw_X6_89 hM.1 ?_
  refine aw_goto (tgt := 78) dX6_count_47 (by decide) ?_
  refine aw_ireturn (ty := .int) dX6_count_78 rfl rfl ?_
  exact hA
theorem c_X6_count3 {E : Ev} {d : Nat} {I : Mi} {L : Ml} {Z : Mz} {Q : Po}   (hd : 1 ≤ d) (hM : MZ Z) (hA : Q (some (.int (I 48 3))) I L Z) : AC E yX6_count cX6_count 2 (some .int) d 0 0 [.ref 48, .int 3] I L Z Q := by
  refine ac_go (ls := [some (.ref 48), some (.int 3)]) (by decide +kernel) (Nat.le_of_ble_eq_true rfl) rfl ?_
  refine aw_iload_n dX6_count_0 rfl ?_
  refine aw_i2l dX6_count_1 ?_
  refine aw_lconst (v := 0) dX6_count_2 (by decide) ?_
  refine aw_ldc2 dX6_count_3 kw_X6_92 ?_
  refine aw_S3 dX6_count_6 cw_X6_73 (by omega) ⟨Nat.le_refl _, Nat.le_refl _⟩ (by decide) (c_X6_in (x := 3) (a := 0) (b := 5) rfl (by decide) (by decide) (fun c6 => ?_) (fun zz => absurd (by decide) zz))
  refine aw_if_ne (tgt := 15) dX6_count_9 (by decide) (fun _ => ?_) (fun zz => absurd zz (by decide))
  refine aw_iload_n dX6_count_15 rfl ?_
  refine aw_if_ne (tgt := 26) dX6_count_16 (by decide) (fun _ => ?_) (fun zz => absurd zz (by decide))
  refine aw_iload_n dX6_count_26 rfl ?_
  refine aw_iconst (v := 1) dX6_count_27 (by decide) ?_
  refine aw_icmp_ne (tgt := 38) dX6_count_28 (by decide) (fun _ => ?_) (fun zz => absurd zz (by decide))
  refine aw_iload_n dX6_count_38 rfl ?_
  refine aw_iconst (v := 2) dX6_count_39 (by decide) ?_
  refine aw_icmp_ne (tgt := 50) dX6_count_40 (by decide) (fun _ => ?_) (fun zz => absurd zz (by decide))
  refine aw_iload_n dX6_count_50 rfl ?_
  refine aw_iconst (v := 3) dX6_count_51 (by decide) ?_
  refine aw_icmp_ne (tgt := 62) dX6_count_52 (by decide) (fun zz => absurd zz (by decide)) (fun _ => ?_)
  refine aw_aload_n dX6_count_55 rfl rfl ?_
  refine aw_gi dX6_count_56 fw_X6_67 hM.1 ?_
  refine aw_goto (tgt := 78) dX6_count_59 (by decide) ?_
  refine aw_ireturn (ty := .int) dX6_count_78 rfl rfl ?_
  exact hA
theorem c_X6_count4 {E : Ev} {d : Nat} {I : Mi} {L : Ml} {Z : Mz} {Q : Po}   (hd : 1 ≤ d) (hM : MZ Z) (hA : Q (some (.int (I 48 6))) I L Z) : AC E yX6_count cX6_count 2 (some .int) d 0 0 [.ref 48, .int 4] I L Z Q := by
  refine ac_go (ls := [some (.ref 48), some (.int 4)]) (by decide +kernel) (Nat.le_of_ble_eq_true rfl) rfl ?_
  refine aw_iload_n dX6_count_0 rfl ?_
  refine aw_i2l dX6_count_1 ?_
  refine aw_lconst (v := 0) dX6_count_2 (by decide) ?_
  refine aw_ldc2 dX6_count_3 kw_X6_92 ?_
  refine aw_S3 dX6_count_6 cw_X6_73 (by omega) ⟨Nat.le_refl _, Nat.le_refl _⟩ (by decide) (c_X6_in (x := 4) (a := 0) (b := 5) rfl (by decide) (by decide) (fun c6 => ?_) (fun zz => absurd (by decide) zz))
  refine aw_if_ne (tgt := 15) dX6_count_9 (by decide) (fun _ => ?_) (fun zz => absurd zz (by decide))
  refine aw_iload_n dX6_count_15 rfl ?_
  refine aw_if_ne (tgt := 26) dX6_count_16 (by decide) (fun _ => ?_) (fun zz => absurd zz (by decide))
  refine aw_iload_n dX6_count_26 rfl ?_
  refine aw_iconst (v := 1) dX6_count_27 (by decide) ?_
  refine aw_icmp_ne (tgt := 38) dX6_count_28 (by decide) (fun _ => ?_) (fun zz => absurd zz (by decide))
  refine aw_iload_n dX6_count_38 rfl ?_
  refine aw_iconst (v := 2) dX6_count_39 (by decide) ?_
  refine aw_icmp_ne (tgt := 50) dX6_count_40 (by decide) (fun _ => ?_) (fun zz => absurd zz (by decide))
  refine aw_iload_n dX6_count_50 rfl ?_
  refine aw_iconst (v := 3) dX6_count_51 (by decide) ?_
  refine aw_icmp_ne (tgt := 62) dX6_count_52 (by decide) (fun _ => ?_) (fun zz => absurd zz (by decide))
  refine aw_iload_n dX6_count_62 rfl ?_
  refine aw_iconst (v := 4) dX6_count_63 (by decide) ?_
  refine aw_icmp_ne (tgt := 74) dX6_count_64 (by decide) (fun zz => absurd zz (by decide)) (fun _ => ?_)
  refine aw_aload_n dX6_count_67 rfl rfl ?_
  refine aw_gi dX6_count_68 fw_X6_135 hM.1 ?_
  refine aw_goto (tgt := 78) dX6_count_71 (by decide) ?_
  refine aw_ireturn (ty := .int) dX6_count_78 rfl rfl ?_
  exact hA
theorem c_X6_count5 {E : Ev} {d : Nat} {I : Mi} {L : Ml} {Z : Mz} {Q : Po}   (hd : 1 ≤ d) (hM : MZ Z) (hA : Q (some (.int (I 48 4))) I L Z) : AC E yX6_count cX6_count 2 (some .int) d 0 0 [.ref 48, .int 5] I L Z Q := by
  refine ac_go (ls := [some (.ref 48), some (.int 5)]) (by decide +kernel) (Nat.le_of_ble_eq_true rfl) rfl ?_
  refine aw_iload_n dX6_count_0 rfl ?_
  refine aw_i2l dX6_count_1 ?_
  refine aw_lconst (v := 0) dX6_count_2 (by decide) ?_
  refine aw_ldc2 dX6_count_3 kw_X6_92 ?_
  refine aw_S3 dX6_count_6 cw_X6_73 (by omega) ⟨Nat.le_refl _, Nat.le_refl _⟩ (by decide) (c_X6_in (x := 5) (a := 0) (b := 5) rfl (by decide) (by decide) (fun c6 => ?_) (fun zz => absurd (by decide) zz))
  refine aw_if_ne (tgt := 15) dX6_count_9 (by decide) (fun _ => ?_) (fun zz => absurd zz (by decide))
  refine aw_iload_n dX6_count_15 rfl ?_
  refine aw_if_ne (tgt := 26) dX6_count_16 (by decide) (fun _ => ?_) (fun zz => absurd zz (by decide))
  refine aw_iload_n dX6_count_26 rfl ?_
  refine aw_iconst (v := 1) dX6_count_27 (by decide) ?_
  refine aw_icmp_ne (tgt := 38) dX6_count_28 (by decide) (fun _ => ?_) (fun zz => absurd zz (by decide))
  refine aw_iload_n dX6_count_38 rfl ?_
  refine aw_iconst (v := 2) dX6_count_39 (by decide) ?_
  refine aw_icmp_ne (tgt := 50) dX6_count_40 (by decide) (fun _ => ?_) (fun zz => absurd zz (by decide))
  refine aw_iload_n dX6_count_50 rfl ?_
  refine aw_iconst (v := 3) dX6_count_51 (by decide) ?_
  refine aw_icmp_ne (tgt := 62) dX6_count_52 (by decide) (fun _ => ?_) (fun zz => absurd zz (by decide))
  refine aw_iload_n dX6_count_62 rfl ?_
  refine aw_iconst (v := 4) dX6_count_63 (by decide) ?_
  refine aw_icmp_ne (tgt := 74) dX6_count_64 (by decide) (fun _ => ?_) (fun zz => absurd zz (by decide))
  refine aw_aload_n dX6_count_74 rfl rfl ?_
  refine aw_gi dX6_count_75 fw_X6_116 hM.1 ?_
  refine aw_ireturn (ty := .int) dX6_count_78 rfl rfl ?_
  exact hA
theorem c_X6_countX {E : Ev} {d : Nat} {I : Mi} {L : Ml} {Z : Mz} {Q : Po} {w : Int32}  (hd : 1 ≤ d) (hM : MZ Z) (hw : ¬ (¬ w < 0 ∧ ¬ 5 < w)) (hB : Q (some (.int (-2))) I L Z) : AC E yX6_count cX6_count 2 (some .int) d 0 0 [.ref 48, .int w] I L Z Q := by
  refine ac_go (ls := [some (.ref 48), some (.int w)]) (by decide +kernel) (Nat.le_of_ble_eq_true rfl) rfl ?_
  refine aw_iload_n dX6_count_0 rfl ?_
  refine aw_i2l dX6_count_1 ?_
  refine aw_lconst (v := 0) dX6_count_2 (by decide) ?_
  refine aw_ldc2 dX6_count_3 kw_X6_92 ?_
  refine aw_S3 dX6_count_6 cw_X6_73 (by omega) ⟨Nat.le_refl _, Nat.le_refl _⟩ (by decide) (c_X6_in (x := w) (a := 0) (b := 5) rfl (by decide) (by decide) (fun zz => absurd zz hw) (fun c6 => ?_))
  refine aw_if_ne (tgt := 15) dX6_count_9 (by decide) (fun zz => absurd zz (by decide)) (fun _ => ?_)
  refine aw_bipush (v := -2) dX6_count_12 (by decide) ?_
  refine aw_ireturn (ty := .int) dX6_count_14 rfl rfl ?_
  exact hB
def bkB : Nat → Int32 → Int32 → Int32 → Bool
  | 0, a, c, r => (a == 0) && (c == r)
  | n + 1, a, c, r => if a = 0 then c == r else bkB n (a &&& (a - 1)) (c + 1) r
theorem bk_al2 : ∀ a, a < 64 → ∀ b, b < 64 → bkB 12 (nI (64 * a + b)) 0 (bcV (nI (64 * a + b))) = true := by decide +kernel
theorem bk_all : ∀ v, v < 4096 → bkB 12 (nI v) 0 (bcV (nI v)) = true := by64 bk_al2
theorem mo_all : ∀ k, k < 199 → (let v := nI k - 99; (if remV v 12 < 0 then remV v 12 + 12 else remV v 12) = fmV v 12) := by decide +kernel
theorem l_X6_bitsOf {E : Ev} {d : Nat} {I : Mi} {L : Ml} {Z : Mz} {Q : Po} {r : Int32} (hQ : Q (some (.int r)) I L Z) : ∀ (n : Nat) (o0 a c : Int32), True → bkB n a c r = true → AW E yX6_bitsOf cX6_bitsOf 3 (some .int) (rmOf d 0 0) Q 0 0 4 [some (.int o0), some (.int c), some (.int a)] [] I L Z := by
  intro n
  induction n with
  | zero =>
    intro o0 a c _ h
    simp only [bkB, Bool.and_eq_true, beq_iff_eq] at h
    refine aw_iload_n dX6_bitsOf_4 rfl ?_
    refine aw_if_eq (tgt := 20) dX6_bitsOf_5 (by decide) (fun c5 => ?_) (fun zz => absurd h.1 zz)
    refine aw_iload_n dX6_bitsOf_20 rfl ?_
    refine aw_ireturn (ty := .int) dX6_bitsOf_21 rfl rfl ?_
    rw [h.2]
    exact hQ
  | succ n ih =>
    intro o0 a c _ h
    simp only [bkB] at h
    refine aw_iload_n dX6_bitsOf_4 rfl ?_
    refine aw_if_eq (tgt := 20) dX6_bitsOf_5 (by decide) (fun c5 => ?_) (fun c5 => ?_)
    · refine aw_iload_n dX6_bitsOf_20 rfl ?_
      refine aw_ireturn (ty := .int) dX6_bitsOf_21 rfl rfl ?_
      rw [if_pos c5, beq_iff_eq] at h
      rw [h]
      exact hQ
    · refine aw_iinc (v := (c + 1)) (ls' := [_, _, _]) dX6_bitsOf_8 rfl rfl (by decide) rfl rfl ?_
      refine aw_iload_n dX6_bitsOf_11 rfl ?_
      refine aw_iload_n dX6_bitsOf_12 rfl ?_
      refine aw_iconst (v := 1) dX6_bitsOf_13 (by decide) ?_
      refine aw_isub dX6_bitsOf_14 ?_
      refine aw_iand dX6_bitsOf_15 ?_
      refine aw_istore_n (ls' := [_, _, _]) dX6_bitsOf_16 (by decide) rfl rfl ?_
      refine aw_goto (tgt := 4) dX6_bitsOf_17 (by decide) ?_
      rw [if_neg c5] at h
      exact ih _ _ _ trivial h
theorem c_X6_bitsOf {E : Ev} {d : Nat} {I : Mi} {L : Ml} {Z : Mz} {Q : Po} {x : Int32} {v : Nat} (hx : x = nI v) (hv : v < 4096) (hQ : ∀ rv : Int32, rv = (bcV x) → Q (some (.int rv)) I L Z) : AC E yX6_bitsOf cX6_bitsOf 3 (some .int) d 0 0 [.int x] I L Z Q := by
  refine ac_go (ls := [some (.int x), none, none]) (by decide +kernel) (Nat.le_of_ble_eq_true rfl) rfl ?_
  refine aw_iconst (v := 0) dX6_bitsOf_0 (by decide) ?_
  refine aw_istore_n (ls' := [_, _, _]) dX6_bitsOf_1 (by decide) rfl rfl ?_
  refine aw_iload_n dX6_bitsOf_2 rfl ?_
  refine aw_istore_n (ls' := [_, _, _]) dX6_bitsOf_3 (by decide) rfl rfl ?_
  exact l_X6_bitsOf (hQ _ rfl) 12 _ _ _ trivial (by rw [hx]; exact bk_all v hv)
theorem c_X6_modulo {E : Ev} {d : Nat} {I : Mi} {L : Ml} {Z : Mz} {Q : Po} {x : Int32}  (hx : ¬ x < -99 ∧ ¬ 99 < x) (hQ : ∀ rv : Int32, rv = (fmV x 12) → Q (some (.int rv)) I L Z) : AC E yX6_modulo cX6_modulo 1 (some .int) d 0 0 [.int x] I L Z Q := by
  refine ac_go (ls := [some (.int x)]) (by decide +kernel) (Nat.le_of_ble_eq_true rfl) rfl ?_
  have hm : (if remV x 12 < 0 then remV x 12 + 12 else remV x 12) = fmV x 12 := by
    have h1 : (-99 : Int32).toInt = -99 := by decide
    have h2 : (99 : Int32).toInt = 99 := by decide
    obtain ⟨g1, g2⟩ := hx
    rw [Int32.lt_iff_toInt_lt, h1] at g1
    rw [Int32.lt_iff_toInt_lt, h2] at g2
    have e : x = nI (x.toInt + 99).toNat - 99 := by
      apply Int32.toInt_inj.mp
      rw [Int32.toInt_sub, h2]
      have : (nI (x.toInt + 99).toNat).toInt = x.toInt + 99 := by
        rw [nI_toInt (by omega)]; omega
      rw [this, show x.toInt + 99 - 99 = x.toInt by omega]
      exact (Int.bmod_eq_of_le (by omega) (by omega)).symm
    have := mo_all (x.toInt + 99).toNat (by omega)
    rw [← e] at this
    exact this
  refine aw_iload_n dX6_modulo_0 rfl ?_
  refine aw_bipush (v := 12) dX6_modulo_1 (by decide) ?_
  refine aw_irem dX6_modulo_3 (by decide) ?_
  refine aw_if_ge (tgt := 17) dX6_modulo_4 (by decide) (fun c4 => ?_) (fun c4 => ?_)
  · refine aw_iload_n dX6_modulo_17 rfl ?_
    refine aw_bipush (v := 12) dX6_modulo_18 (by decide) ?_
    refine aw_irem dX6_modulo_20 (by decide) ?_
    refine aw_ireturn (ty := .int) dX6_modulo_21 rfl rfl ?_
    have hm2 : (if x - x / 12 * 12 < 0 then x - x / 12 * 12 + 12 else x - x / 12 * 12) = fmV x 12 := hm
    exact hQ _ (by rw [← hm2]; first | rw [if_neg (Int32.not_lt.mpr c4)] | rw [if_pos (Int32.not_le.mp c4)])
  · refine aw_iload_n dX6_modulo_7 rfl ?_
    refine aw_bipush (v := 12) dX6_modulo_8 (by decide) ?_
    refine aw_irem dX6_modulo_10 (by decide) ?_
    refine aw_bipush (v := 12) dX6_modulo_11 (by decide) ?_
    refine aw_iadd dX6_modulo_13 ?_
    refine aw_goto (tgt := 21) dX6_modulo_14 (by decide) ?_
    refine aw_ireturn (ty := .int) dX6_modulo_21 rfl rfl ?_
    have hm2 : (if x - x / 12 * 12 < 0 then x - x / 12 * 12 + 12 else x - x / 12 * 12) = fmV x 12 := hm
    exact hQ _ (by rw [← hm2]; first | rw [if_neg (Int32.not_lt.mpr c4)] | rw [if_pos (Int32.not_le.mp c4)])
theorem c_X6_turned {E : Ev} {d : Nat} {I : Mi} {L : Ml} {Z : Mz} {Q : Po} {x : Int32} {b : Int32}   (hQ : ∀ rv : Int32, rv = (tuV x b) → Q (some (.int rv)) I L Z) : AC E yX6_turned cX6_turned 2 (some .int) d 0 0 [.int x, .int b] I L Z Q := by
  refine ac_go (ls := [some (.int x), some (.int b)]) (by decide +kernel) (Nat.le_of_ble_eq_true rfl) rfl ?_
  refine aw_iload_n dX6_turned_0 rfl ?_
  refine aw_iload_n dX6_turned_1 rfl ?_
  refine aw_ishl dX6_turned_2 ?_
  refine aw_iload_n dX6_turned_3 rfl ?_
  refine aw_bipush (v := 12) dX6_turned_4 (by decide) ?_
  refine aw_iload_n dX6_turned_6 rfl ?_
  refine aw_isub dX6_turned_7 ?_
  refine aw_ishr dX6_turned_8 ?_
  refine aw_ior dX6_turned_9 ?_
  refine aw_sipush (v := 4095) dX6_turned_10 (by decide) ?_
  refine aw_iand dX6_turned_13 ?_
  refine aw_ireturn (ty := .int) dX6_turned_14 rfl rfl ?_
  exact hQ _ (by unfold tuV; exact Int32.and_comm _ _)
theorem l_X6_mirrored {E : Ev} {d : Nat} {I : Mi} {L : Ml} {Z : Mz} {Q : Po} {x : Int32}  : ∀ (n : Nat) (j : Nat) (a : Int32), j + n = 12 → (∀ rv : Int32, rv = miF x n j a → Q (some (.int rv)) I L Z) → AW E yX6_mirrored cX6_mirrored 3 (some .int) (rmOf d 0 0) Q 0 0 4 [some (.int x), some (.int a), some (.int (nI j))] [] I L Z := by
  intro n
  induction n with
  | zero =>
    intro j a hj hQ
    refine aw_iload_n dX6_mirrored_4 rfl ?_
    refine aw_bipush (v := 12) dX6_mirrored_5 (by decide) ?_
    refine aw_icmp_ge (tgt := 29) dX6_mirrored_7 (by decide) (fun c7 => ?_) (fun zz => absurd (by rw [show j = 12 by omega]; decide) zz)
    refine aw_iload_n dX6_mirrored_29 rfl ?_
    refine aw_ireturn (ty := .int) dX6_mirrored_30 rfl rfl ?_
    exact hQ _ rfl
  | succ n ih =>
    intro j a hj hQ
    refine aw_iload_n dX6_mirrored_4 rfl ?_
    refine aw_bipush (v := 12) dX6_mirrored_5 (by decide) ?_
    refine aw_icmp_ge (tgt := 29) dX6_mirrored_7 (by decide) (fun zz => absurd zz (nI_ge (b := 12) (by omega) (by decide))) (fun c7 => ?_)
    refine aw_iload_n dX6_mirrored_10 rfl ?_
    refine aw_iload_n dX6_mirrored_11 rfl ?_
    refine aw_iload_n dX6_mirrored_12 rfl ?_
    refine aw_ishr dX6_mirrored_13 ?_
    refine aw_iconst (v := 1) dX6_mirrored_14 (by decide) ?_
    refine aw_iand dX6_mirrored_15 ?_
    refine aw_bipush (v := 11) dX6_mirrored_16 (by decide) ?_
    refine aw_iload_n dX6_mirrored_18 rfl ?_
    refine aw_isub dX6_mirrored_19 ?_
    refine aw_ishl dX6_mirrored_20 ?_
    refine aw_ior dX6_mirrored_21 ?_
    refine aw_istore_n (ls' := [_, _, _]) dX6_mirrored_22 (by decide) rfl rfl ?_
    refine aw_iinc (v := nI (j + 1)) (ls' := [_, _, _]) dX6_mirrored_23 rfl (nI_1 j) (by decide) rfl rfl ?_
    refine aw_goto (tgt := 4) dX6_mirrored_26 (by decide) ?_
    exact ih (j + 1) _ (by omega) hQ
theorem c_X6_mirrored {E : Ev} {d : Nat} {I : Mi} {L : Ml} {Z : Mz} {Q : Po} {x : Int32}   (hQ : ∀ rv : Int32, rv = (miF x 12 0 0) → Q (some (.int rv)) I L Z) : AC E yX6_mirrored cX6_mirrored 3 (some .int) d 0 0 [.int x] I L Z Q := by
  refine ac_go (ls := [some (.int x), none, none]) (by decide +kernel) (Nat.le_of_ble_eq_true rfl) rfl ?_
  refine aw_iconst (v := 0) dX6_mirrored_0 (by decide) ?_
  refine aw_istore_n (ls' := [_, _, _]) dX6_mirrored_1 (by decide) rfl rfl ?_
  refine aw_iconst (v := 0) dX6_mirrored_2 (by decide) ?_
  refine aw_istore_n (ls' := [_, _, _]) dX6_mirrored_3 (by decide) rfl rfl ?_
  exact l_X6_mirrored 12 0 0 (by omega) hQ
