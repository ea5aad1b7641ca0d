/-! ===== the class: tokens ===== -/
theorem c_X1_isLetter {E : Ev} {d : Nat} {I : Mi} {L : Ml} {Z : Mz} {Q : Po} {x : Int32}   (hT : (¬ x < 97 ∧ ¬ 122 < x) → Q (some (.int 1)) I L Z) (hF : ¬ (¬ x < 97 ∧ ¬ 122 < x) → Q (some (.int 0)) I L Z) : AC E yX1_isLetter cX1_isLetter 1 (some .boolean) d 0 0 [.int x] I L Z Q := by
  refine ac_go (ls := [some (.int x)]) (by decide +kernel) (Nat.le_of_ble_eq_true rfl) rfl ?_
  refine aw_iload_n dX1_isLetter_0 rfl ?_
  refine aw_bipush (v := 97) dX1_isLetter_1 (by decide) ?_
  refine aw_icmp_lt (tgt := 16) dX1_isLetter_3 (by decide) (fun c3 => ?_) (fun c3 => ?_)
  · refine aw_iconst (v := 0) dX1_isLetter_16 (by decide) ?_
    refine aw_ireturn (ty := .boolean) dX1_isLetter_17 rfl (by decide) ?_
    exact hF (by simp only [c3, not_true_eq_false, not_false_eq_true, and_true, true_and, and_false, false_and, or_true, true_or, or_false, false_or, ite_true, ite_false, if_true, if_false, reduceIte, and_self, or_self])
  · refine aw_iload_n dX1_isLetter_6 rfl ?_
    refine aw_bipush (v := 122) dX1_isLetter_7 (by decide) ?_
    refine aw_icmp_gt (tgt := 16) dX1_isLetter_9 (by decide) (fun c9 => ?_) (fun c9 => ?_)
    · refine aw_iconst (v := 0) dX1_isLetter_16 (by decide) ?_
      refine aw_ireturn (ty := .boolean) dX1_isLetter_17 rfl (by decide) ?_
      exact hF (by simp only [c3, c9, not_true_eq_false, not_false_eq_true, and_true, true_and, and_false, false_and, or_true, true_or, or_false, false_or, ite_true, ite_false, if_true, if_false, reduceIte, and_self, or_self])
    · refine aw_iconst (v := 1) dX1_isLetter_12 (by decide) ?_
      refine aw_goto (tgt := 17) dX1_isLetter_13 (by decide) ?_
      refine aw_ireturn (ty := .boolean) dX1_isLetter_17 rfl (by decide) ?_
      exact hT (by simp only [c3, c9, not_true_eq_false, not_false_eq_true, and_true, true_and, and_false, false_and, or_true, true_or, or_false, false_or, ite_true, ite_false, if_true, if_false, reduceIte, and_self, or_self])
theorem c_X1_isDigit {E : Ev} {d : Nat} {I : Mi} {L : Ml} {Z : Mz} {Q : Po} {x : Int32}   (hT : (¬ x < 48 ∧ ¬ 57 < x) → Q (some (.int 1)) I L Z) (hF : ¬ (¬ x < 48 ∧ ¬ 57 < x) → Q (some (.int 0)) I L Z) : AC E yX1_isDigit cX1_isDigit 1 (some .boolean) d 0 0 [.int x] I L Z Q := by
  refine ac_go (ls := [some (.int x)]) (by decide +kernel) (Nat.le_of_ble_eq_true rfl) rfl ?_
  refine aw_iload_n dX1_isDigit_0 rfl ?_
  refine aw_bipush (v := 48) dX1_isDigit_1 (by decide) ?_
  refine aw_icmp_lt (tgt := 16) dX1_isDigit_3 (by decide) (fun c3 => ?_) (fun c3 => ?_)
  · refine aw_iconst (v := 0) dX1_isDigit_16 (by decide) ?_
    refine aw_ireturn (ty := .boolean) dX1_isDigit_17 rfl (by decide) ?_
    exact hF (by simp only [c3, not_true_eq_false, not_false_eq_true, and_true, true_and, and_false, false_and, or_true, true_or, or_false, false_or, ite_true, ite_false, if_true, if_false, reduceIte, and_self, or_self])
  · refine aw_iload_n dX1_isDigit_6 rfl ?_
    refine aw_bipush (v := 57) dX1_isDigit_7 (by decide) ?_
    refine aw_icmp_gt (tgt := 16) dX1_isDigit_9 (by decide) (fun c9 => ?_) (fun c9 => ?_)
    · refine aw_iconst (v := 0) dX1_isDigit_16 (by decide) ?_
      refine aw_ireturn (ty := .boolean) dX1_isDigit_17 rfl (by decide) ?_
      exact hF (by simp only [c3, c9, not_true_eq_false, not_false_eq_true, and_true, true_and, and_false, false_and, or_true, true_or, or_false, false_or, ite_true, ite_false, if_true, if_false, reduceIte, and_self, or_self])
    · refine aw_iconst (v := 1) dX1_isDigit_12 (by decide) ?_
      refine aw_goto (tgt := 17) dX1_isDigit_13 (by decide) ?_
      refine aw_ireturn (ty := .boolean) dX1_isDigit_17 rfl (by decide) ?_
      exact hT (by simp only [c3, c9, not_true_eq_false, not_false_eq_true, and_true, true_and, and_false, false_and, or_true, true_or, or_false, false_or, ite_true, ite_false, if_true, if_false, reduceIte, and_self, or_self])
theorem c_X1_isBlank {E : Ev} {d : Nat} {I : Mi} {L : Ml} {Z : Mz} {Q : Po} {x : Int32}   (hT : (x = 32 ∨ x = 10) → Q (some (.int 1)) I L Z) (hF : ¬ (x = 32 ∨ x = 10) → Q (some (.int 0)) I L Z) : AC E yX1_isBlank cX1_isBlank 1 (some .boolean) d 0 0 [.int x] I L Z Q := by
  refine ac_go (ls := [some (.int x)]) (by decide +kernel) (Nat.le_of_ble_eq_true rfl) rfl ?_
  refine aw_iload_n dX1_isBlank_0 rfl ?_
  refine aw_bipush (v := 32) dX1_isBlank_1 (by decide) ?_
  refine aw_icmp_eq (tgt := 12) dX1_isBlank_3 (by decide) (fun c3 => ?_) (fun c3 => ?_)
  · refine aw_iconst (v := 1) dX1_isBlank_12 (by decide) ?_
    refine aw_goto (tgt := 17) dX1_isBlank_13 (by decide) ?_
    refine aw_ireturn (ty := .boolean) dX1_isBlank_17 rfl (by decide) ?_
    exact hT (by simp only [c3, not_true_eq_false, not_false_eq_true, and_true, true_and, and_false, false_and, or_true, true_or, or_false, false_or, ite_true, ite_false, if_true, if_false, reduceIte, and_self, or_self])
  · refine aw_iload_n dX1_isBlank_6 rfl ?_
    refine aw_bipush (v := 10) dX1_isBlank_7 (by decide) ?_
    refine aw_icmp_ne (tgt := 16) dX1_isBlank_9 (by decide) (fun c9 => ?_) (fun c9 => ?_)
    · refine aw_iconst (v := 0) dX1_isBlank_16 (by decide) ?_
      refine aw_ireturn (ty := .boolean) dX1_isBlank_17 rfl (by decide) ?_
      exact hF (by simp only [c3, c9, not_true_eq_false, not_false_eq_true, and_true, true_and, and_false, false_and, or_true, true_or, or_false, false_or, ite_true, ite_false, if_true, if_false, reduceIte, and_self, or_self])
    · refine aw_iconst (v := 1) dX1_isBlank_12 (by decide) ?_
      refine aw_goto (tgt := 17) dX1_isBlank_13 (by decide) ?_
      refine aw_ireturn (ty := .boolean) dX1_isBlank_17 rfl (by decide) ?_
      exact hT (by simp only [c3, c9, not_true_eq_false, not_false_eq_true, and_true, true_and, and_false, false_and, or_true, true_or, or_false, false_or, ite_true, ite_false, if_true, if_false, reduceIte, and_self, or_self])
theorem c_X1_signSort {E : Ev} {d : Nat} {I : Mi} {L : Ml} {Z : Mz} {Q : Po} {x : Int32}   (hQ : ∀ rv : Int32, rv = (nI (sgF x)) → Q (some (.int rv)) I L Z) : AC E yX1_signSort cX1_signSort 1 (some .int) d 0 0 [.int x] I L Z Q := by
  refine ac_go (ls := [some (.int x)]) (by decide +kernel) (Nat.le_of_ble_eq_true rfl) rfl ?_
  refine aw_iload_n dX1_signSort_0 rfl ?_
  by_cases t1 : x.toInt < 40 ∨ 61 < x.toInt
  · refine aw_tableOut (tgt := 128) dX1_signSort_1 t1 (by decide) ?_
    refine aw_iconst (v := 1) dX1_signSort_128 (by decide) ?_
    refine aw_ireturn (ty := .int) dX1_signSort_129 rfl rfl ?_
    exact hQ _ (by simp only [sgF, ne_out t1 40 (by decide) (by decide), ne_out t1 41 (by decide) (by decide), ne_out t1 59 (by decide) (by decide), ne_out t1 43 (by decide) (by decide), ne_out t1 45 (by decide) (by decide), ne_out t1 42 (by decide) (by decide), ne_out t1 60 (by decide) (by decide), ne_out t1 61 (by decide) (by decide), if_false]; rfl)
  · obtain ⟨g1_1, g2_1⟩ := not_or.mp t1
    rcases (show x = 40 ∨ x = 41 ∨ x = 42 ∨ x = 43 ∨ x = 44 ∨ x = 45 ∨ x = 46 ∨ x = 47 ∨ x = 48 ∨ x = 49 ∨ x = 50 ∨ x = 51 ∨ x = 52 ∨ x = 53 ∨ x = 54 ∨ x = 55 ∨ x = 56 ∨ x = 57 ∨ x = 58 ∨ x = 59 ∨ x = 60 ∨ x = 61 from sw_22_40 g1_1 g2_1) with q1 | q1 | q1 | q1 | q1 | q1 | q1 | q1 | q1 | q1 | q1 | q1 | q1 | q1 | q1 | q1 | q1 | q1 | q1 | q1 | q1 | q1
    · refine aw_tableIn (off := 103) (tgt := 104) dX1_signSort_1 g1_1 g2_1 (by rw [q1]; rfl) (by decide) ?_
      refine aw_bipush (v := 10) dX1_signSort_104 (by decide) ?_
      refine aw_ireturn (ty := .int) dX1_signSort_106 rfl rfl ?_
      subst q1
      exact hQ _ (by decide)
    · refine aw_tableIn (off := 106) (tgt := 107) dX1_signSort_1 g1_1 g2_1 (by rw [q1]; rfl) (by decide) ?_
      refine aw_bipush (v := 11) dX1_signSort_107 (by decide) ?_
      refine aw_ireturn (ty := .int) dX1_signSort_109 rfl rfl ?_
      subst q1
      exact hQ _ (by decide)
    · refine aw_tableIn (off := 118) (tgt := 119) dX1_signSort_1 g1_1 g2_1 (by rw [q1]; rfl) (by decide) ?_
      refine aw_bipush (v := 15) dX1_signSort_119 (by decide) ?_
      refine aw_ireturn (ty := .int) dX1_signSort_121 rfl rfl ?_
      subst q1
      exact hQ _ (by decide)
    · refine aw_tableIn (off := 112) (tgt := 113) dX1_signSort_1 g1_1 g2_1 (by rw [q1]; rfl) (by decide) ?_
      refine aw_bipush (v := 13) dX1_signSort_113 (by decide) ?_
      refine aw_ireturn (ty := .int) dX1_signSort_115 rfl rfl ?_
      subst q1
      exact hQ _ (by decide)
    · refine aw_tableIn (off := 127) (tgt := 128) dX1_signSort_1 g1_1 g2_1 (by rw [q1]; rfl) (by decide) ?_
      refine aw_iconst (v := 1) dX1_signSort_128 (by decide) ?_
      refine aw_ireturn (ty := .int) dX1_signSort_129 rfl rfl ?_
      subst q1
      exact hQ _ (by decide)
    · refine aw_tableIn (off := 115) (tgt := 116) dX1_signSort_1 g1_1 g2_1 (by rw [q1]; rfl) (by decide) ?_
      refine aw_bipush (v := 14) dX1_signSort_116 (by decide) ?_
      refine aw_ireturn (ty := .int) dX1_signSort_118 rfl rfl ?_
      subst q1
      exact hQ _ (by decide)
    · refine aw_tableIn (off := 127) (tgt := 128) dX1_signSort_1 g1_1 g2_1 (by rw [q1]; rfl) (by decide) ?_
      refine aw_iconst (v := 1) dX1_signSort_128 (by decide) ?_
      refine aw_ireturn (ty := .int) dX1_signSort_129 rfl rfl ?_
      subst q1
      exact hQ _ (by decide)
    · refine aw_tableIn (off := 127) (tgt := 128) dX1_signSort_1 g1_1 g2_1 (by rw [q1]; rfl) (by decide) ?_
      refine aw_iconst (v := 1) dX1_signSort_128 (by decide) ?_
      refine aw_ireturn (ty := .int) dX1_signSort_129 rfl rfl ?_
      subst q1
      exact hQ _ (by decide)
    · refine aw_tableIn (off := 127) (tgt := 128) dX1_signSort_1 g1_1 g2_1 (by rw [q1]; rfl) (by decide) ?_
      refine aw_iconst (v := 1) dX1_signSort_128 (by decide) ?_
      refine aw_ireturn (ty := .int) dX1_signSort_129 rfl rfl ?_
      subst q1
      exact hQ _ (by decide)
    · refine aw_tableIn (off := 127) (tgt := 128) dX1_signSort_1 g1_1 g2_1 (by rw [q1]; rfl) (by decide) ?_
      refine aw_iconst (v := 1) dX1_signSort_128 (by decide) ?_
      refine aw_ireturn (ty := .int) dX1_signSort_129 rfl rfl ?_
      subst q1
      exact hQ _ (by decide)
    · refine aw_tableIn (off := 127) (tgt := 128) dX1_signSort_1 g1_1 g2_1 (by rw [q1]; rfl) (by decide) ?_
      refine aw_iconst (v := 1) dX1_signSort_128 (by decide) ?_
      refine aw_ireturn (ty := .int) dX1_signSort_129 rfl rfl ?_
      subst q1
      exact hQ _ (by decide)
    · refine aw_tableIn (off := 127) (tgt := 128) dX1_signSort_1 g1_1 g2_1 (by rw [q1]; rfl) (by decide) ?_
      refine aw_iconst (v := 1) dX1_signSort_128 (by decide) ?_
      refine aw_ireturn (ty := .int) dX1_signSort_129 rfl rfl ?_
      subst q1
      exact hQ _ (by decide)
    · refine aw_tableIn (off := 127) (tgt := 128) dX1_signSort_1 g1_1 g2_1 (by rw [q1]; rfl) (by decide) ?_
      refine aw_iconst (v := 1) dX1_signSort_128 (by decide) ?_
      refine aw_ireturn (ty := .int) dX1_signSort_129 rfl rfl ?_
      subst q1
      exact hQ _ (by decide)
    · refine aw_tableIn (off := 127) (tgt := 128) dX1_signSort_1 g1_1 g2_1 (by rw [q1]; rfl) (by decide) ?_
      refine aw_iconst (v := 1) dX1_signSort_128 (by decide) ?_
      refine aw_ireturn (ty := .int) dX1_signSort_129 rfl rfl ?_
      subst q1
      exact hQ _ (by decide)
    · refine aw_tableIn (off := 127) (tgt := 128) dX1_signSort_1 g1_1 g2_1 (by rw [q1]; rfl) (by decide) ?_
      refine aw_iconst (v := 1) dX1_signSort_128 (by decide) ?_
      refine aw_ireturn (ty := .int) dX1_signSort_129 rfl rfl ?_
      subst q1
      exact hQ _ (by decide)
    · refine aw_tableIn (off := 127) (tgt := 128) dX1_signSort_1 g1_1 g2_1 (by rw [q1]; rfl) (by decide) ?_
      refine aw_iconst (v := 1) dX1_signSort_128 (by decide) ?_
      refine aw_ireturn (ty := .int) dX1_signSort_129 rfl rfl ?_
      subst q1
      exact hQ _ (by decide)
    · refine aw_tableIn (off := 127) (tgt := 128) dX1_signSort_1 g1_1 g2_1 (by rw [q1]; rfl) (by decide) ?_
      refine aw_iconst (v := 1) dX1_signSort_128 (by decide) ?_
      refine aw_ireturn (ty := .int) dX1_signSort_129 rfl rfl ?_
      subst q1
      exact hQ _ (by decide)
    · refine aw_tableIn (off := 127) (tgt := 128) dX1_signSort_1 g1_1 g2_1 (by rw [q1]; rfl) (by decide) ?_
      refine aw_iconst (v := 1) dX1_signSort_128 (by decide) ?_
      refine aw_ireturn (ty := .int) dX1_signSort_129 rfl rfl ?_
      subst q1
      exact hQ _ (by decide)
    · refine aw_tableIn (off := 127) (tgt := 128) dX1_signSort_1 g1_1 g2_1 (by rw [q1]; rfl) (by decide) ?_
      refine aw_iconst (v := 1) dX1_signSort_128 (by decide) ?_
      refine aw_ireturn (ty := .int) dX1_signSort_129 rfl rfl ?_
      subst q1
      exact hQ _ (by decide)
    · refine aw_tableIn (off := 109) (tgt := 110) dX1_signSort_1 g1_1 g2_1 (by rw [q1]; rfl) (by decide) ?_
      refine aw_bipush (v := 12) dX1_signSort_110 (by decide) ?_
      refine aw_ireturn (ty := .int) dX1_signSort_112 rfl rfl ?_
      subst q1
      exact hQ _ (by decide)
    · refine aw_tableIn (off := 121) (tgt := 122) dX1_signSort_1 g1_1 g2_1 (by rw [q1]; rfl) (by decide) ?_
      refine aw_bipush (v := 16) dX1_signSort_122 (by decide) ?_
      refine aw_ireturn (ty := .int) dX1_signSort_124 rfl rfl ?_
      subst q1
      exact hQ _ (by decide)
    · refine aw_tableIn (off := 124) (tgt := 125) dX1_signSort_1 g1_1 g2_1 (by rw [q1]; rfl) (by decide) ?_
      refine aw_bipush (v := 17) dX1_signSort_125 (by decide) ?_
      refine aw_ireturn (ty := .int) dX1_signSort_127 rfl rfl ?_
      subst q1
      exact hQ _ (by decide)
theorem drop_cons {w : List Int32} {j : Nat} (h : j < w.length) : w.drop j = w.getD j 0 :: w.drop (j + 1) := by
  rw [List.drop_eq_getElem_cons h]
  simp [List.getD, h]
theorem nI_sub {a b : Nat} (h : b ≤ a) : nI a - nI b = nI (a - b) := by
  have e : nI a = nI (a - b) + nI b := by rw [nI_add, Nat.sub_add_cancel h]
  rw [e, Int32.add_sub_cancel]
theorem l_X1_spells {E : Ev} {d : Nat} {I : Mi} {L : Ml} {Z : Mz} {Q : Po} {N : Nat} {xs : Nat → Int32} {p e i : Nat} (hd : 4 ≤ d) (hE : EXT E N xs) (hC : ScZ Z) (hi : i < 13) (hpe : p + lnS.getD i 0 ≤ 160) : ∀ (k j : Nat), j + k = lnS.getD i 0 → (mtB (I 5) (p + j) ((byS.getD i []).drop j) = true → Q (some (.int 1)) I L Z) → (¬ mtB (I 5) (p + j) ((byS.getD i []).drop j) = true → Q (some (.int 0)) I L Z) → AW E yX1_spells cX1_spells 5 (some .boolean) (rmOf d 0 0) Q 0 0 15 [some (.ref 4), some (.int (nI p)), some (.int (nI e)), some (.retAddr i), some (.int (nI j))] [] I L Z := by
  intro k
  obtain ⟨l1, l2, -⟩ := ln_sm i hi
  induction k with
  | zero =>
    intro j hj hT hF
    have ej : j = lnS.getD i 0 := by omega
    refine aw_iload dX1_spells_15 rfl ?_
    refine aw_aload_n dX1_spells_17 rfl rfl ?_
    refine aw_X0 dX1_spells_18 cw_X1_118 (xt_str hE hi) (by omega) ⟨Nat.le_refl _, Nat.le_refl _⟩ (by simp [Value.category, psh]) (c_length (by omega) hE hi ?_)
    refine aw_icmp_ge (tgt := 50) dX1_spells_21 (by decide) (fun c21 => ?_) (fun zz => absurd (nI_le (by omega) (by omega)) zz)
    refine aw_iconst (v := 1) dX1_spells_50 (by decide) ?_
    refine aw_ireturn (ty := .boolean) dX1_spells_51 rfl (by decide) ?_
    exact hT (by rw [List.drop_of_length_le (by omega)]; rfl)
  | succ k ih =>
    intro j hj hT hF
    have ed := drop_cons (w := byS.getD i []) (j := j) (by omega)
    refine aw_iload dX1_spells_15 rfl ?_
    refine aw_aload_n dX1_spells_17 rfl rfl ?_
    refine aw_X0 dX1_spells_18 cw_X1_118 (xt_str hE hi) (by omega) ⟨Nat.le_refl _, Nat.le_refl _⟩ (by simp [Value.category, psh]) (c_length (by omega) hE hi ?_)
    refine aw_icmp_ge (tgt := 50) dX1_spells_21 (by decide) (fun zz => absurd zz (nI_ge (by omega) (by omega))) (fun c21 => ?_)
    refine aw_aload_n dX1_spells_24 rfl rfl ?_
    refine aw_gr dX1_spells_25 fw_X1_9 hC.1 hC.2.1 ?_
    refine aw_iload_n dX1_spells_28 rfl ?_
    refine aw_iload dX1_spells_29 rfl ?_
    refine aw_iadd dX1_spells_31 ?_
    refine aw_ia (p + j) dX1_spells_32 hC.2.2.2.2.2.2.1 (nI_add p j) (by omega) (by decide) ?_
    refine aw_aload_n dX1_spells_33 rfl rfl ?_
    refine aw_iload dX1_spells_34 rfl ?_
    refine aw_X1 dX1_spells_36 cw_X1_124 (xt_str hE hi) (by omega) ⟨Nat.le_refl _, Nat.le_refl _⟩ (by simp [Value.category, psh]) (c_charAt (by omega) hE hi (show j < _ by omega) ?_)
    refine aw_icmp_eq (tgt := 44) dX1_spells_39 (by decide) (fun c39 => ?_) (fun c39 => ?_)
    · refine aw_iinc (v := (nI (j + 1))) (ls' := [_, _, _, _, _]) dX1_spells_44 rfl (nI_1 j) (by decide) rfl rfl ?_
      refine aw_goto (tgt := 15) dX1_spells_47 (by decide) ?_
      refine ih (j + 1) (by omega) (fun w => hT ?_) (fun w => hF ?_)
      · rw [ed]
        simp only [mtB, Bool.and_eq_true, beq_iff_eq]
        exact ⟨c39, w⟩
      · rw [ed]
        simp only [mtB, Bool.and_eq_true, beq_iff_eq]
        exact fun w2 => w w2.2
    · refine aw_iconst (v := 0) dX1_spells_42 (by decide) ?_
      refine aw_ireturn (ty := .boolean) dX1_spells_43 rfl (by decide) ?_
      exact hF (by rw [ed]; simp only [mtB, Bool.and_eq_true, beq_iff_eq]; exact fun w => c39 w.1)
theorem c_X1_spells {E : Ev} {d : Nat} {I : Mi} {L : Ml} {Z : Mz} {Q : Po}  {N : Nat} {xs : Nat → Int32} {p e i : Nat} {w : List Int32} (hd : 4 ≤ d) (hE : EXT E N xs) (hC : ScZ Z) (hi : i < 13) (hw : byS.getD i [] = w) (hpe : p ≤ e) (he : e ≤ 160) (hT : (wdB (I 5) p e w = true) → Q (some (.int 1)) I L Z) (hF : ¬ (wdB (I 5) p e w = true) → Q (some (.int 0)) I L Z) : AC E yX1_spells cX1_spells 5 (some .boolean) d 0 0 [.ref 4, .int (nI p), .int (nI e), .retAddr i] I L Z Q := by
  refine ac_go (ls := [some (.ref 4), some (.int (nI p)), some (.int (nI e)), some (.retAddr i), none]) (by decide +kernel) (Nat.le_of_ble_eq_true rfl) rfl ?_
  refine aw_iload_n dX1_spells_0 rfl ?_
  refine aw_iload_n dX1_spells_1 rfl ?_
  refine aw_isub dX1_spells_2 ?_
  refine aw_aload_n dX1_spells_3 rfl rfl ?_
  refine aw_X0 dX1_spells_4 cw_X1_118 (xt_str hE hi) (by omega) ⟨Nat.le_refl _, Nat.le_refl _⟩ (by simp [Value.category, psh]) (c_length (by omega) hE hi ?_)
  have hlen := ln_sm i hi
  have hiff : (nI e - nI p = nI (lnS.getD i 0)) ↔ e = p + w.length := by
    rw [nI_sub hpe, nI_eq (by omega) (by omega), ← hw, hlen.2.1]
    omega
  refine aw_icmp_eq (tgt := 12) dX1_spells_7 (by decide) (fun c7 => ?_) (fun c7 => ?_)
  · refine aw_iconst (v := 0) dX1_spells_12 (by decide) ?_
    refine aw_istore (ls' := [_, _, _, _, _]) dX1_spells_13 (by decide) rfl rfl ?_
    have el : e = p + w.length := hiff.mp c7
    refine l_X1_spells hd hE hC hi (by rw [← hlen.2.1, hw]; omega) (lnS.getD i 0) 0 (by omega) (fun z => hT ?_) (fun z => hF ?_)
    · rw [Nat.add_zero, List.drop_zero, hw] at z
      simp only [wdB, Bool.and_eq_true, beq_iff_eq]
      exact ⟨el, z⟩
    · rw [Nat.add_zero, List.drop_zero, hw] at z
      simp only [wdB, Bool.and_eq_true, beq_iff_eq]
      exact fun z2 => z z2.2
  · refine aw_iconst (v := 0) dX1_spells_10 (by decide) ?_
    refine aw_ireturn (ty := .boolean) dX1_spells_11 rfl (by decide) ?_
    exact hF (fun z => by simp only [wdB, Bool.and_eq_true, beq_iff_eq] at z; exact c7 (hiff.mpr z.1))
def wnF (B : Nat → Int32) (p e : Nat) : Nat := if wdB B p e [103, 114, 111, 117, 110, 100, 115] then 32 else if wdB B p e [115, 97, 121, 105, 110, 103] then 33 else if wdB B p e [110, 117, 109, 98, 101, 114] then 34 else if wdB B p e [104, 111, 117, 114] then 35 else if wdB B p e [115, 108, 105, 112, 115] then 36 else if wdB B p e [99, 117, 112] then 37 else 1
theorem c_X1_nameSort {E : Ev} {d : Nat} {I : Mi} {L : Ml} {Z : Mz} {Q : Po}  {N : Nat} {xs : Nat → Int32} {p e : Nat} (hd : 5 ≤ d) (hE : EXT E N xs) (hC : ScZ Z) (hpe : p ≤ e) (he : e ≤ 160) (hQ : ∀ rv : Int32, rv = (nI (wnF (I 5) p e)) → Q (some (.int rv)) I L Z) : AC E yX1_nameSort cX1_nameSort 3 (some .int) d 0 0 [.ref 4, .int (nI p), .int (nI e)] I L Z Q := by
  refine ac_go (ls := [some (.ref 4), some (.int (nI p)), some (.int (nI e))]) (by decide +kernel) (Nat.le_of_ble_eq_true rfl) rfl ?_
  refine aw_aload_n dX1_nameSort_0 rfl rfl ?_
  refine aw_iload_n dX1_nameSort_1 rfl ?_
  refine aw_iload_n dX1_nameSort_2 rfl ?_
  refine aw_ldcS 7 hE (by decide) ⟨rfl, rfl⟩ dX1_nameSort_3 ?_
  refine aw_V3 dX1_nameSort_5 cw_X1_87 ⟨_, _, rfl⟩ hC.1 (by omega) ⟨Nat.le_refl _, Nat.le_refl _⟩ (by decide) (c_X1_spells (i := 7) (w := [103, 114, 111, 117, 110, 100, 115]) (by omega) hE hC (by decide) rfl hpe he (fun c5 => ?_) (fun c5 => ?_))
  · refine aw_if_eq (tgt := 14) dX1_nameSort_8 (by decide) (fun zz => absurd zz (by decide)) (fun _ => ?_)
    refine aw_bipush (v := 32) dX1_nameSort_11 (by decide) ?_
    refine aw_ireturn (ty := .int) dX1_nameSort_13 rfl rfl ?_
    exact hQ _ (by simp only [wnF, c5, Bool.false_eq_true, if_true, if_false]; rfl)
  · refine aw_if_eq (tgt := 14) dX1_nameSort_8 (by decide) (fun _ => ?_) (fun zz => absurd zz (by decide))
    refine aw_aload_n dX1_nameSort_14 rfl rfl ?_
    refine aw_iload_n dX1_nameSort_15 rfl ?_
    refine aw_iload_n dX1_nameSort_16 rfl ?_
    refine aw_ldcS 8 hE (by decide) ⟨rfl, rfl⟩ dX1_nameSort_17 ?_
    refine aw_V3 dX1_nameSort_19 cw_X1_87 ⟨_, _, rfl⟩ hC.1 (by omega) ⟨Nat.le_refl _, Nat.le_refl _⟩ (by decide) (c_X1_spells (i := 8) (w := [115, 97, 121, 105, 110, 103]) (by omega) hE hC (by decide) rfl hpe he (fun c19 => ?_) (fun c19 => ?_))
    · refine aw_if_eq (tgt := 28) dX1_nameSort_22 (by decide) (fun zz => absurd zz (by decide)) (fun _ => ?_)
      refine aw_bipush (v := 33) dX1_nameSort_25 (by decide) ?_
      refine aw_ireturn (ty := .int) dX1_nameSort_27 rfl rfl ?_
      exact hQ _ (by simp only [wnF, c5, c19, Bool.false_eq_true, if_true, if_false]; rfl)
    · refine aw_if_eq (tgt := 28) dX1_nameSort_22 (by decide) (fun _ => ?_) (fun zz => absurd zz (by decide))
      refine aw_aload_n dX1_nameSort_28 rfl rfl ?_
      refine aw_iload_n dX1_nameSort_29 rfl ?_
      refine aw_iload_n dX1_nameSort_30 rfl ?_
      refine aw_ldcS 9 hE (by decide) ⟨rfl, rfl⟩ dX1_nameSort_31 ?_
      refine aw_V3 dX1_nameSort_33 cw_X1_87 ⟨_, _, rfl⟩ hC.1 (by omega) ⟨Nat.le_refl _, Nat.le_refl _⟩ (by decide) (c_X1_spells (i := 9) (w := [110, 117, 109, 98, 101, 114]) (by omega) hE hC (by decide) rfl hpe he (fun c33 => ?_) (fun c33 => ?_))
      · refine aw_if_eq (tgt := 42) dX1_nameSort_36 (by decide) (fun zz => absurd zz (by decide)) (fun _ => ?_)
        refine aw_bipush (v := 34) dX1_nameSort_39 (by decide) ?_
        refine aw_ireturn (ty := .int) dX1_nameSort_41 rfl rfl ?_
        exact hQ _ (by simp only [wnF, c5, c19, c33, Bool.false_eq_true, if_true, if_false]; rfl)
      · refine aw_if_eq (tgt := 42) dX1_nameSort_36 (by decide) (fun _ => ?_) (fun zz => absurd zz (by decide))
        refine aw_aload_n dX1_nameSort_42 rfl rfl ?_
        refine aw_iload_n dX1_nameSort_43 rfl ?_
        refine aw_iload_n dX1_nameSort_44 rfl ?_
        refine aw_ldcS 10 hE (by decide) ⟨rfl, rfl⟩ dX1_nameSort_45 ?_
        refine aw_V3 dX1_nameSort_47 cw_X1_87 ⟨_, _, rfl⟩ hC.1 (by omega) ⟨Nat.le_refl _, Nat.le_refl _⟩ (by decide) (c_X1_spells (i := 10) (w := [104, 111, 117, 114]) (by omega) hE hC (by decide) rfl hpe he (fun c47 => ?_) (fun c47 => ?_))
        · refine aw_if_eq (tgt := 56) dX1_nameSort_50 (by decide) (fun zz => absurd zz (by decide)) (fun _ => ?_)
          refine aw_bipush (v := 35) dX1_nameSort_53 (by decide) ?_
          refine aw_ireturn (ty := .int) dX1_nameSort_55 rfl rfl ?_
          exact hQ _ (by simp only [wnF, c5, c19, c33, c47, Bool.false_eq_true, if_true, if_false]; rfl)
        · refine aw_if_eq (tgt := 56) dX1_nameSort_50 (by decide) (fun _ => ?_) (fun zz => absurd zz (by decide))
          refine aw_aload_n dX1_nameSort_56 rfl rfl ?_
          refine aw_iload_n dX1_nameSort_57 rfl ?_
          refine aw_iload_n dX1_nameSort_58 rfl ?_
          refine aw_ldcS 11 hE (by decide) ⟨rfl, rfl⟩ dX1_nameSort_59 ?_
          refine aw_V3 dX1_nameSort_61 cw_X1_87 ⟨_, _, rfl⟩ hC.1 (by omega) ⟨Nat.le_refl _, Nat.le_refl _⟩ (by decide) (c_X1_spells (i := 11) (w := [115, 108, 105, 112, 115]) (by omega) hE hC (by decide) rfl hpe he (fun c61 => ?_) (fun c61 => ?_))
          · refine aw_if_eq (tgt := 70) dX1_nameSort_64 (by decide) (fun zz => absurd zz (by decide)) (fun _ => ?_)
            refine aw_bipush (v := 36) dX1_nameSort_67 (by decide) ?_
            refine aw_ireturn (ty := .int) dX1_nameSort_69 rfl rfl ?_
            exact hQ _ (by simp only [wnF, c5, c19, c33, c47, c61, Bool.false_eq_true, if_true, if_false]; rfl)
          · refine aw_if_eq (tgt := 70) dX1_nameSort_64 (by decide) (fun _ => ?_) (fun zz => absurd zz (by decide))
            refine aw_aload_n dX1_nameSort_70 rfl rfl ?_
            refine aw_iload_n dX1_nameSort_71 rfl ?_
            refine aw_iload_n dX1_nameSort_72 rfl ?_
            refine aw_ldcS 12 hE (by decide) ⟨rfl, rfl⟩ dX1_nameSort_73 ?_
            refine aw_V3 dX1_nameSort_75 cw_X1_87 ⟨_, _, rfl⟩ hC.1 (by omega) ⟨Nat.le_refl _, Nat.le_refl _⟩ (by decide) (c_X1_spells (i := 12) (w := [99, 117, 112]) (by omega) hE hC (by decide) rfl hpe he (fun c75 => ?_) (fun c75 => ?_))
            · refine aw_if_eq (tgt := 84) dX1_nameSort_78 (by decide) (fun zz => absurd zz (by decide)) (fun _ => ?_)
              refine aw_bipush (v := 37) dX1_nameSort_81 (by decide) ?_
              refine aw_ireturn (ty := .int) dX1_nameSort_83 rfl rfl ?_
              exact hQ _ (by simp only [wnF, c5, c19, c33, c47, c61, c75, Bool.false_eq_true, if_true, if_false]; rfl)
            · refine aw_if_eq (tgt := 84) dX1_nameSort_78 (by decide) (fun _ => ?_) (fun zz => absurd zz (by decide))
              refine aw_iconst (v := 1) dX1_nameSort_84 (by decide) ?_
              refine aw_ireturn (ty := .int) dX1_nameSort_85 rfl rfl ?_
              exact hQ _ (by simp only [wnF, c5, c19, c33, c47, c61, c75, Bool.false_eq_true, if_true, if_false]; rfl)
theorem c_X1_wordSort {E : Ev} {d : Nat} {I : Mi} {L : Ml} {Z : Mz} {Q : Po}  {N : Nat} {xs : Nat → Int32} {p e : Nat} (hd : 6 ≤ d) (hE : EXT E N xs) (hC : ScZ Z) (hpe : p ≤ e) (he : e ≤ 160) (hQ : ∀ rv : Int32, rv = (nI (wcF (I 5) p e)) → Q (some (.int rv)) I L Z) : AC E yX1_wordSort cX1_wordSort 3 (some .int) d 0 0 [.ref 4, .int (nI p), .int (nI e)] I L Z Q := by
  refine ac_go (ls := [some (.ref 4), some (.int (nI p)), some (.int (nI e))]) (by decide +kernel) (Nat.le_of_ble_eq_true rfl) rfl ?_
  refine aw_aload_n dX1_wordSort_0 rfl rfl ?_
  refine aw_iload_n dX1_wordSort_1 rfl ?_
  refine aw_iload_n dX1_wordSort_2 rfl ?_
  refine aw_ldcS 1 hE (by decide) ⟨rfl, rfl⟩ dX1_wordSort_3 ?_
  refine aw_V3 dX1_wordSort_5 cw_X1_87 ⟨_, _, rfl⟩ hC.1 (by omega) ⟨Nat.le_refl _, Nat.le_refl _⟩ (by decide) (c_X1_spells (i := 1) (w := [116, 117, 114, 110, 115]) (by omega) hE hC (by decide) rfl hpe he (fun c5 => ?_) (fun c5 => ?_))
  · refine aw_if_eq (tgt := 13) dX1_wordSort_8 (by decide) (fun zz => absurd zz (by decide)) (fun _ => ?_)
    refine aw_iconst (v := 4) dX1_wordSort_11 (by decide) ?_
    refine aw_ireturn (ty := .int) dX1_wordSort_12 rfl rfl ?_
    exact hQ _ (by simp only [wcF, c5, Bool.false_eq_true, if_true, if_false]; rfl)
  · refine aw_if_eq (tgt := 13) dX1_wordSort_8 (by decide) (fun _ => ?_) (fun zz => absurd zz (by decide))
    refine aw_aload_n dX1_wordSort_13 rfl rfl ?_
    refine aw_iload_n dX1_wordSort_14 rfl ?_
    refine aw_iload_n dX1_wordSort_15 rfl ?_
    refine aw_ldcS 2 hE (by decide) ⟨rfl, rfl⟩ dX1_wordSort_16 ?_
    refine aw_V3 dX1_wordSort_18 cw_X1_87 ⟨_, _, rfl⟩ hC.1 (by omega) ⟨Nat.le_refl _, Nat.le_refl _⟩ (by decide) (c_X1_spells (i := 2) (w := [109, 105, 115, 115, 101, 115]) (by omega) hE hC (by decide) rfl hpe he (fun c18 => ?_) (fun c18 => ?_))
    · refine aw_if_eq (tgt := 26) dX1_wordSort_21 (by decide) (fun zz => absurd zz (by decide)) (fun _ => ?_)
      refine aw_iconst (v := 5) dX1_wordSort_24 (by decide) ?_
      refine aw_ireturn (ty := .int) dX1_wordSort_25 rfl rfl ?_
      exact hQ _ (by simp only [wcF, c5, c18, Bool.false_eq_true, if_true, if_false]; rfl)
    · refine aw_if_eq (tgt := 26) dX1_wordSort_21 (by decide) (fun _ => ?_) (fun zz => absurd zz (by decide))
      refine aw_aload_n dX1_wordSort_26 rfl rfl ?_
      refine aw_iload_n dX1_wordSort_27 rfl ?_
      refine aw_iload_n dX1_wordSort_28 rfl ?_
      refine aw_ldcS 3 hE (by decide) ⟨rfl, rfl⟩ dX1_wordSort_29 ?_
      refine aw_V3 dX1_wordSort_31 cw_X1_87 ⟨_, _, rfl⟩ hC.1 (by omega) ⟨Nat.le_refl _, Nat.le_refl _⟩ (by decide) (c_X1_spells (i := 3) (w := [98, 111, 117, 110, 100, 115]) (by omega) hE hC (by decide) rfl hpe he (fun c31 => ?_) (fun c31 => ?_))
      · refine aw_if_eq (tgt := 40) dX1_wordSort_34 (by decide) (fun zz => absurd zz (by decide)) (fun _ => ?_)
        refine aw_bipush (v := 6) dX1_wordSort_37 (by decide) ?_
        refine aw_ireturn (ty := .int) dX1_wordSort_39 rfl rfl ?_
        exact hQ _ (by simp only [wcF, c5, c18, c31, Bool.false_eq_true, if_true, if_false]; rfl)
      · refine aw_if_eq (tgt := 40) dX1_wordSort_34 (by decide) (fun _ => ?_) (fun zz => absurd zz (by decide))
        refine aw_aload_n dX1_wordSort_40 rfl rfl ?_
        refine aw_iload_n dX1_wordSort_41 rfl ?_
        refine aw_iload_n dX1_wordSort_42 rfl ?_
        refine aw_ldcS 4 hE (by decide) ⟨rfl, rfl⟩ dX1_wordSort_43 ?_
        refine aw_V3 dX1_wordSort_45 cw_X1_87 ⟨_, _, rfl⟩ hC.1 (by omega) ⟨Nat.le_refl _, Nat.le_refl _⟩ (by decide) (c_X1_spells (i := 4) (w := [111, 114]) (by omega) hE hC (by decide) rfl hpe he (fun c45 => ?_) (fun c45 => ?_))
        · refine aw_if_eq (tgt := 54) dX1_wordSort_48 (by decide) (fun zz => absurd zz (by decide)) (fun _ => ?_)
          refine aw_bipush (v := 7) dX1_wordSort_51 (by decide) ?_
          refine aw_ireturn (ty := .int) dX1_wordSort_53 rfl rfl ?_
          exact hQ _ (by simp only [wcF, c5, c18, c31, c45, Bool.false_eq_true, if_true, if_false]; rfl)
        · refine aw_if_eq (tgt := 54) dX1_wordSort_48 (by decide) (fun _ => ?_) (fun zz => absurd zz (by decide))
          refine aw_aload_n dX1_wordSort_54 rfl rfl ?_
          refine aw_iload_n dX1_wordSort_55 rfl ?_
          refine aw_iload_n dX1_wordSort_56 rfl ?_
          refine aw_ldcS 5 hE (by decide) ⟨rfl, rfl⟩ dX1_wordSort_57 ?_
          refine aw_V3 dX1_wordSort_59 cw_X1_87 ⟨_, _, rfl⟩ hC.1 (by omega) ⟨Nat.le_refl _, Nat.le_refl _⟩ (by decide) (c_X1_spells (i := 5) (w := [97, 110, 100]) (by omega) hE hC (by decide) rfl hpe he (fun c59 => ?_) (fun c59 => ?_))
          · refine aw_if_eq (tgt := 68) dX1_wordSort_62 (by decide) (fun zz => absurd zz (by decide)) (fun _ => ?_)
            refine aw_bipush (v := 8) dX1_wordSort_65 (by decide) ?_
            refine aw_ireturn (ty := .int) dX1_wordSort_67 rfl rfl ?_
            exact hQ _ (by simp only [wcF, c5, c18, c31, c45, c59, Bool.false_eq_true, if_true, if_false]; rfl)
          · refine aw_if_eq (tgt := 68) dX1_wordSort_62 (by decide) (fun _ => ?_) (fun zz => absurd zz (by decide))
            refine aw_aload_n dX1_wordSort_68 rfl rfl ?_
            refine aw_iload_n dX1_wordSort_69 rfl ?_
            refine aw_iload_n dX1_wordSort_70 rfl ?_
            refine aw_ldcS 6 hE (by decide) ⟨rfl, rfl⟩ dX1_wordSort_71 ?_
            refine aw_V3 dX1_wordSort_73 cw_X1_87 ⟨_, _, rfl⟩ hC.1 (by omega) ⟨Nat.le_refl _, Nat.le_refl _⟩ (by decide) (c_X1_spells (i := 6) (w := [110, 111, 116]) (by omega) hE hC (by decide) rfl hpe he (fun c73 => ?_) (fun c73 => ?_))
            · refine aw_if_eq (tgt := 82) dX1_wordSort_76 (by decide) (fun zz => absurd zz (by decide)) (fun _ => ?_)
              refine aw_bipush (v := 9) dX1_wordSort_79 (by decide) ?_
              refine aw_ireturn (ty := .int) dX1_wordSort_81 rfl rfl ?_
              exact hQ _ (by simp only [wcF, c5, c18, c31, c45, c59, c73, Bool.false_eq_true, if_true, if_false]; rfl)
            · refine aw_if_eq (tgt := 82) dX1_wordSort_76 (by decide) (fun _ => ?_) (fun zz => absurd zz (by decide))
              refine aw_aload_n dX1_wordSort_82 rfl rfl ?_
              refine aw_iload_n dX1_wordSort_83 rfl ?_
              refine aw_iload_n dX1_wordSort_84 rfl ?_
              refine aw_V2 dX1_wordSort_85 cw_X1_101 ⟨_, _, rfl⟩ hC.1 (by omega) ⟨Nat.le_refl _, Nat.le_refl _⟩ (by decide) (c_X1_nameSort (by omega) hE hC hpe he (fun r85 e85 => ?_))
              refine aw_ireturn (ty := .int) dX1_wordSort_88 rfl rfl ?_
              exact hQ _ (by rw [e85]; simp only [wcF, wnF, c5, c18, c31, c45, c59, c73, Bool.false_eq_true, if_true, if_false])
theorem l_X1_tokenEndL {E : Ev} {d : Nat} {I : Mi} {L : Ml} {Z : Mz} {Q : Po} {p n : Nat} (hd : 1 ≤ d) (hC : ScZ Z) (hn : I 4 1 = nI n) (hn6 : n ≤ 160) : ∀ (k e : Nat), e + k = n → (∀ rv : Int32, rv = nI (rnN (fun x => decide (leP x)) (I 5) k e) → Q (some (.int rv)) I L Z) → AW E yX1_tokenEnd cX1_tokenEnd 3 (some .int) (rmOf d 0 0) Q 0 0 16 [some (.ref 4), some (.int (nI p)), some (.int (nI e))] [] I L Z := by
  intro k
  induction k with
  | zero =>
    intro e hk hQ
    have ee : e = n := by omega
    subst ee
    refine aw_iload_n dX1_tokenEnd_16 rfl ?_
    refine aw_aload_n dX1_tokenEnd_17 rfl rfl ?_
    refine aw_gi dX1_tokenEnd_18 fw_X1_27 hC.1 ?_
    refine aw_icmp_ge (tgt := 80) dX1_tokenEnd_21 (by decide) (fun c21 => ?_) (fun zz => absurd (by rw [hn]; exact Int32.le_refl _) zz)
    refine aw_iload_n dX1_tokenEnd_80 rfl ?_
    refine aw_ireturn (ty := .int) dX1_tokenEnd_81 rfl rfl ?_
    exact hQ _ rfl
  | succ k ih =>
    intro e hk hQ
    refine aw_iload_n dX1_tokenEnd_16 rfl ?_
    refine aw_aload_n dX1_tokenEnd_17 rfl rfl ?_
    refine aw_gi dX1_tokenEnd_18 fw_X1_27 hC.1 ?_
    refine aw_icmp_ge (tgt := 80) dX1_tokenEnd_21 (by decide) (fun zz => absurd zz (by rw [hn]; exact nI_ge (by omega) (by omega))) (fun c21 => ?_)
    refine aw_aload_n dX1_tokenEnd_24 rfl rfl ?_
    refine aw_gr dX1_tokenEnd_25 fw_X1_9 hC.1 hC.2.1 ?_
    refine aw_iload_n dX1_tokenEnd_28 rfl ?_
    refine aw_ia e dX1_tokenEnd_29 hC.2.2.2.2.2.2.1 rfl (by omega) (by decide) ?_
    refine aw_S1 dX1_tokenEnd_30 cw_X1_72 (by omega) ⟨Nat.le_refl _, Nat.le_refl _⟩ (by decide) (c_X1_isLetter (fun c30 => ?_) (fun c30 => ?_))
    · refine aw_if_eq (tgt := 80) dX1_tokenEnd_33 (by decide) (fun zz => absurd zz (by decide)) (fun _ => ?_)
      refine aw_iinc (v := (nI (e + 1))) (ls' := [_, _, _]) dX1_tokenEnd_36 rfl (nI_1 e) (by decide) rfl rfl ?_
      refine aw_goto (tgt := 16) dX1_tokenEnd_39 (by decide) ?_
      refine ih (e + 1) (by omega) (fun rv er => hQ rv ?_)
      rw [er]
      simp only [rnN]
      rw [if_pos (decide_eq_true (show leP (I 5 e) from c30))]
    · refine aw_if_eq (tgt := 80) dX1_tokenEnd_33 (by decide) (fun _ => ?_) (fun zz => absurd zz (by decide))
      refine aw_iload_n dX1_tokenEnd_80 rfl ?_
      refine aw_ireturn (ty := .int) dX1_tokenEnd_81 rfl rfl ?_
      exact hQ _ (by simp only [rnN]; rw [if_neg (fun w => c30 (of_decide_eq_true w))])
theorem l_X1_tokenEndD {E : Ev} {d : Nat} {I : Mi} {L : Ml} {Z : Mz} {Q : Po} {p n : Nat} (hd : 1 ≤ d) (hC : ScZ Z) (hn : I 4 1 = nI n) (hn6 : n ≤ 160) : ∀ (k e : Nat), e + k = n → (∀ rv : Int32, rv = nI (rnN (fun x => decide (diP x)) (I 5) k e) → Q (some (.int rv)) I L Z) → AW E yX1_tokenEnd cX1_tokenEnd 3 (some .int) (rmOf d 0 0) Q 0 0 54 [some (.ref 4), some (.int (nI p)), some (.int (nI e))] [] I L Z := by
  intro k
  induction k with
  | zero =>
    intro e hk hQ
    have ee : e = n := by omega
    subst ee
    refine aw_iload_n dX1_tokenEnd_54 rfl ?_
    refine aw_aload_n dX1_tokenEnd_55 rfl rfl ?_
    refine aw_gi dX1_tokenEnd_56 fw_X1_27 hC.1 ?_
    refine aw_icmp_ge (tgt := 80) dX1_tokenEnd_59 (by decide) (fun c59 => ?_) (fun zz => absurd (by rw [hn]; exact Int32.le_refl _) zz)
    refine aw_iload_n dX1_tokenEnd_80 rfl ?_
    refine aw_ireturn (ty := .int) dX1_tokenEnd_81 rfl rfl ?_
    exact hQ _ rfl
  | succ k ih =>
    intro e hk hQ
    refine aw_iload_n dX1_tokenEnd_54 rfl ?_
    refine aw_aload_n dX1_tokenEnd_55 rfl rfl ?_
    refine aw_gi dX1_tokenEnd_56 fw_X1_27 hC.1 ?_
    refine aw_icmp_ge (tgt := 80) dX1_tokenEnd_59 (by decide) (fun zz => absurd zz (by rw [hn]; exact nI_ge (by omega) (by omega))) (fun c59 => ?_)
    refine aw_aload_n dX1_tokenEnd_62 rfl rfl ?_
    refine aw_gr dX1_tokenEnd_63 fw_X1_9 hC.1 hC.2.1 ?_
    refine aw_iload_n dX1_tokenEnd_66 rfl ?_
    refine aw_ia e dX1_tokenEnd_67 hC.2.2.2.2.2.2.1 rfl (by omega) (by decide) ?_
    refine aw_S1 dX1_tokenEnd_68 cw_X1_75 (by omega) ⟨Nat.le_refl _, Nat.le_refl _⟩ (by decide) (c_X1_isDigit (fun c68 => ?_) (fun c68 => ?_))
    · refine aw_if_eq (tgt := 80) dX1_tokenEnd_71 (by decide) (fun zz => absurd zz (by decide)) (fun _ => ?_)
      refine aw_iinc (v := (nI (e + 1))) (ls' := [_, _, _]) dX1_tokenEnd_74 rfl (nI_1 e) (by decide) rfl rfl ?_
      refine aw_goto (tgt := 54) dX1_tokenEnd_77 (by decide) ?_
      refine ih (e + 1) (by omega) (fun rv er => hQ rv ?_)
      rw [er]
      simp only [rnN]
      rw [if_pos (decide_eq_true (show diP (I 5 e) from c68))]
    · refine aw_if_eq (tgt := 80) dX1_tokenEnd_71 (by decide) (fun _ => ?_) (fun zz => absurd zz (by decide))
      refine aw_iload_n dX1_tokenEnd_80 rfl ?_
      refine aw_ireturn (ty := .int) dX1_tokenEnd_81 rfl rfl ?_
      exact hQ _ (by simp only [rnN]; rw [if_neg (fun w => c68 (of_decide_eq_true w))])
theorem c_X1_tokenEnd {E : Ev} {d : Nat} {I : Mi} {L : Ml} {Z : Mz} {Q : Po}  {p n : Nat} (hd : 1 ≤ d) (hC : ScZ Z) (hn : I 4 1 = nI n) (hn6 : n ≤ 160) (hp : p < n) (hQ : ∀ rv : Int32, rv = (nI (enT (I 5) n p)) → Q (some (.int rv)) I L Z) : AC E yX1_tokenEnd cX1_tokenEnd 3 (some .int) d 0 0 [.ref 4, .int (nI p)] I L Z Q := by
  refine ac_go (ls := [some (.ref 4), some (.int (nI p)), none]) (by decide +kernel) (Nat.le_of_ble_eq_true rfl) rfl ?_
  refine aw_iload_n dX1_tokenEnd_0 rfl ?_
  refine aw_iconst (v := 1) dX1_tokenEnd_1 (by decide) ?_
  refine aw_iadd dX1_tokenEnd_2 ?_
  refine aw_istore_n (ls' := [_, _, _]) dX1_tokenEnd_3 (by decide) rfl rfl ?_
  refine aw_aload_n dX1_tokenEnd_4 rfl rfl ?_
  refine aw_gr dX1_tokenEnd_5 fw_X1_9 hC.1 hC.2.1 ?_
  refine aw_iload_n dX1_tokenEnd_8 rfl ?_
  refine aw_ia p dX1_tokenEnd_9 hC.2.2.2.2.2.2.1 rfl (by omega) (by decide) ?_
  refine aw_S1 dX1_tokenEnd_10 cw_X1_72 (by omega) ⟨Nat.le_refl _, Nat.le_refl _⟩ (by decide) (c_X1_isLetter (fun c10 => ?_) (fun c10 => ?_))
  · refine aw_if_eq (tgt := 42) dX1_tokenEnd_13 (by decide) (fun zz => absurd zz (by decide)) (fun _ => ?_)
    rw [nI_1]
    refine l_X1_tokenEndL hd hC hn hn6 (n - (p + 1)) (p + 1) (by omega) (fun rv er => hQ rv ?_)
    rw [er]
    obtain ⟨k, hk⟩ : ∃ k, n - p = k + 1 := ⟨n - p - 1, by omega⟩
    unfold enT
    rw [if_pos hp, if_pos (show leP (I 5 p) from c10), hk, show n - (p + 1) = k by omega]
    conv => rhs; rw [rnN]
    rw [if_pos (decide_eq_true (show leP (I 5 p) from c10))]
  · refine aw_if_eq (tgt := 42) dX1_tokenEnd_13 (by decide) (fun _ => ?_) (fun zz => absurd zz (by decide))
    refine aw_aload_n dX1_tokenEnd_42 rfl rfl ?_
    refine aw_gr dX1_tokenEnd_43 fw_X1_9 hC.1 hC.2.1 ?_
    refine aw_iload_n dX1_tokenEnd_46 rfl ?_
    refine aw_ia p dX1_tokenEnd_47 hC.2.2.2.2.2.2.1 rfl (by omega) (by decide) ?_
    refine aw_S1 dX1_tokenEnd_48 cw_X1_75 (by omega) ⟨Nat.le_refl _, Nat.le_refl _⟩ (by decide) (c_X1_isDigit (fun c48 => ?_) (fun c48 => ?_))
    · refine aw_if_eq (tgt := 80) dX1_tokenEnd_51 (by decide) (fun zz => absurd zz (by decide)) (fun _ => ?_)
      rw [nI_1]
      refine l_X1_tokenEndD hd hC hn hn6 (n - (p + 1)) (p + 1) (by omega) (fun rv er => hQ rv ?_)
      rw [er]
      obtain ⟨k, hk⟩ : ∃ k, n - p = k + 1 := ⟨n - p - 1, by omega⟩
      unfold enT
      rw [if_pos hp, if_neg (show ¬ leP (I 5 p) from c10), if_pos (show diP (I 5 p) from c48), hk, show n - (p + 1) = k by omega]
      conv => rhs; rw [rnN]
      rw [if_pos (decide_eq_true (show diP (I 5 p) from c48))]
    · refine aw_if_eq (tgt := 80) dX1_tokenEnd_51 (by decide) (fun _ => ?_) (fun zz => absurd zz (by decide))
      refine aw_iload_n dX1_tokenEnd_80 rfl ?_
      refine aw_ireturn (ty := .int) dX1_tokenEnd_81 rfl rfl ?_
      exact hQ _ (by unfold enT; rw [if_pos hp, if_neg (show ¬ leP (I 5 p) from c10), if_neg (show ¬ diP (I 5 p) from c48), nI_1])
def atM (I : Mi) (T c v p : Nat) : Mi := iU (iU (iU (iU I 6 T (nI (if 32 ≤ c then 3 else c))) 7 T (nI (if 32 ≤ c then c - 32 else v))) 8 T (nI p)) 4 5 (nI (T + 1))
theorem l_X1_addTail {E : Ev} {d : Nat} {I : Mi} {L : Ml} {Z : Mz} {Q : Po} {p e c w T : Nat} {o5 : Option Value} (hC : ScZ Z) (hT : I 4 5 = nI T) (hT6 : T < 161) (hc : c < 64) (hQ : Q none (atM I T c w p) L Z) : AW E yX1_addToken cX1_addToken 6 none (rmOf d 0 0) Q 0 0 101 [some (.ref 4), some (.int (nI p)), some (.int (nI e)), some (.int (nI c)), some (.int (nI w)), o5] [] I L Z := by
  have h32 : (nI c < 32) ↔ c < 32 := by
    constructor
    · intro h; exact Nat.not_le.mp (fun g => nI_nlt (a := c) (b := 32) g (by omega) h)
    · intro h; exact nI_lt (b := 32) h (by decide)
  refine aw_iload_n dX1_addToken_101 rfl ?_
  refine aw_bipush (v := 32) dX1_addToken_102 (by decide) ?_
  refine aw_icmp_lt (tgt := 115) dX1_addToken_104 (by decide) (fun c104 => ?_) (fun c104 => ?_)
  · refine aw_aload_n dX1_addToken_115 rfl rfl ?_
    refine aw_gr dX1_addToken_116 fw_X1_15 hC.1 hC.2.2.1 ?_
    refine aw_aload_n dX1_addToken_119 rfl rfl ?_
    refine aw_gi dX1_addToken_120 fw_X1_58 hC.1 ?_
    refine aw_iload_n dX1_addToken_123 rfl ?_
    refine aw_is T dX1_addToken_124 hC.2.2.2.2.2.2.2.1 hT hT6 (by decide) ?_
    refine aw_aload_n dX1_addToken_125 rfl rfl ?_
    refine aw_gr dX1_addToken_126 fw_X1_18 hC.1 hC.2.2.2.1 ?_
    refine aw_aload_n dX1_addToken_129 rfl rfl ?_
    refine aw_gi dX1_addToken_130 fw_X1_58 hC.1 ?_
    refine aw_iload dX1_addToken_133 rfl ?_
    refine aw_is T dX1_addToken_135 hC.2.2.2.2.2.2.2.2.1 (by simpa only [iU, Nat.reduceEqDiff, false_and, if_false] using hT) hT6 (by decide) ?_
    refine aw_aload_n dX1_addToken_136 rfl rfl ?_
    refine aw_gr dX1_addToken_137 fw_X1_21 hC.1 hC.2.2.2.2.1 ?_
    refine aw_aload_n dX1_addToken_140 rfl rfl ?_
    refine aw_gi dX1_addToken_141 fw_X1_58 hC.1 ?_
    refine aw_iload_n dX1_addToken_144 rfl ?_
    refine aw_is T dX1_addToken_145 hC.2.2.2.2.2.2.2.2.2.1 (by simpa only [iU, Nat.reduceEqDiff, false_and, if_false] using hT) hT6 (by decide) ?_
    refine aw_aload_n dX1_addToken_146 rfl rfl ?_
    refine aw_dup dX1_addToken_147 rfl ?_
    refine aw_gi dX1_addToken_148 fw_X1_58 hC.1 ?_
    refine aw_iconst (v := 1) dX1_addToken_151 (by decide) ?_
    refine aw_iadd dX1_addToken_152 ?_
    refine aw_pi dX1_addToken_153 fw_X1_58 (ww_X1_58 _) hC.1 rfl ?_
    refine aw_return dX1_addToken_156 rfl ?_
    simp only [iU_at (show ¬ ((4 : Nat) = 8 ∧ (5 : Nat) = T) by omega), iU_at (show ¬ ((4 : Nat) = 7 ∧ (5 : Nat) = T) by omega), iU_at (show ¬ ((4 : Nat) = 6 ∧ (5 : Nat) = T) by omega), hT, nI_1]
    have g := h32.mp c104
    rw [atM, if_neg (by omega), if_neg (by omega)] at hQ
    exact hQ
  · refine aw_iload_n dX1_addToken_107 rfl ?_
    refine aw_bipush (v := 32) dX1_addToken_108 (by decide) ?_
    refine aw_isub dX1_addToken_110 ?_
    refine aw_istore (ls' := [_, _, _, _, _, _]) dX1_addToken_111 (by decide) rfl rfl ?_
    refine aw_iconst (v := 3) dX1_addToken_113 (by decide) ?_
    refine aw_istore_n (ls' := [_, _, _, _, _, _]) dX1_addToken_114 (by decide) rfl rfl ?_
    refine aw_aload_n dX1_addToken_115 rfl rfl ?_
    refine aw_gr dX1_addToken_116 fw_X1_15 hC.1 hC.2.2.1 ?_
    refine aw_aload_n dX1_addToken_119 rfl rfl ?_
    refine aw_gi dX1_addToken_120 fw_X1_58 hC.1 ?_
    refine aw_iload_n dX1_addToken_123 rfl ?_
    refine aw_is T dX1_addToken_124 hC.2.2.2.2.2.2.2.1 hT hT6 (by decide) ?_
    refine aw_aload_n dX1_addToken_125 rfl rfl ?_
    refine aw_gr dX1_addToken_126 fw_X1_18 hC.1 hC.2.2.2.1 ?_
    refine aw_aload_n dX1_addToken_129 rfl rfl ?_
    refine aw_gi dX1_addToken_130 fw_X1_58 hC.1 ?_
    refine aw_iload dX1_addToken_133 rfl ?_
    refine aw_is T dX1_addToken_135 hC.2.2.2.2.2.2.2.2.1 (by simpa only [iU, Nat.reduceEqDiff, false_and, if_false] using hT) hT6 (by decide) ?_
    refine aw_aload_n dX1_addToken_136 rfl rfl ?_
    refine aw_gr dX1_addToken_137 fw_X1_21 hC.1 hC.2.2.2.2.1 ?_
    refine aw_aload_n dX1_addToken_140 rfl rfl ?_
    refine aw_gi dX1_addToken_141 fw_X1_58 hC.1 ?_
    refine aw_iload_n dX1_addToken_144 rfl ?_
    refine aw_is T dX1_addToken_145 hC.2.2.2.2.2.2.2.2.2.1 (by simpa only [iU, Nat.reduceEqDiff, false_and, if_false] using hT) hT6 (by decide) ?_
    refine aw_aload_n dX1_addToken_146 rfl rfl ?_
    refine aw_dup dX1_addToken_147 rfl ?_
    refine aw_gi dX1_addToken_148 fw_X1_58 hC.1 ?_
    refine aw_iconst (v := 1) dX1_addToken_151 (by decide) ?_
    refine aw_iadd dX1_addToken_152 ?_
    refine aw_pi dX1_addToken_153 fw_X1_58 (ww_X1_58 _) hC.1 rfl ?_
    refine aw_return dX1_addToken_156 rfl ?_
    simp only [iU_at (show ¬ ((4 : Nat) = 8 ∧ (5 : Nat) = T) by omega), iU_at (show ¬ ((4 : Nat) = 7 ∧ (5 : Nat) = T) by omega), iU_at (show ¬ ((4 : Nat) = 6 ∧ (5 : Nat) = T) by omega), hT, nI_1]
    have g : 32 ≤ c := Nat.not_lt.mp (fun w => c104 (h32.mpr w))
    rw [atM, if_pos g, if_pos g] at hQ
    rw [show nI c - 32 = nI (c - 32) from nI_sub (b := 32) g]
    exact hQ
theorem vd_step {x : Int32} {a : Nat} (h : diP x) : nI a * 10 + x - 48 = nI (10 * a + (x.toNatClampNeg - 48)) := by
  obtain ⟨h1, h2⟩ := h
  obtain ⟨b, hb, e⟩ := nI_of2 (M := 57) (n := 57) (by decide) (fun w => h1 (Int32.lt_trans w (by decide))) (Int32.not_lt.mp h2)
  subst e
  have h48 : 48 ≤ b := Nat.not_lt.mp (fun w => h1 (nI_lt (b := 48) w (by decide)))
  rw [nI_clamp (by omega), show nI a * 10 = nI (a * 10) from pk_mul a 10, nI_add, show nI (a * 10 + b) - 48 = nI (a * 10 + b - 48) from nI_sub (b := 48) (by omega)]
  congr 1
  omega
theorem l_X1_addNum {E : Ev} {d : Nat} {I : Mi} {L : Ml} {Z : Mz} {Q : Po} {p e : Nat} (hC : ScZ Z) (he : e ≤ 160) (hD : ∀ j, p ≤ j → j < e → diP (I 5 j)) : ∀ (k i a : Nat), i + k = e → p ≤ i → AW E yX1_addToken cX1_addToken 6 none (rmOf d 0 0) Q 0 0 101 [some (.ref 4), some (.int (nI p)), some (.int (nI e)), some (.int 2), some (.int (nI (vdF (I 5) k i a))), some (.int (nI e))] [] I L Z → AW E yX1_addToken cX1_addToken 6 none (rmOf d 0 0) Q 0 0 53 [some (.ref 4), some (.int (nI p)), some (.int (nI e)), some (.int 2), some (.int (nI a)), some (.int (nI i))] [] I L Z := by
  intro k
  induction k with
  | zero =>
    intro i a hk hp hQ
    have ei : i = e := by omega
    subst ei
    refine aw_iload dX1_addToken_53 rfl ?_
    refine aw_iload_n dX1_addToken_55 rfl ?_
    refine aw_icmp_ge (tgt := 88) dX1_addToken_56 (by decide) (fun c56 => ?_) (fun zz => absurd (Int32.le_refl _) zz)
    refine aw_goto (tgt := 101) dX1_addToken_88 (by decide) ?_
    exact hQ
  | succ k ih =>
    intro i a hk hp hQ
    refine aw_iload dX1_addToken_53 rfl ?_
    refine aw_iload_n dX1_addToken_55 rfl ?_
    refine aw_icmp_ge (tgt := 88) dX1_addToken_56 (by decide) (fun zz => absurd zz (nI_ge (by omega) (by omega))) (fun c56 => ?_)
    refine aw_iload_n dX1_addToken_59 rfl ?_
    refine aw_iconst (v := 2) dX1_addToken_60 (by decide) ?_
    refine aw_icmp_ne (tgt := 88) dX1_addToken_61 (by decide) (fun zz => absurd zz (by decide)) (fun _ => ?_)
    refine aw_iload dX1_addToken_64 rfl ?_
    refine aw_bipush (v := 10) dX1_addToken_66 (by decide) ?_
    refine aw_imul dX1_addToken_68 ?_
    refine aw_aload_n dX1_addToken_69 rfl rfl ?_
    refine aw_gr dX1_addToken_70 fw_X1_9 hC.1 hC.2.1 ?_
    refine aw_iload dX1_addToken_73 rfl ?_
    refine aw_ia i dX1_addToken_75 hC.2.2.2.2.2.2.1 rfl (by omega) (by decide) ?_
    refine aw_iadd dX1_addToken_76 ?_
    refine aw_bipush (v := 48) dX1_addToken_77 (by decide) ?_
    refine aw_isub dX1_addToken_79 ?_
    rw [vd_step (hD i hp (by omega))]
    refine aw_istore (ls' := [_, _, _, _, _, _]) dX1_addToken_80 (by decide) rfl rfl ?_
    refine aw_iinc (v := (nI (i + 1))) (ls' := [_, _, _, _, _, _]) dX1_addToken_82 rfl (nI_1 i) (by decide) rfl rfl ?_
    refine aw_goto (tgt := 53) dX1_addToken_85 (by decide) ?_
    exact ih (i + 1) _ (by omega) (by omega) hQ
theorem c_X1_addToken {E : Ev} {d : Nat} {I : Mi} {L : Ml} {Z : Mz} {Q : Po}  {N : Nat} {xs : Nat → Int32} {p n T : Nat} (hd : 7 ≤ d) (hE : EXT E N xs) (hC : ScZ Z) (hn6 : n ≤ 160) (hp : p < n) (hT : I 4 5 = nI T) (hT6 : T < 161) (hQ : Q none (atM I T (cdF (I 5) n p) (if cdF (I 5) n p = 2 then vdF (I 5) (enT (I 5) n p - p) p 0 else 0) p) L Z) : AC E yX1_addToken cX1_addToken 6 none d 0 0 [.ref 4, .int (nI p), .int (nI (enT (I 5) n p))] I L Z Q := by
  refine ac_go (ls := [some (.ref 4), some (.int (nI p)), some (.int (nI (enT (I 5) n p))), none, none, none]) (by decide +kernel) (Nat.le_of_ble_eq_true rfl) rfl ?_
  have he := en_bd (B := I 5) (n := n) (p := p) (by omega)
  have ecd : cdF (I 5) n p = (if leP (I 5 p) then wcF (I 5) p (enT (I 5) n p) else if diP (I 5 p) then (if 4 < enT (I 5) n p - p then 1 else 2) else sgF (I 5 p)) := by unfold cdF; rw [if_pos hp]
  refine aw_iconst (v := 0) dX1_addToken_0 (by decide) ?_
  refine aw_istore (ls' := [_, _, _, _, _, _]) dX1_addToken_1 (by decide) rfl rfl ?_
  refine aw_aload_n dX1_addToken_3 rfl rfl ?_
  refine aw_gr dX1_addToken_4 fw_X1_9 hC.1 hC.2.1 ?_
  refine aw_iload_n dX1_addToken_7 rfl ?_
  refine aw_ia p dX1_addToken_8 hC.2.2.2.2.2.2.1 rfl (by omega) (by decide) ?_
  refine aw_S1 dX1_addToken_9 cw_X1_72 (by omega) ⟨Nat.le_refl _, Nat.le_refl _⟩ (by decide) (c_X1_isLetter (fun c9 => ?_) (fun c9 => ?_))
  · refine aw_if_eq (tgt := 25) dX1_addToken_12 (by decide) (fun zz => absurd zz (by decide)) (fun _ => ?_)
    refine aw_aload_n dX1_addToken_15 rfl rfl ?_
    refine aw_iload_n dX1_addToken_16 rfl ?_
    refine aw_iload_n dX1_addToken_17 rfl ?_
    refine aw_V2 dX1_addToken_18 cw_X1_78 ⟨_, _, rfl⟩ hC.1 (by omega) ⟨Nat.le_refl _, Nat.le_refl _⟩ (by decide) (c_X1_wordSort (by omega) hE hC (by omega) (by omega) (fun r18 e18 => ?_))
    refine aw_istore_n (ls' := [_, _, _, _, _, _]) dX1_addToken_21 (by decide) rfl rfl ?_
    refine aw_goto (tgt := 101) dX1_addToken_22 (by decide) ?_
    rw [if_pos (show leP (I 5 p) from c9)] at ecd
    have hr := wc_rng (I 5) p (enT (I 5) n p)
    rw [ecd, if_neg (by omega)] at hQ
    rw [e18]
    exact l_X1_addTail (w := 0) hC hT hT6 (by omega) hQ
  · refine aw_if_eq (tgt := 25) dX1_addToken_12 (by decide) (fun _ => ?_) (fun zz => absurd zz (by decide))
    refine aw_aload_n dX1_addToken_25 rfl rfl ?_
    refine aw_gr dX1_addToken_26 fw_X1_9 hC.1 hC.2.1 ?_
    refine aw_iload_n dX1_addToken_29 rfl ?_
    refine aw_ia p dX1_addToken_30 hC.2.2.2.2.2.2.1 rfl (by omega) (by decide) ?_
    refine aw_S1 dX1_addToken_31 cw_X1_75 (by omega) ⟨Nat.le_refl _, Nat.le_refl _⟩ (by decide) (c_X1_isDigit (fun c31 => ?_) (fun c31 => ?_))
    · refine aw_if_eq (tgt := 91) dX1_addToken_34 (by decide) (fun zz => absurd zz (by decide)) (fun _ => ?_)
      refine aw_iload_n dX1_addToken_37 rfl ?_
      refine aw_iload_n dX1_addToken_38 rfl ?_
      refine aw_isub dX1_addToken_39 ?_
      refine aw_iconst (v := 4) dX1_addToken_40 (by decide) ?_
      have h4 : (nI (enT (I 5) n p) - nI p ≤ 4) ↔ ¬ 4 < enT (I 5) n p - p := by
        rw [nI_sub (by omega)]
        constructor
        · intro g w; exact nI_ge (a := 4) w (by omega) g
        · intro g; exact nI_le (b := 4) (by omega) (by decide)
      refine aw_icmp_le (tgt := 48) dX1_addToken_41 (by decide) (fun c41 => ?_) (fun c41 => ?_)
      · refine aw_iconst (v := 2) dX1_addToken_48 (by decide) ?_
        refine aw_istore_n (ls' := [_, _, _, _, _, _]) dX1_addToken_49 (by decide) rfl rfl ?_
        refine aw_iload_n dX1_addToken_50 rfl ?_
        refine aw_istore (ls' := [_, _, _, _, _, _]) dX1_addToken_51 (by decide) rfl rfl ?_
        rw [if_pos (show diP (I 5 p) from c31), if_neg (show ¬ leP (I 5 p) from c9)] at ecd
        rw [if_neg (h4.mp c41)] at ecd
        rw [ecd, if_pos rfl] at hQ
        refine l_X1_addNum hC (by omega) (en_di hp (show ¬ leP (I 5 p) from c9) (show diP (I 5 p) from c31)) (enT (I 5) n p - p) p 0 (by omega) (Nat.le_refl _) ?_
        exact l_X1_addTail (c := 2) hC hT hT6 (by decide) hQ
      · refine aw_iconst (v := 1) dX1_addToken_44 (by decide) ?_
        refine aw_goto (tgt := 49) dX1_addToken_45 (by decide) ?_
        refine aw_istore_n (ls' := [_, _, _, _, _, _]) dX1_addToken_49 (by decide) rfl rfl ?_
        refine aw_iload_n dX1_addToken_50 rfl ?_
        refine aw_istore (ls' := [_, _, _, _, _, _]) dX1_addToken_51 (by decide) rfl rfl ?_
        refine aw_iload dX1_addToken_53 rfl ?_
        refine aw_iload_n dX1_addToken_55 rfl ?_
        refine aw_icmp_ge (tgt := 88) dX1_addToken_56 (by decide) (fun zz => absurd zz (nI_ge (by omega) (by omega))) (fun c56 => ?_)
        refine aw_iload_n dX1_addToken_59 rfl ?_
        refine aw_iconst (v := 2) dX1_addToken_60 (by decide) ?_
        refine aw_icmp_ne (tgt := 88) dX1_addToken_61 (by decide) (fun _ => ?_) (fun zz => absurd zz (by decide))
        refine aw_goto (tgt := 101) dX1_addToken_88 (by decide) ?_
        rw [if_pos (show diP (I 5 p) from c31), if_neg (show ¬ leP (I 5 p) from c9)] at ecd
        rw [if_pos (Decidable.byContradiction fun w => c41 (h4.mpr w))] at ecd
        rw [ecd, if_neg (by decide)] at hQ
        exact l_X1_addTail (c := 1) (w := 0) hC hT hT6 (by decide) hQ
    · refine aw_if_eq (tgt := 91) dX1_addToken_34 (by decide) (fun _ => ?_) (fun zz => absurd zz (by decide))
      refine aw_aload_n dX1_addToken_91 rfl rfl ?_
      refine aw_gr dX1_addToken_92 fw_X1_9 hC.1 hC.2.1 ?_
      refine aw_iload_n dX1_addToken_95 rfl ?_
      refine aw_ia p dX1_addToken_96 hC.2.2.2.2.2.2.1 rfl (by omega) (by decide) ?_
      refine aw_S1 dX1_addToken_97 cw_X1_82 (by omega) ⟨Nat.le_refl _, Nat.le_refl _⟩ (by decide) (c_X1_signSort (fun r97 e97 => ?_))
      refine aw_istore_n (ls' := [_, _, _, _, _, _]) dX1_addToken_100 (by decide) rfl rfl ?_
      rw [if_neg (show ¬ leP (I 5 p) from c9), if_neg (show ¬ diP (I 5 p) from c31)] at ecd
      have hr := sg_rng (I 5 p)
      rw [ecd, if_neg (by omega)] at hQ
      rw [e97]
      exact l_X1_addTail (w := 0) hC hT hT6 (by omega) hQ
theorem c_X1_addTokenB {E : Ev} {d : Nat} {I : Mi} {L : Ml} {Z : Mz} {Q : Po} {N : Nat} {xs : Nat → Int32} {p n T : Nat} {B : Nat → Int32} (hd : 7 ≤ d) (hB : I 5 = B) (hE : EXT E N xs) (hC : ScZ Z) (hn6 : n ≤ 160) (hp : p < n) (hT : I 4 5 = nI T) (hT6 : T < 161) (hQ : Q none (atM I T (cdF B n p) (if cdF B n p = 2 then vdF B (enT B n p - p) p 0 else 0) p) L Z) : AC E yX1_addToken cX1_addToken 6 none d 0 0 [.ref 4, .int (nI p), .int (nI (enT B n p))] I L Z Q := by
  subst hB
  exact c_X1_addToken hd hE hC hn6 hp hT hT6 hQ
def SaX (I J : Mi) : Prop := ∀ a j, ¬ (a = 4 ∧ j = 5) → a ≠ 6 → a ≠ 7 → a ≠ 8 → J a j = I a j
theorem SaX.rf {I : Mi} : SaX I I := fun _ _ _ _ _ _ => rfl
theorem SaX.at {I J : Mi} (h : SaX I J) (T c w p : Nat) : SaX I (atM J T c w p) := by
  intro a j h1 h2 h3 h4
  simp only [atM, iU, h1, h2, h3, h4, false_and, if_false]
  exact h a j h1 h2 h3 h4
theorem SaX.r5 {I J : Mi} (h : SaX I J) : J 5 = I 5 := funext fun j => h 5 j (by omega) (by omega) (by omega) (by omega)
def TokI (I : Mi) (B : Nat → Int32) (n k : Nat) : Prop := I 4 5 = nI k ∧ ∀ j, j < k → I 6 j = nI (SS B n j) ∧ I 7 j = nI (VV B n j) ∧ I 8 j = nI (plF B n j)
def TokF (I : Mi) (B : Nat → Int32) (n T : Nat) : Prop := (∀ j, j < T → I 6 j = nI (SS B n j) ∧ I 7 j = nI (VV B n j) ∧ I 8 j = nI (plF B n j)) ∧ I 6 T = nI (SS B n T) ∧ I 8 T = nI (plF B n T) ∧ plF B n T = n ∧ SS B n T = 0 ∧ T ≤ n
theorem TokI.at {I : Mi} {B : Nat → Int32} {n k : Nat} (h : TokI I B n k) : TokI (atM I k (cdF B n (plF B n k)) (if cdF B n (plF B n k) = 2 then vdF B (enT B n (plF B n k) - plF B n k) (plF B n k) 0 else 0) (plF B n k)) B n (k + 1) := by
  refine ⟨iU_same, fun j hj => ?_⟩
  by_cases e : j = k
  · subst e
    simp only [atM, iU, Nat.reduceEqDiff, false_and, if_false, and_self, if_true]
    exact ⟨rfl, rfl, trivial⟩
  · have := h.2 j (by omega)
    simp only [atM, iU, Nat.reduceEqDiff, false_and, if_false, e, and_false]
    exact this
theorem bk_n {B : Nat → Int32} {n : Nat} : bkE B n n = n := by
  have := bk_bd (B := B) (Nat.le_refl n)
  omega
theorem bk_no {B : Nat → Int32} {n P : Nat} (h : P < n) (hb : ¬ blP (B P)) : bkE B n P = P := by
  unfold bkE
  obtain ⟨k, hk⟩ : ∃ k, n - P = k + 1 := ⟨n - P - 1, by omega⟩
  rw [hk, rnN, if_neg (fun w => hb (of_decide_eq_true w))]
theorem bk_yes {B : Nat → Int32} {n P : Nat} (h : P < n) (hb : blP (B P)) : bkE B n P = bkE B n (P + 1) := by
  unfold bkE
  obtain ⟨k, hk⟩ : ∃ k, n - P = k + 1 := ⟨n - P - 1, by omega⟩
  rw [hk, rnN, if_pos (decide_eq_true hb), show n - (P + 1) = k by omega]
theorem en_bl {B : Nat → Int32} {n P : Nat} (h : P < n) (hb : blP (B P)) : enT B n P = P + 1 := by
  unfold enT
  rw [if_pos h]
  rcases hb with e | e
  · rw [if_neg (by rw [e]; decide), if_neg (by rw [e]; decide)]
  · rw [if_neg (by rw [e]; decide), if_neg (by rw [e]; decide)]
theorem l_X1_splitEnd {E : Ev} {d : Nat} {I : Mi} {L : Ml} {Z : Mz} {Q : Po} {n k : Nat} {M : Mi} {o1 o2 o3 : Option Value} (hC : ScZ Z) (hn : I 4 1 = nI n) (hn6 : n ≤ 160) (hk : k ≤ n) (hpn : plF (I 5) n k = n) (hS : SaX I M) (hT : TokI M (I 5) n k) (hQ : ∀ (J : Mi) (T : Nat), SaX I J → TokF J (I 5) n T → Q none J L Z) : AW E yX1_splitTape cX1_splitTape 4 none (rmOf d 0 0) Q 0 0 56 [some (.ref 4), o1, o2, o3] [] M L Z := by
  have hss : SS (I 5) n k = 0 := by unfold SS; rw [hpn, tk_end]; unfold mkF; rw [if_neg (Nat.lt_irrefl n)]
  refine aw_aload_n dX1_splitTape_56 rfl rfl ?_
  refine aw_gr dX1_splitTape_57 fw_X1_15 hC.1 hC.2.2.1 ?_
  refine aw_aload_n dX1_splitTape_60 rfl rfl ?_
  refine aw_gi dX1_splitTape_61 fw_X1_58 hC.1 ?_
  refine aw_iconst (v := 0) dX1_splitTape_64 (by decide) ?_
  refine aw_is k dX1_splitTape_65 hC.2.2.2.2.2.2.2.1 hT.1 (by omega) (by decide) ?_
  refine aw_aload_n dX1_splitTape_66 rfl rfl ?_
  refine aw_gr dX1_splitTape_67 fw_X1_21 hC.1 hC.2.2.2.2.1 ?_
  refine aw_aload_n dX1_splitTape_70 rfl rfl ?_
  refine aw_gi dX1_splitTape_71 fw_X1_58 hC.1 ?_
  refine aw_aload_n dX1_splitTape_74 rfl rfl ?_
  refine aw_gi dX1_splitTape_75 fw_X1_27 hC.1 ?_
  refine aw_is k dX1_splitTape_78 hC.2.2.2.2.2.2.2.2.2.1 (by rw [iU_at (by omega)]; exact hT.1) (by omega) (by decide) ?_
  refine aw_return dX1_splitTape_79 rfl ?_
  refine hQ _ k (fun a j h1 h2 h3 h4 => ?_) ⟨fun j hj => ?_, ?_, ?_, hpn, hss, hk⟩
  · simp only [iU, h2, h4, false_and, if_false]
    exact hS a j h1 h2 h3 h4
  · have hne : ¬ j = k := by omega
    simp only [iU, Nat.reduceEqDiff, false_and, if_false, hne, and_false]
    exact hT.2 j hj
  · rw [hss]
    simp [iU]
    rfl
  · rw [hpn]
    simp only [iU, Nat.reduceEqDiff, false_and, if_false, and_self, if_true]
    rw [hS 4 1 (by omega) (by omega) (by omega) (by omega), hn]
theorem l_X1_split {E : Ev} {d : Nat} {I : Mi} {L : Ml} {Z : Mz} {Q : Po} {N : Nat} {xs : Nat → Int32} {n : Nat} (hd : 8 ≤ d) (hE : EXT E N xs) (hC : ScZ Z) (hn : I 4 1 = nI n) (hn6 : n ≤ 160) (hQ : ∀ (J : Mi) (T : Nat), SaX I J → TokF J (I 5) n T → Q none J L Z) : ∀ (q i P k : Nat) (M : Mi) (o3 : Option Value), i + q = 160 → i ≤ P → P ≤ n → bkE (I 5) n P = plF (I 5) n k → k ≤ P → SaX I M → TokI M (I 5) n k → AW E yX1_splitTape cX1_splitTape 4 none (rmOf d 0 0) Q 0 0 9 [some (.ref 4), some (.int (nI P)), some (.int (nI i)), o3] [] M L Z := by
  intro q
  induction q with
  | zero =>
    intro i P k M o3 hq hi hP hb hk hS hT
    have hPn : P = n := by omega
    refine aw_iload_n dX1_splitTape_9 rfl ?_
    refine aw_sipush (v := 160) dX1_splitTape_10 (by decide) ?_
    refine aw_icmp_ge (tgt := 56) dX1_splitTape_13 (by decide) (fun c13 => ?_) (fun zz => absurd (nI_le (a := 160) (by omega) (by omega)) zz)
    exact l_X1_splitEnd hC hn hn6 (by omega) (by rw [← hb, hPn]; exact bk_n) hS hT hQ
  | succ q ih =>
    intro i P k M o3 hq hi hP hb hk hS hT
    have h41 : M 4 1 = nI n := by rw [hS 4 1 (by omega) (by omega) (by omega) (by omega)]; exact hn
    have e5 := hS.r5
    have hge : (M 4 1 ≤ nI P) ↔ n ≤ P := by
      rw [h41]
      exact ⟨fun g => Nat.not_lt.mp (fun w => nI_ge w (by omega) g), fun g => nI_le g (by omega)⟩
    refine aw_iload_n dX1_splitTape_9 rfl ?_
    refine aw_sipush (v := 160) dX1_splitTape_10 (by decide) ?_
    refine aw_icmp_ge (tgt := 56) dX1_splitTape_13 (by decide) (fun zz => absurd zz (nI_ge (b := 160) (by omega) (by decide))) (fun c13 => ?_)
    refine aw_iload_n dX1_splitTape_16 rfl ?_
    refine aw_aload_n dX1_splitTape_17 rfl rfl ?_
    refine aw_gi dX1_splitTape_18 fw_X1_27 hC.1 ?_
    refine aw_icmp_ge (tgt := 56) dX1_splitTape_21 (by decide) (fun c21 => ?_) (fun c21 => ?_)
    · exact l_X1_splitEnd hC hn hn6 (by omega) (by rw [← hb, show P = n by have := hge.mp c21; omega]; exact bk_n) hS hT hQ
    · have hPn : P < n := Nat.not_le.mp (fun w => c21 (hge.mpr w))
      have hen := en_bd (B := I 5) (n := n) (p := P) (by omega)
      refine aw_aload_n dX1_splitTape_24 rfl rfl ?_
      refine aw_iload_n dX1_splitTape_25 rfl ?_
      refine aw_V1 dX1_splitTape_26 cw_X1_61 ⟨_, _, rfl⟩ hC.1 (by omega) ⟨Nat.le_refl _, Nat.le_refl _⟩ (by decide) (c_X1_tokenEnd (n := n) (by omega) hC h41 hn6 hPn (fun r26 e26 => ?_))
      rw [e26, e5]
      refine aw_istore_n (ls' := [_, _, _, _]) dX1_splitTape_29 (by decide) rfl rfl ?_
      refine aw_aload_n dX1_splitTape_30 rfl rfl ?_
      refine aw_gr dX1_splitTape_31 fw_X1_9 hC.1 hC.2.1 ?_
      refine aw_iload_n dX1_splitTape_34 rfl ?_
      refine aw_ia P dX1_splitTape_35 hC.2.2.2.2.2.2.1 rfl (by omega) (by decide) ?_
      rw [e5]
      refine aw_S1 dX1_splitTape_36 cw_X1_65 (by omega) ⟨Nat.le_refl _, Nat.le_refl _⟩ (by decide) (c_X1_isBlank (fun c36 => ?_) (fun c36 => ?_))
      · refine aw_if_ne (tgt := 48) dX1_splitTape_39 (by decide) (fun _ => ?_) (fun zz => absurd zz (by decide))
        refine aw_iload_n dX1_splitTape_48 rfl ?_
        refine aw_istore_n (ls' := [_, _, _, _]) dX1_splitTape_49 (by decide) rfl rfl ?_
        refine aw_iinc (v := (nI (i + 1))) (ls' := [_, _, _, _]) dX1_splitTape_50 rfl (nI_1 i) (by decide) rfl rfl ?_
        refine aw_goto (tgt := 9) dX1_splitTape_53 (by decide) ?_
        have hbl : blP (I 5 P) := c36
        rw [en_bl hPn hbl]
        exact ih (i + 1) (P + 1) k M _ (by omega) (by omega) (by omega) (by rw [← bk_yes hPn hbl]; exact hb) (by omega) hS hT
      · refine aw_if_ne (tgt := 48) dX1_splitTape_39 (by decide) (fun zz => absurd zz (by decide)) (fun _ => ?_)
        refine aw_aload_n dX1_splitTape_42 rfl rfl ?_
        refine aw_iload_n dX1_splitTape_43 rfl ?_
        refine aw_iload_n dX1_splitTape_44 rfl ?_
        refine aw_V2 dX1_splitTape_45 cw_X1_68 ⟨_, _, rfl⟩ hC.1 (by omega) ⟨Nat.le_refl _, Nat.le_refl _⟩ (by decide) (c_X1_addTokenB (by omega) e5 hE hC hn6 hPn hT.1 (by omega) ?_)
        refine aw_iload_n dX1_splitTape_48 rfl ?_
        refine aw_istore_n (ls' := [_, _, _, _]) dX1_splitTape_49 (by decide) rfl rfl ?_
        refine aw_iinc (v := (nI (i + 1))) (ls' := [_, _, _, _]) dX1_splitTape_50 rfl (nI_1 i) (by decide) rfl rfl ?_
        refine aw_goto (tgt := 9) dX1_splitTape_53 (by decide) ?_
        have hnb : ¬ blP (I 5 P) := c36
        have hPk : P = plF (I 5) n k := by rw [← hb, bk_no hPn hnb]
        refine ih (i + 1) (enT (I 5) n P) (k + 1) _ _ (by omega) (by omega) (by omega) ?_ (by omega) (hS.at _ _ _ _) ?_
        · rw [hPk]; rfl
        · rw [hPk]; exact hT.at
theorem c_X1_splitTape {E : Ev} {d : Nat} {I : Mi} {L : Ml} {Z : Mz} {Q : Po}  {N : Nat} {xs : Nat → Int32} {n : Nat} (hd : 8 ≤ d) (hE : EXT E N xs) (hC : ScZ Z) (hn : I 4 1 = nI n) (hn6 : n ≤ 160) (hQ : ∀ (J : Mi) (T : Nat), SaX I J → TokF J (I 5) n T → Q none J L Z) : AC E yX1_splitTape cX1_splitTape 4 none d 0 0 [.ref 4] I L Z Q := by
  refine ac_go (ls := [some (.ref 4), none, none, none]) (by decide +kernel) (Nat.le_of_ble_eq_true rfl) rfl ?_
  refine aw_aload_n dX1_splitTape_0 rfl rfl ?_
  refine aw_iconst (v := 0) dX1_splitTape_1 (by decide) ?_
  refine aw_pi dX1_splitTape_2 fw_X1_58 (ww_X1_58 _) hC.1 rfl ?_
  refine aw_iconst (v := 0) dX1_splitTape_5 (by decide) ?_
  refine aw_istore_n (ls' := [_, _, _, _]) dX1_splitTape_6 (by decide) rfl rfl ?_
  refine aw_iconst (v := 0) dX1_splitTape_7 (by decide) ?_
  refine aw_istore_n (ls' := [_, _, _, _]) dX1_splitTape_8 (by decide) rfl rfl ?_
  refine l_X1_split (I := iU I 4 5 0) hd hE hC (by rw [iU_at (by omega)]; exact hn) hn6 (fun J T hS hT => ?_) 160 0 0 0 _ none rfl (Nat.le_refl _) (Nat.zero_le _) rfl (Nat.le_refl _) SaX.rf ⟨iU_same, fun j hj => by omega⟩
  refine hQ J T (fun a j h1 h2 h3 h4 => ?_) ?_
  · rw [hS a j h1 h2 h3 h4]; simp only [iU, h1, if_false]
  · have e5 : iU I 4 5 0 5 = I 5 := by funext j; exact iU_at (by omega)
    rw [e5] at hT
    exact hT
