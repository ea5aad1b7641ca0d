theorem i32_of {x k : Int32} (h : x.toInt = k.toInt) : x = k := Int32.toInt_inj.mp h
theorem ne_out {x : Int32} {lo hi : Int} (t : x.toInt < lo ∨ hi < x.toInt) (k : Int32) (h1 : lo ≤ k.toInt) (h2 : k.toInt ≤ hi) : ¬ x = k := by
  rintro rfl
  omega
theorem aw_al {E : Ev} {y : MethodName} {cc : ByteArray} {nL : Nat} {rt : Option FieldType} {R : Room} {Q : Po} {cells slots pc : Nat} {ls : List (Option Value)} {rest : List Value} {I : Mi} {L : Ml} {Z : Mz} {a n : Nat} (hd : decode cc pc = .ok (.arraylength, 1)) (hA : ArrI Z a n) (kk : AW E y cc nL rt R Q cells slots (pc + 1) ls (.int (nI n) :: rest) I L Z) : AW E y cc nL rt R Q cells slots pc ls (.ref a :: rest) I L Z := by
  refine aw_alen hd hA.1 (by rw [hA.2.1]; omega) ?_
  rw [hA.2.2]
  exact kk
theorem sw_5_0 {x : Int32} (h1 : ¬ x.toInt < 0) (h2 : ¬ 4 < x.toInt) : x = 0 ∨ x = 1 ∨ x = 2 ∨ x = 3 ∨ x = 4 := by
  rcases (show x.toInt = 0 ∨ x.toInt = 1 ∨ x.toInt = 2 ∨ x.toInt = 3 ∨ x.toInt = 4 by omega) with h | h | h | h | h
  · exact Or.inl (i32_of (h.trans (by decide)))
  · exact Or.inr (Or.inl (i32_of (h.trans (by decide))))
  · exact Or.inr (Or.inr (Or.inl (i32_of (h.trans (by decide)))))
  · exact Or.inr (Or.inr (Or.inr (Or.inl (i32_of (h.trans (by decide))))))
  · exact Or.inr (Or.inr (Or.inr (Or.inr ((i32_of (h.trans (by decide)))))))
theorem sw_11_7 {x : Int32} (h1 : ¬ x.toInt < 7) (h2 : ¬ 17 < x.toInt) : x = 7 ∨ x = 8 ∨ x = 9 ∨ x = 10 ∨ x = 11 ∨ x = 12 ∨ x = 13 ∨ x = 14 ∨ x = 15 ∨ x = 16 ∨ x = 17 := by
  rcases (show x.toInt = 7 ∨ x.toInt = 8 ∨ x.toInt = 9 ∨ x.toInt = 10 ∨ x.toInt = 11 ∨ x.toInt = 12 ∨ x.toInt = 13 ∨ x.toInt = 14 ∨ x.toInt = 15 ∨ x.toInt = 16 ∨ x.toInt = 17 by omega) with h | h | h | h | h | h | h | h | h | h | h
  · exact Or.inl (i32_of (h.trans (by decide)))
  · exact Or.inr (Or.inl (i32_of (h.trans (by decide))))
  · exact Or.inr (Or.inr (Or.inl (i32_of (h.trans (by decide)))))
  · exact Or.inr (Or.inr (Or.inr (Or.inl (i32_of (h.trans (by decide))))))
  · exact Or.inr (Or.inr (Or.inr (Or.inr (Or.inl (i32_of (h.trans (by decide)))))))
  · exact Or.inr (Or.inr (Or.inr (Or.inr (Or.inr (Or.inl (i32_of (h.trans (by decide))))))))
  · exact Or.inr (Or.inr (Or.inr (Or.inr (Or.inr (Or.inr (Or.inl (i32_of (h.trans (by decide)))))))))
  · exact Or.inr (Or.inr (Or.inr (Or.inr (Or.inr (Or.inr (Or.inr (Or.inl (i32_of (h.trans (by decide))))))))))
  · exact Or.inr (Or.inr (Or.inr (Or.inr (Or.inr (Or.inr (Or.inr (Or.inr (Or.inl (i32_of (h.trans (by decide)))))))))))
  · exact Or.inr (Or.inr (Or.inr (Or.inr (Or.inr (Or.inr (Or.inr (Or.inr (Or.inr (Or.inl (i32_of (h.trans (by decide))))))))))))
  · exact Or.inr (Or.inr (Or.inr (Or.inr (Or.inr (Or.inr (Or.inr (Or.inr (Or.inr (Or.inr ((i32_of (h.trans (by decide)))))))))))))
theorem sw_22_40 {x : Int32} (h1 : ¬ x.toInt < 40) (h2 : ¬ 61 < x.toInt) : x = 40 ∨ x = 41 ∨ x = 42 ∨ x = 43 ∨ x = 44 ∨ x = 45 ∨ x = 46 ∨ x = 47 ∨ x = 48 ∨ x = 49 ∨ x = 50 ∨ x = 51 ∨ x = 52 ∨ x = 53 ∨ x = 54 ∨ x = 55 ∨ x = 56 ∨ x = 57 ∨ x = 58 ∨ x = 59 ∨ x = 60 ∨ x = 61 := by
  rcases (show x.toInt = 40 ∨ x.toInt = 41 ∨ x.toInt = 42 ∨ x.toInt = 43 ∨ x.toInt = 44 ∨ x.toInt = 45 ∨ x.toInt = 46 ∨ x.toInt = 47 ∨ x.toInt = 48 ∨ x.toInt = 49 ∨ x.toInt = 50 ∨ x.toInt = 51 ∨ x.toInt = 52 ∨ x.toInt = 53 ∨ x.toInt = 54 ∨ x.toInt = 55 ∨ x.toInt = 56 ∨ x.toInt = 57 ∨ x.toInt = 58 ∨ x.toInt = 59 ∨ x.toInt = 60 ∨ x.toInt = 61 by omega) with h | h | h | h | h | h | h | h | h | h | h | h | h | h | h | h | h | h | h | h | h | h
  · exact Or.inl (i32_of (h.trans (by decide)))
  · exact Or.inr (Or.inl (i32_of (h.trans (by decide))))
  · exact Or.inr (Or.inr (Or.inl (i32_of (h.trans (by decide)))))
  · exact Or.inr (Or.inr (Or.inr (Or.inl (i32_of (h.trans (by decide))))))
  · exact Or.inr (Or.inr (Or.inr (Or.inr (Or.inl (i32_of (h.trans (by decide)))))))
  · exact Or.inr (Or.inr (Or.inr (Or.inr (Or.inr (Or.inl (i32_of (h.trans (by decide))))))))
  · exact Or.inr (Or.inr (Or.inr (Or.inr (Or.inr (Or.inr (Or.inl (i32_of (h.trans (by decide)))))))))
  · exact Or.inr (Or.inr (Or.inr (Or.inr (Or.inr (Or.inr (Or.inr (Or.inl (i32_of (h.trans (by decide))))))))))
  · exact Or.inr (Or.inr (Or.inr (Or.inr (Or.inr (Or.inr (Or.inr (Or.inr (Or.inl (i32_of (h.trans (by decide)))))))))))
  · exact Or.inr (Or.inr (Or.inr (Or.inr (Or.inr (Or.inr (Or.inr (Or.inr (Or.inr (Or.inl (i32_of (h.trans (by decide))))))))))))
  · exact Or.inr (Or.inr (Or.inr (Or.inr (Or.inr (Or.inr (Or.inr (Or.inr (Or.inr (Or.inr (Or.inl (i32_of (h.trans (by decide)))))))))))))
  · exact Or.inr (Or.inr (Or.inr (Or.inr (Or.inr (Or.inr (Or.inr (Or.inr (Or.inr (Or.inr (Or.inr (Or.inl (i32_of (h.trans (by decide))))))))))))))
  · exact Or.inr (Or.inr (Or.inr (Or.inr (Or.inr (Or.inr (Or.inr (Or.inr (Or.inr (Or.inr (Or.inr (Or.inr (Or.inl (i32_of (h.trans (by decide)))))))))))))))
  · exact Or.inr (Or.inr (Or.inr (Or.inr (Or.inr (Or.inr (Or.inr (Or.inr (Or.inr (Or.inr (Or.inr (Or.inr (Or.inr (Or.inl (i32_of (h.trans (by decide))))))))))))))))
  · exact Or.inr (Or.inr (Or.inr (Or.inr (Or.inr (Or.inr (Or.inr (Or.inr (Or.inr (Or.inr (Or.inr (Or.inr (Or.inr (Or.inr (Or.inl (i32_of (h.trans (by decide)))))))))))))))))
  · exact Or.inr (Or.inr (Or.inr (Or.inr (Or.inr (Or.inr (Or.inr (Or.inr (Or.inr (Or.inr (Or.inr (Or.inr (Or.inr (Or.inr (Or.inr (Or.inl (i32_of (h.trans (by decide))))))))))))))))))
  · exact Or.inr (Or.inr (Or.inr (Or.inr (Or.inr (Or.inr (Or.inr (Or.inr (Or.inr (Or.inr (Or.inr (Or.inr (Or.inr (Or.inr (Or.inr (Or.inr (Or.inl (i32_of (h.trans (by decide)))))))))))))))))))
  · exact Or.inr (Or.inr (Or.inr (Or.inr (Or.inr (Or.inr (Or.inr (Or.inr (Or.inr (Or.inr (Or.inr (Or.inr (Or.inr (Or.inr (Or.inr (Or.inr (Or.inr (Or.inl (i32_of (h.trans (by decide))))))))))))))))))))
  · exact Or.inr (Or.inr (Or.inr (Or.inr (Or.inr (Or.inr (Or.inr (Or.inr (Or.inr (Or.inr (Or.inr (Or.inr (Or.inr (Or.inr (Or.inr (Or.inr (Or.inr (Or.inr (Or.inl (i32_of (h.trans (by decide)))))))))))))))))))))
  · exact Or.inr (Or.inr (Or.inr (Or.inr (Or.inr (Or.inr (Or.inr (Or.inr (Or.inr (Or.inr (Or.inr (Or.inr (Or.inr (Or.inr (Or.inr (Or.inr (Or.inr (Or.inr (Or.inr (Or.inl (i32_of (h.trans (by decide))))))))))))))))))))))
  · exact Or.inr (Or.inr (Or.inr (Or.inr (Or.inr (Or.inr (Or.inr (Or.inr (Or.inr (Or.inr (Or.inr (Or.inr (Or.inr (Or.inr (Or.inr (Or.inr (Or.inr (Or.inr (Or.inr (Or.inr (Or.inl (i32_of (h.trans (by decide)))))))))))))))))))))))
  · exact Or.inr (Or.inr (Or.inr (Or.inr (Or.inr (Or.inr (Or.inr (Or.inr (Or.inr (Or.inr (Or.inr (Or.inr (Or.inr (Or.inr (Or.inr (Or.inr (Or.inr (Or.inr (Or.inr (Or.inr (Or.inr ((i32_of (h.trans (by decide))))))))))))))))))))))))
/-! ===== what a text tells ===== -/
def joV (s a b : Int32) : Int32 := if s = 7 then (if a = 0 ∧ b = 0 then 0 else 1) else if s = 8 then (if a = 0 ∨ b = 0 then 0 else 1) else if s = 16 then (if b ≤ a then 0 else 1) else if s = 17 then (if a = b then 1 else 0) else if s = 13 then a + b else if s = 14 then a - b else a * b
theorem c_X4_joined {E : Ev} {d : Nat} {I : Mi} {L : Ml} {Z : Mz} {Q : Po} {s : Int32} {a : Int32} {b : Int32}   (hQ : ∀ rv : Int32, rv = (joV s a b) → Q (some (.int rv)) I L Z) : AC E yX4_joined cX4_joined 3 (some .int) d 0 0 [.int s, .int a, .int b] I L Z Q := by
  refine ac_go (ls := [some (.int s), some (.int a), some (.int b)]) (by decide +kernel) (Nat.le_of_ble_eq_true rfl) rfl ?_
  refine aw_iload_n dX4_joined_0 rfl ?_
  by_cases t1 : s.toInt < 7 ∨ 17 < s.toInt
  · refine aw_tableOut (tgt := 118) dX4_joined_1 t1 (by decide) ?_
    refine aw_iload_n dX4_joined_118 rfl ?_
    refine aw_iload_n dX4_joined_119 rfl ?_
    refine aw_imul dX4_joined_120 ?_
    refine aw_ireturn (ty := .int) dX4_joined_121 rfl rfl ?_
    exact hQ _ (by simp (decide := true) only [joV, ne_out t1 7 (by decide) (by decide), ne_out t1 8 (by decide) (by decide), ne_out t1 16 (by decide) (by decide), ne_out t1 17 (by decide) (by decide), ne_out t1 13 (by decide) (by decide), ne_out t1 14 (by decide) (by decide), not_true_eq_false, not_false_eq_true, and_true, true_and, and_false, false_and, or_true, true_or, or_false, false_or, ite_true, ite_false, if_true, if_false, reduceIte, and_self, or_self])
  · obtain ⟨g1_1, g2_1⟩ := not_or.mp t1
    rcases (show s = 7 ∨ s = 8 ∨ s = 9 ∨ s = 10 ∨ s = 11 ∨ s = 12 ∨ s = 13 ∨ s = 14 ∨ s = 15 ∨ s = 16 ∨ s = 17 from sw_11_7 g1_1 g2_1) with q1 | q1 | q1 | q1 | q1 | q1 | q1 | q1 | q1 | q1 | q1
    · refine aw_tableIn (off := 59) (tgt := 60) dX4_joined_1 g1_1 g2_1 (by rw [q1]; rfl) (by decide) ?_
      refine aw_iload_n dX4_joined_60 rfl ?_
      refine aw_if_ne (tgt := 68) dX4_joined_61 (by decide) (fun c61 => ?_) (fun c61 => ?_)
      · refine aw_iconst (v := 1) dX4_joined_68 (by decide) ?_
        refine aw_goto (tgt := 73) dX4_joined_69 (by decide) ?_
        refine aw_ireturn (ty := .int) dX4_joined_73 rfl rfl ?_
        exact hQ _ (by simp (decide := true) only [joV, q1, c61, not_true_eq_false, not_false_eq_true, and_true, true_and, and_false, false_and, or_true, true_or, or_false, false_or, ite_true, ite_false, if_true, if_false, reduceIte, and_self, or_self])
      · refine aw_iload_n dX4_joined_64 rfl ?_
        refine aw_if_eq (tgt := 72) dX4_joined_65 (by decide) (fun c65 => ?_) (fun c65 => ?_)
        · refine aw_iconst (v := 0) dX4_joined_72 (by decide) ?_
          refine aw_ireturn (ty := .int) dX4_joined_73 rfl rfl ?_
          exact hQ _ (by simp (decide := true) only [joV, q1, c61, c65, not_true_eq_false, not_false_eq_true, and_true, true_and, and_false, false_and, or_true, true_or, or_false, false_or, ite_true, ite_false, if_true, if_false, reduceIte, and_self, or_self])
        · refine aw_iconst (v := 1) dX4_joined_68 (by decide) ?_
          refine aw_goto (tgt := 73) dX4_joined_69 (by decide) ?_
          refine aw_ireturn (ty := .int) dX4_joined_73 rfl rfl ?_
          exact hQ _ (by simp (decide := true) only [joV, q1, c61, c65, not_true_eq_false, not_false_eq_true, and_true, true_and, and_false, false_and, or_true, true_or, or_false, false_or, ite_true, ite_false, if_true, if_false, reduceIte, and_self, or_self])
    · refine aw_tableIn (off := 73) (tgt := 74) dX4_joined_1 g1_1 g2_1 (by rw [q1]; rfl) (by decide) ?_
      refine aw_iload_n dX4_joined_74 rfl ?_
      refine aw_if_eq (tgt := 86) dX4_joined_75 (by decide) (fun c75 => ?_) (fun c75 => ?_)
      · refine aw_iconst (v := 0) dX4_joined_86 (by decide) ?_
        refine aw_ireturn (ty := .int) dX4_joined_87 rfl rfl ?_
        exact hQ _ (by simp (decide := true) only [joV, q1, c75, not_true_eq_false, not_false_eq_true, and_true, true_and, and_false, false_and, or_true, true_or, or_false, false_or, ite_true, ite_false, if_true, if_false, reduceIte, and_self, or_self])
      · refine aw_iload_n dX4_joined_78 rfl ?_
        refine aw_if_eq (tgt := 86) dX4_joined_79 (by decide) (fun c79 => ?_) (fun c79 => ?_)
        · refine aw_iconst (v := 0) dX4_joined_86 (by decide) ?_
          refine aw_ireturn (ty := .int) dX4_joined_87 rfl rfl ?_
          exact hQ _ (by simp (decide := true) only [joV, q1, c75, c79, not_true_eq_false, not_false_eq_true, and_true, true_and, and_false, false_and, or_true, true_or, or_false, false_or, ite_true, ite_false, if_true, if_false, reduceIte, and_self, or_self])
        · refine aw_iconst (v := 1) dX4_joined_82 (by decide) ?_
          refine aw_goto (tgt := 87) dX4_joined_83 (by decide) ?_
          refine aw_ireturn (ty := .int) dX4_joined_87 rfl rfl ?_
          exact hQ _ (by simp (decide := true) only [joV, q1, c75, c79, not_true_eq_false, not_false_eq_true, and_true, true_and, and_false, false_and, or_true, true_or, or_false, false_or, ite_true, ite_false, if_true, if_false, reduceIte, and_self, or_self])
    · refine aw_tableIn (off := 117) (tgt := 118) dX4_joined_1 g1_1 g2_1 (by rw [q1]; rfl) (by decide) ?_
      refine aw_iload_n dX4_joined_118 rfl ?_
      refine aw_iload_n dX4_joined_119 rfl ?_
      refine aw_imul dX4_joined_120 ?_
      refine aw_ireturn (ty := .int) dX4_joined_121 rfl rfl ?_
      exact hQ _ (by simp (decide := true) only [joV, q1, not_true_eq_false, not_false_eq_true, and_true, true_and, and_false, false_and, or_true, true_or, or_false, false_or, ite_true, ite_false, if_true, if_false, reduceIte, and_self, or_self])
    · refine aw_tableIn (off := 117) (tgt := 118) dX4_joined_1 g1_1 g2_1 (by rw [q1]; rfl) (by decide) ?_
      refine aw_iload_n dX4_joined_118 rfl ?_
      refine aw_iload_n dX4_joined_119 rfl ?_
      refine aw_imul dX4_joined_120 ?_
      refine aw_ireturn (ty := .int) dX4_joined_121 rfl rfl ?_
      exact hQ _ (by simp (decide := true) only [joV, q1, not_true_eq_false, not_false_eq_true, and_true, true_and, and_false, false_and, or_true, true_or, or_false, false_or, ite_true, ite_false, if_true, if_false, reduceIte, and_self, or_self])
    · refine aw_tableIn (off := 117) (tgt := 118) dX4_joined_1 g1_1 g2_1 (by rw [q1]; rfl) (by decide) ?_
      refine aw_iload_n dX4_joined_118 rfl ?_
      refine aw_iload_n dX4_joined_119 rfl ?_
      refine aw_imul dX4_joined_120 ?_
      refine aw_ireturn (ty := .int) dX4_joined_121 rfl rfl ?_
      exact hQ _ (by simp (decide := true) only [joV, q1, not_true_eq_false, not_false_eq_true, and_true, true_and, and_false, false_and, or_true, true_or, or_false, false_or, ite_true, ite_false, if_true, if_false, reduceIte, and_self, or_self])
    · refine aw_tableIn (off := 117) (tgt := 118) dX4_joined_1 g1_1 g2_1 (by rw [q1]; rfl) (by decide) ?_
      refine aw_iload_n dX4_joined_118 rfl ?_
      refine aw_iload_n dX4_joined_119 rfl ?_
      refine aw_imul dX4_joined_120 ?_
      refine aw_ireturn (ty := .int) dX4_joined_121 rfl rfl ?_
      exact hQ _ (by simp (decide := true) only [joV, q1, not_true_eq_false, not_false_eq_true, and_true, true_and, and_false, false_and, or_true, true_or, or_false, false_or, ite_true, ite_false, if_true, if_false, reduceIte, and_self, or_self])
    · refine aw_tableIn (off := 109) (tgt := 110) dX4_joined_1 g1_1 g2_1 (by rw [q1]; rfl) (by decide) ?_
      refine aw_iload_n dX4_joined_110 rfl ?_
      refine aw_iload_n dX4_joined_111 rfl ?_
      refine aw_iadd dX4_joined_112 ?_
      refine aw_ireturn (ty := .int) dX4_joined_113 rfl rfl ?_
      exact hQ _ (by simp (decide := true) only [joV, q1, not_true_eq_false, not_false_eq_true, and_true, true_and, and_false, false_and, or_true, true_or, or_false, false_or, ite_true, ite_false, if_true, if_false, reduceIte, and_self, or_self])
    · refine aw_tableIn (off := 113) (tgt := 114) dX4_joined_1 g1_1 g2_1 (by rw [q1]; rfl) (by decide) ?_
      refine aw_iload_n dX4_joined_114 rfl ?_
      refine aw_iload_n dX4_joined_115 rfl ?_
      refine aw_isub dX4_joined_116 ?_
      refine aw_ireturn (ty := .int) dX4_joined_117 rfl rfl ?_
      exact hQ _ (by simp (decide := true) only [joV, q1, not_true_eq_false, not_false_eq_true, and_true, true_and, and_false, false_and, or_true, true_or, or_false, false_or, ite_true, ite_false, if_true, if_false, reduceIte, and_self, or_self])
    · refine aw_tableIn (off := 117) (tgt := 118) dX4_joined_1 g1_1 g2_1 (by rw [q1]; rfl) (by decide) ?_
      refine aw_iload_n dX4_joined_118 rfl ?_
      refine aw_iload_n dX4_joined_119 rfl ?_
      refine aw_imul dX4_joined_120 ?_
      refine aw_ireturn (ty := .int) dX4_joined_121 rfl rfl ?_
      exact hQ _ (by simp (decide := true) only [joV, q1, not_true_eq_false, not_false_eq_true, and_true, true_and, and_false, false_and, or_true, true_or, or_false, false_or, ite_true, ite_false, if_true, if_false, reduceIte, and_self, or_self])
    · refine aw_tableIn (off := 87) (tgt := 88) dX4_joined_1 g1_1 g2_1 (by rw [q1]; rfl) (by decide) ?_
      refine aw_iload_n dX4_joined_88 rfl ?_
      refine aw_iload_n dX4_joined_89 rfl ?_
      refine aw_icmp_ge (tgt := 97) dX4_joined_90 (by decide) (fun c90 => ?_) (fun c90 => ?_)
      · refine aw_iconst (v := 0) dX4_joined_97 (by decide) ?_
        refine aw_ireturn (ty := .int) dX4_joined_98 rfl rfl ?_
        exact hQ _ (by simp (decide := true) only [joV, q1, c90, not_true_eq_false, not_false_eq_true, and_true, true_and, and_false, false_and, or_true, true_or, or_false, false_or, ite_true, ite_false, if_true, if_false, reduceIte, and_self, or_self])
      · refine aw_iconst (v := 1) dX4_joined_93 (by decide) ?_
        refine aw_goto (tgt := 98) dX4_joined_94 (by decide) ?_
        refine aw_ireturn (ty := .int) dX4_joined_98 rfl rfl ?_
        exact hQ _ (by simp (decide := true) only [joV, q1, c90, not_true_eq_false, not_false_eq_true, and_true, true_and, and_false, false_and, or_true, true_or, or_false, false_or, ite_true, ite_false, if_true, if_false, reduceIte, and_self, or_self])
    · refine aw_tableIn (off := 98) (tgt := 99) dX4_joined_1 g1_1 g2_1 (by rw [q1]; rfl) (by decide) ?_
      refine aw_iload_n dX4_joined_99 rfl ?_
      refine aw_iload_n dX4_joined_100 rfl ?_
      refine aw_icmp_ne (tgt := 108) dX4_joined_101 (by decide) (fun c101 => ?_) (fun c101 => ?_)
      · refine aw_iconst (v := 0) dX4_joined_108 (by decide) ?_
        refine aw_ireturn (ty := .int) dX4_joined_109 rfl rfl ?_
        exact hQ _ (by simp (decide := true) only [joV, q1, c101, not_true_eq_false, not_false_eq_true, and_true, true_and, and_false, false_and, or_true, true_or, or_false, false_or, ite_true, ite_false, if_true, if_false, reduceIte, and_self, or_self])
      · refine aw_iconst (v := 1) dX4_joined_104 (by decide) ?_
        refine aw_goto (tgt := 109) dX4_joined_105 (by decide) ?_
        refine aw_ireturn (ty := .int) dX4_joined_109 rfl rfl ?_
        exact hQ _ (by simp (decide := true) only [joV, q1, c101, not_true_eq_false, not_false_eq_true, and_true, true_and, and_false, false_and, or_true, true_or, or_false, false_or, ite_true, ite_false, if_true, if_false, reduceIte, and_self, or_self])
def Stk (f : Nat → Int32) : List Int32 → Prop
  | [] => True
  | x :: st => f st.length = x ∧ Stk f st
theorem stk_upd {I : Mi} {st : List Int32} {k : Nat} {x : Int32} (hk : st.length ≤ k) (h : Stk (I 3) st) : Stk ((iU I 3 k x) 3) st := by
  induction st with
  | nil => trivial
  | cons y st ih =>
    simp only [List.length_cons] at hk
    refine ⟨?_, ih (by omega) h.2⟩
    rw [iU_at (by omega)]
    exact h.1
theorem stk_push {I : Mi} {st : List Int32} {x : Int32} (h : Stk (I 3) st) : Stk ((iU I 3 st.length x) 3) (x :: st) := ⟨iU_same, stk_upd (Nat.le_refl _) h⟩
/-- what the steps tell; st: the stack, its top first -/
def wF (stp nm : Nat → Int32) : Nat → Nat → List Int32 → Int32
  | 0, _, st => match st with
    | [x] => x
    | _ => 0
  | n + 1, j, st =>
    if usr (stp j) 16 = 2 then (if 160 ≤ st.length then 0 else wF stp nm n (j + 1) ((stp j &&& 65535) :: st))
    else if usr (stp j) 16 = 3 then (if 160 ≤ st.length then 0 else if (stp j &&& 65535) < 6 then wF stp nm n (j + 1) (nm (stp j &&& 65535).toNatClampNeg :: st) else 0)
    else if usr (stp j) 16 = 9 then (match st with
      | [] => 0
      | x :: st => wF stp nm n (j + 1) ((if x = 0 then 1 else 0) :: st))
    else if usr (stp j) 16 = 18 then (match st with
      | [] => 0
      | x :: st => wF stp nm n (j + 1) (-x :: st))
    else match st with
      | b :: a :: st => wF stp nm n (j + 1) (joV (usr (stp j) 16) a b :: st)
      | _ => 0
def TxZ (Z : Mz) (t q m : Nat) : Prop := ObjZ Z t 4 ∧ zP Z t 0 = some q ∧ ArrI Z q m
/-- rows other than the stack's stay -/
def Sam3 (I I' : Mi) : Prop := ∀ a, a ≠ 3 → I' a = I a
theorem Sam3.up {I I' : Mi} (h : Sam3 I I') (k : Nat) (x : Int32) : Sam3 I (iU I' 3 k x) := by
  intro a ha
  rw [← h a ha]
  funext j
  exact iU_at (fun z => ha z.1)
theorem l_X4_worth {E : Ev} {d : Nat} {I0 : Mi} {L : Ml} {Z : Mz} {Q : Po} {t q mm nm e : Nat} {p fr : Int32} (hT : TxZ Z t q mm) (hN : ArrI Z nm 6) (hS : ArrI Z 3 160) (hd : 1 ≤ d) (hm : mm ≤ 160) (he : e ≤ mm) (hq3 : q ≠ 3) (hn3 : nm ≠ 3) : ∀ (n : Nat) (j : Nat) (st : List Int32) (I : Mi) (o8 o9 : Option Value), j + n = e → Sam3 I0 I → Stk (I 3) st → st.length ≤ 160 → (∀ (rv : Int32) (I9 : Mi), Sam3 I0 I9 → rv = wF (I0 q) (I0 nm) n j st → Q (some (.int rv)) I9 L Z) → AW E yX4_worth cX4_worth 10 (some .int) (rmOf d 0 0) Q 0 0 63 [some (.ref t), some (.int p), some (.ref nm), some (.ref 3), some (.int fr), some (.int (nI e)), some (.int (nI st.length)), some (.int (nI j)), o8, o9] [] I L Z := by
  intro n
  induction n with
  | zero =>
    intro j st I o8 o9 hj hI hK hlen hQ
    cases st with
    | nil =>
      refine aw_iload dX4_worth_63 rfl ?_
      refine aw_iload dX4_worth_65 rfl ?_
      refine aw_icmp_ge (tgt := 263) dX4_worth_67 (by decide) (fun c67 => ?_) (fun zz => absurd (by rw [show j = e by omega]; exact Int32.le_refl _) zz)
      refine aw_iload dX4_worth_263 rfl ?_
      refine aw_iconst (v := 1) dX4_worth_265 (by decide) ?_
      refine aw_icmp_ne (tgt := 275) dX4_worth_266 (by decide) (fun c266 => ?_) (fun zz => absurd zz (by simp; decide))
      refine aw_iconst (v := 0) dX4_worth_275 (by decide) ?_
      refine aw_ireturn (ty := .int) dX4_worth_276 rfl rfl ?_
      exact hQ _ _ hI rfl
    | cons x st =>
      cases st with
      | nil =>
        refine aw_iload dX4_worth_63 rfl ?_
        refine aw_iload dX4_worth_65 rfl ?_
        refine aw_icmp_ge (tgt := 263) dX4_worth_67 (by decide) (fun c67 => ?_) (fun zz => absurd (by rw [show j = e by omega]; exact Int32.le_refl _) zz)
        refine aw_iload dX4_worth_263 rfl ?_
        refine aw_iconst (v := 1) dX4_worth_265 (by decide) ?_
        refine aw_icmp_ne (tgt := 275) dX4_worth_266 (by decide) (fun zz => absurd rfl zz) (fun c266 => ?_)
        refine aw_aload_n dX4_worth_269 rfl rfl ?_
        refine aw_iconst (v := 0) dX4_worth_270 (by decide) ?_
        refine aw_ia 0 dX4_worth_271 hS rfl (by decide) (by decide) ?_
        refine aw_goto (tgt := 276) dX4_worth_272 (by decide) ?_
        refine aw_ireturn (ty := .int) dX4_worth_276 rfl rfl ?_
        exact hQ _ _ hI hK.1
      | cons y st =>
        refine aw_iload dX4_worth_63 rfl ?_
        refine aw_iload dX4_worth_65 rfl ?_
        refine aw_icmp_ge (tgt := 263) dX4_worth_67 (by decide) (fun c67 => ?_) (fun zz => absurd (by rw [show j = e by omega]; exact Int32.le_refl _) zz)
        refine aw_iload dX4_worth_263 rfl ?_
        refine aw_iconst (v := 1) dX4_worth_265 (by decide) ?_
        refine aw_icmp_ne (tgt := 275) dX4_worth_266 (by decide) (fun c266 => ?_) (fun zz => absurd zz (fun w => absurd ((nI_eq (b := 1) (by simp only [List.length_cons] at hlen ⊢; omega) (by decide)).mp w) (by simp only [List.length_cons]; omega)))
        refine aw_iconst (v := 0) dX4_worth_275 (by decide) ?_
        refine aw_ireturn (ty := .int) dX4_worth_276 rfl rfl ?_
        exact hQ _ _ hI rfl
  | succ n ih =>
    intro j st I o8 o9 hj hI hK hlen hQ
    have hq : I q = I0 q := hI q hq3
    have hnm : I nm = I0 nm := hI nm hn3
    obtain ⟨vk, hvk, ev⟩ := pk_andE (I q j) (m := 65535) 16 (by decide)
    by_cases k2 : usr (I q j) 16 = 2
    · by_cases hf : 160 ≤ st.length
      · refine aw_iload dX4_worth_63 rfl ?_
        refine aw_iload dX4_worth_65 rfl ?_
        refine aw_icmp_ge (tgt := 263) dX4_worth_67 (by decide) (fun zz => absurd zz (nI_ge (by omega) (by omega))) (fun c67 => ?_)
        refine aw_iload dX4_worth_70 rfl ?_
        refine aw_aload_n dX4_worth_72 rfl rfl ?_
        refine aw_gr dX4_worth_73 fw_X4_9 hT.1 hT.2.1 ?_
        refine aw_al dX4_worth_76 hT.2.2 ?_
        refine aw_icmp_ge (tgt := 263) dX4_worth_77 (by decide) (fun zz => absurd zz (nI_ge (by omega) (by omega))) (fun c77 => ?_)
        refine aw_aload_n dX4_worth_80 rfl rfl ?_
        refine aw_gr dX4_worth_81 fw_X4_9 hT.1 hT.2.1 ?_
        refine aw_iload dX4_worth_84 rfl ?_
        refine aw_ia j dX4_worth_86 hT.2.2 rfl (by omega) (by omega) ?_
        refine aw_bipush (v := 16) dX4_worth_87 (by decide) ?_
        refine aw_iushr dX4_worth_89 ?_
        refine aw_istore (ls' := [_, _, _, _, _, _, _, _, _, _]) dX4_worth_90 (by decide) rfl rfl ?_
        refine aw_aload_n dX4_worth_92 rfl rfl ?_
        refine aw_gr dX4_worth_93 fw_X4_9 hT.1 hT.2.1 ?_
        refine aw_iload dX4_worth_96 rfl ?_
        refine aw_ia j dX4_worth_98 hT.2.2 rfl (by omega) (by omega) ?_
        refine aw_ldc dX4_worth_99 kw_X4_22 ?_
        refine aw_iand dX4_worth_101 ?_
        refine aw_istore (ls' := [_, _, _, _, _, _, _, _, _, _]) dX4_worth_102 (by decide) rfl rfl ?_
        refine aw_iload dX4_worth_104 rfl ?_
        refine aw_iconst (v := 2) dX4_worth_106 (by decide) ?_
        refine aw_icmp_eq (tgt := 116) dX4_worth_107 (by decide) (fun c107 => ?_) (fun zz => absurd k2 zz)
        refine aw_iload dX4_worth_116 rfl ?_
        refine aw_aload_n dX4_worth_118 rfl rfl ?_
        refine aw_al dX4_worth_119 hS ?_
        refine aw_icmp_ge (tgt := 136) dX4_worth_120 (by decide) (fun c120 => ?_) (fun zz => absurd (by rw [show st.length = 160 by omega]; exact Int32.le_refl _) zz)
        refine aw_iconst (v := 0) dX4_worth_136 (by decide) ?_
        refine aw_ireturn (ty := .int) dX4_worth_137 rfl rfl ?_
        refine hQ _ _ hI ?_
        rw [← hq, ← hnm]
        simp (decide := true) only [wF, k2, hf, not_true_eq_false, not_false_eq_true, and_true, true_and, and_false, false_and, or_true, true_or, or_false, false_or, ite_true, ite_false, if_true, if_false, reduceIte, and_self, or_self]
      · refine aw_iload dX4_worth_63 rfl ?_
        refine aw_iload dX4_worth_65 rfl ?_
        refine aw_icmp_ge (tgt := 263) dX4_worth_67 (by decide) (fun zz => absurd zz (nI_ge (by omega) (by omega))) (fun c67 => ?_)
        refine aw_iload dX4_worth_70 rfl ?_
        refine aw_aload_n dX4_worth_72 rfl rfl ?_
        refine aw_gr dX4_worth_73 fw_X4_9 hT.1 hT.2.1 ?_
        refine aw_al dX4_worth_76 hT.2.2 ?_
        refine aw_icmp_ge (tgt := 263) dX4_worth_77 (by decide) (fun zz => absurd zz (nI_ge (by omega) (by omega))) (fun c77 => ?_)
        refine aw_aload_n dX4_worth_80 rfl rfl ?_
        refine aw_gr dX4_worth_81 fw_X4_9 hT.1 hT.2.1 ?_
        refine aw_iload dX4_worth_84 rfl ?_
        refine aw_ia j dX4_worth_86 hT.2.2 rfl (by omega) (by omega) ?_
        refine aw_bipush (v := 16) dX4_worth_87 (by decide) ?_
        refine aw_iushr dX4_worth_89 ?_
        refine aw_istore (ls' := [_, _, _, _, _, _, _, _, _, _]) dX4_worth_90 (by decide) rfl rfl ?_
        refine aw_aload_n dX4_worth_92 rfl rfl ?_
        refine aw_gr dX4_worth_93 fw_X4_9 hT.1 hT.2.1 ?_
        refine aw_iload dX4_worth_96 rfl ?_
        refine aw_ia j dX4_worth_98 hT.2.2 rfl (by omega) (by omega) ?_
        refine aw_ldc dX4_worth_99 kw_X4_22 ?_
        refine aw_iand dX4_worth_101 ?_
        refine aw_istore (ls' := [_, _, _, _, _, _, _, _, _, _]) dX4_worth_102 (by decide) rfl rfl ?_
        refine aw_iload dX4_worth_104 rfl ?_
        refine aw_iconst (v := 2) dX4_worth_106 (by decide) ?_
        refine aw_icmp_eq (tgt := 116) dX4_worth_107 (by decide) (fun c107 => ?_) (fun zz => absurd k2 zz)
        refine aw_iload dX4_worth_116 rfl ?_
        refine aw_aload_n dX4_worth_118 rfl rfl ?_
        refine aw_al dX4_worth_119 hS ?_
        refine aw_icmp_ge (tgt := 136) dX4_worth_120 (by decide) (fun zz => absurd zz (nI_ge (by omega) (by decide))) (fun c120 => ?_)
        refine aw_iload dX4_worth_123 rfl ?_
        refine aw_iconst (v := 3) dX4_worth_125 (by decide) ?_
        refine aw_icmp_ne (tgt := 138) dX4_worth_126 (by decide) (fun c126 => ?_) (fun zz => absurd zz (fun w => absurd (k2.symm.trans w) (by decide)))
        refine aw_aload_n dX4_worth_138 rfl rfl ?_
        refine aw_iload dX4_worth_139 rfl ?_
        refine aw_iload dX4_worth_141 rfl ?_
        refine aw_iconst (v := 2) dX4_worth_143 (by decide) ?_
        refine aw_icmp_ne (tgt := 152) dX4_worth_144 (by decide) (fun zz => absurd k2 zz) (fun c144 => ?_)
        refine aw_iload dX4_worth_147 rfl ?_
        refine aw_goto (tgt := 156) dX4_worth_149 (by decide) ?_
        refine aw_is st.length dX4_worth_156 hS rfl (by omega) (by decide) ?_
        refine aw_iinc (v := nI (st.length + 1)) (ls' := [_, _, _, _, _, _, _, _, _, _]) dX4_worth_157 rfl (nI_1 _) (by decide) rfl rfl ?_
        refine aw_goto (tgt := 257) dX4_worth_160 (by decide) ?_
        refine aw_iinc (v := nI (j + 1)) (ls' := [_, _, _, _, _, _, _, _, _, _]) dX4_worth_257 rfl (nI_1 j) (by decide) rfl rfl ?_
        refine aw_goto (tgt := 63) dX4_worth_260 (by decide) ?_
        rw [← hq, ← hnm] at hQ
        refine ih (j + 1) (_ :: st) _ _ _ (by omega) (hI.up _ _) (stk_push hK) (by simp only [List.length_cons]; omega) (fun rv I9 h9 e0 => hQ rv I9 h9 ?_)
        rw [e0, ← hq, ← hnm]
        simp (decide := true) only [wF, k2, hf, not_true_eq_false, not_false_eq_true, and_true, true_and, and_false, false_and, or_true, true_or, or_false, false_or, ite_true, ite_false, if_true, if_false, reduceIte, and_self, or_self]
    · by_cases k3 : usr (I q j) 16 = 3
      · by_cases hf : 160 ≤ st.length
        · refine aw_iload dX4_worth_63 rfl ?_
          refine aw_iload dX4_worth_65 rfl ?_
          refine aw_icmp_ge (tgt := 263) dX4_worth_67 (by decide) (fun zz => absurd zz (nI_ge (by omega) (by omega))) (fun c67 => ?_)
          refine aw_iload dX4_worth_70 rfl ?_
          refine aw_aload_n dX4_worth_72 rfl rfl ?_
          refine aw_gr dX4_worth_73 fw_X4_9 hT.1 hT.2.1 ?_
          refine aw_al dX4_worth_76 hT.2.2 ?_
          refine aw_icmp_ge (tgt := 263) dX4_worth_77 (by decide) (fun zz => absurd zz (nI_ge (by omega) (by omega))) (fun c77 => ?_)
          refine aw_aload_n dX4_worth_80 rfl rfl ?_
          refine aw_gr dX4_worth_81 fw_X4_9 hT.1 hT.2.1 ?_
          refine aw_iload dX4_worth_84 rfl ?_
          refine aw_ia j dX4_worth_86 hT.2.2 rfl (by omega) (by omega) ?_
          refine aw_bipush (v := 16) dX4_worth_87 (by decide) ?_
          refine aw_iushr dX4_worth_89 ?_
          refine aw_istore (ls' := [_, _, _, _, _, _, _, _, _, _]) dX4_worth_90 (by decide) rfl rfl ?_
          refine aw_aload_n dX4_worth_92 rfl rfl ?_
          refine aw_gr dX4_worth_93 fw_X4_9 hT.1 hT.2.1 ?_
          refine aw_iload dX4_worth_96 rfl ?_
          refine aw_ia j dX4_worth_98 hT.2.2 rfl (by omega) (by omega) ?_
          refine aw_ldc dX4_worth_99 kw_X4_22 ?_
          refine aw_iand dX4_worth_101 ?_
          refine aw_istore (ls' := [_, _, _, _, _, _, _, _, _, _]) dX4_worth_102 (by decide) rfl rfl ?_
          refine aw_iload dX4_worth_104 rfl ?_
          refine aw_iconst (v := 2) dX4_worth_106 (by decide) ?_
          refine aw_icmp_eq (tgt := 116) dX4_worth_107 (by decide) (fun zz => absurd zz k2) (fun c107 => ?_)
          refine aw_iload dX4_worth_110 rfl ?_
          refine aw_iconst (v := 3) dX4_worth_112 (by decide) ?_
          refine aw_icmp_ne (tgt := 163) dX4_worth_113 (by decide) (fun zz => absurd k3 zz) (fun c113 => ?_)
          refine aw_iload dX4_worth_116 rfl ?_
          refine aw_aload_n dX4_worth_118 rfl rfl ?_
          refine aw_al dX4_worth_119 hS ?_
          refine aw_icmp_ge (tgt := 136) dX4_worth_120 (by decide) (fun c120 => ?_) (fun zz => absurd (by rw [show st.length = 160 by omega]; exact Int32.le_refl _) zz)
          refine aw_iconst (v := 0) dX4_worth_136 (by decide) ?_
          refine aw_ireturn (ty := .int) dX4_worth_137 rfl rfl ?_
          refine hQ _ _ hI ?_
          rw [← hq, ← hnm]
          simp (decide := true) only [wF, k2, k3, hf, not_true_eq_false, not_false_eq_true, and_true, true_and, and_false, false_and, or_true, true_or, or_false, false_or, ite_true, ite_false, if_true, if_false, reduceIte, and_self, or_self]
        · by_cases hv : (I q j &&& 65535) < 6
          · refine aw_iload dX4_worth_63 rfl ?_
            refine aw_iload dX4_worth_65 rfl ?_
            refine aw_icmp_ge (tgt := 263) dX4_worth_67 (by decide) (fun zz => absurd zz (nI_ge (by omega) (by omega))) (fun c67 => ?_)
            refine aw_iload dX4_worth_70 rfl ?_
            refine aw_aload_n dX4_worth_72 rfl rfl ?_
            refine aw_gr dX4_worth_73 fw_X4_9 hT.1 hT.2.1 ?_
            refine aw_al dX4_worth_76 hT.2.2 ?_
            refine aw_icmp_ge (tgt := 263) dX4_worth_77 (by decide) (fun zz => absurd zz (nI_ge (by omega) (by omega))) (fun c77 => ?_)
            refine aw_aload_n dX4_worth_80 rfl rfl ?_
            refine aw_gr dX4_worth_81 fw_X4_9 hT.1 hT.2.1 ?_
            refine aw_iload dX4_worth_84 rfl ?_
            refine aw_ia j dX4_worth_86 hT.2.2 rfl (by omega) (by omega) ?_
            refine aw_bipush (v := 16) dX4_worth_87 (by decide) ?_
            refine aw_iushr dX4_worth_89 ?_
            refine aw_istore (ls' := [_, _, _, _, _, _, _, _, _, _]) dX4_worth_90 (by decide) rfl rfl ?_
            refine aw_aload_n dX4_worth_92 rfl rfl ?_
            refine aw_gr dX4_worth_93 fw_X4_9 hT.1 hT.2.1 ?_
            refine aw_iload dX4_worth_96 rfl ?_
            refine aw_ia j dX4_worth_98 hT.2.2 rfl (by omega) (by omega) ?_
            refine aw_ldc dX4_worth_99 kw_X4_22 ?_
            refine aw_iand dX4_worth_101 ?_
            refine aw_istore (ls' := [_, _, _, _, _, _, _, _, _, _]) dX4_worth_102 (by decide) rfl rfl ?_
            refine aw_iload dX4_worth_104 rfl ?_
            refine aw_iconst (v := 2) dX4_worth_106 (by decide) ?_
            refine aw_icmp_eq (tgt := 116) dX4_worth_107 (by decide) (fun zz => absurd zz k2) (fun c107 => ?_)
            refine aw_iload dX4_worth_110 rfl ?_
            refine aw_iconst (v := 3) dX4_worth_112 (by decide) ?_
            refine aw_icmp_ne (tgt := 163) dX4_worth_113 (by decide) (fun zz => absurd k3 zz) (fun c113 => ?_)
            refine aw_iload dX4_worth_116 rfl ?_
            refine aw_aload_n dX4_worth_118 rfl rfl ?_
            refine aw_al dX4_worth_119 hS ?_
            refine aw_icmp_ge (tgt := 136) dX4_worth_120 (by decide) (fun zz => absurd zz (nI_ge (by omega) (by decide))) (fun c120 => ?_)
            refine aw_iload dX4_worth_123 rfl ?_
            refine aw_iconst (v := 3) dX4_worth_125 (by decide) ?_
            refine aw_icmp_ne (tgt := 138) dX4_worth_126 (by decide) (fun zz => absurd k3 zz) (fun c126 => ?_)
            refine aw_iload dX4_worth_129 rfl ?_
            refine aw_aload_n dX4_worth_131 rfl rfl ?_
            refine aw_al dX4_worth_132 hN ?_
            refine aw_icmp_lt (tgt := 138) dX4_worth_133 (by decide) (fun c133 => ?_) (fun zz => absurd hv zz)
            refine aw_aload_n dX4_worth_138 rfl rfl ?_
            refine aw_iload dX4_worth_139 rfl ?_
            refine aw_iload dX4_worth_141 rfl ?_
            refine aw_iconst (v := 2) dX4_worth_143 (by decide) ?_
            refine aw_icmp_ne (tgt := 152) dX4_worth_144 (by decide) (fun c144 => ?_) (fun zz => absurd zz k2)
            refine aw_aload_n dX4_worth_152 rfl rfl ?_
            refine aw_iload dX4_worth_153 rfl ?_
            refine aw_ia vk dX4_worth_155 hN ev (by rw [ev] at hv; exact (nI_ltI (b := 6) (by omega) (by decide)).mp hv) (by decide) ?_
            refine aw_is st.length dX4_worth_156 hS rfl (by omega) (by decide) ?_
            refine aw_iinc (v := nI (st.length + 1)) (ls' := [_, _, _, _, _, _, _, _, _, _]) dX4_worth_157 rfl (nI_1 _) (by decide) rfl rfl ?_
            refine aw_goto (tgt := 257) dX4_worth_160 (by decide) ?_
            refine aw_iinc (v := nI (j + 1)) (ls' := [_, _, _, _, _, _, _, _, _, _]) dX4_worth_257 rfl (nI_1 j) (by decide) rfl rfl ?_
            refine aw_goto (tgt := 63) dX4_worth_260 (by decide) ?_
            rw [← hq, ← hnm] at hQ
            refine ih (j + 1) (_ :: st) _ _ _ (by omega) (hI.up _ _) (by rw [show I nm vk = I nm (I q j &&& 65535).toNatClampNeg by rw [ev, nI_clamp (by omega)]]; exact stk_push hK) (by simp only [List.length_cons]; omega) (fun rv I9 h9 e0 => hQ rv I9 h9 ?_)
            rw [e0, ← hq, ← hnm]
            simp (decide := true) only [wF, k2, k3, hf, hv, not_true_eq_false, not_false_eq_true, and_true, true_and, and_false, false_and, or_true, true_or, or_false, false_or, ite_true, ite_false, if_true, if_false, reduceIte, and_self, or_self]
          · refine aw_iload dX4_worth_63 rfl ?_
            refine aw_iload dX4_worth_65 rfl ?_
            refine aw_icmp_ge (tgt := 263) dX4_worth_67 (by decide) (fun zz => absurd zz (nI_ge (by omega) (by omega))) (fun c67 => ?_)
            refine aw_iload dX4_worth_70 rfl ?_
            refine aw_aload_n dX4_worth_72 rfl rfl ?_
            refine aw_gr dX4_worth_73 fw_X4_9 hT.1 hT.2.1 ?_
            refine aw_al dX4_worth_76 hT.2.2 ?_
            refine aw_icmp_ge (tgt := 263) dX4_worth_77 (by decide) (fun zz => absurd zz (nI_ge (by omega) (by omega))) (fun c77 => ?_)
            refine aw_aload_n dX4_worth_80 rfl rfl ?_
            refine aw_gr dX4_worth_81 fw_X4_9 hT.1 hT.2.1 ?_
            refine aw_iload dX4_worth_84 rfl ?_
            refine aw_ia j dX4_worth_86 hT.2.2 rfl (by omega) (by omega) ?_
            refine aw_bipush (v := 16) dX4_worth_87 (by decide) ?_
            refine aw_iushr dX4_worth_89 ?_
            refine aw_istore (ls' := [_, _, _, _, _, _, _, _, _, _]) dX4_worth_90 (by decide) rfl rfl ?_
            refine aw_aload_n dX4_worth_92 rfl rfl ?_
            refine aw_gr dX4_worth_93 fw_X4_9 hT.1 hT.2.1 ?_
            refine aw_iload dX4_worth_96 rfl ?_
            refine aw_ia j dX4_worth_98 hT.2.2 rfl (by omega) (by omega) ?_
            refine aw_ldc dX4_worth_99 kw_X4_22 ?_
            refine aw_iand dX4_worth_101 ?_
            refine aw_istore (ls' := [_, _, _, _, _, _, _, _, _, _]) dX4_worth_102 (by decide) rfl rfl ?_
            refine aw_iload dX4_worth_104 rfl ?_
            refine aw_iconst (v := 2) dX4_worth_106 (by decide) ?_
            refine aw_icmp_eq (tgt := 116) dX4_worth_107 (by decide) (fun zz => absurd zz k2) (fun c107 => ?_)
            refine aw_iload dX4_worth_110 rfl ?_
            refine aw_iconst (v := 3) dX4_worth_112 (by decide) ?_
            refine aw_icmp_ne (tgt := 163) dX4_worth_113 (by decide) (fun zz => absurd k3 zz) (fun c113 => ?_)
            refine aw_iload dX4_worth_116 rfl ?_
            refine aw_aload_n dX4_worth_118 rfl rfl ?_
            refine aw_al dX4_worth_119 hS ?_
            refine aw_icmp_ge (tgt := 136) dX4_worth_120 (by decide) (fun zz => absurd zz (nI_ge (by omega) (by decide))) (fun c120 => ?_)
            refine aw_iload dX4_worth_123 rfl ?_
            refine aw_iconst (v := 3) dX4_worth_125 (by decide) ?_
            refine aw_icmp_ne (tgt := 138) dX4_worth_126 (by decide) (fun zz => absurd k3 zz) (fun c126 => ?_)
            refine aw_iload dX4_worth_129 rfl ?_
            refine aw_aload_n dX4_worth_131 rfl rfl ?_
            refine aw_al dX4_worth_132 hN ?_
            refine aw_icmp_lt (tgt := 138) dX4_worth_133 (by decide) (fun zz => absurd zz hv) (fun c133 => ?_)
            refine aw_iconst (v := 0) dX4_worth_136 (by decide) ?_
            refine aw_ireturn (ty := .int) dX4_worth_137 rfl rfl ?_
            refine hQ _ _ hI ?_
            rw [← hq, ← hnm]
            simp (decide := true) only [wF, k2, k3, hf, hv, not_true_eq_false, not_false_eq_true, and_true, true_and, and_false, false_and, or_true, true_or, or_false, false_or, ite_true, ite_false, if_true, if_false, reduceIte, and_self, or_self]
      · by_cases k9 : usr (I q j) 16 = 9
        · cases st with
          | nil =>
            refine aw_iload dX4_worth_63 rfl ?_
            refine aw_iload dX4_worth_65 rfl ?_
            refine aw_icmp_ge (tgt := 263) dX4_worth_67 (by decide) (fun zz => absurd zz (nI_ge (by omega) (by omega))) (fun c67 => ?_)
            refine aw_iload dX4_worth_70 rfl ?_
            refine aw_aload_n dX4_worth_72 rfl rfl ?_
            refine aw_gr dX4_worth_73 fw_X4_9 hT.1 hT.2.1 ?_
            refine aw_al dX4_worth_76 hT.2.2 ?_
            refine aw_icmp_ge (tgt := 263) dX4_worth_77 (by decide) (fun zz => absurd zz (nI_ge (by omega) (by omega))) (fun c77 => ?_)
            refine aw_aload_n dX4_worth_80 rfl rfl ?_
            refine aw_gr dX4_worth_81 fw_X4_9 hT.1 hT.2.1 ?_
            refine aw_iload dX4_worth_84 rfl ?_
            refine aw_ia j dX4_worth_86 hT.2.2 rfl (by omega) (by omega) ?_
            refine aw_bipush (v := 16) dX4_worth_87 (by decide) ?_
            refine aw_iushr dX4_worth_89 ?_
            refine aw_istore (ls' := [_, _, _, _, _, _, _, _, _, _]) dX4_worth_90 (by decide) rfl rfl ?_
            refine aw_aload_n dX4_worth_92 rfl rfl ?_
            refine aw_gr dX4_worth_93 fw_X4_9 hT.1 hT.2.1 ?_
            refine aw_iload dX4_worth_96 rfl ?_
            refine aw_ia j dX4_worth_98 hT.2.2 rfl (by omega) (by omega) ?_
            refine aw_ldc dX4_worth_99 kw_X4_22 ?_
            refine aw_iand dX4_worth_101 ?_
            refine aw_istore (ls' := [_, _, _, _, _, _, _, _, _, _]) dX4_worth_102 (by decide) rfl rfl ?_
            refine aw_iload dX4_worth_104 rfl ?_
            refine aw_iconst (v := 2) dX4_worth_106 (by decide) ?_
            refine aw_icmp_eq (tgt := 116) dX4_worth_107 (by decide) (fun zz => absurd zz k2) (fun c107 => ?_)
            refine aw_iload dX4_worth_110 rfl ?_
            refine aw_iconst (v := 3) dX4_worth_112 (by decide) ?_
            refine aw_icmp_ne (tgt := 163) dX4_worth_113 (by decide) (fun c113 => ?_) (fun zz => absurd zz k3)
            refine aw_iload dX4_worth_163 rfl ?_
            refine aw_bipush (v := 9) dX4_worth_165 (by decide) ?_
            refine aw_icmp_eq (tgt := 177) dX4_worth_167 (by decide) (fun c167 => ?_) (fun zz => absurd k9 zz)
            refine aw_iload dX4_worth_177 rfl ?_
            refine aw_iconst (v := 1) dX4_worth_179 (by decide) ?_
            refine aw_icmp_ge (tgt := 185) dX4_worth_180 (by decide) (fun zz => absurd zz (by decide)) (fun c180 => ?_)
            refine aw_iconst (v := 0) dX4_worth_183 (by decide) ?_
            refine aw_ireturn (ty := .int) dX4_worth_184 rfl rfl ?_
            refine hQ _ _ hI ?_
            rw [← hq, ← hnm]
            simp (decide := true) only [wF, k2, k3, k9, not_true_eq_false, not_false_eq_true, and_true, true_and, and_false, false_and, or_true, true_or, or_false, false_or, ite_true, ite_false, if_true, if_false, reduceIte, and_self, or_self]
          | cons x st =>
            have hx : I 3 st.length = x := hK.1
            by_cases x0 : x = 0
            · refine aw_iload dX4_worth_63 rfl ?_
              refine aw_iload dX4_worth_65 rfl ?_
              refine aw_icmp_ge (tgt := 263) dX4_worth_67 (by decide) (fun zz => absurd zz (nI_ge (by omega) (by omega))) (fun c67 => ?_)
              refine aw_iload dX4_worth_70 rfl ?_
              refine aw_aload_n dX4_worth_72 rfl rfl ?_
              refine aw_gr dX4_worth_73 fw_X4_9 hT.1 hT.2.1 ?_
              refine aw_al dX4_worth_76 hT.2.2 ?_
              refine aw_icmp_ge (tgt := 263) dX4_worth_77 (by decide) (fun zz => absurd zz (nI_ge (by omega) (by omega))) (fun c77 => ?_)
              refine aw_aload_n dX4_worth_80 rfl rfl ?_
              refine aw_gr dX4_worth_81 fw_X4_9 hT.1 hT.2.1 ?_
              refine aw_iload dX4_worth_84 rfl ?_
              refine aw_ia j dX4_worth_86 hT.2.2 rfl (by omega) (by omega) ?_
              refine aw_bipush (v := 16) dX4_worth_87 (by decide) ?_
              refine aw_iushr dX4_worth_89 ?_
              refine aw_istore (ls' := [_, _, _, _, _, _, _, _, _, _]) dX4_worth_90 (by decide) rfl rfl ?_
              refine aw_aload_n dX4_worth_92 rfl rfl ?_
              refine aw_gr dX4_worth_93 fw_X4_9 hT.1 hT.2.1 ?_
              refine aw_iload dX4_worth_96 rfl ?_
              refine aw_ia j dX4_worth_98 hT.2.2 rfl (by omega) (by omega) ?_
              refine aw_ldc dX4_worth_99 kw_X4_22 ?_
              refine aw_iand dX4_worth_101 ?_
              refine aw_istore (ls' := [_, _, _, _, _, _, _, _, _, _]) dX4_worth_102 (by decide) rfl rfl ?_
              refine aw_iload dX4_worth_104 rfl ?_
              refine aw_iconst (v := 2) dX4_worth_106 (by decide) ?_
              refine aw_icmp_eq (tgt := 116) dX4_worth_107 (by decide) (fun zz => absurd zz k2) (fun c107 => ?_)
              refine aw_iload dX4_worth_110 rfl ?_
              refine aw_iconst (v := 3) dX4_worth_112 (by decide) ?_
              refine aw_icmp_ne (tgt := 163) dX4_worth_113 (by decide) (fun c113 => ?_) (fun zz => absurd zz k3)
              refine aw_iload dX4_worth_163 rfl ?_
              refine aw_bipush (v := 9) dX4_worth_165 (by decide) ?_
              refine aw_icmp_eq (tgt := 177) dX4_worth_167 (by decide) (fun c167 => ?_) (fun zz => absurd k9 zz)
              refine aw_iload dX4_worth_177 rfl ?_
              refine aw_iconst (v := 1) dX4_worth_179 (by decide) ?_
              refine aw_icmp_ge (tgt := 185) dX4_worth_180 (by decide) (fun c180 => ?_) (fun zz => absurd (nI_le (a := 1) (by simp only [List.length_cons]; omega) (by simp only [List.length_cons] at hlen ⊢; omega)) zz)
              refine aw_aload_n dX4_worth_185 rfl rfl ?_
              refine aw_iload dX4_worth_186 rfl ?_
              refine aw_iconst (v := 1) dX4_worth_188 (by decide) ?_
              refine aw_isub dX4_worth_189 ?_
              refine aw_iload dX4_worth_190 rfl ?_
              refine aw_bipush (v := 18) dX4_worth_192 (by decide) ?_
              refine aw_icmp_ne (tgt := 207) dX4_worth_194 (by decide) (fun c194 => ?_) (fun zz => absurd zz (fun w => absurd (k9.symm.trans w) (by decide)))
              refine aw_aload_n dX4_worth_207 rfl rfl ?_
              refine aw_iload dX4_worth_208 rfl ?_
              refine aw_iconst (v := 1) dX4_worth_210 (by decide) ?_
              refine aw_isub dX4_worth_211 ?_
              refine aw_ia st.length dX4_worth_212 hS (nI_pred _) (by simp only [List.length_cons] at hlen; omega) (by decide) ?_
              refine aw_if_ne (tgt := 220) dX4_worth_213 (by decide) (fun zz => absurd (by rw [hx]; exact x0) zz) (fun c213 => ?_)
              refine aw_iconst (v := 1) dX4_worth_216 (by decide) ?_
              refine aw_goto (tgt := 221) dX4_worth_217 (by decide) ?_
              refine aw_is st.length dX4_worth_221 hS (nI_pred _) (by simp only [List.length_cons] at hlen; omega) (by decide) ?_
              refine aw_goto (tgt := 257) dX4_worth_222 (by decide) ?_
              refine aw_iinc (v := nI (j + 1)) (ls' := [_, _, _, _, _, _, _, _, _, _]) dX4_worth_257 rfl (nI_1 j) (by decide) rfl rfl ?_
              refine aw_goto (tgt := 63) dX4_worth_260 (by decide) ?_
              rw [← hq, ← hnm] at hQ
              refine ih (j + 1) (1 :: st) _ _ _ (by omega) (hI.up _ _) (stk_push hK.2) hlen (fun rv I9 h9 e0 => hQ rv I9 h9 ?_)
              rw [e0, ← hq, ← hnm]
              simp (decide := true) only [wF, k2, k3, k9, x0, not_true_eq_false, not_false_eq_true, and_true, true_and, and_false, false_and, or_true, true_or, or_false, false_or, ite_true, ite_false, if_true, if_false, reduceIte, and_self, or_self]
            · refine aw_iload dX4_worth_63 rfl ?_
              refine aw_iload dX4_worth_65 rfl ?_
              refine aw_icmp_ge (tgt := 263) dX4_worth_67 (by decide) (fun zz => absurd zz (nI_ge (by omega) (by omega))) (fun c67 => ?_)
              refine aw_iload dX4_worth_70 rfl ?_
              refine aw_aload_n dX4_worth_72 rfl rfl ?_
              refine aw_gr dX4_worth_73 fw_X4_9 hT.1 hT.2.1 ?_
              refine aw_al dX4_worth_76 hT.2.2 ?_
              refine aw_icmp_ge (tgt := 263) dX4_worth_77 (by decide) (fun zz => absurd zz (nI_ge (by omega) (by omega))) (fun c77 => ?_)
              refine aw_aload_n dX4_worth_80 rfl rfl ?_
              refine aw_gr dX4_worth_81 fw_X4_9 hT.1 hT.2.1 ?_
              refine aw_iload dX4_worth_84 rfl ?_
              refine aw_ia j dX4_worth_86 hT.2.2 rfl (by omega) (by omega) ?_
              refine aw_bipush (v := 16) dX4_worth_87 (by decide) ?_
              refine aw_iushr dX4_worth_89 ?_
              refine aw_istore (ls' := [_, _, _, _, _, _, _, _, _, _]) dX4_worth_90 (by decide) rfl rfl ?_
              refine aw_aload_n dX4_worth_92 rfl rfl ?_
              refine aw_gr dX4_worth_93 fw_X4_9 hT.1 hT.2.1 ?_
              refine aw_iload dX4_worth_96 rfl ?_
              refine aw_ia j dX4_worth_98 hT.2.2 rfl (by omega) (by omega) ?_
              refine aw_ldc dX4_worth_99 kw_X4_22 ?_
              refine aw_iand dX4_worth_101 ?_
              refine aw_istore (ls' := [_, _, _, _, _, _, _, _, _, _]) dX4_worth_102 (by decide) rfl rfl ?_
              refine aw_iload dX4_worth_104 rfl ?_
              refine aw_iconst (v := 2) dX4_worth_106 (by decide) ?_
              refine aw_icmp_eq (tgt := 116) dX4_worth_107 (by decide) (fun zz => absurd zz k2) (fun c107 => ?_)
              refine aw_iload dX4_worth_110 rfl ?_
              refine aw_iconst (v := 3) dX4_worth_112 (by decide) ?_
              refine aw_icmp_ne (tgt := 163) dX4_worth_113 (by decide) (fun c113 => ?_) (fun zz => absurd zz k3)
              refine aw_iload dX4_worth_163 rfl ?_
              refine aw_bipush (v := 9) dX4_worth_165 (by decide) ?_
              refine aw_icmp_eq (tgt := 177) dX4_worth_167 (by decide) (fun c167 => ?_) (fun zz => absurd k9 zz)
              refine aw_iload dX4_worth_177 rfl ?_
              refine aw_iconst (v := 1) dX4_worth_179 (by decide) ?_
              refine aw_icmp_ge (tgt := 185) dX4_worth_180 (by decide) (fun c180 => ?_) (fun zz => absurd (nI_le (a := 1) (by simp only [List.length_cons]; omega) (by simp only [List.length_cons] at hlen ⊢; omega)) zz)
              refine aw_aload_n dX4_worth_185 rfl rfl ?_
              refine aw_iload dX4_worth_186 rfl ?_
              refine aw_iconst (v := 1) dX4_worth_188 (by decide) ?_
              refine aw_isub dX4_worth_189 ?_
              refine aw_iload dX4_worth_190 rfl ?_
              refine aw_bipush (v := 18) dX4_worth_192 (by decide) ?_
              refine aw_icmp_ne (tgt := 207) dX4_worth_194 (by decide) (fun c194 => ?_) (fun zz => absurd zz (fun w => absurd (k9.symm.trans w) (by decide)))
              refine aw_aload_n dX4_worth_207 rfl rfl ?_
              refine aw_iload dX4_worth_208 rfl ?_
              refine aw_iconst (v := 1) dX4_worth_210 (by decide) ?_
              refine aw_isub dX4_worth_211 ?_
              refine aw_ia st.length dX4_worth_212 hS (nI_pred _) (by simp only [List.length_cons] at hlen; omega) (by decide) ?_
              refine aw_if_ne (tgt := 220) dX4_worth_213 (by decide) (fun c213 => ?_) (fun zz => absurd zz (by rw [hx]; exact x0))
              refine aw_iconst (v := 0) dX4_worth_220 (by decide) ?_
              refine aw_is st.length dX4_worth_221 hS (nI_pred _) (by simp only [List.length_cons] at hlen; omega) (by decide) ?_
              refine aw_goto (tgt := 257) dX4_worth_222 (by decide) ?_
              refine aw_iinc (v := nI (j + 1)) (ls' := [_, _, _, _, _, _, _, _, _, _]) dX4_worth_257 rfl (nI_1 j) (by decide) rfl rfl ?_
              refine aw_goto (tgt := 63) dX4_worth_260 (by decide) ?_
              rw [← hq, ← hnm] at hQ
              refine ih (j + 1) (0 :: st) _ _ _ (by omega) (hI.up _ _) (stk_push hK.2) hlen (fun rv I9 h9 e0 => hQ rv I9 h9 ?_)
              rw [e0, ← hq, ← hnm]
              simp (decide := true) only [wF, k2, k3, k9, x0, not_true_eq_false, not_false_eq_true, and_true, true_and, and_false, false_and, or_true, true_or, or_false, false_or, ite_true, ite_false, if_true, if_false, reduceIte, and_self, or_self]
        · by_cases k18 : usr (I q j) 16 = 18
          · cases st with
            | nil =>
              refine aw_iload dX4_worth_63 rfl ?_
              refine aw_iload dX4_worth_65 rfl ?_
              refine aw_icmp_ge (tgt := 263) dX4_worth_67 (by decide) (fun zz => absurd zz (nI_ge (by omega) (by omega))) (fun c67 => ?_)
              refine aw_iload dX4_worth_70 rfl ?_
              refine aw_aload_n dX4_worth_72 rfl rfl ?_
              refine aw_gr dX4_worth_73 fw_X4_9 hT.1 hT.2.1 ?_
              refine aw_al dX4_worth_76 hT.2.2 ?_
              refine aw_icmp_ge (tgt := 263) dX4_worth_77 (by decide) (fun zz => absurd zz (nI_ge (by omega) (by omega))) (fun c77 => ?_)
              refine aw_aload_n dX4_worth_80 rfl rfl ?_
              refine aw_gr dX4_worth_81 fw_X4_9 hT.1 hT.2.1 ?_
              refine aw_iload dX4_worth_84 rfl ?_
              refine aw_ia j dX4_worth_86 hT.2.2 rfl (by omega) (by omega) ?_
              refine aw_bipush (v := 16) dX4_worth_87 (by decide) ?_
              refine aw_iushr dX4_worth_89 ?_
              refine aw_istore (ls' := [_, _, _, _, _, _, _, _, _, _]) dX4_worth_90 (by decide) rfl rfl ?_
              refine aw_aload_n dX4_worth_92 rfl rfl ?_
              refine aw_gr dX4_worth_93 fw_X4_9 hT.1 hT.2.1 ?_
              refine aw_iload dX4_worth_96 rfl ?_
              refine aw_ia j dX4_worth_98 hT.2.2 rfl (by omega) (by omega) ?_
              refine aw_ldc dX4_worth_99 kw_X4_22 ?_
              refine aw_iand dX4_worth_101 ?_
              refine aw_istore (ls' := [_, _, _, _, _, _, _, _, _, _]) dX4_worth_102 (by decide) rfl rfl ?_
              refine aw_iload dX4_worth_104 rfl ?_
              refine aw_iconst (v := 2) dX4_worth_106 (by decide) ?_
              refine aw_icmp_eq (tgt := 116) dX4_worth_107 (by decide) (fun zz => absurd zz k2) (fun c107 => ?_)
              refine aw_iload dX4_worth_110 rfl ?_
              refine aw_iconst (v := 3) dX4_worth_112 (by decide) ?_
              refine aw_icmp_ne (tgt := 163) dX4_worth_113 (by decide) (fun c113 => ?_) (fun zz => absurd zz k3)
              refine aw_iload dX4_worth_163 rfl ?_
              refine aw_bipush (v := 9) dX4_worth_165 (by decide) ?_
              refine aw_icmp_eq (tgt := 177) dX4_worth_167 (by decide) (fun zz => absurd zz k9) (fun c167 => ?_)
              refine aw_iload dX4_worth_170 rfl ?_
              refine aw_bipush (v := 18) dX4_worth_172 (by decide) ?_
              refine aw_icmp_ne (tgt := 225) dX4_worth_174 (by decide) (fun zz => absurd k18 zz) (fun c174 => ?_)
              refine aw_iload dX4_worth_177 rfl ?_
              refine aw_iconst (v := 1) dX4_worth_179 (by decide) ?_
              refine aw_icmp_ge (tgt := 185) dX4_worth_180 (by decide) (fun zz => absurd zz (by decide)) (fun c180 => ?_)
              refine aw_iconst (v := 0) dX4_worth_183 (by decide) ?_
              refine aw_ireturn (ty := .int) dX4_worth_184 rfl rfl ?_
              refine hQ _ _ hI ?_
              rw [← hq, ← hnm]
              simp (decide := true) only [wF, k2, k3, k9, k18, not_true_eq_false, not_false_eq_true, and_true, true_and, and_false, false_and, or_true, true_or, or_false, false_or, ite_true, ite_false, if_true, if_false, reduceIte, and_self, or_self]
            | cons x st =>
              have hx : I 3 st.length = x := hK.1
              refine aw_iload dX4_worth_63 rfl ?_
              refine aw_iload dX4_worth_65 rfl ?_
              refine aw_icmp_ge (tgt := 263) dX4_worth_67 (by decide) (fun zz => absurd zz (nI_ge (by omega) (by omega))) (fun c67 => ?_)
              refine aw_iload dX4_worth_70 rfl ?_
              refine aw_aload_n dX4_worth_72 rfl rfl ?_
              refine aw_gr dX4_worth_73 fw_X4_9 hT.1 hT.2.1 ?_
              refine aw_al dX4_worth_76 hT.2.2 ?_
              refine aw_icmp_ge (tgt := 263) dX4_worth_77 (by decide) (fun zz => absurd zz (nI_ge (by omega) (by omega))) (fun c77 => ?_)
              refine aw_aload_n dX4_worth_80 rfl rfl ?_
              refine aw_gr dX4_worth_81 fw_X4_9 hT.1 hT.2.1 ?_
              refine aw_iload dX4_worth_84 rfl ?_
              refine aw_ia j dX4_worth_86 hT.2.2 rfl (by omega) (by omega) ?_
              refine aw_bipush (v := 16) dX4_worth_87 (by decide) ?_
              refine aw_iushr dX4_worth_89 ?_
              refine aw_istore (ls' := [_, _, _, _, _, _, _, _, _, _]) dX4_worth_90 (by decide) rfl rfl ?_
              refine aw_aload_n dX4_worth_92 rfl rfl ?_
              refine aw_gr dX4_worth_93 fw_X4_9 hT.1 hT.2.1 ?_
              refine aw_iload dX4_worth_96 rfl ?_
              refine aw_ia j dX4_worth_98 hT.2.2 rfl (by omega) (by omega) ?_
              refine aw_ldc dX4_worth_99 kw_X4_22 ?_
              refine aw_iand dX4_worth_101 ?_
              refine aw_istore (ls' := [_, _, _, _, _, _, _, _, _, _]) dX4_worth_102 (by decide) rfl rfl ?_
              refine aw_iload dX4_worth_104 rfl ?_
              refine aw_iconst (v := 2) dX4_worth_106 (by decide) ?_
              refine aw_icmp_eq (tgt := 116) dX4_worth_107 (by decide) (fun zz => absurd zz k2) (fun c107 => ?_)
              refine aw_iload dX4_worth_110 rfl ?_
              refine aw_iconst (v := 3) dX4_worth_112 (by decide) ?_
              refine aw_icmp_ne (tgt := 163) dX4_worth_113 (by decide) (fun c113 => ?_) (fun zz => absurd zz k3)
              refine aw_iload dX4_worth_163 rfl ?_
              refine aw_bipush (v := 9) dX4_worth_165 (by decide) ?_
              refine aw_icmp_eq (tgt := 177) dX4_worth_167 (by decide) (fun zz => absurd zz k9) (fun c167 => ?_)
              refine aw_iload dX4_worth_170 rfl ?_
              refine aw_bipush (v := 18) dX4_worth_172 (by decide) ?_
              refine aw_icmp_ne (tgt := 225) dX4_worth_174 (by decide) (fun zz => absurd k18 zz) (fun c174 => ?_)
              refine aw_iload dX4_worth_177 rfl ?_
              refine aw_iconst (v := 1) dX4_worth_179 (by decide) ?_
              refine aw_icmp_ge (tgt := 185) dX4_worth_180 (by decide) (fun c180 => ?_) (fun zz => absurd (nI_le (a := 1) (by simp only [List.length_cons]; omega) (by simp only [List.length_cons] at hlen ⊢; omega)) zz)
              refine aw_aload_n dX4_worth_185 rfl rfl ?_
              refine aw_iload dX4_worth_186 rfl ?_
              refine aw_iconst (v := 1) dX4_worth_188 (by decide) ?_
              refine aw_isub dX4_worth_189 ?_
              refine aw_iload dX4_worth_190 rfl ?_
              refine aw_bipush (v := 18) dX4_worth_192 (by decide) ?_
              refine aw_icmp_ne (tgt := 207) dX4_worth_194 (by decide) (fun zz => absurd k18 zz) (fun c194 => ?_)
              refine aw_aload_n dX4_worth_197 rfl rfl ?_
              refine aw_iload dX4_worth_198 rfl ?_
              refine aw_iconst (v := 1) dX4_worth_200 (by decide) ?_
              refine aw_isub dX4_worth_201 ?_
              refine aw_ia st.length dX4_worth_202 hS (nI_pred _) (by simp only [List.length_cons] at hlen; omega) (by decide) ?_
              refine aw_ineg dX4_worth_203 ?_
              refine aw_goto (tgt := 221) dX4_worth_204 (by decide) ?_
              refine aw_is st.length dX4_worth_221 hS (nI_pred _) (by simp only [List.length_cons] at hlen; omega) (by decide) ?_
              refine aw_goto (tgt := 257) dX4_worth_222 (by decide) ?_
              refine aw_iinc (v := nI (j + 1)) (ls' := [_, _, _, _, _, _, _, _, _, _]) dX4_worth_257 rfl (nI_1 j) (by decide) rfl rfl ?_
              refine aw_goto (tgt := 63) dX4_worth_260 (by decide) ?_
              rw [← hq, ← hnm] at hQ
              refine ih (j + 1) (-x :: st) _ _ _ (by omega) (hI.up _ _) (by rw [hx]; exact stk_push hK.2) hlen (fun rv I9 h9 e0 => hQ rv I9 h9 ?_)
              rw [e0, ← hq, ← hnm]
              simp (decide := true) only [wF, k2, k3, k9, k18, not_true_eq_false, not_false_eq_true, and_true, true_and, and_false, false_and, or_true, true_or, or_false, false_or, ite_true, ite_false, if_true, if_false, reduceIte, and_self, or_self]
          · cases st with
            | nil =>
              refine aw_iload dX4_worth_63 rfl ?_
              refine aw_iload dX4_worth_65 rfl ?_
              refine aw_icmp_ge (tgt := 263) dX4_worth_67 (by decide) (fun zz => absurd zz (nI_ge (by omega) (by omega))) (fun c67 => ?_)
              refine aw_iload dX4_worth_70 rfl ?_
              refine aw_aload_n dX4_worth_72 rfl rfl ?_
              refine aw_gr dX4_worth_73 fw_X4_9 hT.1 hT.2.1 ?_
              refine aw_al dX4_worth_76 hT.2.2 ?_
              refine aw_icmp_ge (tgt := 263) dX4_worth_77 (by decide) (fun zz => absurd zz (nI_ge (by omega) (by omega))) (fun c77 => ?_)
              refine aw_aload_n dX4_worth_80 rfl rfl ?_
              refine aw_gr dX4_worth_81 fw_X4_9 hT.1 hT.2.1 ?_
              refine aw_iload dX4_worth_84 rfl ?_
              refine aw_ia j dX4_worth_86 hT.2.2 rfl (by omega) (by omega) ?_
              refine aw_bipush (v := 16) dX4_worth_87 (by decide) ?_
              refine aw_iushr dX4_worth_89 ?_
              refine aw_istore (ls' := [_, _, _, _, _, _, _, _, _, _]) dX4_worth_90 (by decide) rfl rfl ?_
              refine aw_aload_n dX4_worth_92 rfl rfl ?_
              refine aw_gr dX4_worth_93 fw_X4_9 hT.1 hT.2.1 ?_
              refine aw_iload dX4_worth_96 rfl ?_
              refine aw_ia j dX4_worth_98 hT.2.2 rfl (by omega) (by omega) ?_
              refine aw_ldc dX4_worth_99 kw_X4_22 ?_
              refine aw_iand dX4_worth_101 ?_
              refine aw_istore (ls' := [_, _, _, _, _, _, _, _, _, _]) dX4_worth_102 (by decide) rfl rfl ?_
              refine aw_iload dX4_worth_104 rfl ?_
              refine aw_iconst (v := 2) dX4_worth_106 (by decide) ?_
              refine aw_icmp_eq (tgt := 116) dX4_worth_107 (by decide) (fun zz => absurd zz k2) (fun c107 => ?_)
              refine aw_iload dX4_worth_110 rfl ?_
              refine aw_iconst (v := 3) dX4_worth_112 (by decide) ?_
              refine aw_icmp_ne (tgt := 163) dX4_worth_113 (by decide) (fun c113 => ?_) (fun zz => absurd zz k3)
              refine aw_iload dX4_worth_163 rfl ?_
              refine aw_bipush (v := 9) dX4_worth_165 (by decide) ?_
              refine aw_icmp_eq (tgt := 177) dX4_worth_167 (by decide) (fun zz => absurd zz k9) (fun c167 => ?_)
              refine aw_iload dX4_worth_170 rfl ?_
              refine aw_bipush (v := 18) dX4_worth_172 (by decide) ?_
              refine aw_icmp_ne (tgt := 225) dX4_worth_174 (by decide) (fun c174 => ?_) (fun zz => absurd zz k18)
              refine aw_iload dX4_worth_225 rfl ?_
              refine aw_iconst (v := 2) dX4_worth_227 (by decide) ?_
              refine aw_icmp_ge (tgt := 233) dX4_worth_228 (by decide) (fun zz => absurd zz (by decide)) (fun c228 => ?_)
              refine aw_iconst (v := 0) dX4_worth_231 (by decide) ?_
              refine aw_ireturn (ty := .int) dX4_worth_232 rfl rfl ?_
              refine hQ _ _ hI ?_
              rw [← hq, ← hnm]
              simp (decide := true) only [wF, k2, k3, k9, k18, not_true_eq_false, not_false_eq_true, and_true, true_and, and_false, false_and, or_true, true_or, or_false, false_or, ite_true, ite_false, if_true, if_false, reduceIte, and_self, or_self]
            | cons b st =>
              cases st with
              | nil =>
                refine aw_iload dX4_worth_63 rfl ?_
                refine aw_iload dX4_worth_65 rfl ?_
                refine aw_icmp_ge (tgt := 263) dX4_worth_67 (by decide) (fun zz => absurd zz (nI_ge (by omega) (by omega))) (fun c67 => ?_)
                refine aw_iload dX4_worth_70 rfl ?_
                refine aw_aload_n dX4_worth_72 rfl rfl ?_
                refine aw_gr dX4_worth_73 fw_X4_9 hT.1 hT.2.1 ?_
                refine aw_al dX4_worth_76 hT.2.2 ?_
                refine aw_icmp_ge (tgt := 263) dX4_worth_77 (by decide) (fun zz => absurd zz (nI_ge (by omega) (by omega))) (fun c77 => ?_)
                refine aw_aload_n dX4_worth_80 rfl rfl ?_
                refine aw_gr dX4_worth_81 fw_X4_9 hT.1 hT.2.1 ?_
                refine aw_iload dX4_worth_84 rfl ?_
                refine aw_ia j dX4_worth_86 hT.2.2 rfl (by omega) (by omega) ?_
                refine aw_bipush (v := 16) dX4_worth_87 (by decide) ?_
                refine aw_iushr dX4_worth_89 ?_
                refine aw_istore (ls' := [_, _, _, _, _, _, _, _, _, _]) dX4_worth_90 (by decide) rfl rfl ?_
                refine aw_aload_n dX4_worth_92 rfl rfl ?_
                refine aw_gr dX4_worth_93 fw_X4_9 hT.1 hT.2.1 ?_
                refine aw_iload dX4_worth_96 rfl ?_
                refine aw_ia j dX4_worth_98 hT.2.2 rfl (by omega) (by omega) ?_
                refine aw_ldc dX4_worth_99 kw_X4_22 ?_
                refine aw_iand dX4_worth_101 ?_
                refine aw_istore (ls' := [_, _, _, _, _, _, _, _, _, _]) dX4_worth_102 (by decide) rfl rfl ?_
                refine aw_iload dX4_worth_104 rfl ?_
                refine aw_iconst (v := 2) dX4_worth_106 (by decide) ?_
                refine aw_icmp_eq (tgt := 116) dX4_worth_107 (by decide) (fun zz => absurd zz k2) (fun c107 => ?_)
                refine aw_iload dX4_worth_110 rfl ?_
                refine aw_iconst (v := 3) dX4_worth_112 (by decide) ?_
                refine aw_icmp_ne (tgt := 163) dX4_worth_113 (by decide) (fun c113 => ?_) (fun zz => absurd zz k3)
                refine aw_iload dX4_worth_163 rfl ?_
                refine aw_bipush (v := 9) dX4_worth_165 (by decide) ?_
                refine aw_icmp_eq (tgt := 177) dX4_worth_167 (by decide) (fun zz => absurd zz k9) (fun c167 => ?_)
                refine aw_iload dX4_worth_170 rfl ?_
                refine aw_bipush (v := 18) dX4_worth_172 (by decide) ?_
                refine aw_icmp_ne (tgt := 225) dX4_worth_174 (by decide) (fun c174 => ?_) (fun zz => absurd zz k18)
                refine aw_iload dX4_worth_225 rfl ?_
                refine aw_iconst (v := 2) dX4_worth_227 (by decide) ?_
                refine aw_icmp_ge (tgt := 233) dX4_worth_228 (by decide) (fun zz => absurd zz (by simp only [List.length_cons, List.length_nil]; decide)) (fun c228 => ?_)
                refine aw_iconst (v := 0) dX4_worth_231 (by decide) ?_
                refine aw_ireturn (ty := .int) dX4_worth_232 rfl rfl ?_
                refine hQ _ _ hI ?_
                rw [← hq, ← hnm]
                simp (decide := true) only [wF, k2, k3, k9, k18, not_true_eq_false, not_false_eq_true, and_true, true_and, and_false, false_and, or_true, true_or, or_false, false_or, ite_true, ite_false, if_true, if_false, reduceIte, and_self, or_self]
              | cons a st =>
                have hb : I 3 (st.length + 1) = b := hK.1
                have ha : I 3 st.length = a := hK.2.1
                refine aw_iload dX4_worth_63 rfl ?_
                refine aw_iload dX4_worth_65 rfl ?_
                refine aw_icmp_ge (tgt := 263) dX4_worth_67 (by decide) (fun zz => absurd zz (nI_ge (by omega) (by omega))) (fun c67 => ?_)
                refine aw_iload dX4_worth_70 rfl ?_
                refine aw_aload_n dX4_worth_72 rfl rfl ?_
                refine aw_gr dX4_worth_73 fw_X4_9 hT.1 hT.2.1 ?_
                refine aw_al dX4_worth_76 hT.2.2 ?_
                refine aw_icmp_ge (tgt := 263) dX4_worth_77 (by decide) (fun zz => absurd zz (nI_ge (by omega) (by omega))) (fun c77 => ?_)
                refine aw_aload_n dX4_worth_80 rfl rfl ?_
                refine aw_gr dX4_worth_81 fw_X4_9 hT.1 hT.2.1 ?_
                refine aw_iload dX4_worth_84 rfl ?_
                refine aw_ia j dX4_worth_86 hT.2.2 rfl (by omega) (by omega) ?_
                refine aw_bipush (v := 16) dX4_worth_87 (by decide) ?_
                refine aw_iushr dX4_worth_89 ?_
                refine aw_istore (ls' := [_, _, _, _, _, _, _, _, _, _]) dX4_worth_90 (by decide) rfl rfl ?_
                refine aw_aload_n dX4_worth_92 rfl rfl ?_
                refine aw_gr dX4_worth_93 fw_X4_9 hT.1 hT.2.1 ?_
                refine aw_iload dX4_worth_96 rfl ?_
                refine aw_ia j dX4_worth_98 hT.2.2 rfl (by omega) (by omega) ?_
                refine aw_ldc dX4_worth_99 kw_X4_22 ?_
                refine aw_iand dX4_worth_101 ?_
                refine aw_istore (ls' := [_, _, _, _, _, _, _, _, _, _]) dX4_worth_102 (by decide) rfl rfl ?_
                refine aw_iload dX4_worth_104 rfl ?_
                refine aw_iconst (v := 2) dX4_worth_106 (by decide) ?_
                refine aw_icmp_eq (tgt := 116) dX4_worth_107 (by decide) (fun zz => absurd zz k2) (fun c107 => ?_)
                refine aw_iload dX4_worth_110 rfl ?_
                refine aw_iconst (v := 3) dX4_worth_112 (by decide) ?_
                refine aw_icmp_ne (tgt := 163) dX4_worth_113 (by decide) (fun c113 => ?_) (fun zz => absurd zz k3)
                refine aw_iload dX4_worth_163 rfl ?_
                refine aw_bipush (v := 9) dX4_worth_165 (by decide) ?_
                refine aw_icmp_eq (tgt := 177) dX4_worth_167 (by decide) (fun zz => absurd zz k9) (fun c167 => ?_)
                refine aw_iload dX4_worth_170 rfl ?_
                refine aw_bipush (v := 18) dX4_worth_172 (by decide) ?_
                refine aw_icmp_ne (tgt := 225) dX4_worth_174 (by decide) (fun c174 => ?_) (fun zz => absurd zz k18)
                refine aw_iload dX4_worth_225 rfl ?_
                refine aw_iconst (v := 2) dX4_worth_227 (by decide) ?_
                refine aw_icmp_ge (tgt := 233) dX4_worth_228 (by decide) (fun c228 => ?_) (fun zz => absurd (nI_le (a := 2) (by simp only [List.length_cons]; omega) (by simp only [List.length_cons] at hlen ⊢; omega)) zz)
                refine aw_iinc (v := nI (st.length + 1)) (ls' := [_, _, _, _, _, _, _, _, _, _]) dX4_worth_233 rfl (pk_m1 _) (by decide) rfl rfl ?_
                refine aw_aload_n dX4_worth_236 rfl rfl ?_
                refine aw_iload dX4_worth_237 rfl ?_
                refine aw_iconst (v := 1) dX4_worth_239 (by decide) ?_
                refine aw_isub dX4_worth_240 ?_
                refine aw_iload dX4_worth_241 rfl ?_
                refine aw_aload_n dX4_worth_243 rfl rfl ?_
                refine aw_iload dX4_worth_244 rfl ?_
                refine aw_iconst (v := 1) dX4_worth_246 (by decide) ?_
                refine aw_isub dX4_worth_247 ?_
                refine aw_ia st.length dX4_worth_248 hS (nI_pred _) (by simp only [List.length_cons] at hlen; omega) (by decide) ?_
                refine aw_aload_n dX4_worth_249 rfl rfl ?_
                refine aw_iload dX4_worth_250 rfl ?_
                refine aw_ia (st.length + 1) dX4_worth_252 hS rfl (by simp only [List.length_cons] at hlen; omega) (by decide) ?_
                refine aw_S3 dX4_worth_253 cw_X4_25 (by omega) ⟨Nat.le_refl _, Nat.le_refl _⟩ (by simp [Value.category, psh]) (c_X4_joined (fun r253 e253 => ?_))
                refine aw_is st.length dX4_worth_256 hS (nI_pred _) (by simp only [List.length_cons] at hlen; omega) (by decide) ?_
                refine aw_iinc (v := nI (j + 1)) (ls' := [_, _, _, _, _, _, _, _, _, _]) dX4_worth_257 rfl (nI_1 j) (by decide) rfl rfl ?_
                refine aw_goto (tgt := 63) dX4_worth_260 (by decide) ?_
                rw [← hq, ← hnm] at hQ
                refine ih (j + 1) (joV (usr (I q j) 16) a b :: st) _ _ _ (by omega) (hI.up _ _) (by rw [e253, ha, hb]; exact stk_push hK.2.2) (by simp only [List.length_cons] at hlen ⊢; omega) (fun rv I9 h9 e0 => hQ rv I9 h9 ?_)
                rw [e0, ← hq, ← hnm]
                simp (decide := true) only [wF, k2, k3, k9, k18, not_true_eq_false, not_false_eq_true, and_true, true_and, and_false, false_and, or_true, true_or, or_false, false_or, ite_true, ite_false, if_true, if_false, reduceIte, and_self, or_self]
