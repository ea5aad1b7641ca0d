/-! ===== texts: tokens ===== -/
theorem mt_inj {B : Nat → Int32} : ∀ (w1 w2 : List Int32) (p : Nat), mtB B p w1 = true → mtB B p w2 = true → w1.length = w2.length → w1 = w2 := by
  intro w1
  induction w1 with
  | nil => intro w2 p _ _ h; cases w2 with
    | nil => rfl
    | cons => simp at h
  | cons x xs ih =>
    intro w2 p h1 h2 h
    cases w2 with
    | nil => simp at h
    | cons y ys =>
      simp only [mtB, Bool.and_eq_true, beq_iff_eq] at h1 h2
      rw [ih ys (p + 1) h1.2 h2.2 (by simpa using h), ← h1.1, ← h2.1]
theorem wd_inj {B : Nat → Int32} {p e : Nat} {w1 w2 : List Int32} (h1 : wdB B p e w1 = true) (h2 : wdB B p e w2 = true) : w1 = w2 := by
  simp only [wdB, Bool.and_eq_true, beq_iff_eq] at h1 h2
  exact mt_inj w1 w2 p h1.2 h2.2 (by omega)
theorem wd_ex {B : Nat → Int32} {p e : Nat} {w1 w2 : List Int32} (h1 : wdB B p e w1 = true) (h : ¬ w1 = w2) : ¬ wdB B p e w2 = true := fun w => h (wd_inj h1 w)
theorem ite_p {P : Nat → Prop} {c : Prop} [Decidable c] {a b : Nat} (ha : P a) (hb : P b) : P (if c then a else b) := by
  by_cases h : c
  · rw [if_pos h]; exact ha
  · rw [if_neg h]; exact hb
theorem wc_rng (B : Nat → Int32) (p e : Nat) : wcF B p e = 1 ∨ (4 ≤ wcF B p e ∧ wcF B p e ≤ 9) ∨ (32 ≤ wcF B p e ∧ wcF B p e ≤ 37) := by
  unfold wcF
  exact ite_p (P := fun x => x = 1 ∨ (4 ≤ x ∧ x ≤ 9) ∨ (32 ≤ x ∧ x ≤ 37)) (by decide) (ite_p (P := fun x => x = 1 ∨ (4 ≤ x ∧ x ≤ 9) ∨ (32 ≤ x ∧ x ≤ 37)) (by decide) (ite_p (P := fun x => x = 1 ∨ (4 ≤ x ∧ x ≤ 9) ∨ (32 ≤ x ∧ x ≤ 37)) (by decide) (ite_p (P := fun x => x = 1 ∨ (4 ≤ x ∧ x ≤ 9) ∨ (32 ≤ x ∧ x ≤ 37)) (by decide) (ite_p (P := fun x => x = 1 ∨ (4 ≤ x ∧ x ≤ 9) ∨ (32 ≤ x ∧ x ≤ 37)) (by decide) (ite_p (P := fun x => x = 1 ∨ (4 ≤ x ∧ x ≤ 9) ∨ (32 ≤ x ∧ x ≤ 37)) (by decide) (ite_p (P := fun x => x = 1 ∨ (4 ≤ x ∧ x ≤ 9) ∨ (32 ≤ x ∧ x ≤ 37)) (by decide) (ite_p (P := fun x => x = 1 ∨ (4 ≤ x ∧ x ≤ 9) ∨ (32 ≤ x ∧ x ≤ 37)) (by decide) (ite_p (P := fun x => x = 1 ∨ (4 ≤ x ∧ x ≤ 9) ∨ (32 ≤ x ∧ x ≤ 37)) (by decide) (ite_p (P := fun x => x = 1 ∨ (4 ≤ x ∧ x ≤ 9) ∨ (32 ≤ x ∧ x ≤ 37)) (by decide) (ite_p (P := fun x => x = 1 ∨ (4 ≤ x ∧ x ≤ 9) ∨ (32 ≤ x ∧ x ≤ 37)) (by decide) (ite_p (P := fun x => x = 1 ∨ (4 ≤ x ∧ x ≤ 9) ∨ (32 ≤ x ∧ x ≤ 37)) (by decide) (by decide))))))))))))
theorem wc_turns (B : Nat → Int32) (p e : Nat) : wcF B p e = 4 ↔ wdB B p e [116, 117, 114, 110, 115] = true := by
  constructor
  · intro h
    refine Decidable.byContradiction fun g => ?_
    revert h
    simp only [wcF, g, Bool.false_eq_true, if_false]
    exact ite_p (P := fun x => ¬ x = 4) (by decide) (ite_p (P := fun x => ¬ x = 4) (by decide) (ite_p (P := fun x => ¬ x = 4) (by decide) (ite_p (P := fun x => ¬ x = 4) (by decide) (ite_p (P := fun x => ¬ x = 4) (by decide) (ite_p (P := fun x => ¬ x = 4) (by decide) (ite_p (P := fun x => ¬ x = 4) (by decide) (ite_p (P := fun x => ¬ x = 4) (by decide) (ite_p (P := fun x => ¬ x = 4) (by decide) (ite_p (P := fun x => ¬ x = 4) (by decide) (ite_p (P := fun x => ¬ x = 4) (by decide) (by decide)))))))))))
  · intro h
    simp only [wcF, h, Bool.false_eq_true, if_true, if_false]
theorem wc_misses (B : Nat → Int32) (p e : Nat) : wcF B p e = 5 ↔ wdB B p e [109, 105, 115, 115, 101, 115] = true := by
  constructor
  · intro h
    refine Decidable.byContradiction fun g => ?_
    revert h
    simp only [wcF, g, Bool.false_eq_true, if_false]
    exact ite_p (P := fun x => ¬ x = 5) (by decide) (ite_p (P := fun x => ¬ x = 5) (by decide) (ite_p (P := fun x => ¬ x = 5) (by decide) (ite_p (P := fun x => ¬ x = 5) (by decide) (ite_p (P := fun x => ¬ x = 5) (by decide) (ite_p (P := fun x => ¬ x = 5) (by decide) (ite_p (P := fun x => ¬ x = 5) (by decide) (ite_p (P := fun x => ¬ x = 5) (by decide) (ite_p (P := fun x => ¬ x = 5) (by decide) (ite_p (P := fun x => ¬ x = 5) (by decide) (ite_p (P := fun x => ¬ x = 5) (by decide) (by decide)))))))))))
  · intro h
    simp only [wcF, h, wd_ex (w2 := [116, 117, 114, 110, 115]) h (by decide), Bool.false_eq_true, if_true, if_false]
theorem wc_bounds (B : Nat → Int32) (p e : Nat) : wcF B p e = 6 ↔ wdB B p e [98, 111, 117, 110, 100, 115] = true := by
  constructor
  · intro h
    refine Decidable.byContradiction fun g => ?_
    revert h
    simp only [wcF, g, Bool.false_eq_true, if_false]
    exact ite_p (P := fun x => ¬ x = 6) (by decide) (ite_p (P := fun x => ¬ x = 6) (by decide) (ite_p (P := fun x => ¬ x = 6) (by decide) (ite_p (P := fun x => ¬ x = 6) (by decide) (ite_p (P := fun x => ¬ x = 6) (by decide) (ite_p (P := fun x => ¬ x = 6) (by decide) (ite_p (P := fun x => ¬ x = 6) (by decide) (ite_p (P := fun x => ¬ x = 6) (by decide) (ite_p (P := fun x => ¬ x = 6) (by decide) (ite_p (P := fun x => ¬ x = 6) (by decide) (ite_p (P := fun x => ¬ x = 6) (by decide) (by decide)))))))))))
  · intro h
    simp only [wcF, h, wd_ex (w2 := [116, 117, 114, 110, 115]) h (by decide), wd_ex (w2 := [109, 105, 115, 115, 101, 115]) h (by decide), Bool.false_eq_true, if_true, if_false]
theorem wc_or (B : Nat → Int32) (p e : Nat) : wcF B p e = 7 ↔ wdB B p e [111, 114] = true := by
  constructor
  · intro h
    refine Decidable.byContradiction fun g => ?_
    revert h
    simp only [wcF, g, Bool.false_eq_true, if_false]
    exact ite_p (P := fun x => ¬ x = 7) (by decide) (ite_p (P := fun x => ¬ x = 7) (by decide) (ite_p (P := fun x => ¬ x = 7) (by decide) (ite_p (P := fun x => ¬ x = 7) (by decide) (ite_p (P := fun x => ¬ x = 7) (by decide) (ite_p (P := fun x => ¬ x = 7) (by decide) (ite_p (P := fun x => ¬ x = 7) (by decide) (ite_p (P := fun x => ¬ x = 7) (by decide) (ite_p (P := fun x => ¬ x = 7) (by decide) (ite_p (P := fun x => ¬ x = 7) (by decide) (ite_p (P := fun x => ¬ x = 7) (by decide) (by decide)))))))))))
  · intro h
    simp only [wcF, h, wd_ex (w2 := [116, 117, 114, 110, 115]) h (by decide), wd_ex (w2 := [109, 105, 115, 115, 101, 115]) h (by decide), wd_ex (w2 := [98, 111, 117, 110, 100, 115]) h (by decide), Bool.false_eq_true, if_true, if_false]
theorem wc_and (B : Nat → Int32) (p e : Nat) : wcF B p e = 8 ↔ wdB B p e [97, 110, 100] = true := by
  constructor
  · intro h
    refine Decidable.byContradiction fun g => ?_
    revert h
    simp only [wcF, g, Bool.false_eq_true, if_false]
    exact ite_p (P := fun x => ¬ x = 8) (by decide) (ite_p (P := fun x => ¬ x = 8) (by decide) (ite_p (P := fun x => ¬ x = 8) (by decide) (ite_p (P := fun x => ¬ x = 8) (by decide) (ite_p (P := fun x => ¬ x = 8) (by decide) (ite_p (P := fun x => ¬ x = 8) (by decide) (ite_p (P := fun x => ¬ x = 8) (by decide) (ite_p (P := fun x => ¬ x = 8) (by decide) (ite_p (P := fun x => ¬ x = 8) (by decide) (ite_p (P := fun x => ¬ x = 8) (by decide) (ite_p (P := fun x => ¬ x = 8) (by decide) (by decide)))))))))))
  · intro h
    simp only [wcF, h, wd_ex (w2 := [116, 117, 114, 110, 115]) h (by decide), wd_ex (w2 := [109, 105, 115, 115, 101, 115]) h (by decide), wd_ex (w2 := [98, 111, 117, 110, 100, 115]) h (by decide), wd_ex (w2 := [111, 114]) h (by decide), Bool.false_eq_true, if_true, if_false]
theorem wc_not (B : Nat → Int32) (p e : Nat) : wcF B p e = 9 ↔ wdB B p e [110, 111, 116] = true := by
  constructor
  · intro h
    refine Decidable.byContradiction fun g => ?_
    revert h
    simp only [wcF, g, Bool.false_eq_true, if_false]
    exact ite_p (P := fun x => ¬ x = 9) (by decide) (ite_p (P := fun x => ¬ x = 9) (by decide) (ite_p (P := fun x => ¬ x = 9) (by decide) (ite_p (P := fun x => ¬ x = 9) (by decide) (ite_p (P := fun x => ¬ x = 9) (by decide) (ite_p (P := fun x => ¬ x = 9) (by decide) (ite_p (P := fun x => ¬ x = 9) (by decide) (ite_p (P := fun x => ¬ x = 9) (by decide) (ite_p (P := fun x => ¬ x = 9) (by decide) (ite_p (P := fun x => ¬ x = 9) (by decide) (ite_p (P := fun x => ¬ x = 9) (by decide) (by decide)))))))))))
  · intro h
    simp only [wcF, h, wd_ex (w2 := [116, 117, 114, 110, 115]) h (by decide), wd_ex (w2 := [109, 105, 115, 115, 101, 115]) h (by decide), wd_ex (w2 := [98, 111, 117, 110, 100, 115]) h (by decide), wd_ex (w2 := [111, 114]) h (by decide), wd_ex (w2 := [97, 110, 100]) h (by decide), Bool.false_eq_true, if_true, if_false]
theorem wc_grounds (B : Nat → Int32) (p e : Nat) : wcF B p e = 32 ↔ wdB B p e [103, 114, 111, 117, 110, 100, 115] = true := by
  constructor
  · intro h
    refine Decidable.byContradiction fun g => ?_
    revert h
    simp only [wcF, g, Bool.false_eq_true, if_false]
    exact ite_p (P := fun x => ¬ x = 32) (by decide) (ite_p (P := fun x => ¬ x = 32) (by decide) (ite_p (P := fun x => ¬ x = 32) (by decide) (ite_p (P := fun x => ¬ x = 32) (by decide) (ite_p (P := fun x => ¬ x = 32) (by decide) (ite_p (P := fun x => ¬ x = 32) (by decide) (ite_p (P := fun x => ¬ x = 32) (by decide) (ite_p (P := fun x => ¬ x = 32) (by decide) (ite_p (P := fun x => ¬ x = 32) (by decide) (ite_p (P := fun x => ¬ x = 32) (by decide) (ite_p (P := fun x => ¬ x = 32) (by decide) (by decide)))))))))))
  · intro h
    simp only [wcF, h, wd_ex (w2 := [116, 117, 114, 110, 115]) h (by decide), wd_ex (w2 := [109, 105, 115, 115, 101, 115]) h (by decide), wd_ex (w2 := [98, 111, 117, 110, 100, 115]) h (by decide), wd_ex (w2 := [111, 114]) h (by decide), wd_ex (w2 := [97, 110, 100]) h (by decide), wd_ex (w2 := [110, 111, 116]) h (by decide), Bool.false_eq_true, if_true, if_false]
theorem wc_saying (B : Nat → Int32) (p e : Nat) : wcF B p e = 33 ↔ wdB B p e [115, 97, 121, 105, 110, 103] = true := by
  constructor
  · intro h
    refine Decidable.byContradiction fun g => ?_
    revert h
    simp only [wcF, g, Bool.false_eq_true, if_false]
    exact ite_p (P := fun x => ¬ x = 33) (by decide) (ite_p (P := fun x => ¬ x = 33) (by decide) (ite_p (P := fun x => ¬ x = 33) (by decide) (ite_p (P := fun x => ¬ x = 33) (by decide) (ite_p (P := fun x => ¬ x = 33) (by decide) (ite_p (P := fun x => ¬ x = 33) (by decide) (ite_p (P := fun x => ¬ x = 33) (by decide) (ite_p (P := fun x => ¬ x = 33) (by decide) (ite_p (P := fun x => ¬ x = 33) (by decide) (ite_p (P := fun x => ¬ x = 33) (by decide) (ite_p (P := fun x => ¬ x = 33) (by decide) (by decide)))))))))))
  · intro h
    simp only [wcF, h, wd_ex (w2 := [116, 117, 114, 110, 115]) h (by decide), wd_ex (w2 := [109, 105, 115, 115, 101, 115]) h (by decide), wd_ex (w2 := [98, 111, 117, 110, 100, 115]) h (by decide), wd_ex (w2 := [111, 114]) h (by decide), wd_ex (w2 := [97, 110, 100]) h (by decide), wd_ex (w2 := [110, 111, 116]) h (by decide), wd_ex (w2 := [103, 114, 111, 117, 110, 100, 115]) h (by decide), Bool.false_eq_true, if_true, if_false]
theorem wc_number (B : Nat → Int32) (p e : Nat) : wcF B p e = 34 ↔ wdB B p e [110, 117, 109, 98, 101, 114] = true := by
  constructor
  · intro h
    refine Decidable.byContradiction fun g => ?_
    revert h
    simp only [wcF, g, Bool.false_eq_true, if_false]
    exact ite_p (P := fun x => ¬ x = 34) (by decide) (ite_p (P := fun x => ¬ x = 34) (by decide) (ite_p (P := fun x => ¬ x = 34) (by decide) (ite_p (P := fun x => ¬ x = 34) (by decide) (ite_p (P := fun x => ¬ x = 34) (by decide) (ite_p (P := fun x => ¬ x = 34) (by decide) (ite_p (P := fun x => ¬ x = 34) (by decide) (ite_p (P := fun x => ¬ x = 34) (by decide) (ite_p (P := fun x => ¬ x = 34) (by decide) (ite_p (P := fun x => ¬ x = 34) (by decide) (ite_p (P := fun x => ¬ x = 34) (by decide) (by decide)))))))))))
  · intro h
    simp only [wcF, h, wd_ex (w2 := [116, 117, 114, 110, 115]) h (by decide), wd_ex (w2 := [109, 105, 115, 115, 101, 115]) h (by decide), wd_ex (w2 := [98, 111, 117, 110, 100, 115]) h (by decide), wd_ex (w2 := [111, 114]) h (by decide), wd_ex (w2 := [97, 110, 100]) h (by decide), wd_ex (w2 := [110, 111, 116]) h (by decide), wd_ex (w2 := [103, 114, 111, 117, 110, 100, 115]) h (by decide), wd_ex (w2 := [115, 97, 121, 105, 110, 103]) h (by decide), Bool.false_eq_true, if_true, if_false]
theorem wc_hour (B : Nat → Int32) (p e : Nat) : wcF B p e = 35 ↔ wdB B p e [104, 111, 117, 114] = true := by
  constructor
  · intro h
    refine Decidable.byContradiction fun g => ?_
    revert h
    simp only [wcF, g, Bool.false_eq_true, if_false]
    exact ite_p (P := fun x => ¬ x = 35) (by decide) (ite_p (P := fun x => ¬ x = 35) (by decide) (ite_p (P := fun x => ¬ x = 35) (by decide) (ite_p (P := fun x => ¬ x = 35) (by decide) (ite_p (P := fun x => ¬ x = 35) (by decide) (ite_p (P := fun x => ¬ x = 35) (by decide) (ite_p (P := fun x => ¬ x = 35) (by decide) (ite_p (P := fun x => ¬ x = 35) (by decide) (ite_p (P := fun x => ¬ x = 35) (by decide) (ite_p (P := fun x => ¬ x = 35) (by decide) (ite_p (P := fun x => ¬ x = 35) (by decide) (by decide)))))))))))
  · intro h
    simp only [wcF, h, wd_ex (w2 := [116, 117, 114, 110, 115]) h (by decide), wd_ex (w2 := [109, 105, 115, 115, 101, 115]) h (by decide), wd_ex (w2 := [98, 111, 117, 110, 100, 115]) h (by decide), wd_ex (w2 := [111, 114]) h (by decide), wd_ex (w2 := [97, 110, 100]) h (by decide), wd_ex (w2 := [110, 111, 116]) h (by decide), wd_ex (w2 := [103, 114, 111, 117, 110, 100, 115]) h (by decide), wd_ex (w2 := [115, 97, 121, 105, 110, 103]) h (by decide), wd_ex (w2 := [110, 117, 109, 98, 101, 114]) h (by decide), Bool.false_eq_true, if_true, if_false]
theorem wc_slips (B : Nat → Int32) (p e : Nat) : wcF B p e = 36 ↔ wdB B p e [115, 108, 105, 112, 115] = true := by
  constructor
  · intro h
    refine Decidable.byContradiction fun g => ?_
    revert h
    simp only [wcF, g, Bool.false_eq_true, if_false]
    exact ite_p (P := fun x => ¬ x = 36) (by decide) (ite_p (P := fun x => ¬ x = 36) (by decide) (ite_p (P := fun x => ¬ x = 36) (by decide) (ite_p (P := fun x => ¬ x = 36) (by decide) (ite_p (P := fun x => ¬ x = 36) (by decide) (ite_p (P := fun x => ¬ x = 36) (by decide) (ite_p (P := fun x => ¬ x = 36) (by decide) (ite_p (P := fun x => ¬ x = 36) (by decide) (ite_p (P := fun x => ¬ x = 36) (by decide) (ite_p (P := fun x => ¬ x = 36) (by decide) (ite_p (P := fun x => ¬ x = 36) (by decide) (by decide)))))))))))
  · intro h
    simp only [wcF, h, wd_ex (w2 := [116, 117, 114, 110, 115]) h (by decide), wd_ex (w2 := [109, 105, 115, 115, 101, 115]) h (by decide), wd_ex (w2 := [98, 111, 117, 110, 100, 115]) h (by decide), wd_ex (w2 := [111, 114]) h (by decide), wd_ex (w2 := [97, 110, 100]) h (by decide), wd_ex (w2 := [110, 111, 116]) h (by decide), wd_ex (w2 := [103, 114, 111, 117, 110, 100, 115]) h (by decide), wd_ex (w2 := [115, 97, 121, 105, 110, 103]) h (by decide), wd_ex (w2 := [110, 117, 109, 98, 101, 114]) h (by decide), wd_ex (w2 := [104, 111, 117, 114]) h (by decide), Bool.false_eq_true, if_true, if_false]
theorem wc_cup (B : Nat → Int32) (p e : Nat) : wcF B p e = 37 ↔ wdB B p e [99, 117, 112] = true := by
  constructor
  · intro h
    refine Decidable.byContradiction fun g => ?_
    revert h
    simp only [wcF, g, Bool.false_eq_true, if_false]
    exact ite_p (P := fun x => ¬ x = 37) (by decide) (ite_p (P := fun x => ¬ x = 37) (by decide) (ite_p (P := fun x => ¬ x = 37) (by decide) (ite_p (P := fun x => ¬ x = 37) (by decide) (ite_p (P := fun x => ¬ x = 37) (by decide) (ite_p (P := fun x => ¬ x = 37) (by decide) (ite_p (P := fun x => ¬ x = 37) (by decide) (ite_p (P := fun x => ¬ x = 37) (by decide) (ite_p (P := fun x => ¬ x = 37) (by decide) (ite_p (P := fun x => ¬ x = 37) (by decide) (ite_p (P := fun x => ¬ x = 37) (by decide) (by decide)))))))))))
  · intro h
    simp only [wcF, h, wd_ex (w2 := [116, 117, 114, 110, 115]) h (by decide), wd_ex (w2 := [109, 105, 115, 115, 101, 115]) h (by decide), wd_ex (w2 := [98, 111, 117, 110, 100, 115]) h (by decide), wd_ex (w2 := [111, 114]) h (by decide), wd_ex (w2 := [97, 110, 100]) h (by decide), wd_ex (w2 := [110, 111, 116]) h (by decide), wd_ex (w2 := [103, 114, 111, 117, 110, 100, 115]) h (by decide), wd_ex (w2 := [115, 97, 121, 105, 110, 103]) h (by decide), wd_ex (w2 := [110, 117, 109, 98, 101, 114]) h (by decide), wd_ex (w2 := [104, 111, 117, 114]) h (by decide), wd_ex (w2 := [115, 108, 105, 112, 115]) h (by decide), Bool.false_eq_true, if_true, if_false]
theorem sg_10 (x : Int32) : sgF x = 10 ↔ x = 40 := by
  constructor
  · intro h
    refine Decidable.byContradiction fun g => ?_
    revert h
    simp only [sgF, g, if_false]
    exact ite_p (P := fun x => ¬ x = 10) (by decide) (ite_p (P := fun x => ¬ x = 10) (by decide) (ite_p (P := fun x => ¬ x = 10) (by decide) (ite_p (P := fun x => ¬ x = 10) (by decide) (ite_p (P := fun x => ¬ x = 10) (by decide) (ite_p (P := fun x => ¬ x = 10) (by decide) (ite_p (P := fun x => ¬ x = 10) (by decide) (by decide)))))))
  · rintro rfl
    decide
theorem sg_11 (x : Int32) : sgF x = 11 ↔ x = 41 := by
  constructor
  · intro h
    refine Decidable.byContradiction fun g => ?_
    revert h
    simp only [sgF, g, if_false]
    exact ite_p (P := fun x => ¬ x = 11) (by decide) (ite_p (P := fun x => ¬ x = 11) (by decide) (ite_p (P := fun x => ¬ x = 11) (by decide) (ite_p (P := fun x => ¬ x = 11) (by decide) (ite_p (P := fun x => ¬ x = 11) (by decide) (ite_p (P := fun x => ¬ x = 11) (by decide) (ite_p (P := fun x => ¬ x = 11) (by decide) (by decide)))))))
  · rintro rfl
    decide
theorem sg_12 (x : Int32) : sgF x = 12 ↔ x = 59 := by
  constructor
  · intro h
    refine Decidable.byContradiction fun g => ?_
    revert h
    simp only [sgF, g, if_false]
    exact ite_p (P := fun x => ¬ x = 12) (by decide) (ite_p (P := fun x => ¬ x = 12) (by decide) (ite_p (P := fun x => ¬ x = 12) (by decide) (ite_p (P := fun x => ¬ x = 12) (by decide) (ite_p (P := fun x => ¬ x = 12) (by decide) (ite_p (P := fun x => ¬ x = 12) (by decide) (ite_p (P := fun x => ¬ x = 12) (by decide) (by decide)))))))
  · rintro rfl
    decide
theorem sg_13 (x : Int32) : sgF x = 13 ↔ x = 43 := by
  constructor
  · intro h
    refine Decidable.byContradiction fun g => ?_
    revert h
    simp only [sgF, g, if_false]
    exact ite_p (P := fun x => ¬ x = 13) (by decide) (ite_p (P := fun x => ¬ x = 13) (by decide) (ite_p (P := fun x => ¬ x = 13) (by decide) (ite_p (P := fun x => ¬ x = 13) (by decide) (ite_p (P := fun x => ¬ x = 13) (by decide) (ite_p (P := fun x => ¬ x = 13) (by decide) (ite_p (P := fun x => ¬ x = 13) (by decide) (by decide)))))))
  · rintro rfl
    decide
theorem sg_14 (x : Int32) : sgF x = 14 ↔ x = 45 := by
  constructor
  · intro h
    refine Decidable.byContradiction fun g => ?_
    revert h
    simp only [sgF, g, if_false]
    exact ite_p (P := fun x => ¬ x = 14) (by decide) (ite_p (P := fun x => ¬ x = 14) (by decide) (ite_p (P := fun x => ¬ x = 14) (by decide) (ite_p (P := fun x => ¬ x = 14) (by decide) (ite_p (P := fun x => ¬ x = 14) (by decide) (ite_p (P := fun x => ¬ x = 14) (by decide) (ite_p (P := fun x => ¬ x = 14) (by decide) (by decide)))))))
  · rintro rfl
    decide
theorem sg_15 (x : Int32) : sgF x = 15 ↔ x = 42 := by
  constructor
  · intro h
    refine Decidable.byContradiction fun g => ?_
    revert h
    simp only [sgF, g, if_false]
    exact ite_p (P := fun x => ¬ x = 15) (by decide) (ite_p (P := fun x => ¬ x = 15) (by decide) (ite_p (P := fun x => ¬ x = 15) (by decide) (ite_p (P := fun x => ¬ x = 15) (by decide) (ite_p (P := fun x => ¬ x = 15) (by decide) (ite_p (P := fun x => ¬ x = 15) (by decide) (ite_p (P := fun x => ¬ x = 15) (by decide) (by decide)))))))
  · rintro rfl
    decide
theorem sg_16 (x : Int32) : sgF x = 16 ↔ x = 60 := by
  constructor
  · intro h
    refine Decidable.byContradiction fun g => ?_
    revert h
    simp only [sgF, g, if_false]
    exact ite_p (P := fun x => ¬ x = 16) (by decide) (ite_p (P := fun x => ¬ x = 16) (by decide) (ite_p (P := fun x => ¬ x = 16) (by decide) (ite_p (P := fun x => ¬ x = 16) (by decide) (ite_p (P := fun x => ¬ x = 16) (by decide) (ite_p (P := fun x => ¬ x = 16) (by decide) (ite_p (P := fun x => ¬ x = 16) (by decide) (by decide)))))))
  · rintro rfl
    decide
theorem sg_17 (x : Int32) : sgF x = 17 ↔ x = 61 := by
  constructor
  · intro h
    refine Decidable.byContradiction fun g => ?_
    revert h
    simp only [sgF, g, if_false]
    exact ite_p (P := fun x => ¬ x = 17) (by decide) (ite_p (P := fun x => ¬ x = 17) (by decide) (ite_p (P := fun x => ¬ x = 17) (by decide) (ite_p (P := fun x => ¬ x = 17) (by decide) (ite_p (P := fun x => ¬ x = 17) (by decide) (ite_p (P := fun x => ¬ x = 17) (by decide) (ite_p (P := fun x => ¬ x = 17) (by decide) (by decide)))))))
  · rintro rfl
    decide
theorem sg_rng (x : Int32) : sgF x = 1 ∨ (10 ≤ sgF x ∧ sgF x ≤ 17) := by
  unfold sgF
  exact ite_p (P := fun x => x = 1 ∨ (10 ≤ x ∧ x ≤ 17)) (by decide) (ite_p (P := fun x => x = 1 ∨ (10 ≤ x ∧ x ≤ 17)) (by decide) (ite_p (P := fun x => x = 1 ∨ (10 ≤ x ∧ x ≤ 17)) (by decide) (ite_p (P := fun x => x = 1 ∨ (10 ≤ x ∧ x ≤ 17)) (by decide) (ite_p (P := fun x => x = 1 ∨ (10 ≤ x ∧ x ≤ 17)) (by decide) (ite_p (P := fun x => x = 1 ∨ (10 ≤ x ∧ x ≤ 17)) (by decide) (ite_p (P := fun x => x = 1 ∨ (10 ≤ x ∧ x ≤ 17)) (by decide) (ite_p (P := fun x => x = 1 ∨ (10 ≤ x ∧ x ≤ 17)) (by decide) (by decide))))))))
def mkF (B : Nat → Int32) (n p : Nat) : Nat := if p < n then (if leP (B p) then 1 else if diP (B p) then (if 4 < enT B n p - p then 4 else 2) else if sgF (B p) = 1 then 4 else 3) else 0
theorem tk_sgn {B : Nat → Int32} {n p c : Nat} {a : Int32} (hc : 10 ≤ c ∧ c ≤ 17) (h : ∀ x, sgF x = c ↔ x = a) : soF B n p = c ↔ mkF B n p = 3 ∧ B p = a := by
  unfold soF cdF mkF
  by_cases h1 : p < n
  · rw [if_pos h1, if_pos h1]
    by_cases h2 : leP (B p)
    · rw [if_pos h2, if_pos h2]
      have := wc_rng B p (enT B n p)
      constructor
      · intro g; split at g <;> omega
      · rintro ⟨g, -⟩; omega
    · rw [if_neg h2, if_neg h2]
      by_cases h3 : diP (B p)
      · rw [if_pos h3, if_pos h3]
        constructor
        · intro g; split at g <;> split at g <;> omega
        · rintro ⟨g, -⟩; split at g <;> omega
      · rw [if_neg h3, if_neg h3]
        have := sg_rng (B p)
        rw [if_neg (by omega), h]
        constructor
        · intro g
          refine ⟨?_, g⟩
          have := (h _).mpr g
          rw [if_neg (by omega)]
        · exact fun g => g.2
  · rw [if_neg h1, if_neg h1]
    constructor
    · intro g; rw [if_neg (by omega)] at g; omega
    · rintro ⟨g, -⟩; omega
theorem tk_wrd {B : Nat → Int32} {n p c : Nat} (hc : (4 ≤ c ∧ c ≤ 9) ∨ 32 ≤ c) : cdF B n p = c ↔ mkF B n p = 1 ∧ wcF B p (enT B n p) = c := by
  unfold cdF mkF
  by_cases h1 : p < n
  · rw [if_pos h1, if_pos h1]
    by_cases h2 : leP (B p)
    · rw [if_pos h2, if_pos h2]; simp
    · rw [if_neg h2, if_neg h2]
      by_cases h3 : diP (B p)
      · rw [if_pos h3, if_pos h3]
        constructor
        · intro g; split at g <;> omega
        · rintro ⟨g, -⟩; split at g <;> omega
      · rw [if_neg h3, if_neg h3]
        have := sg_rng (B p)
        constructor
        · intro g; omega
        · rintro ⟨g, -⟩; split at g <;> omega
  · rw [if_neg h1, if_neg h1]
    constructor
    · intro g; omega
    · rintro ⟨g, -⟩; omega
theorem tk_num {B : Nat → Int32} {n p : Nat} : soF B n p = 2 ↔ mkF B n p = 2 := by
  unfold soF cdF mkF
  by_cases h1 : p < n
  · rw [if_pos h1, if_pos h1]
    by_cases h2 : leP (B p)
    · rw [if_pos h2, if_pos h2]
      have := wc_rng B p (enT B n p)
      constructor
      · intro g; split at g <;> omega
      · intro g; omega
    · rw [if_neg h2, if_neg h2]
      by_cases h3 : diP (B p)
      · rw [if_pos h3, if_pos h3]
        constructor
        · intro g
          by_cases h4 : 4 < enT B n p - p
          · rw [if_pos h4] at g; rw [if_neg (by omega)] at g; omega
          · rw [if_neg h4]
        · intro g; split at g
          · omega
          · rename_i h4; rw [if_neg (by rw [if_neg h4]; omega), if_neg h4]
      · rw [if_neg h3, if_neg h3]
        have := sg_rng (B p)
        constructor
        · intro g; rw [if_neg (by omega)] at g; omega
        · intro g; split at g <;> omega
  · rw [if_neg h1, if_neg h1]
    constructor
    · intro g; rw [if_neg (by omega)] at g; omega
    · intro g; omega
theorem tk_end {B : Nat → Int32} {n p : Nat} : soF B n p = 0 ↔ mkF B n p = 0 := by
  unfold soF cdF mkF
  by_cases h1 : p < n
  · rw [if_pos h1, if_pos h1]
    by_cases h2 : leP (B p)
    · rw [if_pos h2, if_pos h2]
      have := wc_rng B p (enT B n p)
      constructor
      · intro g; split at g <;> omega
      · intro g; omega
    · rw [if_neg h2, if_neg h2]
      by_cases h3 : diP (B p)
      · rw [if_pos h3, if_pos h3]
        constructor
        · intro g; split at g <;> split at g <;> omega
        · intro g; split at g <;> omega
      · rw [if_neg h3, if_neg h3]
        have := sg_rng (B p)
        constructor
        · intro g; rw [if_neg (by omega)] at g; omega
        · intro g; split at g <;> omega
  · rw [if_neg h1, if_neg h1]
    simp
theorem tk_val {B : Nat → Int32} {n p : Nat} (h : soF B n p = 2) : vlF B n p = vdF B (enT B n p - p) p 0 := by
  have h2 : cdF B n p = 2 := by unfold soF at h; split at h <;> omega
  unfold vlF
  rw [if_neg (by omega), if_pos h2]
theorem tk_nam {B : Nat → Int32} {n p i : Nat} (hi : i < 6) : (soF B n p = 3 ∧ vlF B n p = i) ↔ cdF B n p = 32 + i := by
  unfold soF vlF
  by_cases h : 32 ≤ cdF B n p
  · rw [if_pos h, if_pos h]; omega
  · rw [if_neg h, if_neg h]
    constructor
    · rintro ⟨g, -⟩
      exfalso
      revert g
      unfold cdF
      have := wc_rng B p (enT B n p)
      have := sg_rng (B p)
      repeat' split
      all_goals omega
    · intro g; omega
theorem vd_lt {B : Nat → Int32} : ∀ (m i a : Nat), (∀ j, i ≤ j → j < i + m → diP (B j)) → vdF B m i a < (a + 1) * 10 ^ m := by
  intro m
  induction m with
  | zero => intro i a _; simp only [vdF, Nat.pow_zero]; omega
  | succ m ih =>
    intro i a h
    simp only [vdF]
    have h1 := ih (i + 1) (10 * a + ((B i).toNatClampNeg - 48)) (fun j g1 g2 => h j (by omega) (by omega))
    have h2 : (B i).toNatClampNeg - 48 ≤ 9 := by
      obtain ⟨g1, g2⟩ := h i (by omega) (by omega)
      obtain ⟨v, hv, e⟩ := nI_of2 (M := 57) (n := 57) (by decide) (fun w => g1 (Int32.lt_trans w (by decide))) (Int32.not_lt.mp g2)
      rw [e, nI_clamp (by omega)]; omega
    have h3 : (10 * a + ((B i).toNatClampNeg - 48) + 1) * 10 ^ m ≤ (10 * (a + 1)) * 10 ^ m := Nat.mul_le_mul_right _ (by omega)
    have h4 : (10 * (a + 1)) * 10 ^ m = (a + 1) * 10 ^ (m + 1) := by rw [Nat.pow_succ, Nat.mul_comm 10 (a + 1), Nat.mul_assoc, Nat.mul_comm 10]
    omega
theorem en_bd {B : Nat → Int32} {n p : Nat} (h : p ≤ n) : enT B n p ≤ n ∧ p ≤ enT B n p ∧ (p < n → p < enT B n p) := by
  unfold enT
  by_cases h1 : p < n
  · rw [if_pos h1]
    by_cases h2 : leP (B p)
    · rw [if_pos h2]
      have := rn_ge (fun x => decide (leP x)) B (n - p) p
      refine ⟨by omega, by omega, fun _ => ?_⟩
      obtain ⟨k, hk⟩ : ∃ k, n - p = k + 1 := ⟨n - p - 1, by omega⟩
      rw [hk]
      unfold rnN
      rw [if_pos (decide_eq_true h2)]
      have := rn_ge (fun x => decide (leP x)) B k (p + 1)
      omega
    · rw [if_neg h2]
      by_cases h3 : diP (B p)
      · rw [if_pos h3]
        have := rn_ge (fun x => decide (diP x)) B (n - p) p
        refine ⟨by omega, by omega, fun _ => ?_⟩
        obtain ⟨k, hk⟩ : ∃ k, n - p = k + 1 := ⟨n - p - 1, by omega⟩
        rw [hk]
        unfold rnN
        rw [if_pos (decide_eq_true h3)]
        have := rn_ge (fun x => decide (diP x)) B k (p + 1)
        omega
      · rw [if_neg h3]; omega
  · rw [if_neg h1]; omega
theorem bk_bd {B : Nat → Int32} {n p : Nat} (h : p ≤ n) : bkE B n p ≤ n ∧ p ≤ bkE B n p := by
  have := rn_ge (fun x => decide (blP x)) B (n - p) p
  unfold bkE
  omega
theorem pl_bd {B : Nat → Int32} {n : Nat} : ∀ k, plF B n k ≤ n := by
  intro k
  induction k with
  | zero => exact (bk_bd (Nat.zero_le _)).1
  | succ k ih => exact (bk_bd (en_bd ih).1).1
theorem pl_up {B : Nat → Int32} {n : Nat} (k : Nat) (h : plF B n k < n) : plF B n k < plF B n (k + 1) := by
  have h1 := (en_bd (B := B) (Nat.le_of_lt h)).2.2 h
  have h2 := (bk_bd (B := B) (en_bd (B := B) (Nat.le_of_lt h)).1).2
  show plF B n k < bkE B n (enT B n (plF B n k))
  omega
theorem pl_ge {B : Nat → Int32} {n : Nat} : ∀ k, k ≤ plF B n k ∨ plF B n k = n := by
  intro k
  induction k with
  | zero => exact Or.inl (Nat.zero_le _)
  | succ k ih =>
    have hb := pl_bd (B := B) (n := n) k
    have hb1 := pl_bd (B := B) (n := n) (k + 1)
    rcases Nat.lt_or_ge (plF B n k) n with g | g
    · have := pl_up (B := B) k g
      rcases ih with ih | ih <;> omega
    · right
      have e : plF B n k = n := by omega
      show bkE B n (enT B n (plF B n k)) = n
      have h1 := (en_bd (B := B) hb)
      have h2 := bk_bd (B := B) h1.1
      omega
theorem pl_T {B : Nat → Int32} {n : Nat} : plF B n n = n := by
  have := pl_ge (B := B) (n := n) n
  have := pl_bd (B := B) (n := n) n
  omega
theorem en_di {B : Nat → Int32} {n p : Nat} (h1 : p < n) (h2 : ¬ leP (B p)) (h3 : diP (B p)) : ∀ j, p ≤ j → j < enT B n p → diP (B j) := by
  intro j g1 g2
  have e : enT B n p = rnN (fun x => decide (diP x)) B (n - p) p := by unfold enT; rw [if_pos h1, if_neg h2, if_pos h3]
  rw [e] at g2
  exact of_decide_eq_true (rn_in (fun x => decide (diP x)) B (n - p) p j g1 g2)
theorem en_le {B : Nat → Int32} {n p : Nat} (h1 : p < n) (h2 : leP (B p)) : ∀ j, p ≤ j → j < enT B n p → leP (B j) := by
  intro j g1 g2
  have e : enT B n p = rnN (fun x => decide (leP x)) B (n - p) p := by unfold enT; rw [if_pos h1, if_pos h2]
  rw [e] at g2
  exact of_decide_eq_true (rn_in (fun x => decide (leP x)) B (n - p) p j g1 g2)
theorem mk2 {B : Nat → Int32} {n p : Nat} (h : mkF B n p = 2) : p < n ∧ ¬ leP (B p) ∧ diP (B p) ∧ ¬ 4 < enT B n p - p := by
  unfold mkF at h
  by_cases h1 : p < n
  · rw [if_pos h1] at h
    by_cases h2 : leP (B p)
    · rw [if_pos h2] at h; omega
    · rw [if_neg h2] at h
      by_cases h3 : diP (B p)
      · rw [if_pos h3] at h
        refine ⟨h1, h2, h3, fun g => ?_⟩
        rw [if_pos g] at h; omega
      · rw [if_neg h3] at h; split at h <;> omega
  · rw [if_neg h1] at h; omega
/-- the tokens of a tape -/
theorem tape_ok (B : Nat → Int32) (n : Nat) : VOK (fun k => soF B n (plF B n k)) (fun k => vlF B n (plF B n k)) n := by
  refine ⟨by show soF B n (plF B n n) = 0; rw [pl_T, tk_end]; unfold mkF; rw [if_neg (Nat.lt_irrefl n)], fun k => ⟨fun h => ?_, fun h => ?_, ?_⟩⟩
  · simp only at h ⊢
    rw [tk_val h]
    obtain ⟨g1, g2, g3, g4⟩ := mk2 (tk_num.mp h)
    have hl : enT B n (plF B n k) - plF B n k ≤ 4 := by omega
    have h2 := (en_bd (B := B) (Nat.le_of_lt g1)).2.1
    have := vd_lt (B := B) (enT B n (plF B n k) - plF B n k) (plF B n k) 0 (fun j a b => en_di g1 g2 g3 j a (by omega))
    have h5 : 10 ^ (enT B n (plF B n k) - plF B n k) ≤ 10 ^ 4 := Nat.pow_le_pow_right (by decide) hl
    omega
  · simp only at h ⊢
    unfold soF at h
    by_cases g : 32 ≤ cdF B n (plF B n k)
    · unfold vlF
      rw [if_pos g]
      revert g
      unfold cdF
      have := wc_rng B (plF B n k) (enT B n (plF B n k))
      have := sg_rng (B (plF B n k))
      repeat' split
      all_goals omega
    · rw [if_neg g] at h
      exfalso
      revert h
      unfold cdF
      have := wc_rng B (plF B n k) (enT B n (plF B n k))
      have := sg_rng (B (plF B n k))
      repeat' split
      all_goals omega
  · simp only
    unfold soF cdF
    have := wc_rng B (plF B n k) (enT B n (plF B n k))
    have := sg_rng (B (plF B n k))
    repeat' split
    all_goals omega
