/-! ===== the reference: words and signs ===== -/
def SS (B : Nat → Int32) (n : Nat) : Nat → Nat := fun k => soF B n (plF B n k)
def VV (B : Nat → Int32) (n : Nat) : Nat → Nat := fun k => vlF B n (plF B n k)
theorem SV_ok (B : Nat → Int32) (n : Nat) : VOK (SS B n) (VV B n) n := tape_ok B n
def nmI (I : Mi) : Nat → Int32 := nmV (I 48 16) (I 48 17) (I 48 18) (I 48 19) (I 48 20) (I 48 21)
theorem nmI_q {I J : Mi} (s : SaQ I J) : nmI J = nmI I := by
  unfold nmI
  rw [s _ _ (by omega), s _ _ (by omega), s _ _ (by omega), s _ _ (by omega), s _ _ (by omega), s _ _ (by omega)]
def MS (I : Mi) (L : Ml) (B : Nat → Int32) (n t k o : Nat) : Prop := TxM I B n t ∧ TkM I L B n (plF B n k) ∧ I 48 29 = 0 ∧ I 48 28 = nI o
def MB (I : Mi) (f : Nat) : Prop := I 48 29 = 1 ∧ I 48 30 = nI f
theorem mk_le (B : Nat → Int32) (n p : Nat) : mkF B n p ≤ 4 := by
  unfold mkF
  exact ite_p (P := fun x => x ≤ 4) (ite_p (P := fun x => x ≤ 4) (by decide) (ite_p (P := fun x => x ≤ 4) (ite_p (P := fun x => x ≤ 4) (by decide) (by decide)) (ite_p (P := fun x => x ≤ 4) (by decide) (by decide)))) (by decide)
theorem mk4 {B : Nat → Int32} {n p : Nat} (h : mkF B n p = 4) : soF B n p = 1 := by
  have hc : cdF B n p = 1 := by
    unfold mkF at h
    unfold cdF
    by_cases h1 : p < n
    · rw [if_pos h1] at h ⊢
      by_cases h2 : leP (B p)
      · rw [if_pos h2] at h; omega
      · rw [if_neg h2] at h ⊢
        by_cases h3 : diP (B p)
        · rw [if_pos h3] at h ⊢
          by_cases h4 : 4 < enT B n p - p
          · rw [if_pos h4]
          · rw [if_neg h4] at h; omega
        · rw [if_neg h3] at h ⊢
          by_cases h4 : sgF (B p) = 1
          · exact h4
          · rw [if_neg h4] at h; omega
    · rw [if_neg h1] at h; omega
  unfold soF
  rw [hc, if_neg (by decide)]
theorem mk_tok {B : Nat → Int32} {n p : Nat} (h0 : ¬ soF B n p = 0) (h1 : ¬ soF B n p = 1) : mkF B n p = 1 ∨ mkF B n p = 2 ∨ mkF B n p = 3 := by
  have := mk_le B n p
  have a0 : ¬ mkF B n p = 0 := fun w => h0 (tk_end.mpr w)
  have a4 : ¬ mkF B n p = 4 := fun w => h1 (mk4 w)
  omega
theorem mk1 {B : Nat → Int32} {n p : Nat} (h : mkF B n p = 1) : p < n ∧ leP (B p) := by
  unfold mkF at h
  by_cases h1 : p < n
  · rw [if_pos h1] at h
    by_cases h2 : leP (B p)
    · exact ⟨h1, h2⟩
    · rw [if_neg h2] at h
      by_cases h3 : diP (B p)
      · rw [if_pos h3] at h; split at h <;> omega
      · rw [if_neg h3] at h; split at h <;> omega
  · rw [if_neg h1] at h; omega
abbrev l8 (B : Nat → Int32) (p e i : Nat) (x : Int32) : Prop := if p + i < e then B (p + i) = x else x = 0
theorem le_nz {x : Int32} (h : leP x) : ¬ x = 0 := fun w => h.1 (by rw [w]; decide)
theorem cd_lt {B : Nat → Int32} {n p c : Nat} (hc : c < 32) (hc3 : ¬ c = 3) : soF B n p = c ↔ cdF B n p = c := by
  unfold soF
  by_cases h : 32 ≤ cdF B n p
  · rw [if_pos h]; omega
  · rw [if_neg h]
theorem w8_turns {B : Nat → Int32} {p e : Nat} (hp : p ≤ e) (hl : ∀ j, p ≤ j → j < e → leP (B j)) : wdB B p e [116, 117, 114, 110, 115] = true ↔ l8 B p e 0 116 ∧ l8 B p e 1 117 ∧ l8 B p e 2 114 ∧ l8 B p e 3 110 ∧ l8 B p e 4 115 ∧ l8 B p e 5 0 ∧ l8 B p e 6 0 ∧ l8 B p e 7 0 := by
  simp only [wdB, Bool.and_eq_true, beq_iff_eq, List.length_cons, List.length_nil, mtB, l8, and_true, true_and]
  constructor
  · rintro ⟨h1, h2⟩
    exact ⟨(by rw [if_pos (by omega)]; exact h2.1), (by rw [if_pos (by omega)]; exact h2.2.1), (by rw [if_pos (by omega)]; exact h2.2.2.1), (by rw [if_pos (by omega)]; exact h2.2.2.2.1), (by rw [if_pos (by omega)]; exact h2.2.2.2.2), (by rw [if_neg (by omega)]; trivial), (by rw [if_neg (by omega)]; trivial), (by rw [if_neg (by omega)]; trivial)⟩
  · rintro ⟨g0, g1, g2, g3, g4, g5, g6, g7⟩
    have a1 : p + 4 < e := by
      refine Decidable.byContradiction fun w => ?_
      rw [if_neg w] at g4
      exact absurd g4 (by decide)
    have a2 : ¬ p + 5 < e := fun w => by
      rw [if_pos w] at g5
      exact le_nz (hl _ (by omega) w) g5
    refine ⟨by omega, (by rw [if_pos (by omega)] at g0; exact g0), (by rw [if_pos (by omega)] at g1; exact g1), (by rw [if_pos (by omega)] at g2; exact g2), (by rw [if_pos (by omega)] at g3; exact g3), (by rw [if_pos (by omega)] at g4; exact g4)⟩
theorem w8_misses {B : Nat → Int32} {p e : Nat} (hp : p ≤ e) (hl : ∀ j, p ≤ j → j < e → leP (B j)) : wdB B p e [109, 105, 115, 115, 101, 115] = true ↔ l8 B p e 0 109 ∧ l8 B p e 1 105 ∧ l8 B p e 2 115 ∧ l8 B p e 3 115 ∧ l8 B p e 4 101 ∧ l8 B p e 5 115 ∧ l8 B p e 6 0 ∧ l8 B p e 7 0 := by
  simp only [wdB, Bool.and_eq_true, beq_iff_eq, List.length_cons, List.length_nil, mtB, l8, and_true, true_and]
  constructor
  · rintro ⟨h1, h2⟩
    exact ⟨(by rw [if_pos (by omega)]; exact h2.1), (by rw [if_pos (by omega)]; exact h2.2.1), (by rw [if_pos (by omega)]; exact h2.2.2.1), (by rw [if_pos (by omega)]; exact h2.2.2.2.1), (by rw [if_pos (by omega)]; exact h2.2.2.2.2.1), (by rw [if_pos (by omega)]; exact h2.2.2.2.2.2), (by rw [if_neg (by omega)]; trivial), (by rw [if_neg (by omega)]; trivial)⟩
  · rintro ⟨g0, g1, g2, g3, g4, g5, g6, g7⟩
    have a1 : p + 5 < e := by
      refine Decidable.byContradiction fun w => ?_
      rw [if_neg w] at g5
      exact absurd g5 (by decide)
    have a2 : ¬ p + 6 < e := fun w => by
      rw [if_pos w] at g6
      exact le_nz (hl _ (by omega) w) g6
    refine ⟨by omega, (by rw [if_pos (by omega)] at g0; exact g0), (by rw [if_pos (by omega)] at g1; exact g1), (by rw [if_pos (by omega)] at g2; exact g2), (by rw [if_pos (by omega)] at g3; exact g3), (by rw [if_pos (by omega)] at g4; exact g4), (by rw [if_pos (by omega)] at g5; exact g5)⟩
theorem w8_bounds {B : Nat → Int32} {p e : Nat} (hp : p ≤ e) (hl : ∀ j, p ≤ j → j < e → leP (B j)) : wdB B p e [98, 111, 117, 110, 100, 115] = true ↔ l8 B p e 0 98 ∧ l8 B p e 1 111 ∧ l8 B p e 2 117 ∧ l8 B p e 3 110 ∧ l8 B p e 4 100 ∧ l8 B p e 5 115 ∧ l8 B p e 6 0 ∧ l8 B p e 7 0 := by
  simp only [wdB, Bool.and_eq_true, beq_iff_eq, List.length_cons, List.length_nil, mtB, l8, and_true, true_and]
  constructor
  · rintro ⟨h1, h2⟩
    exact ⟨(by rw [if_pos (by omega)]; exact h2.1), (by rw [if_pos (by omega)]; exact h2.2.1), (by rw [if_pos (by omega)]; exact h2.2.2.1), (by rw [if_pos (by omega)]; exact h2.2.2.2.1), (by rw [if_pos (by omega)]; exact h2.2.2.2.2.1), (by rw [if_pos (by omega)]; exact h2.2.2.2.2.2), (by rw [if_neg (by omega)]; trivial), (by rw [if_neg (by omega)]; trivial)⟩
  · rintro ⟨g0, g1, g2, g3, g4, g5, g6, g7⟩
    have a1 : p + 5 < e := by
      refine Decidable.byContradiction fun w => ?_
      rw [if_neg w] at g5
      exact absurd g5 (by decide)
    have a2 : ¬ p + 6 < e := fun w => by
      rw [if_pos w] at g6
      exact le_nz (hl _ (by omega) w) g6
    refine ⟨by omega, (by rw [if_pos (by omega)] at g0; exact g0), (by rw [if_pos (by omega)] at g1; exact g1), (by rw [if_pos (by omega)] at g2; exact g2), (by rw [if_pos (by omega)] at g3; exact g3), (by rw [if_pos (by omega)] at g4; exact g4), (by rw [if_pos (by omega)] at g5; exact g5)⟩
theorem w8_or {B : Nat → Int32} {p e : Nat} (hp : p ≤ e) (hl : ∀ j, p ≤ j → j < e → leP (B j)) : wdB B p e [111, 114] = true ↔ l8 B p e 0 111 ∧ l8 B p e 1 114 ∧ l8 B p e 2 0 ∧ l8 B p e 3 0 ∧ l8 B p e 4 0 ∧ l8 B p e 5 0 ∧ l8 B p e 6 0 ∧ l8 B p e 7 0 := by
  simp only [wdB, Bool.and_eq_true, beq_iff_eq, List.length_cons, List.length_nil, mtB, l8, and_true, true_and]
  constructor
  · rintro ⟨h1, h2⟩
    exact ⟨(by rw [if_pos (by omega)]; exact h2.1), (by rw [if_pos (by omega)]; exact h2.2), (by rw [if_neg (by omega)]; trivial), (by rw [if_neg (by omega)]; trivial), (by rw [if_neg (by omega)]; trivial), (by rw [if_neg (by omega)]; trivial), (by rw [if_neg (by omega)]; trivial), (by rw [if_neg (by omega)]; trivial)⟩
  · rintro ⟨g0, g1, g2, g3, g4, g5, g6, g7⟩
    have a1 : p + 1 < e := by
      refine Decidable.byContradiction fun w => ?_
      rw [if_neg w] at g1
      exact absurd g1 (by decide)
    have a2 : ¬ p + 2 < e := fun w => by
      rw [if_pos w] at g2
      exact le_nz (hl _ (by omega) w) g2
    refine ⟨by omega, (by rw [if_pos (by omega)] at g0; exact g0), (by rw [if_pos (by omega)] at g1; exact g1)⟩
theorem w8_and {B : Nat → Int32} {p e : Nat} (hp : p ≤ e) (hl : ∀ j, p ≤ j → j < e → leP (B j)) : wdB B p e [97, 110, 100] = true ↔ l8 B p e 0 97 ∧ l8 B p e 1 110 ∧ l8 B p e 2 100 ∧ l8 B p e 3 0 ∧ l8 B p e 4 0 ∧ l8 B p e 5 0 ∧ l8 B p e 6 0 ∧ l8 B p e 7 0 := by
  simp only [wdB, Bool.and_eq_true, beq_iff_eq, List.length_cons, List.length_nil, mtB, l8, and_true, true_and]
  constructor
  · rintro ⟨h1, h2⟩
    exact ⟨(by rw [if_pos (by omega)]; exact h2.1), (by rw [if_pos (by omega)]; exact h2.2.1), (by rw [if_pos (by omega)]; exact h2.2.2), (by rw [if_neg (by omega)]; trivial), (by rw [if_neg (by omega)]; trivial), (by rw [if_neg (by omega)]; trivial), (by rw [if_neg (by omega)]; trivial), (by rw [if_neg (by omega)]; trivial)⟩
  · rintro ⟨g0, g1, g2, g3, g4, g5, g6, g7⟩
    have a1 : p + 2 < e := by
      refine Decidable.byContradiction fun w => ?_
      rw [if_neg w] at g2
      exact absurd g2 (by decide)
    have a2 : ¬ p + 3 < e := fun w => by
      rw [if_pos w] at g3
      exact le_nz (hl _ (by omega) w) g3
    refine ⟨by omega, (by rw [if_pos (by omega)] at g0; exact g0), (by rw [if_pos (by omega)] at g1; exact g1), (by rw [if_pos (by omega)] at g2; exact g2)⟩
theorem w8_not {B : Nat → Int32} {p e : Nat} (hp : p ≤ e) (hl : ∀ j, p ≤ j → j < e → leP (B j)) : wdB B p e [110, 111, 116] = true ↔ l8 B p e 0 110 ∧ l8 B p e 1 111 ∧ l8 B p e 2 116 ∧ l8 B p e 3 0 ∧ l8 B p e 4 0 ∧ l8 B p e 5 0 ∧ l8 B p e 6 0 ∧ l8 B p e 7 0 := by
  simp only [wdB, Bool.and_eq_true, beq_iff_eq, List.length_cons, List.length_nil, mtB, l8, and_true, true_and]
  constructor
  · rintro ⟨h1, h2⟩
    exact ⟨(by rw [if_pos (by omega)]; exact h2.1), (by rw [if_pos (by omega)]; exact h2.2.1), (by rw [if_pos (by omega)]; exact h2.2.2), (by rw [if_neg (by omega)]; trivial), (by rw [if_neg (by omega)]; trivial), (by rw [if_neg (by omega)]; trivial), (by rw [if_neg (by omega)]; trivial), (by rw [if_neg (by omega)]; trivial)⟩
  · rintro ⟨g0, g1, g2, g3, g4, g5, g6, g7⟩
    have a1 : p + 2 < e := by
      refine Decidable.byContradiction fun w => ?_
      rw [if_neg w] at g2
      exact absurd g2 (by decide)
    have a2 : ¬ p + 3 < e := fun w => by
      rw [if_pos w] at g3
      exact le_nz (hl _ (by omega) w) g3
    refine ⟨by omega, (by rw [if_pos (by omega)] at g0; exact g0), (by rw [if_pos (by omega)] at g1; exact g1), (by rw [if_pos (by omega)] at g2; exact g2)⟩
theorem w8_grounds {B : Nat → Int32} {p e : Nat} (hp : p ≤ e) (hl : ∀ j, p ≤ j → j < e → leP (B j)) : wdB B p e [103, 114, 111, 117, 110, 100, 115] = true ↔ l8 B p e 0 103 ∧ l8 B p e 1 114 ∧ l8 B p e 2 111 ∧ l8 B p e 3 117 ∧ l8 B p e 4 110 ∧ l8 B p e 5 100 ∧ l8 B p e 6 115 ∧ l8 B p e 7 0 := by
  simp only [wdB, Bool.and_eq_true, beq_iff_eq, List.length_cons, List.length_nil, mtB, l8, and_true, true_and]
  constructor
  · rintro ⟨h1, h2⟩
    exact ⟨(by rw [if_pos (by omega)]; exact h2.1), (by rw [if_pos (by omega)]; exact h2.2.1), (by rw [if_pos (by omega)]; exact h2.2.2.1), (by rw [if_pos (by omega)]; exact h2.2.2.2.1), (by rw [if_pos (by omega)]; exact h2.2.2.2.2.1), (by rw [if_pos (by omega)]; exact h2.2.2.2.2.2.1), (by rw [if_pos (by omega)]; exact h2.2.2.2.2.2.2), (by rw [if_neg (by omega)]; trivial)⟩
  · rintro ⟨g0, g1, g2, g3, g4, g5, g6, g7⟩
    have a1 : p + 6 < e := by
      refine Decidable.byContradiction fun w => ?_
      rw [if_neg w] at g6
      exact absurd g6 (by decide)
    have a2 : ¬ p + 7 < e := fun w => by
      rw [if_pos w] at g7
      exact le_nz (hl _ (by omega) w) g7
    refine ⟨by omega, (by rw [if_pos (by omega)] at g0; exact g0), (by rw [if_pos (by omega)] at g1; exact g1), (by rw [if_pos (by omega)] at g2; exact g2), (by rw [if_pos (by omega)] at g3; exact g3), (by rw [if_pos (by omega)] at g4; exact g4), (by rw [if_pos (by omega)] at g5; exact g5), (by rw [if_pos (by omega)] at g6; exact g6)⟩
theorem w8_saying {B : Nat → Int32} {p e : Nat} (hp : p ≤ e) (hl : ∀ j, p ≤ j → j < e → leP (B j)) : wdB B p e [115, 97, 121, 105, 110, 103] = true ↔ l8 B p e 0 115 ∧ l8 B p e 1 97 ∧ l8 B p e 2 121 ∧ l8 B p e 3 105 ∧ l8 B p e 4 110 ∧ l8 B p e 5 103 ∧ l8 B p e 6 0 ∧ l8 B p e 7 0 := by
  simp only [wdB, Bool.and_eq_true, beq_iff_eq, List.length_cons, List.length_nil, mtB, l8, and_true, true_and]
  constructor
  · rintro ⟨h1, h2⟩
    exact ⟨(by rw [if_pos (by omega)]; exact h2.1), (by rw [if_pos (by omega)]; exact h2.2.1), (by rw [if_pos (by omega)]; exact h2.2.2.1), (by rw [if_pos (by omega)]; exact h2.2.2.2.1), (by rw [if_pos (by omega)]; exact h2.2.2.2.2.1), (by rw [if_pos (by omega)]; exact h2.2.2.2.2.2), (by rw [if_neg (by omega)]; trivial), (by rw [if_neg (by omega)]; trivial)⟩
  · rintro ⟨g0, g1, g2, g3, g4, g5, g6, g7⟩
    have a1 : p + 5 < e := by
      refine Decidable.byContradiction fun w => ?_
      rw [if_neg w] at g5
      exact absurd g5 (by decide)
    have a2 : ¬ p + 6 < e := fun w => by
      rw [if_pos w] at g6
      exact le_nz (hl _ (by omega) w) g6
    refine ⟨by omega, (by rw [if_pos (by omega)] at g0; exact g0), (by rw [if_pos (by omega)] at g1; exact g1), (by rw [if_pos (by omega)] at g2; exact g2), (by rw [if_pos (by omega)] at g3; exact g3), (by rw [if_pos (by omega)] at g4; exact g4), (by rw [if_pos (by omega)] at g5; exact g5)⟩
theorem w8_number {B : Nat → Int32} {p e : Nat} (hp : p ≤ e) (hl : ∀ j, p ≤ j → j < e → leP (B j)) : wdB B p e [110, 117, 109, 98, 101, 114] = true ↔ l8 B p e 0 110 ∧ l8 B p e 1 117 ∧ l8 B p e 2 109 ∧ l8 B p e 3 98 ∧ l8 B p e 4 101 ∧ l8 B p e 5 114 ∧ l8 B p e 6 0 ∧ l8 B p e 7 0 := by
  simp only [wdB, Bool.and_eq_true, beq_iff_eq, List.length_cons, List.length_nil, mtB, l8, and_true, true_and]
  constructor
  · rintro ⟨h1, h2⟩
    exact ⟨(by rw [if_pos (by omega)]; exact h2.1), (by rw [if_pos (by omega)]; exact h2.2.1), (by rw [if_pos (by omega)]; exact h2.2.2.1), (by rw [if_pos (by omega)]; exact h2.2.2.2.1), (by rw [if_pos (by omega)]; exact h2.2.2.2.2.1), (by rw [if_pos (by omega)]; exact h2.2.2.2.2.2), (by rw [if_neg (by omega)]; trivial), (by rw [if_neg (by omega)]; trivial)⟩
  · rintro ⟨g0, g1, g2, g3, g4, g5, g6, g7⟩
    have a1 : p + 5 < e := by
      refine Decidable.byContradiction fun w => ?_
      rw [if_neg w] at g5
      exact absurd g5 (by decide)
    have a2 : ¬ p + 6 < e := fun w => by
      rw [if_pos w] at g6
      exact le_nz (hl _ (by omega) w) g6
    refine ⟨by omega, (by rw [if_pos (by omega)] at g0; exact g0), (by rw [if_pos (by omega)] at g1; exact g1), (by rw [if_pos (by omega)] at g2; exact g2), (by rw [if_pos (by omega)] at g3; exact g3), (by rw [if_pos (by omega)] at g4; exact g4), (by rw [if_pos (by omega)] at g5; exact g5)⟩
theorem w8_hour {B : Nat → Int32} {p e : Nat} (hp : p ≤ e) (hl : ∀ j, p ≤ j → j < e → leP (B j)) : wdB B p e [104, 111, 117, 114] = true ↔ l8 B p e 0 104 ∧ l8 B p e 1 111 ∧ l8 B p e 2 117 ∧ l8 B p e 3 114 ∧ l8 B p e 4 0 ∧ l8 B p e 5 0 ∧ l8 B p e 6 0 ∧ l8 B p e 7 0 := by
  simp only [wdB, Bool.and_eq_true, beq_iff_eq, List.length_cons, List.length_nil, mtB, l8, and_true, true_and]
  constructor
  · rintro ⟨h1, h2⟩
    exact ⟨(by rw [if_pos (by omega)]; exact h2.1), (by rw [if_pos (by omega)]; exact h2.2.1), (by rw [if_pos (by omega)]; exact h2.2.2.1), (by rw [if_pos (by omega)]; exact h2.2.2.2), (by rw [if_neg (by omega)]; trivial), (by rw [if_neg (by omega)]; trivial), (by rw [if_neg (by omega)]; trivial), (by rw [if_neg (by omega)]; trivial)⟩
  · rintro ⟨g0, g1, g2, g3, g4, g5, g6, g7⟩
    have a1 : p + 3 < e := by
      refine Decidable.byContradiction fun w => ?_
      rw [if_neg w] at g3
      exact absurd g3 (by decide)
    have a2 : ¬ p + 4 < e := fun w => by
      rw [if_pos w] at g4
      exact le_nz (hl _ (by omega) w) g4
    refine ⟨by omega, (by rw [if_pos (by omega)] at g0; exact g0), (by rw [if_pos (by omega)] at g1; exact g1), (by rw [if_pos (by omega)] at g2; exact g2), (by rw [if_pos (by omega)] at g3; exact g3)⟩
theorem w8_slips {B : Nat → Int32} {p e : Nat} (hp : p ≤ e) (hl : ∀ j, p ≤ j → j < e → leP (B j)) : wdB B p e [115, 108, 105, 112, 115] = true ↔ l8 B p e 0 115 ∧ l8 B p e 1 108 ∧ l8 B p e 2 105 ∧ l8 B p e 3 112 ∧ l8 B p e 4 115 ∧ l8 B p e 5 0 ∧ l8 B p e 6 0 ∧ l8 B p e 7 0 := by
  simp only [wdB, Bool.and_eq_true, beq_iff_eq, List.length_cons, List.length_nil, mtB, l8, and_true, true_and]
  constructor
  · rintro ⟨h1, h2⟩
    exact ⟨(by rw [if_pos (by omega)]; exact h2.1), (by rw [if_pos (by omega)]; exact h2.2.1), (by rw [if_pos (by omega)]; exact h2.2.2.1), (by rw [if_pos (by omega)]; exact h2.2.2.2.1), (by rw [if_pos (by omega)]; exact h2.2.2.2.2), (by rw [if_neg (by omega)]; trivial), (by rw [if_neg (by omega)]; trivial), (by rw [if_neg (by omega)]; trivial)⟩
  · rintro ⟨g0, g1, g2, g3, g4, g5, g6, g7⟩
    have a1 : p + 4 < e := by
      refine Decidable.byContradiction fun w => ?_
      rw [if_neg w] at g4
      exact absurd g4 (by decide)
    have a2 : ¬ p + 5 < e := fun w => by
      rw [if_pos w] at g5
      exact le_nz (hl _ (by omega) w) g5
    refine ⟨by omega, (by rw [if_pos (by omega)] at g0; exact g0), (by rw [if_pos (by omega)] at g1; exact g1), (by rw [if_pos (by omega)] at g2; exact g2), (by rw [if_pos (by omega)] at g3; exact g3), (by rw [if_pos (by omega)] at g4; exact g4)⟩
theorem w8_cup {B : Nat → Int32} {p e : Nat} (hp : p ≤ e) (hl : ∀ j, p ≤ j → j < e → leP (B j)) : wdB B p e [99, 117, 112] = true ↔ l8 B p e 0 99 ∧ l8 B p e 1 117 ∧ l8 B p e 2 112 ∧ l8 B p e 3 0 ∧ l8 B p e 4 0 ∧ l8 B p e 5 0 ∧ l8 B p e 6 0 ∧ l8 B p e 7 0 := by
  simp only [wdB, Bool.and_eq_true, beq_iff_eq, List.length_cons, List.length_nil, mtB, l8, and_true, true_and]
  constructor
  · rintro ⟨h1, h2⟩
    exact ⟨(by rw [if_pos (by omega)]; exact h2.1), (by rw [if_pos (by omega)]; exact h2.2.1), (by rw [if_pos (by omega)]; exact h2.2.2), (by rw [if_neg (by omega)]; trivial), (by rw [if_neg (by omega)]; trivial), (by rw [if_neg (by omega)]; trivial), (by rw [if_neg (by omega)]; trivial), (by rw [if_neg (by omega)]; trivial)⟩
  · rintro ⟨g0, g1, g2, g3, g4, g5, g6, g7⟩
    have a1 : p + 2 < e := by
      refine Decidable.byContradiction fun w => ?_
      rw [if_neg w] at g2
      exact absurd g2 (by decide)
    have a2 : ¬ p + 3 < e := fun w => by
      rw [if_pos w] at g3
      exact le_nz (hl _ (by omega) w) g3
    refine ⟨by omega, (by rw [if_pos (by omega)] at g0; exact g0), (by rw [if_pos (by omega)] at g1; exact g1), (by rw [if_pos (by omega)] at g2; exact g2)⟩
theorem c_X6_fail {E : Ev} {d : Nat} {I : Mi} {L : Ml} {Z : Mz} {Q : Po}  {B : Nat → Int32} {n t k o : Nat} (hM : MZ Z) (hS : MS I L B n t k o) (hQ : ∀ I9 : Mi, SaQ I I9 → MB I9 (plF B n k) → Q none I9 L Z) : AC E yX6_fail cX6_fail 1 none d 0 0 [.ref 48] I L Z Q := by
  refine ac_go (ls := [some (.ref 48)]) (by decide +kernel) (Nat.le_of_ble_eq_true rfl) rfl ?_
  refine aw_aload_n dX6_fail_0 rfl rfl ?_
  refine aw_gi dX6_fail_1 fw_X6_170 hM.1 ?_
  refine aw_if_ne (tgt := 20) dX6_fail_4 (by decide) (fun zz => absurd hS.2.2.1 zz) (fun c4 => ?_)
  refine aw_aload_n dX6_fail_7 rfl rfl ?_
  refine aw_iconst (v := 1) dX6_fail_8 (by decide) ?_
  refine aw_pz dX6_fail_9 fw_X6_170 (ww_X6_170 _) hM.1 rfl (by decide) ?_
  refine aw_aload_n dX6_fail_12 rfl rfl ?_
  refine aw_aload_n dX6_fail_13 rfl rfl ?_
  refine aw_gi dX6_fail_14 fw_X6_150 hM.1 ?_
  refine aw_pi dX6_fail_17 fw_X6_174 (ww_X6_174 _) hM.1 rfl ?_
  refine aw_return dX6_fail_20 rfl ?_
  exact hQ _ ((SaQ.rf.put (by omega)).put (by omega)) ⟨by rw [iU_at (by omega), iU_same], by rw [iU_same, iU_at (by omega)]; exact hS.2.1.1⟩
theorem c_X6_failB {E : Ev} {d : Nat} {I : Mi} {L : Ml} {Z : Mz} {Q : Po}  {f : Nat} (hM : MZ Z) (hS : MB I f) (hQ : Q none I L Z) : AC E yX6_fail cX6_fail 1 none d 0 0 [.ref 48] I L Z Q := by
  refine ac_go (ls := [some (.ref 48)]) (by decide +kernel) (Nat.le_of_ble_eq_true rfl) rfl ?_
  refine aw_aload_n dX6_fail_0 rfl rfl ?_
  refine aw_gi dX6_fail_1 fw_X6_170 hM.1 ?_
  refine aw_if_ne (tgt := 20) dX6_fail_4 (by decide) (fun c4 => ?_) (fun zz => absurd zz (by rw [hS.1]; decide))
  refine aw_return dX6_fail_20 rfl ?_
  exact hQ
theorem c_X6_isLetter {E : Ev} {d : Nat} {I : Mi} {L : Ml} {Z : Mz} {Q : Po} {x : Int32} {B : Nat → Int32} {n t p e i : Nat} (hd : 1 ≤ d) (hM : MZ Z) (hT : TxM I B n t) (h26 : I 48 26 = nI p) (h24 : I 48 24 = nI e) (he : e ≤ n) (hp : p ≤ e) (hi : i < 8) (hT0 : (l8 B p e i x) → Q (some (.int 1)) I L Z) (hF : ¬ (l8 B p e i x) → Q (some (.int 0)) I L Z) : AC E yX6_isLetter cX6_isLetter 3 (some .boolean) d 0 0 [.ref 48, .int (nI i), .int x] I L Z Q := by
  refine ac_go (ls := [some (.ref 48), some (.int (nI i)), some (.int x)]) (by decide +kernel) (Nat.le_of_ble_eq_true rfl) rfl ?_
  have hn6 := hT.2.2.2.1
  have e1 : I 48 26 + nI i = nI (p + i) := by rw [h26, nI_add]
  have hle : I 48 24 ≤ I 48 26 + nI i ↔ e ≤ p + i := by rw [e1, h24]; exact nI_leI (by omega) (by omega)
  refine aw_aload_n dX6_isLetter_0 rfl rfl ?_
  refine aw_gi dX6_isLetter_1 fw_X6_150 hM.1 ?_
  refine aw_iload_n dX6_isLetter_4 rfl ?_
  refine aw_iadd dX6_isLetter_5 ?_
  refine aw_aload_n dX6_isLetter_6 rfl rfl ?_
  refine aw_gi dX6_isLetter_7 fw_X6_144 hM.1 ?_
  refine aw_icmp_ge (tgt := 35) dX6_isLetter_10 (by decide) (fun c10 => ?_) (fun c10 => ?_)
  · refine aw_iload_n dX6_isLetter_35 rfl ?_
    refine aw_if_ne (tgt := 43) dX6_isLetter_36 (by decide) (fun c36 => ?_) (fun c36 => ?_)
    · refine aw_iconst (v := 0) dX6_isLetter_43 (by decide) ?_
      refine aw_ireturn (ty := .boolean) dX6_isLetter_44 rfl (by decide) ?_
      exact hF (by unfold l8; rw [if_neg (Nat.not_lt.mpr (hle.mp c10))]; exact c36)
    · refine aw_iconst (v := 1) dX6_isLetter_39 (by decide) ?_
      refine aw_goto (tgt := 44) dX6_isLetter_40 (by decide) ?_
      refine aw_ireturn (ty := .boolean) dX6_isLetter_44 rfl (by decide) ?_
      exact hT0 (by unfold l8; rw [if_neg (Nat.not_lt.mpr (hle.mp c10))]; exact c36)
  · refine aw_aload_n dX6_isLetter_13 rfl rfl ?_
    refine aw_aload_n dX6_isLetter_14 rfl rfl ?_
    refine aw_gi dX6_isLetter_15 fw_X6_150 hM.1 ?_
    refine aw_iload_n dX6_isLetter_18 rfl ?_
    refine aw_iadd dX6_isLetter_19 ?_
    rw [e1]
    refine aw_V1 dX6_isLetter_20 cw_X6_147 ⟨_, _, rfl⟩ hM.1 (by omega) ⟨Nat.le_refl _, Nat.le_refl _⟩ (by decide) (c_X6_byteAt (i := p + i) hM hT (by omega) (fun r20 e20 => ?_))
    have hlt : p + i < e := Nat.not_le.mp (fun w => c10 (hle.mpr w))
    rw [by_i (by omega)] at e20
    refine aw_iload_n dX6_isLetter_23 rfl ?_
    refine aw_icmp_ne (tgt := 31) dX6_isLetter_24 (by decide) (fun c24 => ?_) (fun c24 => ?_)
    · refine aw_iconst (v := 0) dX6_isLetter_31 (by decide) ?_
      refine aw_goto (tgt := 44) dX6_isLetter_32 (by decide) ?_
      refine aw_ireturn (ty := .boolean) dX6_isLetter_44 rfl (by decide) ?_
      exact hF (by unfold l8; rw [if_pos hlt, ← e20]; exact c24)
    · refine aw_iconst (v := 1) dX6_isLetter_27 (by decide) ?_
      refine aw_goto (tgt := 44) dX6_isLetter_28 (by decide) ?_
      refine aw_ireturn (ty := .boolean) dX6_isLetter_44 rfl (by decide) ?_
      exact hT0 (by unfold l8; rw [if_pos hlt, ← e20]; exact c24)
theorem c_X6_isWord_turns {E : Ev} {d : Nat} {I : Mi} {L : Ml} {Z : Mz} {Q : Po}  {B : Nat → Int32} {n t k o : Nat} (hd : 2 ≤ d) (hM : MZ Z) (hS : MS I L B n t k o) (hT : (cdF B n (plF B n k) = 4) → Q (some (.int 1)) I L Z) (hF : ¬ (cdF B n (plF B n k) = 4) → Q (some (.int 0)) I L Z) : AC E yX6_isWord cX6_isWord 9 (some .boolean) d 0 0 [.ref 48, .int 116, .int 117, .int 114, .int 110, .int 115, .int 0, .int 0, .int 0] I L Z Q := by
  refine ac_go (ls := [some (.ref 48), some (.int 116), some (.int 117), some (.int 114), some (.int 110), some (.int 115), some (.int 0), some (.int 0), some (.int 0)]) (by decide +kernel) (Nat.le_of_ble_eq_true rfl) rfl ?_
  refine aw_aload_n dX6_isWord_0 rfl rfl ?_
  refine aw_gi dX6_isWord_1 fw_X6_170 hM.1 ?_
  refine aw_if_ne (tgt := 112) dX6_isWord_4 (by decide) (fun zz => absurd hS.2.2.1 zz) (fun c4 => ?_)
  refine aw_aload_n dX6_isWord_7 rfl rfl ?_
  refine aw_gi dX6_isWord_8 fw_X6_153 hM.1 ?_
  refine aw_iconst (v := 1) dX6_isWord_11 (by decide) ?_
  refine aw_icmp_ne (tgt := 112) dX6_isWord_12 (by decide) (fun c12 => ?_) (fun c12 => ?_)
  · refine aw_iconst (v := 0) dX6_isWord_112 (by decide) ?_
    refine aw_ireturn (ty := .boolean) dX6_isWord_113 rfl (by decide) ?_
    exact hF (fun w => c12 (by rw [hS.2.1.2.1, ((tk_wrd (by decide)).mp w).1]; rfl))
  · have hmk : mkF B n (plF B n k) = 1 := by
      have e := hS.2.1.2.1
      rw [c12] at e
      exact ((nI_eq (a := 1) (by decide) (by have := mk_le B n (plF B n k); omega)).mp e).symm
    have e24 := hS.2.1.2.2.1 (Or.inl hmk)
    have hen := en_bd (B := B) (n := n) (pl_bd (B := B) (n := n) k)
    have hle := en_le (mk1 hmk).1 (mk1 hmk).2
    have hn6 := hS.1.2.2.2.1
    have e26 : I 48 26 + 8 = nI (plF B n k + 8) := by rw [hS.2.1.1]; exact nI_add _ 8
    refine aw_aload_n dX6_isWord_15 rfl rfl ?_
    refine aw_gi dX6_isWord_16 fw_X6_144 hM.1 ?_
    refine aw_aload_n dX6_isWord_19 rfl rfl ?_
    refine aw_gi dX6_isWord_20 fw_X6_150 hM.1 ?_
    refine aw_bipush (v := 8) dX6_isWord_23 (by decide) ?_
    refine aw_iadd dX6_isWord_25 ?_
    refine aw_icmp_gt (tgt := 112) dX6_isWord_26 (by decide) (fun c26 => ?_) (fun c26 => ?_)
    · have c26n : ¬ enT B n (plF B n k) ≤ plF B n k + 8 := fun w => Int32.not_le.mpr c26 (by rw [e24, e26]; exact (nI_leI (by omega) (by omega)).mpr w)
      refine aw_iconst (v := 0) dX6_isWord_112 (by decide) ?_
      refine aw_ireturn (ty := .boolean) dX6_isWord_113 rfl (by decide) ?_
      exact hF (fun w => absurd ((wc_turns B _ _).mp ((tk_wrd (by decide)).mp w).2) (fun g => by simp only [wdB, Bool.and_eq_true, beq_iff_eq, List.length_cons, List.length_nil] at g; exact c26n (by omega)))
    · refine aw_aload_n dX6_isWord_29 rfl rfl ?_
      refine aw_iconst (v := 0) dX6_isWord_30 (by decide) ?_
      refine aw_iload_n dX6_isWord_31 rfl ?_
      refine aw_V2 dX6_isWord_32 cw_X6_177 ⟨_, _, rfl⟩ hM.1 (by omega) ⟨Nat.le_refl _, Nat.le_refl _⟩ (by decide) (c_X6_isLetter (i := 0) (by omega) hM hS.1 hS.2.1.1 e24 hen.1 hen.2.1 (by decide) (fun c32 => ?_) (fun c32 => ?_))
      · refine aw_if_eq (tgt := 112) dX6_isWord_35 (by decide) (fun zz => absurd zz (by decide)) (fun _ => ?_)
        refine aw_aload_n dX6_isWord_38 rfl rfl ?_
        refine aw_iconst (v := 1) dX6_isWord_39 (by decide) ?_
        refine aw_iload_n dX6_isWord_40 rfl ?_
        refine aw_V2 dX6_isWord_41 cw_X6_177 ⟨_, _, rfl⟩ hM.1 (by omega) ⟨Nat.le_refl _, Nat.le_refl _⟩ (by decide) (c_X6_isLetter (i := 1) (by omega) hM hS.1 hS.2.1.1 e24 hen.1 hen.2.1 (by decide) (fun c41 => ?_) (fun c41 => ?_))
        · refine aw_if_eq (tgt := 112) dX6_isWord_44 (by decide) (fun zz => absurd zz (by decide)) (fun _ => ?_)
          refine aw_aload_n dX6_isWord_47 rfl rfl ?_
          refine aw_iconst (v := 2) dX6_isWord_48 (by decide) ?_
          refine aw_iload_n dX6_isWord_49 rfl ?_
          refine aw_V2 dX6_isWord_50 cw_X6_177 ⟨_, _, rfl⟩ hM.1 (by omega) ⟨Nat.le_refl _, Nat.le_refl _⟩ (by decide) (c_X6_isLetter (i := 2) (by omega) hM hS.1 hS.2.1.1 e24 hen.1 hen.2.1 (by decide) (fun c50 => ?_) (fun c50 => ?_))
          · refine aw_if_eq (tgt := 112) dX6_isWord_53 (by decide) (fun zz => absurd zz (by decide)) (fun _ => ?_)
            refine aw_aload_n dX6_isWord_56 rfl rfl ?_
            refine aw_iconst (v := 3) dX6_isWord_57 (by decide) ?_
            refine aw_iload dX6_isWord_58 rfl ?_
            refine aw_V2 dX6_isWord_60 cw_X6_177 ⟨_, _, rfl⟩ hM.1 (by omega) ⟨Nat.le_refl _, Nat.le_refl _⟩ (by decide) (c_X6_isLetter (i := 3) (by omega) hM hS.1 hS.2.1.1 e24 hen.1 hen.2.1 (by decide) (fun c60 => ?_) (fun c60 => ?_))
            · refine aw_if_eq (tgt := 112) dX6_isWord_63 (by decide) (fun zz => absurd zz (by decide)) (fun _ => ?_)
              refine aw_aload_n dX6_isWord_66 rfl rfl ?_
              refine aw_iconst (v := 4) dX6_isWord_67 (by decide) ?_
              refine aw_iload dX6_isWord_68 rfl ?_
              refine aw_V2 dX6_isWord_70 cw_X6_177 ⟨_, _, rfl⟩ hM.1 (by omega) ⟨Nat.le_refl _, Nat.le_refl _⟩ (by decide) (c_X6_isLetter (i := 4) (by omega) hM hS.1 hS.2.1.1 e24 hen.1 hen.2.1 (by decide) (fun c70 => ?_) (fun c70 => ?_))
              · refine aw_if_eq (tgt := 112) dX6_isWord_73 (by decide) (fun zz => absurd zz (by decide)) (fun _ => ?_)
                refine aw_aload_n dX6_isWord_76 rfl rfl ?_
                refine aw_iconst (v := 5) dX6_isWord_77 (by decide) ?_
                refine aw_iload dX6_isWord_78 rfl ?_
                refine aw_V2 dX6_isWord_80 cw_X6_177 ⟨_, _, rfl⟩ hM.1 (by omega) ⟨Nat.le_refl _, Nat.le_refl _⟩ (by decide) (c_X6_isLetter (i := 5) (by omega) hM hS.1 hS.2.1.1 e24 hen.1 hen.2.1 (by decide) (fun c80 => ?_) (fun c80 => ?_))
                · refine aw_if_eq (tgt := 112) dX6_isWord_83 (by decide) (fun zz => absurd zz (by decide)) (fun _ => ?_)
                  refine aw_aload_n dX6_isWord_86 rfl rfl ?_
                  refine aw_bipush (v := 6) dX6_isWord_87 (by decide) ?_
                  refine aw_iload dX6_isWord_89 rfl ?_
                  refine aw_V2 dX6_isWord_91 cw_X6_177 ⟨_, _, rfl⟩ hM.1 (by omega) ⟨Nat.le_refl _, Nat.le_refl _⟩ (by decide) (c_X6_isLetter (i := 6) (by omega) hM hS.1 hS.2.1.1 e24 hen.1 hen.2.1 (by decide) (fun c91 => ?_) (fun c91 => ?_))
                  · refine aw_if_eq (tgt := 112) dX6_isWord_94 (by decide) (fun zz => absurd zz (by decide)) (fun _ => ?_)
                    refine aw_aload_n dX6_isWord_97 rfl rfl ?_
                    refine aw_bipush (v := 7) dX6_isWord_98 (by decide) ?_
                    refine aw_iload dX6_isWord_100 rfl ?_
                    refine aw_V2 dX6_isWord_102 cw_X6_177 ⟨_, _, rfl⟩ hM.1 (by omega) ⟨Nat.le_refl _, Nat.le_refl _⟩ (by decide) (c_X6_isLetter (i := 7) (by omega) hM hS.1 hS.2.1.1 e24 hen.1 hen.2.1 (by decide) (fun c102 => ?_) (fun c102 => ?_))
                    · refine aw_if_eq (tgt := 112) dX6_isWord_105 (by decide) (fun zz => absurd zz (by decide)) (fun _ => ?_)
                      refine aw_iconst (v := 1) dX6_isWord_108 (by decide) ?_
                      refine aw_goto (tgt := 113) dX6_isWord_109 (by decide) ?_
                      refine aw_ireturn (ty := .boolean) dX6_isWord_113 rfl (by decide) ?_
                      exact hT ((tk_wrd (by decide)).mpr ⟨hmk, (wc_turns B _ _).mpr ((w8_turns hen.2.1 hle).mpr ⟨c32, c41, c50, c60, c70, c80, c91, c102⟩)⟩)
                    · refine aw_if_eq (tgt := 112) dX6_isWord_105 (by decide) (fun _ => ?_) (fun zz => absurd zz (by decide))
                      refine aw_iconst (v := 0) dX6_isWord_112 (by decide) ?_
                      refine aw_ireturn (ty := .boolean) dX6_isWord_113 rfl (by decide) ?_
                      exact hF (fun w => c102 (by have g := (w8_turns hen.2.1 hle).mp ((wc_turns B _ _).mp ((tk_wrd (by decide)).mp w).2); exact g.2.2.2.2.2.2.2))
                  · refine aw_if_eq (tgt := 112) dX6_isWord_94 (by decide) (fun _ => ?_) (fun zz => absurd zz (by decide))
                    refine aw_iconst (v := 0) dX6_isWord_112 (by decide) ?_
                    refine aw_ireturn (ty := .boolean) dX6_isWord_113 rfl (by decide) ?_
                    exact hF (fun w => c91 (by have g := (w8_turns hen.2.1 hle).mp ((wc_turns B _ _).mp ((tk_wrd (by decide)).mp w).2); exact g.2.2.2.2.2.2.1))
                · refine aw_if_eq (tgt := 112) dX6_isWord_83 (by decide) (fun _ => ?_) (fun zz => absurd zz (by decide))
                  refine aw_iconst (v := 0) dX6_isWord_112 (by decide) ?_
                  refine aw_ireturn (ty := .boolean) dX6_isWord_113 rfl (by decide) ?_
                  exact hF (fun w => c80 (by have g := (w8_turns hen.2.1 hle).mp ((wc_turns B _ _).mp ((tk_wrd (by decide)).mp w).2); exact g.2.2.2.2.2.1))
              · refine aw_if_eq (tgt := 112) dX6_isWord_73 (by decide) (fun _ => ?_) (fun zz => absurd zz (by decide))
                refine aw_iconst (v := 0) dX6_isWord_112 (by decide) ?_
                refine aw_ireturn (ty := .boolean) dX6_isWord_113 rfl (by decide) ?_
                exact hF (fun w => c70 (by have g := (w8_turns hen.2.1 hle).mp ((wc_turns B _ _).mp ((tk_wrd (by decide)).mp w).2); exact g.2.2.2.2.1))
            · refine aw_if_eq (tgt := 112) dX6_isWord_63 (by decide) (fun _ => ?_) (fun zz => absurd zz (by decide))
              refine aw_iconst (v := 0) dX6_isWord_112 (by decide) ?_
              refine aw_ireturn (ty := .boolean) dX6_isWord_113 rfl (by decide) ?_
              exact hF (fun w => c60 (by have g := (w8_turns hen.2.1 hle).mp ((wc_turns B _ _).mp ((tk_wrd (by decide)).mp w).2); exact g.2.2.2.1))
          · refine aw_if_eq (tgt := 112) dX6_isWord_53 (by decide) (fun _ => ?_) (fun zz => absurd zz (by decide))
            refine aw_iconst (v := 0) dX6_isWord_112 (by decide) ?_
            refine aw_ireturn (ty := .boolean) dX6_isWord_113 rfl (by decide) ?_
            exact hF (fun w => c50 (by have g := (w8_turns hen.2.1 hle).mp ((wc_turns B _ _).mp ((tk_wrd (by decide)).mp w).2); exact g.2.2.1))
        · refine aw_if_eq (tgt := 112) dX6_isWord_44 (by decide) (fun _ => ?_) (fun zz => absurd zz (by decide))
          refine aw_iconst (v := 0) dX6_isWord_112 (by decide) ?_
          refine aw_ireturn (ty := .boolean) dX6_isWord_113 rfl (by decide) ?_
          exact hF (fun w => c41 (by have g := (w8_turns hen.2.1 hle).mp ((wc_turns B _ _).mp ((tk_wrd (by decide)).mp w).2); exact g.2.1))
      · refine aw_if_eq (tgt := 112) dX6_isWord_35 (by decide) (fun _ => ?_) (fun zz => absurd zz (by decide))
        refine aw_iconst (v := 0) dX6_isWord_112 (by decide) ?_
        refine aw_ireturn (ty := .boolean) dX6_isWord_113 rfl (by decide) ?_
        exact hF (fun w => c32 (by have g := (w8_turns hen.2.1 hle).mp ((wc_turns B _ _).mp ((tk_wrd (by decide)).mp w).2); exact g.1))
theorem c_X6_isWord_misses {E : Ev} {d : Nat} {I : Mi} {L : Ml} {Z : Mz} {Q : Po}  {B : Nat → Int32} {n t k o : Nat} (hd : 2 ≤ d) (hM : MZ Z) (hS : MS I L B n t k o) (hT : (cdF B n (plF B n k) = 5) → Q (some (.int 1)) I L Z) (hF : ¬ (cdF B n (plF B n k) = 5) → Q (some (.int 0)) I L Z) : AC E yX6_isWord cX6_isWord 9 (some .boolean) d 0 0 [.ref 48, .int 109, .int 105, .int 115, .int 115, .int 101, .int 115, .int 0, .int 0] I L Z Q := by
  refine ac_go (ls := [some (.ref 48), some (.int 109), some (.int 105), some (.int 115), some (.int 115), some (.int 101), some (.int 115), some (.int 0), some (.int 0)]) (by decide +kernel) (Nat.le_of_ble_eq_true rfl) rfl ?_
  refine aw_aload_n dX6_isWord_0 rfl rfl ?_
  refine aw_gi dX6_isWord_1 fw_X6_170 hM.1 ?_
  refine aw_if_ne (tgt := 112) dX6_isWord_4 (by decide) (fun zz => absurd hS.2.2.1 zz) (fun c4 => ?_)
  refine aw_aload_n dX6_isWord_7 rfl rfl ?_
  refine aw_gi dX6_isWord_8 fw_X6_153 hM.1 ?_
  refine aw_iconst (v := 1) dX6_isWord_11 (by decide) ?_
  refine aw_icmp_ne (tgt := 112) dX6_isWord_12 (by decide) (fun c12 => ?_) (fun c12 => ?_)
  · refine aw_iconst (v := 0) dX6_isWord_112 (by decide) ?_
    refine aw_ireturn (ty := .boolean) dX6_isWord_113 rfl (by decide) ?_
    exact hF (fun w => c12 (by rw [hS.2.1.2.1, ((tk_wrd (by decide)).mp w).1]; rfl))
  · have hmk : mkF B n (plF B n k) = 1 := by
      have e := hS.2.1.2.1
      rw [c12] at e
      exact ((nI_eq (a := 1) (by decide) (by have := mk_le B n (plF B n k); omega)).mp e).symm
    have e24 := hS.2.1.2.2.1 (Or.inl hmk)
    have hen := en_bd (B := B) (n := n) (pl_bd (B := B) (n := n) k)
    have hle := en_le (mk1 hmk).1 (mk1 hmk).2
    have hn6 := hS.1.2.2.2.1
    have e26 : I 48 26 + 8 = nI (plF B n k + 8) := by rw [hS.2.1.1]; exact nI_add _ 8
    refine aw_aload_n dX6_isWord_15 rfl rfl ?_
    refine aw_gi dX6_isWord_16 fw_X6_144 hM.1 ?_
    refine aw_aload_n dX6_isWord_19 rfl rfl ?_
    refine aw_gi dX6_isWord_20 fw_X6_150 hM.1 ?_
    refine aw_bipush (v := 8) dX6_isWord_23 (by decide) ?_
    refine aw_iadd dX6_isWord_25 ?_
    refine aw_icmp_gt (tgt := 112) dX6_isWord_26 (by decide) (fun c26 => ?_) (fun c26 => ?_)
    · have c26n : ¬ enT B n (plF B n k) ≤ plF B n k + 8 := fun w => Int32.not_le.mpr c26 (by rw [e24, e26]; exact (nI_leI (by omega) (by omega)).mpr w)
      refine aw_iconst (v := 0) dX6_isWord_112 (by decide) ?_
      refine aw_ireturn (ty := .boolean) dX6_isWord_113 rfl (by decide) ?_
      exact hF (fun w => absurd ((wc_misses B _ _).mp ((tk_wrd (by decide)).mp w).2) (fun g => by simp only [wdB, Bool.and_eq_true, beq_iff_eq, List.length_cons, List.length_nil] at g; exact c26n (by omega)))
    · refine aw_aload_n dX6_isWord_29 rfl rfl ?_
      refine aw_iconst (v := 0) dX6_isWord_30 (by decide) ?_
      refine aw_iload_n dX6_isWord_31 rfl ?_
      refine aw_V2 dX6_isWord_32 cw_X6_177 ⟨_, _, rfl⟩ hM.1 (by omega) ⟨Nat.le_refl _, Nat.le_refl _⟩ (by decide) (c_X6_isLetter (i := 0) (by omega) hM hS.1 hS.2.1.1 e24 hen.1 hen.2.1 (by decide) (fun c32 => ?_) (fun c32 => ?_))
      · refine aw_if_eq (tgt := 112) dX6_isWord_35 (by decide) (fun zz => absurd zz (by decide)) (fun _ => ?_)
        refine aw_aload_n dX6_isWord_38 rfl rfl ?_
        refine aw_iconst (v := 1) dX6_isWord_39 (by decide) ?_
        refine aw_iload_n dX6_isWord_40 rfl ?_
        refine aw_V2 dX6_isWord_41 cw_X6_177 ⟨_, _, rfl⟩ hM.1 (by omega) ⟨Nat.le_refl _, Nat.le_refl _⟩ (by decide) (c_X6_isLetter (i := 1) (by omega) hM hS.1 hS.2.1.1 e24 hen.1 hen.2.1 (by decide) (fun c41 => ?_) (fun c41 => ?_))
        · refine aw_if_eq (tgt := 112) dX6_isWord_44 (by decide) (fun zz => absurd zz (by decide)) (fun _ => ?_)
          refine aw_aload_n dX6_isWord_47 rfl rfl ?_
          refine aw_iconst (v := 2) dX6_isWord_48 (by decide) ?_
          refine aw_iload_n dX6_isWord_49 rfl ?_
          refine aw_V2 dX6_isWord_50 cw_X6_177 ⟨_, _, rfl⟩ hM.1 (by omega) ⟨Nat.le_refl _, Nat.le_refl _⟩ (by decide) (c_X6_isLetter (i := 2) (by omega) hM hS.1 hS.2.1.1 e24 hen.1 hen.2.1 (by decide) (fun c50 => ?_) (fun c50 => ?_))
          · refine aw_if_eq (tgt := 112) dX6_isWord_53 (by decide) (fun zz => absurd zz (by decide)) (fun _ => ?_)
            refine aw_aload_n dX6_isWord_56 rfl rfl ?_
            refine aw_iconst (v := 3) dX6_isWord_57 (by decide) ?_
            refine aw_iload dX6_isWord_58 rfl ?_
            refine aw_V2 dX6_isWord_60 cw_X6_177 ⟨_, _, rfl⟩ hM.1 (by omega) ⟨Nat.le_refl _, Nat.le_refl _⟩ (by decide) (c_X6_isLetter (i := 3) (by omega) hM hS.1 hS.2.1.1 e24 hen.1 hen.2.1 (by decide) (fun c60 => ?_) (fun c60 => ?_))
            · refine aw_if_eq (tgt := 112) dX6_isWord_63 (by decide) (fun zz => absurd zz (by decide)) (fun _ => ?_)
              refine aw_aload_n dX6_isWord_66 rfl rfl ?_
              refine aw_iconst (v := 4) dX6_isWord_67 (by decide) ?_
              refine aw_iload dX6_isWord_68 rfl ?_
              refine aw_V2 dX6_isWord_70 cw_X6_177 ⟨_, _, rfl⟩ hM.1 (by omega) ⟨Nat.le_refl _, Nat.le_refl _⟩ (by decide) (c_X6_isLetter (i := 4) (by omega) hM hS.1 hS.2.1.1 e24 hen.1 hen.2.1 (by decide) (fun c70 => ?_) (fun c70 => ?_))
              · refine aw_if_eq (tgt := 112) dX6_isWord_73 (by decide) (fun zz => absurd zz (by decide)) (fun _ => ?_)
                refine aw_aload_n dX6_isWord_76 rfl rfl ?_
                refine aw_iconst (v := 5) dX6_isWord_77 (by decide) ?_
                refine aw_iload dX6_isWord_78 rfl ?_
                refine aw_V2 dX6_isWord_80 cw_X6_177 ⟨_, _, rfl⟩ hM.1 (by omega) ⟨Nat.le_refl _, Nat.le_refl _⟩ (by decide) (c_X6_isLetter (i := 5) (by omega) hM hS.1 hS.2.1.1 e24 hen.1 hen.2.1 (by decide) (fun c80 => ?_) (fun c80 => ?_))
                · refine aw_if_eq (tgt := 112) dX6_isWord_83 (by decide) (fun zz => absurd zz (by decide)) (fun _ => ?_)
                  refine aw_aload_n dX6_isWord_86 rfl rfl ?_
                  refine aw_bipush (v := 6) dX6_isWord_87 (by decide) ?_
                  refine aw_iload dX6_isWord_89 rfl ?_
                  refine aw_V2 dX6_isWord_91 cw_X6_177 ⟨_, _, rfl⟩ hM.1 (by omega) ⟨Nat.le_refl _, Nat.le_refl _⟩ (by decide) (c_X6_isLetter (i := 6) (by omega) hM hS.1 hS.2.1.1 e24 hen.1 hen.2.1 (by decide) (fun c91 => ?_) (fun c91 => ?_))
                  · refine aw_if_eq (tgt := 112) dX6_isWord_94 (by decide) (fun zz => absurd zz (by decide)) (fun _ => ?_)
                    refine aw_aload_n dX6_isWord_97 rfl rfl ?_
                    refine aw_bipush (v := 7) dX6_isWord_98 (by decide) ?_
                    refine aw_iload dX6_isWord_100 rfl ?_
                    refine aw_V2 dX6_isWord_102 cw_X6_177 ⟨_, _, rfl⟩ hM.1 (by omega) ⟨Nat.le_refl _, Nat.le_refl _⟩ (by decide) (c_X6_isLetter (i := 7) (by omega) hM hS.1 hS.2.1.1 e24 hen.1 hen.2.1 (by decide) (fun c102 => ?_) (fun c102 => ?_))
                    · refine aw_if_eq (tgt := 112) dX6_isWord_105 (by decide) (fun zz => absurd zz (by decide)) (fun _ => ?_)
                      refine aw_iconst (v := 1) dX6_isWord_108 (by decide) ?_
                      refine aw_goto (tgt := 113) dX6_isWord_109 (by decide) ?_
                      refine aw_ireturn (ty := .boolean) dX6_isWord_113 rfl (by decide) ?_
                      exact hT ((tk_wrd (by decide)).mpr ⟨hmk, (wc_misses B _ _).mpr ((w8_misses hen.2.1 hle).mpr ⟨c32, c41, c50, c60, c70, c80, c91, c102⟩)⟩)
                    · refine aw_if_eq (tgt := 112) dX6_isWord_105 (by decide) (fun _ => ?_) (fun zz => absurd zz (by decide))
                      refine aw_iconst (v := 0) dX6_isWord_112 (by decide) ?_
                      refine aw_ireturn (ty := .boolean) dX6_isWord_113 rfl (by decide) ?_
                      exact hF (fun w => c102 (by have g := (w8_misses hen.2.1 hle).mp ((wc_misses B _ _).mp ((tk_wrd (by decide)).mp w).2); exact g.2.2.2.2.2.2.2))
                  · refine aw_if_eq (tgt := 112) dX6_isWord_94 (by decide) (fun _ => ?_) (fun zz => absurd zz (by decide))
                    refine aw_iconst (v := 0) dX6_isWord_112 (by decide) ?_
                    refine aw_ireturn (ty := .boolean) dX6_isWord_113 rfl (by decide) ?_
                    exact hF (fun w => c91 (by have g := (w8_misses hen.2.1 hle).mp ((wc_misses B _ _).mp ((tk_wrd (by decide)).mp w).2); exact g.2.2.2.2.2.2.1))
                · refine aw_if_eq (tgt := 112) dX6_isWord_83 (by decide) (fun _ => ?_) (fun zz => absurd zz (by decide))
                  refine aw_iconst (v := 0) dX6_isWord_112 (by decide) ?_
                  refine aw_ireturn (ty := .boolean) dX6_isWord_113 rfl (by decide) ?_
                  exact hF (fun w => c80 (by have g := (w8_misses hen.2.1 hle).mp ((wc_misses B _ _).mp ((tk_wrd (by decide)).mp w).2); exact g.2.2.2.2.2.1))
              · refine aw_if_eq (tgt := 112) dX6_isWord_73 (by decide) (fun _ => ?_) (fun zz => absurd zz (by decide))
                refine aw_iconst (v := 0) dX6_isWord_112 (by decide) ?_
                refine aw_ireturn (ty := .boolean) dX6_isWord_113 rfl (by decide) ?_
                exact hF (fun w => c70 (by have g := (w8_misses hen.2.1 hle).mp ((wc_misses B _ _).mp ((tk_wrd (by decide)).mp w).2); exact g.2.2.2.2.1))
            · refine aw_if_eq (tgt := 112) dX6_isWord_63 (by decide) (fun _ => ?_) (fun zz => absurd zz (by decide))
              refine aw_iconst (v := 0) dX6_isWord_112 (by decide) ?_
              refine aw_ireturn (ty := .boolean) dX6_isWord_113 rfl (by decide) ?_
              exact hF (fun w => c60 (by have g := (w8_misses hen.2.1 hle).mp ((wc_misses B _ _).mp ((tk_wrd (by decide)).mp w).2); exact g.2.2.2.1))
          · refine aw_if_eq (tgt := 112) dX6_isWord_53 (by decide) (fun _ => ?_) (fun zz => absurd zz (by decide))
            refine aw_iconst (v := 0) dX6_isWord_112 (by decide) ?_
            refine aw_ireturn (ty := .boolean) dX6_isWord_113 rfl (by decide) ?_
            exact hF (fun w => c50 (by have g := (w8_misses hen.2.1 hle).mp ((wc_misses B _ _).mp ((tk_wrd (by decide)).mp w).2); exact g.2.2.1))
        · refine aw_if_eq (tgt := 112) dX6_isWord_44 (by decide) (fun _ => ?_) (fun zz => absurd zz (by decide))
          refine aw_iconst (v := 0) dX6_isWord_112 (by decide) ?_
          refine aw_ireturn (ty := .boolean) dX6_isWord_113 rfl (by decide) ?_
          exact hF (fun w => c41 (by have g := (w8_misses hen.2.1 hle).mp ((wc_misses B _ _).mp ((tk_wrd (by decide)).mp w).2); exact g.2.1))
      · refine aw_if_eq (tgt := 112) dX6_isWord_35 (by decide) (fun _ => ?_) (fun zz => absurd zz (by decide))
        refine aw_iconst (v := 0) dX6_isWord_112 (by decide) ?_
        refine aw_ireturn (ty := .boolean) dX6_isWord_113 rfl (by decide) ?_
        exact hF (fun w => c32 (by have g := (w8_misses hen.2.1 hle).mp ((wc_misses B _ _).mp ((tk_wrd (by decide)).mp w).2); exact g.1))
theorem c_X6_isWord_bounds {E : Ev} {d : Nat} {I : Mi} {L : Ml} {Z : Mz} {Q : Po}  {B : Nat → Int32} {n t k o : Nat} (hd : 2 ≤ d) (hM : MZ Z) (hS : MS I L B n t k o) (hT : (cdF B n (plF B n k) = 6) → Q (some (.int 1)) I L Z) (hF : ¬ (cdF B n (plF B n k) = 6) → Q (some (.int 0)) I L Z) : AC E yX6_isWord cX6_isWord 9 (some .boolean) d 0 0 [.ref 48, .int 98, .int 111, .int 117, .int 110, .int 100, .int 115, .int 0, .int 0] I L Z Q := by
  refine ac_go (ls := [some (.ref 48), some (.int 98), some (.int 111), some (.int 117), some (.int 110), some (.int 100), some (.int 115), some (.int 0), some (.int 0)]) (by decide +kernel) (Nat.le_of_ble_eq_true rfl) rfl ?_
  refine aw_aload_n dX6_isWord_0 rfl rfl ?_
  refine aw_gi dX6_isWord_1 fw_X6_170 hM.1 ?_
  refine aw_if_ne (tgt := 112) dX6_isWord_4 (by decide) (fun zz => absurd hS.2.2.1 zz) (fun c4 => ?_)
  refine aw_aload_n dX6_isWord_7 rfl rfl ?_
  refine aw_gi dX6_isWord_8 fw_X6_153 hM.1 ?_
  refine aw_iconst (v := 1) dX6_isWord_11 (by decide) ?_
  refine aw_icmp_ne (tgt := 112) dX6_isWord_12 (by decide) (fun c12 => ?_) (fun c12 => ?_)
  · refine aw_iconst (v := 0) dX6_isWord_112 (by decide) ?_
    refine aw_ireturn (ty := .boolean) dX6_isWord_113 rfl (by decide) ?_
    exact hF (fun w => c12 (by rw [hS.2.1.2.1, ((tk_wrd (by decide)).mp w).1]; rfl))
  · have hmk : mkF B n (plF B n k) = 1 := by
      have e := hS.2.1.2.1
      rw [c12] at e
      exact ((nI_eq (a := 1) (by decide) (by have := mk_le B n (plF B n k); omega)).mp e).symm
    have e24 := hS.2.1.2.2.1 (Or.inl hmk)
    have hen := en_bd (B := B) (n := n) (pl_bd (B := B) (n := n) k)
    have hle := en_le (mk1 hmk).1 (mk1 hmk).2
    have hn6 := hS.1.2.2.2.1
    have e26 : I 48 26 + 8 = nI (plF B n k + 8) := by rw [hS.2.1.1]; exact nI_add _ 8
    refine aw_aload_n dX6_isWord_15 rfl rfl ?_
    refine aw_gi dX6_isWord_16 fw_X6_144 hM.1 ?_
    refine aw_aload_n dX6_isWord_19 rfl rfl ?_
    refine aw_gi dX6_isWord_20 fw_X6_150 hM.1 ?_
    refine aw_bipush (v := 8) dX6_isWord_23 (by decide) ?_
    refine aw_iadd dX6_isWord_25 ?_
    refine aw_icmp_gt (tgt := 112) dX6_isWord_26 (by decide) (fun c26 => ?_) (fun c26 => ?_)
    · have c26n : ¬ enT B n (plF B n k) ≤ plF B n k + 8 := fun w => Int32.not_le.mpr c26 (by rw [e24, e26]; exact (nI_leI (by omega) (by omega)).mpr w)
      refine aw_iconst (v := 0) dX6_isWord_112 (by decide) ?_
      refine aw_ireturn (ty := .boolean) dX6_isWord_113 rfl (by decide) ?_
      exact hF (fun w => absurd ((wc_bounds B _ _).mp ((tk_wrd (by decide)).mp w).2) (fun g => by simp only [wdB, Bool.and_eq_true, beq_iff_eq, List.length_cons, List.length_nil] at g; exact c26n (by omega)))
    · refine aw_aload_n dX6_isWord_29 rfl rfl ?_
      refine aw_iconst (v := 0) dX6_isWord_30 (by decide) ?_
      refine aw_iload_n dX6_isWord_31 rfl ?_
      refine aw_V2 dX6_isWord_32 cw_X6_177 ⟨_, _, rfl⟩ hM.1 (by omega) ⟨Nat.le_refl _, Nat.le_refl _⟩ (by decide) (c_X6_isLetter (i := 0) (by omega) hM hS.1 hS.2.1.1 e24 hen.1 hen.2.1 (by decide) (fun c32 => ?_) (fun c32 => ?_))
      · refine aw_if_eq (tgt := 112) dX6_isWord_35 (by decide) (fun zz => absurd zz (by decide)) (fun _ => ?_)
        refine aw_aload_n dX6_isWord_38 rfl rfl ?_
        refine aw_iconst (v := 1) dX6_isWord_39 (by decide) ?_
        refine aw_iload_n dX6_isWord_40 rfl ?_
        refine aw_V2 dX6_isWord_41 cw_X6_177 ⟨_, _, rfl⟩ hM.1 (by omega) ⟨Nat.le_refl _, Nat.le_refl _⟩ (by decide) (c_X6_isLetter (i := 1) (by omega) hM hS.1 hS.2.1.1 e24 hen.1 hen.2.1 (by decide) (fun c41 => ?_) (fun c41 => ?_))
        · refine aw_if_eq (tgt := 112) dX6_isWord_44 (by decide) (fun zz => absurd zz (by decide)) (fun _ => ?_)
          refine aw_aload_n dX6_isWord_47 rfl rfl ?_
          refine aw_iconst (v := 2) dX6_isWord_48 (by decide) ?_
          refine aw_iload_n dX6_isWord_49 rfl ?_
          refine aw_V2 dX6_isWord_50 cw_X6_177 ⟨_, _, rfl⟩ hM.1 (by omega) ⟨Nat.le_refl _, Nat.le_refl _⟩ (by decide) (c_X6_isLetter (i := 2) (by omega) hM hS.1 hS.2.1.1 e24 hen.1 hen.2.1 (by decide) (fun c50 => ?_) (fun c50 => ?_))
          · refine aw_if_eq (tgt := 112) dX6_isWord_53 (by decide) (fun zz => absurd zz (by decide)) (fun _ => ?_)
            refine aw_aload_n dX6_isWord_56 rfl rfl ?_
            refine aw_iconst (v := 3) dX6_isWord_57 (by decide) ?_
            refine aw_iload dX6_isWord_58 rfl ?_
            refine aw_V2 dX6_isWord_60 cw_X6_177 ⟨_, _, rfl⟩ hM.1 (by omega) ⟨Nat.le_refl _, Nat.le_refl _⟩ (by decide) (c_X6_isLetter (i := 3) (by omega) hM hS.1 hS.2.1.1 e24 hen.1 hen.2.1 (by decide) (fun c60 => ?_) (fun c60 => ?_))
            · refine aw_if_eq (tgt := 112) dX6_isWord_63 (by decide) (fun zz => absurd zz (by decide)) (fun _ => ?_)
              refine aw_aload_n dX6_isWord_66 rfl rfl ?_
              refine aw_iconst (v := 4) dX6_isWord_67 (by decide) ?_
              refine aw_iload dX6_isWord_68 rfl ?_
              refine aw_V2 dX6_isWord_70 cw_X6_177 ⟨_, _, rfl⟩ hM.1 (by omega) ⟨Nat.le_refl _, Nat.le_refl _⟩ (by decide) (c_X6_isLetter (i := 4) (by omega) hM hS.1 hS.2.1.1 e24 hen.1 hen.2.1 (by decide) (fun c70 => ?_) (fun c70 => ?_))
              · refine aw_if_eq (tgt := 112) dX6_isWord_73 (by decide) (fun zz => absurd zz (by decide)) (fun _ => ?_)
                refine aw_aload_n dX6_isWord_76 rfl rfl ?_
                refine aw_iconst (v := 5) dX6_isWord_77 (by decide) ?_
                refine aw_iload dX6_isWord_78 rfl ?_
                refine aw_V2 dX6_isWord_80 cw_X6_177 ⟨_, _, rfl⟩ hM.1 (by omega) ⟨Nat.le_refl _, Nat.le_refl _⟩ (by decide) (c_X6_isLetter (i := 5) (by omega) hM hS.1 hS.2.1.1 e24 hen.1 hen.2.1 (by decide) (fun c80 => ?_) (fun c80 => ?_))
                · refine aw_if_eq (tgt := 112) dX6_isWord_83 (by decide) (fun zz => absurd zz (by decide)) (fun _ => ?_)
                  refine aw_aload_n dX6_isWord_86 rfl rfl ?_
                  refine aw_bipush (v := 6) dX6_isWord_87 (by decide) ?_
                  refine aw_iload dX6_isWord_89 rfl ?_
                  refine aw_V2 dX6_isWord_91 cw_X6_177 ⟨_, _, rfl⟩ hM.1 (by omega) ⟨Nat.le_refl _, Nat.le_refl _⟩ (by decide) (c_X6_isLetter (i := 6) (by omega) hM hS.1 hS.2.1.1 e24 hen.1 hen.2.1 (by decide) (fun c91 => ?_) (fun c91 => ?_))
                  · refine aw_if_eq (tgt := 112) dX6_isWord_94 (by decide) (fun zz => absurd zz (by decide)) (fun _ => ?_)
                    refine aw_aload_n dX6_isWord_97 rfl rfl ?_
                    refine aw_bipush (v := 7) dX6_isWord_98 (by decide) ?_
                    refine aw_iload dX6_isWord_100 rfl ?_
                    refine aw_V2 dX6_isWord_102 cw_X6_177 ⟨_, _, rfl⟩ hM.1 (by omega) ⟨Nat.le_refl _, Nat.le_refl _⟩ (by decide) (c_X6_isLetter (i := 7) (by omega) hM hS.1 hS.2.1.1 e24 hen.1 hen.2.1 (by decide) (fun c102 => ?_) (fun c102 => ?_))
                    · refine aw_if_eq (tgt := 112) dX6_isWord_105 (by decide) (fun zz => absurd zz (by decide)) (fun _ => ?_)
                      refine aw_iconst (v := 1) dX6_isWord_108 (by decide) ?_
                      refine aw_goto (tgt := 113) dX6_isWord_109 (by decide) ?_
                      refine aw_ireturn (ty := .boolean) dX6_isWord_113 rfl (by decide) ?_
                      exact hT ((tk_wrd (by decide)).mpr ⟨hmk, (wc_bounds B _ _).mpr ((w8_bounds hen.2.1 hle).mpr ⟨c32, c41, c50, c60, c70, c80, c91, c102⟩)⟩)
                    · refine aw_if_eq (tgt := 112) dX6_isWord_105 (by decide) (fun _ => ?_) (fun zz => absurd zz (by decide))
                      refine aw_iconst (v := 0) dX6_isWord_112 (by decide) ?_
                      refine aw_ireturn (ty := .boolean) dX6_isWord_113 rfl (by decide) ?_
                      exact hF (fun w => c102 (by have g := (w8_bounds hen.2.1 hle).mp ((wc_bounds B _ _).mp ((tk_wrd (by decide)).mp w).2); exact g.2.2.2.2.2.2.2))
                  · refine aw_if_eq (tgt := 112) dX6_isWord_94 (by decide) (fun _ => ?_) (fun zz => absurd zz (by decide))
                    refine aw_iconst (v := 0) dX6_isWord_112 (by decide) ?_
                    refine aw_ireturn (ty := .boolean) dX6_isWord_113 rfl (by decide) ?_
                    exact hF (fun w => c91 (by have g := (w8_bounds hen.2.1 hle).mp ((wc_bounds B _ _).mp ((tk_wrd (by decide)).mp w).2); exact g.2.2.2.2.2.2.1))
                · refine aw_if_eq (tgt := 112) dX6_isWord_83 (by decide) (fun _ => ?_) (fun zz => absurd zz (by decide))
                  refine aw_iconst (v := 0) dX6_isWord_112 (by decide) ?_
                  refine aw_ireturn (ty := .boolean) dX6_isWord_113 rfl (by decide) ?_
                  exact hF (fun w => c80 (by have g := (w8_bounds hen.2.1 hle).mp ((wc_bounds B _ _).mp ((tk_wrd (by decide)).mp w).2); exact g.2.2.2.2.2.1))
              · refine aw_if_eq (tgt := 112) dX6_isWord_73 (by decide) (fun _ => ?_) (fun zz => absurd zz (by decide))
                refine aw_iconst (v := 0) dX6_isWord_112 (by decide) ?_
                refine aw_ireturn (ty := .boolean) dX6_isWord_113 rfl (by decide) ?_
                exact hF (fun w => c70 (by have g := (w8_bounds hen.2.1 hle).mp ((wc_bounds B _ _).mp ((tk_wrd (by decide)).mp w).2); exact g.2.2.2.2.1))
            · refine aw_if_eq (tgt := 112) dX6_isWord_63 (by decide) (fun _ => ?_) (fun zz => absurd zz (by decide))
              refine aw_iconst (v := 0) dX6_isWord_112 (by decide) ?_
              refine aw_ireturn (ty := .boolean) dX6_isWord_113 rfl (by decide) ?_
              exact hF (fun w => c60 (by have g := (w8_bounds hen.2.1 hle).mp ((wc_bounds B _ _).mp ((tk_wrd (by decide)).mp w).2); exact g.2.2.2.1))
          · refine aw_if_eq (tgt := 112) dX6_isWord_53 (by decide) (fun _ => ?_) (fun zz => absurd zz (by decide))
            refine aw_iconst (v := 0) dX6_isWord_112 (by decide) ?_
            refine aw_ireturn (ty := .boolean) dX6_isWord_113 rfl (by decide) ?_
            exact hF (fun w => c50 (by have g := (w8_bounds hen.2.1 hle).mp ((wc_bounds B _ _).mp ((tk_wrd (by decide)).mp w).2); exact g.2.2.1))
        · refine aw_if_eq (tgt := 112) dX6_isWord_44 (by decide) (fun _ => ?_) (fun zz => absurd zz (by decide))
          refine aw_iconst (v := 0) dX6_isWord_112 (by decide) ?_
          refine aw_ireturn (ty := .boolean) dX6_isWord_113 rfl (by decide) ?_
          exact hF (fun w => c41 (by have g := (w8_bounds hen.2.1 hle).mp ((wc_bounds B _ _).mp ((tk_wrd (by decide)).mp w).2); exact g.2.1))
      · refine aw_if_eq (tgt := 112) dX6_isWord_35 (by decide) (fun _ => ?_) (fun zz => absurd zz (by decide))
        refine aw_iconst (v := 0) dX6_isWord_112 (by decide) ?_
        refine aw_ireturn (ty := .boolean) dX6_isWord_113 rfl (by decide) ?_
        exact hF (fun w => c32 (by have g := (w8_bounds hen.2.1 hle).mp ((wc_bounds B _ _).mp ((tk_wrd (by decide)).mp w).2); exact g.1))
theorem c_X6_isWord_or {E : Ev} {d : Nat} {I : Mi} {L : Ml} {Z : Mz} {Q : Po}  {B : Nat → Int32} {n t k o : Nat} (hd : 2 ≤ d) (hM : MZ Z) (hS : MS I L B n t k o) (hT : (cdF B n (plF B n k) = 7) → Q (some (.int 1)) I L Z) (hF : ¬ (cdF B n (plF B n k) = 7) → Q (some (.int 0)) I L Z) : AC E yX6_isWord cX6_isWord 9 (some .boolean) d 0 0 [.ref 48, .int 111, .int 114, .int 0, .int 0, .int 0, .int 0, .int 0, .int 0] I L Z Q := by
  refine ac_go (ls := [some (.ref 48), some (.int 111), some (.int 114), some (.int 0), some (.int 0), some (.int 0), some (.int 0), some (.int 0), some (.int 0)]) (by decide +kernel) (Nat.le_of_ble_eq_true rfl) rfl ?_
  refine aw_aload_n dX6_isWord_0 rfl rfl ?_
  refine aw_gi dX6_isWord_1 fw_X6_170 hM.1 ?_
  refine aw_if_ne (tgt := 112) dX6_isWord_4 (by decide) (fun zz => absurd hS.2.2.1 zz) (fun c4 => ?_)
  refine aw_aload_n dX6_isWord_7 rfl rfl ?_
  refine aw_gi dX6_isWord_8 fw_X6_153 hM.1 ?_
  refine aw_iconst (v := 1) dX6_isWord_11 (by decide) ?_
  refine aw_icmp_ne (tgt := 112) dX6_isWord_12 (by decide) (fun c12 => ?_) (fun c12 => ?_)
  · refine aw_iconst (v := 0) dX6_isWord_112 (by decide) ?_
    refine aw_ireturn (ty := .boolean) dX6_isWord_113 rfl (by decide) ?_
    exact hF (fun w => c12 (by rw [hS.2.1.2.1, ((tk_wrd (by decide)).mp w).1]; rfl))
  · have hmk : mkF B n (plF B n k) = 1 := by
      have e := hS.2.1.2.1
      rw [c12] at e
      exact ((nI_eq (a := 1) (by decide) (by have := mk_le B n (plF B n k); omega)).mp e).symm
    have e24 := hS.2.1.2.2.1 (Or.inl hmk)
    have hen := en_bd (B := B) (n := n) (pl_bd (B := B) (n := n) k)
    have hle := en_le (mk1 hmk).1 (mk1 hmk).2
    have hn6 := hS.1.2.2.2.1
    have e26 : I 48 26 + 8 = nI (plF B n k + 8) := by rw [hS.2.1.1]; exact nI_add _ 8
    refine aw_aload_n dX6_isWord_15 rfl rfl ?_
    refine aw_gi dX6_isWord_16 fw_X6_144 hM.1 ?_
    refine aw_aload_n dX6_isWord_19 rfl rfl ?_
    refine aw_gi dX6_isWord_20 fw_X6_150 hM.1 ?_
    refine aw_bipush (v := 8) dX6_isWord_23 (by decide) ?_
    refine aw_iadd dX6_isWord_25 ?_
    refine aw_icmp_gt (tgt := 112) dX6_isWord_26 (by decide) (fun c26 => ?_) (fun c26 => ?_)
    · have c26n : ¬ enT B n (plF B n k) ≤ plF B n k + 8 := fun w => Int32.not_le.mpr c26 (by rw [e24, e26]; exact (nI_leI (by omega) (by omega)).mpr w)
      refine aw_iconst (v := 0) dX6_isWord_112 (by decide) ?_
      refine aw_ireturn (ty := .boolean) dX6_isWord_113 rfl (by decide) ?_
      exact hF (fun w => absurd ((wc_or B _ _).mp ((tk_wrd (by decide)).mp w).2) (fun g => by simp only [wdB, Bool.and_eq_true, beq_iff_eq, List.length_cons, List.length_nil] at g; exact c26n (by omega)))
    · refine aw_aload_n dX6_isWord_29 rfl rfl ?_
      refine aw_iconst (v := 0) dX6_isWord_30 (by decide) ?_
      refine aw_iload_n dX6_isWord_31 rfl ?_
      refine aw_V2 dX6_isWord_32 cw_X6_177 ⟨_, _, rfl⟩ hM.1 (by omega) ⟨Nat.le_refl _, Nat.le_refl _⟩ (by decide) (c_X6_isLetter (i := 0) (by omega) hM hS.1 hS.2.1.1 e24 hen.1 hen.2.1 (by decide) (fun c32 => ?_) (fun c32 => ?_))
      · refine aw_if_eq (tgt := 112) dX6_isWord_35 (by decide) (fun zz => absurd zz (by decide)) (fun _ => ?_)
        refine aw_aload_n dX6_isWord_38 rfl rfl ?_
        refine aw_iconst (v := 1) dX6_isWord_39 (by decide) ?_
        refine aw_iload_n dX6_isWord_40 rfl ?_
        refine aw_V2 dX6_isWord_41 cw_X6_177 ⟨_, _, rfl⟩ hM.1 (by omega) ⟨Nat.le_refl _, Nat.le_refl _⟩ (by decide) (c_X6_isLetter (i := 1) (by omega) hM hS.1 hS.2.1.1 e24 hen.1 hen.2.1 (by decide) (fun c41 => ?_) (fun c41 => ?_))
        · refine aw_if_eq (tgt := 112) dX6_isWord_44 (by decide) (fun zz => absurd zz (by decide)) (fun _ => ?_)
          refine aw_aload_n dX6_isWord_47 rfl rfl ?_
          refine aw_iconst (v := 2) dX6_isWord_48 (by decide) ?_
          refine aw_iload_n dX6_isWord_49 rfl ?_
          refine aw_V2 dX6_isWord_50 cw_X6_177 ⟨_, _, rfl⟩ hM.1 (by omega) ⟨Nat.le_refl _, Nat.le_refl _⟩ (by decide) (c_X6_isLetter (i := 2) (by omega) hM hS.1 hS.2.1.1 e24 hen.1 hen.2.1 (by decide) (fun c50 => ?_) (fun c50 => ?_))
          · refine aw_if_eq (tgt := 112) dX6_isWord_53 (by decide) (fun zz => absurd zz (by decide)) (fun _ => ?_)
            refine aw_aload_n dX6_isWord_56 rfl rfl ?_
            refine aw_iconst (v := 3) dX6_isWord_57 (by decide) ?_
            refine aw_iload dX6_isWord_58 rfl ?_
            refine aw_V2 dX6_isWord_60 cw_X6_177 ⟨_, _, rfl⟩ hM.1 (by omega) ⟨Nat.le_refl _, Nat.le_refl _⟩ (by decide) (c_X6_isLetter (i := 3) (by omega) hM hS.1 hS.2.1.1 e24 hen.1 hen.2.1 (by decide) (fun c60 => ?_) (fun c60 => ?_))
            · refine aw_if_eq (tgt := 112) dX6_isWord_63 (by decide) (fun zz => absurd zz (by decide)) (fun _ => ?_)
              refine aw_aload_n dX6_isWord_66 rfl rfl ?_
              refine aw_iconst (v := 4) dX6_isWord_67 (by decide) ?_
              refine aw_iload dX6_isWord_68 rfl ?_
              refine aw_V2 dX6_isWord_70 cw_X6_177 ⟨_, _, rfl⟩ hM.1 (by omega) ⟨Nat.le_refl _, Nat.le_refl _⟩ (by decide) (c_X6_isLetter (i := 4) (by omega) hM hS.1 hS.2.1.1 e24 hen.1 hen.2.1 (by decide) (fun c70 => ?_) (fun c70 => ?_))
              · refine aw_if_eq (tgt := 112) dX6_isWord_73 (by decide) (fun zz => absurd zz (by decide)) (fun _ => ?_)
                refine aw_aload_n dX6_isWord_76 rfl rfl ?_
                refine aw_iconst (v := 5) dX6_isWord_77 (by decide) ?_
                refine aw_iload dX6_isWord_78 rfl ?_
                refine aw_V2 dX6_isWord_80 cw_X6_177 ⟨_, _, rfl⟩ hM.1 (by omega) ⟨Nat.le_refl _, Nat.le_refl _⟩ (by decide) (c_X6_isLetter (i := 5) (by omega) hM hS.1 hS.2.1.1 e24 hen.1 hen.2.1 (by decide) (fun c80 => ?_) (fun c80 => ?_))
                · refine aw_if_eq (tgt := 112) dX6_isWord_83 (by decide) (fun zz => absurd zz (by decide)) (fun _ => ?_)
                  refine aw_aload_n dX6_isWord_86 rfl rfl ?_
                  refine aw_bipush (v := 6) dX6_isWord_87 (by decide) ?_
                  refine aw_iload dX6_isWord_89 rfl ?_
                  refine aw_V2 dX6_isWord_91 cw_X6_177 ⟨_, _, rfl⟩ hM.1 (by omega) ⟨Nat.le_refl _, Nat.le_refl _⟩ (by decide) (c_X6_isLetter (i := 6) (by omega) hM hS.1 hS.2.1.1 e24 hen.1 hen.2.1 (by decide) (fun c91 => ?_) (fun c91 => ?_))
                  · refine aw_if_eq (tgt := 112) dX6_isWord_94 (by decide) (fun zz => absurd zz (by decide)) (fun _ => ?_)
                    refine aw_aload_n dX6_isWord_97 rfl rfl ?_
                    refine aw_bipush (v := 7) dX6_isWord_98 (by decide) ?_
                    refine aw_iload dX6_isWord_100 rfl ?_
                    refine aw_V2 dX6_isWord_102 cw_X6_177 ⟨_, _, rfl⟩ hM.1 (by omega) ⟨Nat.le_refl _, Nat.le_refl _⟩ (by decide) (c_X6_isLetter (i := 7) (by omega) hM hS.1 hS.2.1.1 e24 hen.1 hen.2.1 (by decide) (fun c102 => ?_) (fun c102 => ?_))
                    · refine aw_if_eq (tgt := 112) dX6_isWord_105 (by decide) (fun zz => absurd zz (by decide)) (fun _ => ?_)
                      refine aw_iconst (v := 1) dX6_isWord_108 (by decide) ?_
                      refine aw_goto (tgt := 113) dX6_isWord_109 (by decide) ?_
                      refine aw_ireturn (ty := .boolean) dX6_isWord_113 rfl (by decide) ?_
                      exact hT ((tk_wrd (by decide)).mpr ⟨hmk, (wc_or B _ _).mpr ((w8_or hen.2.1 hle).mpr ⟨c32, c41, c50, c60, c70, c80, c91, c102⟩)⟩)
                    · refine aw_if_eq (tgt := 112) dX6_isWord_105 (by decide) (fun _ => ?_) (fun zz => absurd zz (by decide))
                      refine aw_iconst (v := 0) dX6_isWord_112 (by decide) ?_
                      refine aw_ireturn (ty := .boolean) dX6_isWord_113 rfl (by decide) ?_
                      exact hF (fun w => c102 (by have g := (w8_or hen.2.1 hle).mp ((wc_or B _ _).mp ((tk_wrd (by decide)).mp w).2); exact g.2.2.2.2.2.2.2))
                  · refine aw_if_eq (tgt := 112) dX6_isWord_94 (by decide) (fun _ => ?_) (fun zz => absurd zz (by decide))
                    refine aw_iconst (v := 0) dX6_isWord_112 (by decide) ?_
                    refine aw_ireturn (ty := .boolean) dX6_isWord_113 rfl (by decide) ?_
                    exact hF (fun w => c91 (by have g := (w8_or hen.2.1 hle).mp ((wc_or B _ _).mp ((tk_wrd (by decide)).mp w).2); exact g.2.2.2.2.2.2.1))
                · refine aw_if_eq (tgt := 112) dX6_isWord_83 (by decide) (fun _ => ?_) (fun zz => absurd zz (by decide))
                  refine aw_iconst (v := 0) dX6_isWord_112 (by decide) ?_
                  refine aw_ireturn (ty := .boolean) dX6_isWord_113 rfl (by decide) ?_
                  exact hF (fun w => c80 (by have g := (w8_or hen.2.1 hle).mp ((wc_or B _ _).mp ((tk_wrd (by decide)).mp w).2); exact g.2.2.2.2.2.1))
              · refine aw_if_eq (tgt := 112) dX6_isWord_73 (by decide) (fun _ => ?_) (fun zz => absurd zz (by decide))
                refine aw_iconst (v := 0) dX6_isWord_112 (by decide) ?_
                refine aw_ireturn (ty := .boolean) dX6_isWord_113 rfl (by decide) ?_
                exact hF (fun w => c70 (by have g := (w8_or hen.2.1 hle).mp ((wc_or B _ _).mp ((tk_wrd (by decide)).mp w).2); exact g.2.2.2.2.1))
            · refine aw_if_eq (tgt := 112) dX6_isWord_63 (by decide) (fun _ => ?_) (fun zz => absurd zz (by decide))
              refine aw_iconst (v := 0) dX6_isWord_112 (by decide) ?_
              refine aw_ireturn (ty := .boolean) dX6_isWord_113 rfl (by decide) ?_
              exact hF (fun w => c60 (by have g := (w8_or hen.2.1 hle).mp ((wc_or B _ _).mp ((tk_wrd (by decide)).mp w).2); exact g.2.2.2.1))
          · refine aw_if_eq (tgt := 112) dX6_isWord_53 (by decide) (fun _ => ?_) (fun zz => absurd zz (by decide))
            refine aw_iconst (v := 0) dX6_isWord_112 (by decide) ?_
            refine aw_ireturn (ty := .boolean) dX6_isWord_113 rfl (by decide) ?_
            exact hF (fun w => c50 (by have g := (w8_or hen.2.1 hle).mp ((wc_or B _ _).mp ((tk_wrd (by decide)).mp w).2); exact g.2.2.1))
        · refine aw_if_eq (tgt := 112) dX6_isWord_44 (by decide) (fun _ => ?_) (fun zz => absurd zz (by decide))
          refine aw_iconst (v := 0) dX6_isWord_112 (by decide) ?_
          refine aw_ireturn (ty := .boolean) dX6_isWord_113 rfl (by decide) ?_
          exact hF (fun w => c41 (by have g := (w8_or hen.2.1 hle).mp ((wc_or B _ _).mp ((tk_wrd (by decide)).mp w).2); exact g.2.1))
      · refine aw_if_eq (tgt := 112) dX6_isWord_35 (by decide) (fun _ => ?_) (fun zz => absurd zz (by decide))
        refine aw_iconst (v := 0) dX6_isWord_112 (by decide) ?_
        refine aw_ireturn (ty := .boolean) dX6_isWord_113 rfl (by decide) ?_
        exact hF (fun w => c32 (by have g := (w8_or hen.2.1 hle).mp ((wc_or B _ _).mp ((tk_wrd (by decide)).mp w).2); exact g.1))
theorem c_X6_isWord_and {E : Ev} {d : Nat} {I : Mi} {L : Ml} {Z : Mz} {Q : Po}  {B : Nat → Int32} {n t k o : Nat} (hd : 2 ≤ d) (hM : MZ Z) (hS : MS I L B n t k o) (hT : (cdF B n (plF B n k) = 8) → Q (some (.int 1)) I L Z) (hF : ¬ (cdF B n (plF B n k) = 8) → Q (some (.int 0)) I L Z) : AC E yX6_isWord cX6_isWord 9 (some .boolean) d 0 0 [.ref 48, .int 97, .int 110, .int 100, .int 0, .int 0, .int 0, .int 0, .int 0] I L Z Q := by
  refine ac_go (ls := [some (.ref 48), some (.int 97), some (.int 110), some (.int 100), some (.int 0), some (.int 0), some (.int 0), some (.int 0), some (.int 0)]) (by decide +kernel) (Nat.le_of_ble_eq_true rfl) rfl ?_
  refine aw_aload_n dX6_isWord_0 rfl rfl ?_
  refine aw_gi dX6_isWord_1 fw_X6_170 hM.1 ?_
  refine aw_if_ne (tgt := 112) dX6_isWord_4 (by decide) (fun zz => absurd hS.2.2.1 zz) (fun c4 => ?_)
  refine aw_aload_n dX6_isWord_7 rfl rfl ?_
  refine aw_gi dX6_isWord_8 fw_X6_153 hM.1 ?_
  refine aw_iconst (v := 1) dX6_isWord_11 (by decide) ?_
  refine aw_icmp_ne (tgt := 112) dX6_isWord_12 (by decide) (fun c12 => ?_) (fun c12 => ?_)
  · refine aw_iconst (v := 0) dX6_isWord_112 (by decide) ?_
    refine aw_ireturn (ty := .boolean) dX6_isWord_113 rfl (by decide) ?_
    exact hF (fun w => c12 (by rw [hS.2.1.2.1, ((tk_wrd (by decide)).mp w).1]; rfl))
  · have hmk : mkF B n (plF B n k) = 1 := by
      have e := hS.2.1.2.1
      rw [c12] at e
      exact ((nI_eq (a := 1) (by decide) (by have := mk_le B n (plF B n k); omega)).mp e).symm
    have e24 := hS.2.1.2.2.1 (Or.inl hmk)
    have hen := en_bd (B := B) (n := n) (pl_bd (B := B) (n := n) k)
    have hle := en_le (mk1 hmk).1 (mk1 hmk).2
    have hn6 := hS.1.2.2.2.1
    have e26 : I 48 26 + 8 = nI (plF B n k + 8) := by rw [hS.2.1.1]; exact nI_add _ 8
    refine aw_aload_n dX6_isWord_15 rfl rfl ?_
    refine aw_gi dX6_isWord_16 fw_X6_144 hM.1 ?_
    refine aw_aload_n dX6_isWord_19 rfl rfl ?_
    refine aw_gi dX6_isWord_20 fw_X6_150 hM.1 ?_
    refine aw_bipush (v := 8) dX6_isWord_23 (by decide) ?_
    refine aw_iadd dX6_isWord_25 ?_
    refine aw_icmp_gt (tgt := 112) dX6_isWord_26 (by decide) (fun c26 => ?_) (fun c26 => ?_)
    · have c26n : ¬ enT B n (plF B n k) ≤ plF B n k + 8 := fun w => Int32.not_le.mpr c26 (by rw [e24, e26]; exact (nI_leI (by omega) (by omega)).mpr w)
      refine aw_iconst (v := 0) dX6_isWord_112 (by decide) ?_
      refine aw_ireturn (ty := .boolean) dX6_isWord_113 rfl (by decide) ?_
      exact hF (fun w => absurd ((wc_and B _ _).mp ((tk_wrd (by decide)).mp w).2) (fun g => by simp only [wdB, Bool.and_eq_true, beq_iff_eq, List.length_cons, List.length_nil] at g; exact c26n (by omega)))
    · refine aw_aload_n dX6_isWord_29 rfl rfl ?_
      refine aw_iconst (v := 0) dX6_isWord_30 (by decide) ?_
      refine aw_iload_n dX6_isWord_31 rfl ?_
      refine aw_V2 dX6_isWord_32 cw_X6_177 ⟨_, _, rfl⟩ hM.1 (by omega) ⟨Nat.le_refl _, Nat.le_refl _⟩ (by decide) (c_X6_isLetter (i := 0) (by omega) hM hS.1 hS.2.1.1 e24 hen.1 hen.2.1 (by decide) (fun c32 => ?_) (fun c32 => ?_))
      · refine aw_if_eq (tgt := 112) dX6_isWord_35 (by decide) (fun zz => absurd zz (by decide)) (fun _ => ?_)
        refine aw_aload_n dX6_isWord_38 rfl rfl ?_
        refine aw_iconst (v := 1) dX6_isWord_39 (by decide) ?_
        refine aw_iload_n dX6_isWord_40 rfl ?_
        refine aw_V2 dX6_isWord_41 cw_X6_177 ⟨_, _, rfl⟩ hM.1 (by omega) ⟨Nat.le_refl _, Nat.le_refl _⟩ (by decide) (c_X6_isLetter (i := 1) (by omega) hM hS.1 hS.2.1.1 e24 hen.1 hen.2.1 (by decide) (fun c41 => ?_) (fun c41 => ?_))
        · refine aw_if_eq (tgt := 112) dX6_isWord_44 (by decide) (fun zz => absurd zz (by decide)) (fun _ => ?_)
          refine aw_aload_n dX6_isWord_47 rfl rfl ?_
          refine aw_iconst (v := 2) dX6_isWord_48 (by decide) ?_
          refine aw_iload_n dX6_isWord_49 rfl ?_
          refine aw_V2 dX6_isWord_50 cw_X6_177 ⟨_, _, rfl⟩ hM.1 (by omega) ⟨Nat.le_refl _, Nat.le_refl _⟩ (by decide) (c_X6_isLetter (i := 2) (by omega) hM hS.1 hS.2.1.1 e24 hen.1 hen.2.1 (by decide) (fun c50 => ?_) (fun c50 => ?_))
          · refine aw_if_eq (tgt := 112) dX6_isWord_53 (by decide) (fun zz => absurd zz (by decide)) (fun _ => ?_)
            refine aw_aload_n dX6_isWord_56 rfl rfl ?_
            refine aw_iconst (v := 3) dX6_isWord_57 (by decide) ?_
            refine aw_iload dX6_isWord_58 rfl ?_
            refine aw_V2 dX6_isWord_60 cw_X6_177 ⟨_, _, rfl⟩ hM.1 (by omega) ⟨Nat.le_refl _, Nat.le_refl _⟩ (by decide) (c_X6_isLetter (i := 3) (by omega) hM hS.1 hS.2.1.1 e24 hen.1 hen.2.1 (by decide) (fun c60 => ?_) (fun c60 => ?_))
            · refine aw_if_eq (tgt := 112) dX6_isWord_63 (by decide) (fun zz => absurd zz (by decide)) (fun _ => ?_)
              refine aw_aload_n dX6_isWord_66 rfl rfl ?_
              refine aw_iconst (v := 4) dX6_isWord_67 (by decide) ?_
              refine aw_iload dX6_isWord_68 rfl ?_
              refine aw_V2 dX6_isWord_70 cw_X6_177 ⟨_, _, rfl⟩ hM.1 (by omega) ⟨Nat.le_refl _, Nat.le_refl _⟩ (by decide) (c_X6_isLetter (i := 4) (by omega) hM hS.1 hS.2.1.1 e24 hen.1 hen.2.1 (by decide) (fun c70 => ?_) (fun c70 => ?_))
              · refine aw_if_eq (tgt := 112) dX6_isWord_73 (by decide) (fun zz => absurd zz (by decide)) (fun _ => ?_)
                refine aw_aload_n dX6_isWord_76 rfl rfl ?_
                refine aw_iconst (v := 5) dX6_isWord_77 (by decide) ?_
                refine aw_iload dX6_isWord_78 rfl ?_
                refine aw_V2 dX6_isWord_80 cw_X6_177 ⟨_, _, rfl⟩ hM.1 (by omega) ⟨Nat.le_refl _, Nat.le_refl _⟩ (by decide) (c_X6_isLetter (i := 5) (by omega) hM hS.1 hS.2.1.1 e24 hen.1 hen.2.1 (by decide) (fun c80 => ?_) (fun c80 => ?_))
                · refine aw_if_eq (tgt := 112) dX6_isWord_83 (by decide) (fun zz => absurd zz (by decide)) (fun _ => ?_)
                  refine aw_aload_n dX6_isWord_86 rfl rfl ?_
                  refine aw_bipush (v := 6) dX6_isWord_87 (by decide) ?_
                  refine aw_iload dX6_isWord_89 rfl ?_
                  refine aw_V2 dX6_isWord_91 cw_X6_177 ⟨_, _, rfl⟩ hM.1 (by omega) ⟨Nat.le_refl _, Nat.le_refl _⟩ (by decide) (c_X6_isLetter (i := 6) (by omega) hM hS.1 hS.2.1.1 e24 hen.1 hen.2.1 (by decide) (fun c91 => ?_) (fun c91 => ?_))
                  · refine aw_if_eq (tgt := 112) dX6_isWord_94 (by decide) (fun zz => absurd zz (by decide)) (fun _ => ?_)
                    refine aw_aload_n dX6_isWord_97 rfl rfl ?_
                    refine aw_bipush (v := 7) dX6_isWord_98 (by decide) ?_
                    refine aw_iload dX6_isWord_100 rfl ?_
                    refine aw_V2 dX6_isWord_102 cw_X6_177 ⟨_, _, rfl⟩ hM.1 (by omega) ⟨Nat.le_refl _, Nat.le_refl _⟩ (by decide) (c_X6_isLetter (i := 7) (by omega) hM hS.1 hS.2.1.1 e24 hen.1 hen.2.1 (by decide) (fun c102 => ?_) (fun c102 => ?_))
                    · refine aw_if_eq (tgt := 112) dX6_isWord_105 (by decide) (fun zz => absurd zz (by decide)) (fun _ => ?_)
                      refine aw_iconst (v := 1) dX6_isWord_108 (by decide) ?_
                      refine aw_goto (tgt := 113) dX6_isWord_109 (by decide) ?_
                      refine aw_ireturn (ty := .boolean) dX6_isWord_113 rfl (by decide) ?_
                      exact hT ((tk_wrd (by decide)).mpr ⟨hmk, (wc_and B _ _).mpr ((w8_and hen.2.1 hle).mpr ⟨c32, c41, c50, c60, c70, c80, c91, c102⟩)⟩)
                    · refine aw_if_eq (tgt := 112) dX6_isWord_105 (by decide) (fun _ => ?_) (fun zz => absurd zz (by decide))
                      refine aw_iconst (v := 0) dX6_isWord_112 (by decide) ?_
                      refine aw_ireturn (ty := .boolean) dX6_isWord_113 rfl (by decide) ?_
                      exact hF (fun w => c102 (by have g := (w8_and hen.2.1 hle).mp ((wc_and B _ _).mp ((tk_wrd (by decide)).mp w).2); exact g.2.2.2.2.2.2.2))
                  · refine aw_if_eq (tgt := 112) dX6_isWord_94 (by decide) (fun _ => ?_) (fun zz => absurd zz (by decide))
                    refine aw_iconst (v := 0) dX6_isWord_112 (by decide) ?_
                    refine aw_ireturn (ty := .boolean) dX6_isWord_113 rfl (by decide) ?_
                    exact hF (fun w => c91 (by have g := (w8_and hen.2.1 hle).mp ((wc_and B _ _).mp ((tk_wrd (by decide)).mp w).2); exact g.2.2.2.2.2.2.1))
                · refine aw_if_eq (tgt := 112) dX6_isWord_83 (by decide) (fun _ => ?_) (fun zz => absurd zz (by decide))
                  refine aw_iconst (v := 0) dX6_isWord_112 (by decide) ?_
                  refine aw_ireturn (ty := .boolean) dX6_isWord_113 rfl (by decide) ?_
                  exact hF (fun w => c80 (by have g := (w8_and hen.2.1 hle).mp ((wc_and B _ _).mp ((tk_wrd (by decide)).mp w).2); exact g.2.2.2.2.2.1))
              · refine aw_if_eq (tgt := 112) dX6_isWord_73 (by decide) (fun _ => ?_) (fun zz => absurd zz (by decide))
                refine aw_iconst (v := 0) dX6_isWord_112 (by decide) ?_
                refine aw_ireturn (ty := .boolean) dX6_isWord_113 rfl (by decide) ?_
                exact hF (fun w => c70 (by have g := (w8_and hen.2.1 hle).mp ((wc_and B _ _).mp ((tk_wrd (by decide)).mp w).2); exact g.2.2.2.2.1))
            · refine aw_if_eq (tgt := 112) dX6_isWord_63 (by decide) (fun _ => ?_) (fun zz => absurd zz (by decide))
              refine aw_iconst (v := 0) dX6_isWord_112 (by decide) ?_
              refine aw_ireturn (ty := .boolean) dX6_isWord_113 rfl (by decide) ?_
              exact hF (fun w => c60 (by have g := (w8_and hen.2.1 hle).mp ((wc_and B _ _).mp ((tk_wrd (by decide)).mp w).2); exact g.2.2.2.1))
          · refine aw_if_eq (tgt := 112) dX6_isWord_53 (by decide) (fun _ => ?_) (fun zz => absurd zz (by decide))
            refine aw_iconst (v := 0) dX6_isWord_112 (by decide) ?_
            refine aw_ireturn (ty := .boolean) dX6_isWord_113 rfl (by decide) ?_
            exact hF (fun w => c50 (by have g := (w8_and hen.2.1 hle).mp ((wc_and B _ _).mp ((tk_wrd (by decide)).mp w).2); exact g.2.2.1))
        · refine aw_if_eq (tgt := 112) dX6_isWord_44 (by decide) (fun _ => ?_) (fun zz => absurd zz (by decide))
          refine aw_iconst (v := 0) dX6_isWord_112 (by decide) ?_
          refine aw_ireturn (ty := .boolean) dX6_isWord_113 rfl (by decide) ?_
          exact hF (fun w => c41 (by have g := (w8_and hen.2.1 hle).mp ((wc_and B _ _).mp ((tk_wrd (by decide)).mp w).2); exact g.2.1))
      · refine aw_if_eq (tgt := 112) dX6_isWord_35 (by decide) (fun _ => ?_) (fun zz => absurd zz (by decide))
        refine aw_iconst (v := 0) dX6_isWord_112 (by decide) ?_
        refine aw_ireturn (ty := .boolean) dX6_isWord_113 rfl (by decide) ?_
        exact hF (fun w => c32 (by have g := (w8_and hen.2.1 hle).mp ((wc_and B _ _).mp ((tk_wrd (by decide)).mp w).2); exact g.1))
theorem c_X6_isWord_not {E : Ev} {d : Nat} {I : Mi} {L : Ml} {Z : Mz} {Q : Po}  {B : Nat → Int32} {n t k o : Nat} (hd : 2 ≤ d) (hM : MZ Z) (hS : MS I L B n t k o) (hT : (cdF B n (plF B n k) = 9) → Q (some (.int 1)) I L Z) (hF : ¬ (cdF B n (plF B n k) = 9) → Q (some (.int 0)) I L Z) : AC E yX6_isWord cX6_isWord 9 (some .boolean) d 0 0 [.ref 48, .int 110, .int 111, .int 116, .int 0, .int 0, .int 0, .int 0, .int 0] I L Z Q := by
  refine ac_go (ls := [some (.ref 48), some (.int 110), some (.int 111), some (.int 116), some (.int 0), some (.int 0), some (.int 0), some (.int 0), some (.int 0)]) (by decide +kernel) (Nat.le_of_ble_eq_true rfl) rfl ?_
  refine aw_aload_n dX6_isWord_0 rfl rfl ?_
  refine aw_gi dX6_isWord_1 fw_X6_170 hM.1 ?_
  refine aw_if_ne (tgt := 112) dX6_isWord_4 (by decide) (fun zz => absurd hS.2.2.1 zz) (fun c4 => ?_)
  refine aw_aload_n dX6_isWord_7 rfl rfl ?_
  refine aw_gi dX6_isWord_8 fw_X6_153 hM.1 ?_
  refine aw_iconst (v := 1) dX6_isWord_11 (by decide) ?_
  refine aw_icmp_ne (tgt := 112) dX6_isWord_12 (by decide) (fun c12 => ?_) (fun c12 => ?_)
  · refine aw_iconst (v := 0) dX6_isWord_112 (by decide) ?_
    refine aw_ireturn (ty := .boolean) dX6_isWord_113 rfl (by decide) ?_
    exact hF (fun w => c12 (by rw [hS.2.1.2.1, ((tk_wrd (by decide)).mp w).1]; rfl))
  · have hmk : mkF B n (plF B n k) = 1 := by
      have e := hS.2.1.2.1
      rw [c12] at e
      exact ((nI_eq (a := 1) (by decide) (by have := mk_le B n (plF B n k); omega)).mp e).symm
    have e24 := hS.2.1.2.2.1 (Or.inl hmk)
    have hen := en_bd (B := B) (n := n) (pl_bd (B := B) (n := n) k)
    have hle := en_le (mk1 hmk).1 (mk1 hmk).2
    have hn6 := hS.1.2.2.2.1
    have e26 : I 48 26 + 8 = nI (plF B n k + 8) := by rw [hS.2.1.1]; exact nI_add _ 8
    refine aw_aload_n dX6_isWord_15 rfl rfl ?_
    refine aw_gi dX6_isWord_16 fw_X6_144 hM.1 ?_
    refine aw_aload_n dX6_isWord_19 rfl rfl ?_
    refine aw_gi dX6_isWord_20 fw_X6_150 hM.1 ?_
    refine aw_bipush (v := 8) dX6_isWord_23 (by decide) ?_
    refine aw_iadd dX6_isWord_25 ?_
    refine aw_icmp_gt (tgt := 112) dX6_isWord_26 (by decide) (fun c26 => ?_) (fun c26 => ?_)
    · have c26n : ¬ enT B n (plF B n k) ≤ plF B n k + 8 := fun w => Int32.not_le.mpr c26 (by rw [e24, e26]; exact (nI_leI (by omega) (by omega)).mpr w)
      refine aw_iconst (v := 0) dX6_isWord_112 (by decide) ?_
      refine aw_ireturn (ty := .boolean) dX6_isWord_113 rfl (by decide) ?_
      exact hF (fun w => absurd ((wc_not B _ _).mp ((tk_wrd (by decide)).mp w).2) (fun g => by simp only [wdB, Bool.and_eq_true, beq_iff_eq, List.length_cons, List.length_nil] at g; exact c26n (by omega)))
    · refine aw_aload_n dX6_isWord_29 rfl rfl ?_
      refine aw_iconst (v := 0) dX6_isWord_30 (by decide) ?_
      refine aw_iload_n dX6_isWord_31 rfl ?_
      refine aw_V2 dX6_isWord_32 cw_X6_177 ⟨_, _, rfl⟩ hM.1 (by omega) ⟨Nat.le_refl _, Nat.le_refl _⟩ (by decide) (c_X6_isLetter (i := 0) (by omega) hM hS.1 hS.2.1.1 e24 hen.1 hen.2.1 (by decide) (fun c32 => ?_) (fun c32 => ?_))
      · refine aw_if_eq (tgt := 112) dX6_isWord_35 (by decide) (fun zz => absurd zz (by decide)) (fun _ => ?_)
        refine aw_aload_n dX6_isWord_38 rfl rfl ?_
        refine aw_iconst (v := 1) dX6_isWord_39 (by decide) ?_
        refine aw_iload_n dX6_isWord_40 rfl ?_
        refine aw_V2 dX6_isWord_41 cw_X6_177 ⟨_, _, rfl⟩ hM.1 (by omega) ⟨Nat.le_refl _, Nat.le_refl _⟩ (by decide) (c_X6_isLetter (i := 1) (by omega) hM hS.1 hS.2.1.1 e24 hen.1 hen.2.1 (by decide) (fun c41 => ?_) (fun c41 => ?_))
        · refine aw_if_eq (tgt := 112) dX6_isWord_44 (by decide) (fun zz => absurd zz (by decide)) (fun _ => ?_)
          refine aw_aload_n dX6_isWord_47 rfl rfl ?_
          refine aw_iconst (v := 2) dX6_isWord_48 (by decide) ?_
          refine aw_iload_n dX6_isWord_49 rfl ?_
          refine aw_V2 dX6_isWord_50 cw_X6_177 ⟨_, _, rfl⟩ hM.1 (by omega) ⟨Nat.le_refl _, Nat.le_refl _⟩ (by decide) (c_X6_isLetter (i := 2) (by omega) hM hS.1 hS.2.1.1 e24 hen.1 hen.2.1 (by decide) (fun c50 => ?_) (fun c50 => ?_))
          · refine aw_if_eq (tgt := 112) dX6_isWord_53 (by decide) (fun zz => absurd zz (by decide)) (fun _ => ?_)
            refine aw_aload_n dX6_isWord_56 rfl rfl ?_
            refine aw_iconst (v := 3) dX6_isWord_57 (by decide) ?_
            refine aw_iload dX6_isWord_58 rfl ?_
            refine aw_V2 dX6_isWord_60 cw_X6_177 ⟨_, _, rfl⟩ hM.1 (by omega) ⟨Nat.le_refl _, Nat.le_refl _⟩ (by decide) (c_X6_isLetter (i := 3) (by omega) hM hS.1 hS.2.1.1 e24 hen.1 hen.2.1 (by decide) (fun c60 => ?_) (fun c60 => ?_))
            · refine aw_if_eq (tgt := 112) dX6_isWord_63 (by decide) (fun zz => absurd zz (by decide)) (fun _ => ?_)
              refine aw_aload_n dX6_isWord_66 rfl rfl ?_
              refine aw_iconst (v := 4) dX6_isWord_67 (by decide) ?_
              refine aw_iload dX6_isWord_68 rfl ?_
              refine aw_V2 dX6_isWord_70 cw_X6_177 ⟨_, _, rfl⟩ hM.1 (by omega) ⟨Nat.le_refl _, Nat.le_refl _⟩ (by decide) (c_X6_isLetter (i := 4) (by omega) hM hS.1 hS.2.1.1 e24 hen.1 hen.2.1 (by decide) (fun c70 => ?_) (fun c70 => ?_))
              · refine aw_if_eq (tgt := 112) dX6_isWord_73 (by decide) (fun zz => absurd zz (by decide)) (fun _ => ?_)
                refine aw_aload_n dX6_isWord_76 rfl rfl ?_
                refine aw_iconst (v := 5) dX6_isWord_77 (by decide) ?_
                refine aw_iload dX6_isWord_78 rfl ?_
                refine aw_V2 dX6_isWord_80 cw_X6_177 ⟨_, _, rfl⟩ hM.1 (by omega) ⟨Nat.le_refl _, Nat.le_refl _⟩ (by decide) (c_X6_isLetter (i := 5) (by omega) hM hS.1 hS.2.1.1 e24 hen.1 hen.2.1 (by decide) (fun c80 => ?_) (fun c80 => ?_))
                · refine aw_if_eq (tgt := 112) dX6_isWord_83 (by decide) (fun zz => absurd zz (by decide)) (fun _ => ?_)
                  refine aw_aload_n dX6_isWord_86 rfl rfl ?_
                  refine aw_bipush (v := 6) dX6_isWord_87 (by decide) ?_
                  refine aw_iload dX6_isWord_89 rfl ?_
                  refine aw_V2 dX6_isWord_91 cw_X6_177 ⟨_, _, rfl⟩ hM.1 (by omega) ⟨Nat.le_refl _, Nat.le_refl _⟩ (by decide) (c_X6_isLetter (i := 6) (by omega) hM hS.1 hS.2.1.1 e24 hen.1 hen.2.1 (by decide) (fun c91 => ?_) (fun c91 => ?_))
                  · refine aw_if_eq (tgt := 112) dX6_isWord_94 (by decide) (fun zz => absurd zz (by decide)) (fun _ => ?_)
                    refine aw_aload_n dX6_isWord_97 rfl rfl ?_
                    refine aw_bipush (v := 7) dX6_isWord_98 (by decide) ?_
                    refine aw_iload dX6_isWord_100 rfl ?_
                    refine aw_V2 dX6_isWord_102 cw_X6_177 ⟨_, _, rfl⟩ hM.1 (by omega) ⟨Nat.le_refl _, Nat.le_refl _⟩ (by decide) (c_X6_isLetter (i := 7) (by omega) hM hS.1 hS.2.1.1 e24 hen.1 hen.2.1 (by decide) (fun c102 => ?_) (fun c102 => ?_))
                    · refine aw_if_eq (tgt := 112) dX6_isWord_105 (by decide) (fun zz => absurd zz (by decide)) (fun _ => ?_)
                      refine aw_iconst (v := 1) dX6_isWord_108 (by decide) ?_
                      refine aw_goto (tgt := 113) dX6_isWord_109 (by decide) ?_
                      refine aw_ireturn (ty := .boolean) dX6_isWord_113 rfl (by decide) ?_
                      exact hT ((tk_wrd (by decide)).mpr ⟨hmk, (wc_not B _ _).mpr ((w8_not hen.2.1 hle).mpr ⟨c32, c41, c50, c60, c70, c80, c91, c102⟩)⟩)
                    · refine aw_if_eq (tgt := 112) dX6_isWord_105 (by decide) (fun _ => ?_) (fun zz => absurd zz (by decide))
                      refine aw_iconst (v := 0) dX6_isWord_112 (by decide) ?_
                      refine aw_ireturn (ty := .boolean) dX6_isWord_113 rfl (by decide) ?_
                      exact hF (fun w => c102 (by have g := (w8_not hen.2.1 hle).mp ((wc_not B _ _).mp ((tk_wrd (by decide)).mp w).2); exact g.2.2.2.2.2.2.2))
                  · refine aw_if_eq (tgt := 112) dX6_isWord_94 (by decide) (fun _ => ?_) (fun zz => absurd zz (by decide))
                    refine aw_iconst (v := 0) dX6_isWord_112 (by decide) ?_
                    refine aw_ireturn (ty := .boolean) dX6_isWord_113 rfl (by decide) ?_
                    exact hF (fun w => c91 (by have g := (w8_not hen.2.1 hle).mp ((wc_not B _ _).mp ((tk_wrd (by decide)).mp w).2); exact g.2.2.2.2.2.2.1))
                · refine aw_if_eq (tgt := 112) dX6_isWord_83 (by decide) (fun _ => ?_) (fun zz => absurd zz (by decide))
                  refine aw_iconst (v := 0) dX6_isWord_112 (by decide) ?_
                  refine aw_ireturn (ty := .boolean) dX6_isWord_113 rfl (by decide) ?_
                  exact hF (fun w => c80 (by have g := (w8_not hen.2.1 hle).mp ((wc_not B _ _).mp ((tk_wrd (by decide)).mp w).2); exact g.2.2.2.2.2.1))
              · refine aw_if_eq (tgt := 112) dX6_isWord_73 (by decide) (fun _ => ?_) (fun zz => absurd zz (by decide))
                refine aw_iconst (v := 0) dX6_isWord_112 (by decide) ?_
                refine aw_ireturn (ty := .boolean) dX6_isWord_113 rfl (by decide) ?_
                exact hF (fun w => c70 (by have g := (w8_not hen.2.1 hle).mp ((wc_not B _ _).mp ((tk_wrd (by decide)).mp w).2); exact g.2.2.2.2.1))
            · refine aw_if_eq (tgt := 112) dX6_isWord_63 (by decide) (fun _ => ?_) (fun zz => absurd zz (by decide))
              refine aw_iconst (v := 0) dX6_isWord_112 (by decide) ?_
              refine aw_ireturn (ty := .boolean) dX6_isWord_113 rfl (by decide) ?_
              exact hF (fun w => c60 (by have g := (w8_not hen.2.1 hle).mp ((wc_not B _ _).mp ((tk_wrd (by decide)).mp w).2); exact g.2.2.2.1))
          · refine aw_if_eq (tgt := 112) dX6_isWord_53 (by decide) (fun _ => ?_) (fun zz => absurd zz (by decide))
            refine aw_iconst (v := 0) dX6_isWord_112 (by decide) ?_
            refine aw_ireturn (ty := .boolean) dX6_isWord_113 rfl (by decide) ?_
            exact hF (fun w => c50 (by have g := (w8_not hen.2.1 hle).mp ((wc_not B _ _).mp ((tk_wrd (by decide)).mp w).2); exact g.2.2.1))
        · refine aw_if_eq (tgt := 112) dX6_isWord_44 (by decide) (fun _ => ?_) (fun zz => absurd zz (by decide))
          refine aw_iconst (v := 0) dX6_isWord_112 (by decide) ?_
          refine aw_ireturn (ty := .boolean) dX6_isWord_113 rfl (by decide) ?_
          exact hF (fun w => c41 (by have g := (w8_not hen.2.1 hle).mp ((wc_not B _ _).mp ((tk_wrd (by decide)).mp w).2); exact g.2.1))
      · refine aw_if_eq (tgt := 112) dX6_isWord_35 (by decide) (fun _ => ?_) (fun zz => absurd zz (by decide))
        refine aw_iconst (v := 0) dX6_isWord_112 (by decide) ?_
        refine aw_ireturn (ty := .boolean) dX6_isWord_113 rfl (by decide) ?_
        exact hF (fun w => c32 (by have g := (w8_not hen.2.1 hle).mp ((wc_not B _ _).mp ((tk_wrd (by decide)).mp w).2); exact g.1))
theorem c_X6_isWord_grounds {E : Ev} {d : Nat} {I : Mi} {L : Ml} {Z : Mz} {Q : Po}  {B : Nat → Int32} {n t k o : Nat} (hd : 2 ≤ d) (hM : MZ Z) (hS : MS I L B n t k o) (hT : (cdF B n (plF B n k) = 32) → Q (some (.int 1)) I L Z) (hF : ¬ (cdF B n (plF B n k) = 32) → Q (some (.int 0)) I L Z) : AC E yX6_isWord cX6_isWord 9 (some .boolean) d 0 0 [.ref 48, .int 103, .int 114, .int 111, .int 117, .int 110, .int 100, .int 115, .int 0] I L Z Q := by
  refine ac_go (ls := [some (.ref 48), some (.int 103), some (.int 114), some (.int 111), some (.int 117), some (.int 110), some (.int 100), some (.int 115), some (.int 0)]) (by decide +kernel) (Nat.le_of_ble_eq_true rfl) rfl ?_
  refine aw_aload_n dX6_isWord_0 rfl rfl ?_
  refine aw_gi dX6_isWord_1 fw_X6_170 hM.1 ?_
  refine aw_if_ne (tgt := 112) dX6_isWord_4 (by decide) (fun zz => absurd hS.2.2.1 zz) (fun c4 => ?_)
  refine aw_aload_n dX6_isWord_7 rfl rfl ?_
  refine aw_gi dX6_isWord_8 fw_X6_153 hM.1 ?_
  refine aw_iconst (v := 1) dX6_isWord_11 (by decide) ?_
  refine aw_icmp_ne (tgt := 112) dX6_isWord_12 (by decide) (fun c12 => ?_) (fun c12 => ?_)
  · refine aw_iconst (v := 0) dX6_isWord_112 (by decide) ?_
    refine aw_ireturn (ty := .boolean) dX6_isWord_113 rfl (by decide) ?_
    exact hF (fun w => c12 (by rw [hS.2.1.2.1, ((tk_wrd (by decide)).mp w).1]; rfl))
  · have hmk : mkF B n (plF B n k) = 1 := by
      have e := hS.2.1.2.1
      rw [c12] at e
      exact ((nI_eq (a := 1) (by decide) (by have := mk_le B n (plF B n k); omega)).mp e).symm
    have e24 := hS.2.1.2.2.1 (Or.inl hmk)
    have hen := en_bd (B := B) (n := n) (pl_bd (B := B) (n := n) k)
    have hle := en_le (mk1 hmk).1 (mk1 hmk).2
    have hn6 := hS.1.2.2.2.1
    have e26 : I 48 26 + 8 = nI (plF B n k + 8) := by rw [hS.2.1.1]; exact nI_add _ 8
    refine aw_aload_n dX6_isWord_15 rfl rfl ?_
    refine aw_gi dX6_isWord_16 fw_X6_144 hM.1 ?_
    refine aw_aload_n dX6_isWord_19 rfl rfl ?_
    refine aw_gi dX6_isWord_20 fw_X6_150 hM.1 ?_
    refine aw_bipush (v := 8) dX6_isWord_23 (by decide) ?_
    refine aw_iadd dX6_isWord_25 ?_
    refine aw_icmp_gt (tgt := 112) dX6_isWord_26 (by decide) (fun c26 => ?_) (fun c26 => ?_)
    · have c26n : ¬ enT B n (plF B n k) ≤ plF B n k + 8 := fun w => Int32.not_le.mpr c26 (by rw [e24, e26]; exact (nI_leI (by omega) (by omega)).mpr w)
      refine aw_iconst (v := 0) dX6_isWord_112 (by decide) ?_
      refine aw_ireturn (ty := .boolean) dX6_isWord_113 rfl (by decide) ?_
      exact hF (fun w => absurd ((wc_grounds B _ _).mp ((tk_wrd (by decide)).mp w).2) (fun g => by simp only [wdB, Bool.and_eq_true, beq_iff_eq, List.length_cons, List.length_nil] at g; exact c26n (by omega)))
    · refine aw_aload_n dX6_isWord_29 rfl rfl ?_
      refine aw_iconst (v := 0) dX6_isWord_30 (by decide) ?_
      refine aw_iload_n dX6_isWord_31 rfl ?_
      refine aw_V2 dX6_isWord_32 cw_X6_177 ⟨_, _, rfl⟩ hM.1 (by omega) ⟨Nat.le_refl _, Nat.le_refl _⟩ (by decide) (c_X6_isLetter (i := 0) (by omega) hM hS.1 hS.2.1.1 e24 hen.1 hen.2.1 (by decide) (fun c32 => ?_) (fun c32 => ?_))
      · refine aw_if_eq (tgt := 112) dX6_isWord_35 (by decide) (fun zz => absurd zz (by decide)) (fun _ => ?_)
        refine aw_aload_n dX6_isWord_38 rfl rfl ?_
        refine aw_iconst (v := 1) dX6_isWord_39 (by decide) ?_
        refine aw_iload_n dX6_isWord_40 rfl ?_
        refine aw_V2 dX6_isWord_41 cw_X6_177 ⟨_, _, rfl⟩ hM.1 (by omega) ⟨Nat.le_refl _, Nat.le_refl _⟩ (by decide) (c_X6_isLetter (i := 1) (by omega) hM hS.1 hS.2.1.1 e24 hen.1 hen.2.1 (by decide) (fun c41 => ?_) (fun c41 => ?_))
        · refine aw_if_eq (tgt := 112) dX6_isWord_44 (by decide) (fun zz => absurd zz (by decide)) (fun _ => ?_)
          refine aw_aload_n dX6_isWord_47 rfl rfl ?_
          refine aw_iconst (v := 2) dX6_isWord_48 (by decide) ?_
          refine aw_iload_n dX6_isWord_49 rfl ?_
          refine aw_V2 dX6_isWord_50 cw_X6_177 ⟨_, _, rfl⟩ hM.1 (by omega) ⟨Nat.le_refl _, Nat.le_refl _⟩ (by decide) (c_X6_isLetter (i := 2) (by omega) hM hS.1 hS.2.1.1 e24 hen.1 hen.2.1 (by decide) (fun c50 => ?_) (fun c50 => ?_))
          · refine aw_if_eq (tgt := 112) dX6_isWord_53 (by decide) (fun zz => absurd zz (by decide)) (fun _ => ?_)
            refine aw_aload_n dX6_isWord_56 rfl rfl ?_
            refine aw_iconst (v := 3) dX6_isWord_57 (by decide) ?_
            refine aw_iload dX6_isWord_58 rfl ?_
            refine aw_V2 dX6_isWord_60 cw_X6_177 ⟨_, _, rfl⟩ hM.1 (by omega) ⟨Nat.le_refl _, Nat.le_refl _⟩ (by decide) (c_X6_isLetter (i := 3) (by omega) hM hS.1 hS.2.1.1 e24 hen.1 hen.2.1 (by decide) (fun c60 => ?_) (fun c60 => ?_))
            · refine aw_if_eq (tgt := 112) dX6_isWord_63 (by decide) (fun zz => absurd zz (by decide)) (fun _ => ?_)
              refine aw_aload_n dX6_isWord_66 rfl rfl ?_
              refine aw_iconst (v := 4) dX6_isWord_67 (by decide) ?_
              refine aw_iload dX6_isWord_68 rfl ?_
              refine aw_V2 dX6_isWord_70 cw_X6_177 ⟨_, _, rfl⟩ hM.1 (by omega) ⟨Nat.le_refl _, Nat.le_refl _⟩ (by decide) (c_X6_isLetter (i := 4) (by omega) hM hS.1 hS.2.1.1 e24 hen.1 hen.2.1 (by decide) (fun c70 => ?_) (fun c70 => ?_))
              · refine aw_if_eq (tgt := 112) dX6_isWord_73 (by decide) (fun zz => absurd zz (by decide)) (fun _ => ?_)
                refine aw_aload_n dX6_isWord_76 rfl rfl ?_
                refine aw_iconst (v := 5) dX6_isWord_77 (by decide) ?_
                refine aw_iload dX6_isWord_78 rfl ?_
                refine aw_V2 dX6_isWord_80 cw_X6_177 ⟨_, _, rfl⟩ hM.1 (by omega) ⟨Nat.le_refl _, Nat.le_refl _⟩ (by decide) (c_X6_isLetter (i := 5) (by omega) hM hS.1 hS.2.1.1 e24 hen.1 hen.2.1 (by decide) (fun c80 => ?_) (fun c80 => ?_))
                · refine aw_if_eq (tgt := 112) dX6_isWord_83 (by decide) (fun zz => absurd zz (by decide)) (fun _ => ?_)
                  refine aw_aload_n dX6_isWord_86 rfl rfl ?_
                  refine aw_bipush (v := 6) dX6_isWord_87 (by decide) ?_
                  refine aw_iload dX6_isWord_89 rfl ?_
                  refine aw_V2 dX6_isWord_91 cw_X6_177 ⟨_, _, rfl⟩ hM.1 (by omega) ⟨Nat.le_refl _, Nat.le_refl _⟩ (by decide) (c_X6_isLetter (i := 6) (by omega) hM hS.1 hS.2.1.1 e24 hen.1 hen.2.1 (by decide) (fun c91 => ?_) (fun c91 => ?_))
                  · refine aw_if_eq (tgt := 112) dX6_isWord_94 (by decide) (fun zz => absurd zz (by decide)) (fun _ => ?_)
                    refine aw_aload_n dX6_isWord_97 rfl rfl ?_
                    refine aw_bipush (v := 7) dX6_isWord_98 (by decide) ?_
                    refine aw_iload dX6_isWord_100 rfl ?_
                    refine aw_V2 dX6_isWord_102 cw_X6_177 ⟨_, _, rfl⟩ hM.1 (by omega) ⟨Nat.le_refl _, Nat.le_refl _⟩ (by decide) (c_X6_isLetter (i := 7) (by omega) hM hS.1 hS.2.1.1 e24 hen.1 hen.2.1 (by decide) (fun c102 => ?_) (fun c102 => ?_))
                    · refine aw_if_eq (tgt := 112) dX6_isWord_105 (by decide) (fun zz => absurd zz (by decide)) (fun _ => ?_)
                      refine aw_iconst (v := 1) dX6_isWord_108 (by decide) ?_
                      refine aw_goto (tgt := 113) dX6_isWord_109 (by decide) ?_
                      refine aw_ireturn (ty := .boolean) dX6_isWord_113 rfl (by decide) ?_
                      exact hT ((tk_wrd (by decide)).mpr ⟨hmk, (wc_grounds B _ _).mpr ((w8_grounds hen.2.1 hle).mpr ⟨c32, c41, c50, c60, c70, c80, c91, c102⟩)⟩)
                    · refine aw_if_eq (tgt := 112) dX6_isWord_105 (by decide) (fun _ => ?_) (fun zz => absurd zz (by decide))
                      refine aw_iconst (v := 0) dX6_isWord_112 (by decide) ?_
                      refine aw_ireturn (ty := .boolean) dX6_isWord_113 rfl (by decide) ?_
                      exact hF (fun w => c102 (by have g := (w8_grounds hen.2.1 hle).mp ((wc_grounds B _ _).mp ((tk_wrd (by decide)).mp w).2); exact g.2.2.2.2.2.2.2))
                  · refine aw_if_eq (tgt := 112) dX6_isWord_94 (by decide) (fun _ => ?_) (fun zz => absurd zz (by decide))
                    refine aw_iconst (v := 0) dX6_isWord_112 (by decide) ?_
                    refine aw_ireturn (ty := .boolean) dX6_isWord_113 rfl (by decide) ?_
                    exact hF (fun w => c91 (by have g := (w8_grounds hen.2.1 hle).mp ((wc_grounds B _ _).mp ((tk_wrd (by decide)).mp w).2); exact g.2.2.2.2.2.2.1))
                · refine aw_if_eq (tgt := 112) dX6_isWord_83 (by decide) (fun _ => ?_) (fun zz => absurd zz (by decide))
                  refine aw_iconst (v := 0) dX6_isWord_112 (by decide) ?_
                  refine aw_ireturn (ty := .boolean) dX6_isWord_113 rfl (by decide) ?_
                  exact hF (fun w => c80 (by have g := (w8_grounds hen.2.1 hle).mp ((wc_grounds B _ _).mp ((tk_wrd (by decide)).mp w).2); exact g.2.2.2.2.2.1))
              · refine aw_if_eq (tgt := 112) dX6_isWord_73 (by decide) (fun _ => ?_) (fun zz => absurd zz (by decide))
                refine aw_iconst (v := 0) dX6_isWord_112 (by decide) ?_
                refine aw_ireturn (ty := .boolean) dX6_isWord_113 rfl (by decide) ?_
                exact hF (fun w => c70 (by have g := (w8_grounds hen.2.1 hle).mp ((wc_grounds B _ _).mp ((tk_wrd (by decide)).mp w).2); exact g.2.2.2.2.1))
            · refine aw_if_eq (tgt := 112) dX6_isWord_63 (by decide) (fun _ => ?_) (fun zz => absurd zz (by decide))
              refine aw_iconst (v := 0) dX6_isWord_112 (by decide) ?_
              refine aw_ireturn (ty := .boolean) dX6_isWord_113 rfl (by decide) ?_
              exact hF (fun w => c60 (by have g := (w8_grounds hen.2.1 hle).mp ((wc_grounds B _ _).mp ((tk_wrd (by decide)).mp w).2); exact g.2.2.2.1))
          · refine aw_if_eq (tgt := 112) dX6_isWord_53 (by decide) (fun _ => ?_) (fun zz => absurd zz (by decide))
            refine aw_iconst (v := 0) dX6_isWord_112 (by decide) ?_
            refine aw_ireturn (ty := .boolean) dX6_isWord_113 rfl (by decide) ?_
            exact hF (fun w => c50 (by have g := (w8_grounds hen.2.1 hle).mp ((wc_grounds B _ _).mp ((tk_wrd (by decide)).mp w).2); exact g.2.2.1))
        · refine aw_if_eq (tgt := 112) dX6_isWord_44 (by decide) (fun _ => ?_) (fun zz => absurd zz (by decide))
          refine aw_iconst (v := 0) dX6_isWord_112 (by decide) ?_
          refine aw_ireturn (ty := .boolean) dX6_isWord_113 rfl (by decide) ?_
          exact hF (fun w => c41 (by have g := (w8_grounds hen.2.1 hle).mp ((wc_grounds B _ _).mp ((tk_wrd (by decide)).mp w).2); exact g.2.1))
      · refine aw_if_eq (tgt := 112) dX6_isWord_35 (by decide) (fun _ => ?_) (fun zz => absurd zz (by decide))
        refine aw_iconst (v := 0) dX6_isWord_112 (by decide) ?_
        refine aw_ireturn (ty := .boolean) dX6_isWord_113 rfl (by decide) ?_
        exact hF (fun w => c32 (by have g := (w8_grounds hen.2.1 hle).mp ((wc_grounds B _ _).mp ((tk_wrd (by decide)).mp w).2); exact g.1))
theorem c_X6_isWord_saying {E : Ev} {d : Nat} {I : Mi} {L : Ml} {Z : Mz} {Q : Po}  {B : Nat → Int32} {n t k o : Nat} (hd : 2 ≤ d) (hM : MZ Z) (hS : MS I L B n t k o) (hT : (cdF B n (plF B n k) = 33) → Q (some (.int 1)) I L Z) (hF : ¬ (cdF B n (plF B n k) = 33) → Q (some (.int 0)) I L Z) : AC E yX6_isWord cX6_isWord 9 (some .boolean) d 0 0 [.ref 48, .int 115, .int 97, .int 121, .int 105, .int 110, .int 103, .int 0, .int 0] I L Z Q := by
  refine ac_go (ls := [some (.ref 48), some (.int 115), some (.int 97), some (.int 121), some (.int 105), some (.int 110), some (.int 103), some (.int 0), some (.int 0)]) (by decide +kernel) (Nat.le_of_ble_eq_true rfl) rfl ?_
  refine aw_aload_n dX6_isWord_0 rfl rfl ?_
  refine aw_gi dX6_isWord_1 fw_X6_170 hM.1 ?_
  refine aw_if_ne (tgt := 112) dX6_isWord_4 (by decide) (fun zz => absurd hS.2.2.1 zz) (fun c4 => ?_)
  refine aw_aload_n dX6_isWord_7 rfl rfl ?_
  refine aw_gi dX6_isWord_8 fw_X6_153 hM.1 ?_
  refine aw_iconst (v := 1) dX6_isWord_11 (by decide) ?_
  refine aw_icmp_ne (tgt := 112) dX6_isWord_12 (by decide) (fun c12 => ?_) (fun c12 => ?_)
  · refine aw_iconst (v := 0) dX6_isWord_112 (by decide) ?_
    refine aw_ireturn (ty := .boolean) dX6_isWord_113 rfl (by decide) ?_
    exact hF (fun w => c12 (by rw [hS.2.1.2.1, ((tk_wrd (by decide)).mp w).1]; rfl))
  · have hmk : mkF B n (plF B n k) = 1 := by
      have e := hS.2.1.2.1
      rw [c12] at e
      exact ((nI_eq (a := 1) (by decide) (by have := mk_le B n (plF B n k); omega)).mp e).symm
    have e24 := hS.2.1.2.2.1 (Or.inl hmk)
    have hen := en_bd (B := B) (n := n) (pl_bd (B := B) (n := n) k)
    have hle := en_le (mk1 hmk).1 (mk1 hmk).2
    have hn6 := hS.1.2.2.2.1
    have e26 : I 48 26 + 8 = nI (plF B n k + 8) := by rw [hS.2.1.1]; exact nI_add _ 8
    refine aw_aload_n dX6_isWord_15 rfl rfl ?_
    refine aw_gi dX6_isWord_16 fw_X6_144 hM.1 ?_
    refine aw_aload_n dX6_isWord_19 rfl rfl ?_
    refine aw_gi dX6_isWord_20 fw_X6_150 hM.1 ?_
    refine aw_bipush (v := 8) dX6_isWord_23 (by decide) ?_
    refine aw_iadd dX6_isWord_25 ?_
    refine aw_icmp_gt (tgt := 112) dX6_isWord_26 (by decide) (fun c26 => ?_) (fun c26 => ?_)
    · have c26n : ¬ enT B n (plF B n k) ≤ plF B n k + 8 := fun w => Int32.not_le.mpr c26 (by rw [e24, e26]; exact (nI_leI (by omega) (by omega)).mpr w)
      refine aw_iconst (v := 0) dX6_isWord_112 (by decide) ?_
      refine aw_ireturn (ty := .boolean) dX6_isWord_113 rfl (by decide) ?_
      exact hF (fun w => absurd ((wc_saying B _ _).mp ((tk_wrd (by decide)).mp w).2) (fun g => by simp only [wdB, Bool.and_eq_true, beq_iff_eq, List.length_cons, List.length_nil] at g; exact c26n (by omega)))
    · refine aw_aload_n dX6_isWord_29 rfl rfl ?_
      refine aw_iconst (v := 0) dX6_isWord_30 (by decide) ?_
      refine aw_iload_n dX6_isWord_31 rfl ?_
      refine aw_V2 dX6_isWord_32 cw_X6_177 ⟨_, _, rfl⟩ hM.1 (by omega) ⟨Nat.le_refl _, Nat.le_refl _⟩ (by decide) (c_X6_isLetter (i := 0) (by omega) hM hS.1 hS.2.1.1 e24 hen.1 hen.2.1 (by decide) (fun c32 => ?_) (fun c32 => ?_))
      · refine aw_if_eq (tgt := 112) dX6_isWord_35 (by decide) (fun zz => absurd zz (by decide)) (fun _ => ?_)
        refine aw_aload_n dX6_isWord_38 rfl rfl ?_
        refine aw_iconst (v := 1) dX6_isWord_39 (by decide) ?_
        refine aw_iload_n dX6_isWord_40 rfl ?_
        refine aw_V2 dX6_isWord_41 cw_X6_177 ⟨_, _, rfl⟩ hM.1 (by omega) ⟨Nat.le_refl _, Nat.le_refl _⟩ (by decide) (c_X6_isLetter (i := 1) (by omega) hM hS.1 hS.2.1.1 e24 hen.1 hen.2.1 (by decide) (fun c41 => ?_) (fun c41 => ?_))
        · refine aw_if_eq (tgt := 112) dX6_isWord_44 (by decide) (fun zz => absurd zz (by decide)) (fun _ => ?_)
          refine aw_aload_n dX6_isWord_47 rfl rfl ?_
          refine aw_iconst (v := 2) dX6_isWord_48 (by decide) ?_
          refine aw_iload_n dX6_isWord_49 rfl ?_
          refine aw_V2 dX6_isWord_50 cw_X6_177 ⟨_, _, rfl⟩ hM.1 (by omega) ⟨Nat.le_refl _, Nat.le_refl _⟩ (by decide) (c_X6_isLetter (i := 2) (by omega) hM hS.1 hS.2.1.1 e24 hen.1 hen.2.1 (by decide) (fun c50 => ?_) (fun c50 => ?_))
          · refine aw_if_eq (tgt := 112) dX6_isWord_53 (by decide) (fun zz => absurd zz (by decide)) (fun _ => ?_)
            refine aw_aload_n dX6_isWord_56 rfl rfl ?_
            refine aw_iconst (v := 3) dX6_isWord_57 (by decide) ?_
            refine aw_iload dX6_isWord_58 rfl ?_
            refine aw_V2 dX6_isWord_60 cw_X6_177 ⟨_, _, rfl⟩ hM.1 (by omega) ⟨Nat.le_refl _, Nat.le_refl _⟩ (by decide) (c_X6_isLetter (i := 3) (by omega) hM hS.1 hS.2.1.1 e24 hen.1 hen.2.1 (by decide) (fun c60 => ?_) (fun c60 => ?_))
            · refine aw_if_eq (tgt := 112) dX6_isWord_63 (by decide) (fun zz => absurd zz (by decide)) (fun _ => ?_)
              refine aw_aload_n dX6_isWord_66 rfl rfl ?_
              refine aw_iconst (v := 4) dX6_isWord_67 (by decide) ?_
              refine aw_iload dX6_isWord_68 rfl ?_
              refine aw_V2 dX6_isWord_70 cw_X6_177 ⟨_, _, rfl⟩ hM.1 (by omega) ⟨Nat.le_refl _, Nat.le_refl _⟩ (by decide) (c_X6_isLetter (i := 4) (by omega) hM hS.1 hS.2.1.1 e24 hen.1 hen.2.1 (by decide) (fun c70 => ?_) (fun c70 => ?_))
              · refine aw_if_eq (tgt := 112) dX6_isWord_73 (by decide) (fun zz => absurd zz (by decide)) (fun _ => ?_)
                refine aw_aload_n dX6_isWord_76 rfl rfl ?_
                refine aw_iconst (v := 5) dX6_isWord_77 (by decide) ?_
                refine aw_iload dX6_isWord_78 rfl ?_
                refine aw_V2 dX6_isWord_80 cw_X6_177 ⟨_, _, rfl⟩ hM.1 (by omega) ⟨Nat.le_refl _, Nat.le_refl _⟩ (by decide) (c_X6_isLetter (i := 5) (by omega) hM hS.1 hS.2.1.1 e24 hen.1 hen.2.1 (by decide) (fun c80 => ?_) (fun c80 => ?_))
                · refine aw_if_eq (tgt := 112) dX6_isWord_83 (by decide) (fun zz => absurd zz (by decide)) (fun _ => ?_)
                  refine aw_aload_n dX6_isWord_86 rfl rfl ?_
                  refine aw_bipush (v := 6) dX6_isWord_87 (by decide) ?_
                  refine aw_iload dX6_isWord_89 rfl ?_
                  refine aw_V2 dX6_isWord_91 cw_X6_177 ⟨_, _, rfl⟩ hM.1 (by omega) ⟨Nat.le_refl _, Nat.le_refl _⟩ (by decide) (c_X6_isLetter (i := 6) (by omega) hM hS.1 hS.2.1.1 e24 hen.1 hen.2.1 (by decide) (fun c91 => ?_) (fun c91 => ?_))
                  · refine aw_if_eq (tgt := 112) dX6_isWord_94 (by decide) (fun zz => absurd zz (by decide)) (fun _ => ?_)
                    refine aw_aload_n dX6_isWord_97 rfl rfl ?_
                    refine aw_bipush (v := 7) dX6_isWord_98 (by decide) ?_
                    refine aw_iload dX6_isWord_100 rfl ?_
                    refine aw_V2 dX6_isWord_102 cw_X6_177 ⟨_, _, rfl⟩ hM.1 (by omega) ⟨Nat.le_refl _, Nat.le_refl _⟩ (by decide) (c_X6_isLetter (i := 7) (by omega) hM hS.1 hS.2.1.1 e24 hen.1 hen.2.1 (by decide) (fun c102 => ?_) (fun c102 => ?_))
                    · refine aw_if_eq (tgt := 112) dX6_isWord_105 (by decide) (fun zz => absurd zz (by decide)) (fun _ => ?_)
                      refine aw_iconst (v := 1) dX6_isWord_108 (by decide) ?_
                      refine aw_goto (tgt := 113) dX6_isWord_109 (by decide) ?_
                      refine aw_ireturn (ty := .boolean) dX6_isWord_113 rfl (by decide) ?_
                      exact hT ((tk_wrd (by decide)).mpr ⟨hmk, (wc_saying B _ _).mpr ((w8_saying hen.2.1 hle).mpr ⟨c32, c41, c50, c60, c70, c80, c91, c102⟩)⟩)
                    · refine aw_if_eq (tgt := 112) dX6_isWord_105 (by decide) (fun _ => ?_) (fun zz => absurd zz (by decide))
                      refine aw_iconst (v := 0) dX6_isWord_112 (by decide) ?_
                      refine aw_ireturn (ty := .boolean) dX6_isWord_113 rfl (by decide) ?_
                      exact hF (fun w => c102 (by have g := (w8_saying hen.2.1 hle).mp ((wc_saying B _ _).mp ((tk_wrd (by decide)).mp w).2); exact g.2.2.2.2.2.2.2))
                  · refine aw_if_eq (tgt := 112) dX6_isWord_94 (by decide) (fun _ => ?_) (fun zz => absurd zz (by decide))
                    refine aw_iconst (v := 0) dX6_isWord_112 (by decide) ?_
                    refine aw_ireturn (ty := .boolean) dX6_isWord_113 rfl (by decide) ?_
                    exact hF (fun w => c91 (by have g := (w8_saying hen.2.1 hle).mp ((wc_saying B _ _).mp ((tk_wrd (by decide)).mp w).2); exact g.2.2.2.2.2.2.1))
                · refine aw_if_eq (tgt := 112) dX6_isWord_83 (by decide) (fun _ => ?_) (fun zz => absurd zz (by decide))
                  refine aw_iconst (v := 0) dX6_isWord_112 (by decide) ?_
                  refine aw_ireturn (ty := .boolean) dX6_isWord_113 rfl (by decide) ?_
                  exact hF (fun w => c80 (by have g := (w8_saying hen.2.1 hle).mp ((wc_saying B _ _).mp ((tk_wrd (by decide)).mp w).2); exact g.2.2.2.2.2.1))
              · refine aw_if_eq (tgt := 112) dX6_isWord_73 (by decide) (fun _ => ?_) (fun zz => absurd zz (by decide))
                refine aw_iconst (v := 0) dX6_isWord_112 (by decide) ?_
                refine aw_ireturn (ty := .boolean) dX6_isWord_113 rfl (by decide) ?_
                exact hF (fun w => c70 (by have g := (w8_saying hen.2.1 hle).mp ((wc_saying B _ _).mp ((tk_wrd (by decide)).mp w).2); exact g.2.2.2.2.1))
            · refine aw_if_eq (tgt := 112) dX6_isWord_63 (by decide) (fun _ => ?_) (fun zz => absurd zz (by decide))
              refine aw_iconst (v := 0) dX6_isWord_112 (by decide) ?_
              refine aw_ireturn (ty := .boolean) dX6_isWord_113 rfl (by decide) ?_
              exact hF (fun w => c60 (by have g := (w8_saying hen.2.1 hle).mp ((wc_saying B _ _).mp ((tk_wrd (by decide)).mp w).2); exact g.2.2.2.1))
          · refine aw_if_eq (tgt := 112) dX6_isWord_53 (by decide) (fun _ => ?_) (fun zz => absurd zz (by decide))
            refine aw_iconst (v := 0) dX6_isWord_112 (by decide) ?_
            refine aw_ireturn (ty := .boolean) dX6_isWord_113 rfl (by decide) ?_
            exact hF (fun w => c50 (by have g := (w8_saying hen.2.1 hle).mp ((wc_saying B _ _).mp ((tk_wrd (by decide)).mp w).2); exact g.2.2.1))
        · refine aw_if_eq (tgt := 112) dX6_isWord_44 (by decide) (fun _ => ?_) (fun zz => absurd zz (by decide))
          refine aw_iconst (v := 0) dX6_isWord_112 (by decide) ?_
          refine aw_ireturn (ty := .boolean) dX6_isWord_113 rfl (by decide) ?_
          exact hF (fun w => c41 (by have g := (w8_saying hen.2.1 hle).mp ((wc_saying B _ _).mp ((tk_wrd (by decide)).mp w).2); exact g.2.1))
      · refine aw_if_eq (tgt := 112) dX6_isWord_35 (by decide) (fun _ => ?_) (fun zz => absurd zz (by decide))
        refine aw_iconst (v := 0) dX6_isWord_112 (by decide) ?_
        refine aw_ireturn (ty := .boolean) dX6_isWord_113 rfl (by decide) ?_
        exact hF (fun w => c32 (by have g := (w8_saying hen.2.1 hle).mp ((wc_saying B _ _).mp ((tk_wrd (by decide)).mp w).2); exact g.1))
theorem c_X6_isWord_number {E : Ev} {d : Nat} {I : Mi} {L : Ml} {Z : Mz} {Q : Po}  {B : Nat → Int32} {n t k o : Nat} (hd : 2 ≤ d) (hM : MZ Z) (hS : MS I L B n t k o) (hT : (cdF B n (plF B n k) = 34) → Q (some (.int 1)) I L Z) (hF : ¬ (cdF B n (plF B n k) = 34) → Q (some (.int 0)) I L Z) : AC E yX6_isWord cX6_isWord 9 (some .boolean) d 0 0 [.ref 48, .int 110, .int 117, .int 109, .int 98, .int 101, .int 114, .int 0, .int 0] I L Z Q := by
  refine ac_go (ls := [some (.ref 48), some (.int 110), some (.int 117), some (.int 109), some (.int 98), some (.int 101), some (.int 114), some (.int 0), some (.int 0)]) (by decide +kernel) (Nat.le_of_ble_eq_true rfl) rfl ?_
  refine aw_aload_n dX6_isWord_0 rfl rfl ?_
  refine aw_gi dX6_isWord_1 fw_X6_170 hM.1 ?_
  refine aw_if_ne (tgt := 112) dX6_isWord_4 (by decide) (fun zz => absurd hS.2.2.1 zz) (fun c4 => ?_)
  refine aw_aload_n dX6_isWord_7 rfl rfl ?_
  refine aw_gi dX6_isWord_8 fw_X6_153 hM.1 ?_
  refine aw_iconst (v := 1) dX6_isWord_11 (by decide) ?_
  refine aw_icmp_ne (tgt := 112) dX6_isWord_12 (by decide) (fun c12 => ?_) (fun c12 => ?_)
  · refine aw_iconst (v := 0) dX6_isWord_112 (by decide) ?_
    refine aw_ireturn (ty := .boolean) dX6_isWord_113 rfl (by decide) ?_
    exact hF (fun w => c12 (by rw [hS.2.1.2.1, ((tk_wrd (by decide)).mp w).1]; rfl))
  · have hmk : mkF B n (plF B n k) = 1 := by
      have e := hS.2.1.2.1
      rw [c12] at e
      exact ((nI_eq (a := 1) (by decide) (by have := mk_le B n (plF B n k); omega)).mp e).symm
    have e24 := hS.2.1.2.2.1 (Or.inl hmk)
    have hen := en_bd (B := B) (n := n) (pl_bd (B := B) (n := n) k)
    have hle := en_le (mk1 hmk).1 (mk1 hmk).2
    have hn6 := hS.1.2.2.2.1
    have e26 : I 48 26 + 8 = nI (plF B n k + 8) := by rw [hS.2.1.1]; exact nI_add _ 8
    refine aw_aload_n dX6_isWord_15 rfl rfl ?_
    refine aw_gi dX6_isWord_16 fw_X6_144 hM.1 ?_
    refine aw_aload_n dX6_isWord_19 rfl rfl ?_
    refine aw_gi dX6_isWord_20 fw_X6_150 hM.1 ?_
    refine aw_bipush (v := 8) dX6_isWord_23 (by decide) ?_
    refine aw_iadd dX6_isWord_25 ?_
    refine aw_icmp_gt (tgt := 112) dX6_isWord_26 (by decide) (fun c26 => ?_) (fun c26 => ?_)
    · have c26n : ¬ enT B n (plF B n k) ≤ plF B n k + 8 := fun w => Int32.not_le.mpr c26 (by rw [e24, e26]; exact (nI_leI (by omega) (by omega)).mpr w)
      refine aw_iconst (v := 0) dX6_isWord_112 (by decide) ?_
      refine aw_ireturn (ty := .boolean) dX6_isWord_113 rfl (by decide) ?_
      exact hF (fun w => absurd ((wc_number B _ _).mp ((tk_wrd (by decide)).mp w).2) (fun g => by simp only [wdB, Bool.and_eq_true, beq_iff_eq, List.length_cons, List.length_nil] at g; exact c26n (by omega)))
    · refine aw_aload_n dX6_isWord_29 rfl rfl ?_
      refine aw_iconst (v := 0) dX6_isWord_30 (by decide) ?_
      refine aw_iload_n dX6_isWord_31 rfl ?_
      refine aw_V2 dX6_isWord_32 cw_X6_177 ⟨_, _, rfl⟩ hM.1 (by omega) ⟨Nat.le_refl _, Nat.le_refl _⟩ (by decide) (c_X6_isLetter (i := 0) (by omega) hM hS.1 hS.2.1.1 e24 hen.1 hen.2.1 (by decide) (fun c32 => ?_) (fun c32 => ?_))
      · refine aw_if_eq (tgt := 112) dX6_isWord_35 (by decide) (fun zz => absurd zz (by decide)) (fun _ => ?_)
        refine aw_aload_n dX6_isWord_38 rfl rfl ?_
        refine aw_iconst (v := 1) dX6_isWord_39 (by decide) ?_
        refine aw_iload_n dX6_isWord_40 rfl ?_
        refine aw_V2 dX6_isWord_41 cw_X6_177 ⟨_, _, rfl⟩ hM.1 (by omega) ⟨Nat.le_refl _, Nat.le_refl _⟩ (by decide) (c_X6_isLetter (i := 1) (by omega) hM hS.1 hS.2.1.1 e24 hen.1 hen.2.1 (by decide) (fun c41 => ?_) (fun c41 => ?_))
        · refine aw_if_eq (tgt := 112) dX6_isWord_44 (by decide) (fun zz => absurd zz (by decide)) (fun _ => ?_)
          refine aw_aload_n dX6_isWord_47 rfl rfl ?_
          refine aw_iconst (v := 2) dX6_isWord_48 (by decide) ?_
          refine aw_iload_n dX6_isWord_49 rfl ?_
          refine aw_V2 dX6_isWord_50 cw_X6_177 ⟨_, _, rfl⟩ hM.1 (by omega) ⟨Nat.le_refl _, Nat.le_refl _⟩ (by decide) (c_X6_isLetter (i := 2) (by omega) hM hS.1 hS.2.1.1 e24 hen.1 hen.2.1 (by decide) (fun c50 => ?_) (fun c50 => ?_))
          · refine aw_if_eq (tgt := 112) dX6_isWord_53 (by decide) (fun zz => absurd zz (by decide)) (fun _ => ?_)
            refine aw_aload_n dX6_isWord_56 rfl rfl ?_
            refine aw_iconst (v := 3) dX6_isWord_57 (by decide) ?_
            refine aw_iload dX6_isWord_58 rfl ?_
            refine aw_V2 dX6_isWord_60 cw_X6_177 ⟨_, _, rfl⟩ hM.1 (by omega) ⟨Nat.le_refl _, Nat.le_refl _⟩ (by decide) (c_X6_isLetter (i := 3) (by omega) hM hS.1 hS.2.1.1 e24 hen.1 hen.2.1 (by decide) (fun c60 => ?_) (fun c60 => ?_))
            · refine aw_if_eq (tgt := 112) dX6_isWord_63 (by decide) (fun zz => absurd zz (by decide)) (fun _ => ?_)
              refine aw_aload_n dX6_isWord_66 rfl rfl ?_
              refine aw_iconst (v := 4) dX6_isWord_67 (by decide) ?_
              refine aw_iload dX6_isWord_68 rfl ?_
              refine aw_V2 dX6_isWord_70 cw_X6_177 ⟨_, _, rfl⟩ hM.1 (by omega) ⟨Nat.le_refl _, Nat.le_refl _⟩ (by decide) (c_X6_isLetter (i := 4) (by omega) hM hS.1 hS.2.1.1 e24 hen.1 hen.2.1 (by decide) (fun c70 => ?_) (fun c70 => ?_))
              · refine aw_if_eq (tgt := 112) dX6_isWord_73 (by decide) (fun zz => absurd zz (by decide)) (fun _ => ?_)
                refine aw_aload_n dX6_isWord_76 rfl rfl ?_
                refine aw_iconst (v := 5) dX6_isWord_77 (by decide) ?_
                refine aw_iload dX6_isWord_78 rfl ?_
                refine aw_V2 dX6_isWord_80 cw_X6_177 ⟨_, _, rfl⟩ hM.1 (by omega) ⟨Nat.le_refl _, Nat.le_refl _⟩ (by decide) (c_X6_isLetter (i := 5) (by omega) hM hS.1 hS.2.1.1 e24 hen.1 hen.2.1 (by decide) (fun c80 => ?_) (fun c80 => ?_))
                · refine aw_if_eq (tgt := 112) dX6_isWord_83 (by decide) (fun zz => absurd zz (by decide)) (fun _ => ?_)
                  refine aw_aload_n dX6_isWord_86 rfl rfl ?_
                  refine aw_bipush (v := 6) dX6_isWord_87 (by decide) ?_
                  refine aw_iload dX6_isWord_89 rfl ?_
                  refine aw_V2 dX6_isWord_91 cw_X6_177 ⟨_, _, rfl⟩ hM.1 (by omega) ⟨Nat.le_refl _, Nat.le_refl _⟩ (by decide) (c_X6_isLetter (i := 6) (by omega) hM hS.1 hS.2.1.1 e24 hen.1 hen.2.1 (by decide) (fun c91 => ?_) (fun c91 => ?_))
                  · refine aw_if_eq (tgt := 112) dX6_isWord_94 (by decide) (fun zz => absurd zz (by decide)) (fun _ => ?_)
                    refine aw_aload_n dX6_isWord_97 rfl rfl ?_
                    refine aw_bipush (v := 7) dX6_isWord_98 (by decide) ?_
                    refine aw_iload dX6_isWord_100 rfl ?_
                    refine aw_V2 dX6_isWord_102 cw_X6_177 ⟨_, _, rfl⟩ hM.1 (by omega) ⟨Nat.le_refl _, Nat.le_refl _⟩ (by decide) (c_X6_isLetter (i := 7) (by omega) hM hS.1 hS.2.1.1 e24 hen.1 hen.2.1 (by decide) (fun c102 => ?_) (fun c102 => ?_))
                    · refine aw_if_eq (tgt := 112) dX6_isWord_105 (by decide) (fun zz => absurd zz (by decide)) (fun _ => ?_)
                      refine aw_iconst (v := 1) dX6_isWord_108 (by decide) ?_
                      refine aw_goto (tgt := 113) dX6_isWord_109 (by decide) ?_
                      refine aw_ireturn (ty := .boolean) dX6_isWord_113 rfl (by decide) ?_
                      exact hT ((tk_wrd (by decide)).mpr ⟨hmk, (wc_number B _ _).mpr ((w8_number hen.2.1 hle).mpr ⟨c32, c41, c50, c60, c70, c80, c91, c102⟩)⟩)
                    · refine aw_if_eq (tgt := 112) dX6_isWord_105 (by decide) (fun _ => ?_) (fun zz => absurd zz (by decide))
                      refine aw_iconst (v := 0) dX6_isWord_112 (by decide) ?_
                      refine aw_ireturn (ty := .boolean) dX6_isWord_113 rfl (by decide) ?_
                      exact hF (fun w => c102 (by have g := (w8_number hen.2.1 hle).mp ((wc_number B _ _).mp ((tk_wrd (by decide)).mp w).2); exact g.2.2.2.2.2.2.2))
                  · refine aw_if_eq (tgt := 112) dX6_isWord_94 (by decide) (fun _ => ?_) (fun zz => absurd zz (by decide))
                    refine aw_iconst (v := 0) dX6_isWord_112 (by decide) ?_
                    refine aw_ireturn (ty := .boolean) dX6_isWord_113 rfl (by decide) ?_
                    exact hF (fun w => c91 (by have g := (w8_number hen.2.1 hle).mp ((wc_number B _ _).mp ((tk_wrd (by decide)).mp w).2); exact g.2.2.2.2.2.2.1))
                · refine aw_if_eq (tgt := 112) dX6_isWord_83 (by decide) (fun _ => ?_) (fun zz => absurd zz (by decide))
                  refine aw_iconst (v := 0) dX6_isWord_112 (by decide) ?_
                  refine aw_ireturn (ty := .boolean) dX6_isWord_113 rfl (by decide) ?_
                  exact hF (fun w => c80 (by have g := (w8_number hen.2.1 hle).mp ((wc_number B _ _).mp ((tk_wrd (by decide)).mp w).2); exact g.2.2.2.2.2.1))
              · refine aw_if_eq (tgt := 112) dX6_isWord_73 (by decide) (fun _ => ?_) (fun zz => absurd zz (by decide))
                refine aw_iconst (v := 0) dX6_isWord_112 (by decide) ?_
                refine aw_ireturn (ty := .boolean) dX6_isWord_113 rfl (by decide) ?_
                exact hF (fun w => c70 (by have g := (w8_number hen.2.1 hle).mp ((wc_number B _ _).mp ((tk_wrd (by decide)).mp w).2); exact g.2.2.2.2.1))
            · refine aw_if_eq (tgt := 112) dX6_isWord_63 (by decide) (fun _ => ?_) (fun zz => absurd zz (by decide))
              refine aw_iconst (v := 0) dX6_isWord_112 (by decide) ?_
              refine aw_ireturn (ty := .boolean) dX6_isWord_113 rfl (by decide) ?_
              exact hF (fun w => c60 (by have g := (w8_number hen.2.1 hle).mp ((wc_number B _ _).mp ((tk_wrd (by decide)).mp w).2); exact g.2.2.2.1))
          · refine aw_if_eq (tgt := 112) dX6_isWord_53 (by decide) (fun _ => ?_) (fun zz => absurd zz (by decide))
            refine aw_iconst (v := 0) dX6_isWord_112 (by decide) ?_
            refine aw_ireturn (ty := .boolean) dX6_isWord_113 rfl (by decide) ?_
            exact hF (fun w => c50 (by have g := (w8_number hen.2.1 hle).mp ((wc_number B _ _).mp ((tk_wrd (by decide)).mp w).2); exact g.2.2.1))
        · refine aw_if_eq (tgt := 112) dX6_isWord_44 (by decide) (fun _ => ?_) (fun zz => absurd zz (by decide))
          refine aw_iconst (v := 0) dX6_isWord_112 (by decide) ?_
          refine aw_ireturn (ty := .boolean) dX6_isWord_113 rfl (by decide) ?_
          exact hF (fun w => c41 (by have g := (w8_number hen.2.1 hle).mp ((wc_number B _ _).mp ((tk_wrd (by decide)).mp w).2); exact g.2.1))
      · refine aw_if_eq (tgt := 112) dX6_isWord_35 (by decide) (fun _ => ?_) (fun zz => absurd zz (by decide))
        refine aw_iconst (v := 0) dX6_isWord_112 (by decide) ?_
        refine aw_ireturn (ty := .boolean) dX6_isWord_113 rfl (by decide) ?_
        exact hF (fun w => c32 (by have g := (w8_number hen.2.1 hle).mp ((wc_number B _ _).mp ((tk_wrd (by decide)).mp w).2); exact g.1))
theorem c_X6_isWord_hour {E : Ev} {d : Nat} {I : Mi} {L : Ml} {Z : Mz} {Q : Po}  {B : Nat → Int32} {n t k o : Nat} (hd : 2 ≤ d) (hM : MZ Z) (hS : MS I L B n t k o) (hT : (cdF B n (plF B n k) = 35) → Q (some (.int 1)) I L Z) (hF : ¬ (cdF B n (plF B n k) = 35) → Q (some (.int 0)) I L Z) : AC E yX6_isWord cX6_isWord 9 (some .boolean) d 0 0 [.ref 48, .int 104, .int 111, .int 117, .int 114, .int 0, .int 0, .int 0, .int 0] I L Z Q := by
  refine ac_go (ls := [some (.ref 48), some (.int 104), some (.int 111), some (.int 117), some (.int 114), some (.int 0), some (.int 0), some (.int 0), some (.int 0)]) (by decide +kernel) (Nat.le_of_ble_eq_true rfl) rfl ?_
  refine aw_aload_n dX6_isWord_0 rfl rfl ?_
  refine aw_gi dX6_isWord_1 fw_X6_170 hM.1 ?_
  refine aw_if_ne (tgt := 112) dX6_isWord_4 (by decide) (fun zz => absurd hS.2.2.1 zz) (fun c4 => ?_)
  refine aw_aload_n dX6_isWord_7 rfl rfl ?_
  refine aw_gi dX6_isWord_8 fw_X6_153 hM.1 ?_
  refine aw_iconst (v := 1) dX6_isWord_11 (by decide) ?_
  refine aw_icmp_ne (tgt := 112) dX6_isWord_12 (by decide) (fun c12 => ?_) (fun c12 => ?_)
  · refine aw_iconst (v := 0) dX6_isWord_112 (by decide) ?_
    refine aw_ireturn (ty := .boolean) dX6_isWord_113 rfl (by decide) ?_
    exact hF (fun w => c12 (by rw [hS.2.1.2.1, ((tk_wrd (by decide)).mp w).1]; rfl))
  · have hmk : mkF B n (plF B n k) = 1 := by
      have e := hS.2.1.2.1
      rw [c12] at e
      exact ((nI_eq (a := 1) (by decide) (by have := mk_le B n (plF B n k); omega)).mp e).symm
    have e24 := hS.2.1.2.2.1 (Or.inl hmk)
    have hen := en_bd (B := B) (n := n) (pl_bd (B := B) (n := n) k)
    have hle := en_le (mk1 hmk).1 (mk1 hmk).2
    have hn6 := hS.1.2.2.2.1
    have e26 : I 48 26 + 8 = nI (plF B n k + 8) := by rw [hS.2.1.1]; exact nI_add _ 8
    refine aw_aload_n dX6_isWord_15 rfl rfl ?_
    refine aw_gi dX6_isWord_16 fw_X6_144 hM.1 ?_
    refine aw_aload_n dX6_isWord_19 rfl rfl ?_
    refine aw_gi dX6_isWord_20 fw_X6_150 hM.1 ?_
    refine aw_bipush (v := 8) dX6_isWord_23 (by decide) ?_
    refine aw_iadd dX6_isWord_25 ?_
    refine aw_icmp_gt (tgt := 112) dX6_isWord_26 (by decide) (fun c26 => ?_) (fun c26 => ?_)
    · have c26n : ¬ enT B n (plF B n k) ≤ plF B n k + 8 := fun w => Int32.not_le.mpr c26 (by rw [e24, e26]; exact (nI_leI (by omega) (by omega)).mpr w)
      refine aw_iconst (v := 0) dX6_isWord_112 (by decide) ?_
      refine aw_ireturn (ty := .boolean) dX6_isWord_113 rfl (by decide) ?_
      exact hF (fun w => absurd ((wc_hour B _ _).mp ((tk_wrd (by decide)).mp w).2) (fun g => by simp only [wdB, Bool.and_eq_true, beq_iff_eq, List.length_cons, List.length_nil] at g; exact c26n (by omega)))
    · refine aw_aload_n dX6_isWord_29 rfl rfl ?_
      refine aw_iconst (v := 0) dX6_isWord_30 (by decide) ?_
      refine aw_iload_n dX6_isWord_31 rfl ?_
      refine aw_V2 dX6_isWord_32 cw_X6_177 ⟨_, _, rfl⟩ hM.1 (by omega) ⟨Nat.le_refl _, Nat.le_refl _⟩ (by decide) (c_X6_isLetter (i := 0) (by omega) hM hS.1 hS.2.1.1 e24 hen.1 hen.2.1 (by decide) (fun c32 => ?_) (fun c32 => ?_))
      · refine aw_if_eq (tgt := 112) dX6_isWord_35 (by decide) (fun zz => absurd zz (by decide)) (fun _ => ?_)
        refine aw_aload_n dX6_isWord_38 rfl rfl ?_
        refine aw_iconst (v := 1) dX6_isWord_39 (by decide) ?_
        refine aw_iload_n dX6_isWord_40 rfl ?_
        refine aw_V2 dX6_isWord_41 cw_X6_177 ⟨_, _, rfl⟩ hM.1 (by omega) ⟨Nat.le_refl _, Nat.le_refl _⟩ (by decide) (c_X6_isLetter (i := 1) (by omega) hM hS.1 hS.2.1.1 e24 hen.1 hen.2.1 (by decide) (fun c41 => ?_) (fun c41 => ?_))
        · refine aw_if_eq (tgt := 112) dX6_isWord_44 (by decide) (fun zz => absurd zz (by decide)) (fun _ => ?_)
          refine aw_aload_n dX6_isWord_47 rfl rfl ?_
          refine aw_iconst (v := 2) dX6_isWord_48 (by decide) ?_
          refine aw_iload_n dX6_isWord_49 rfl ?_
          refine aw_V2 dX6_isWord_50 cw_X6_177 ⟨_, _, rfl⟩ hM.1 (by omega) ⟨Nat.le_refl _, Nat.le_refl _⟩ (by decide) (c_X6_isLetter (i := 2) (by omega) hM hS.1 hS.2.1.1 e24 hen.1 hen.2.1 (by decide) (fun c50 => ?_) (fun c50 => ?_))
          · refine aw_if_eq (tgt := 112) dX6_isWord_53 (by decide) (fun zz => absurd zz (by decide)) (fun _ => ?_)
            refine aw_aload_n dX6_isWord_56 rfl rfl ?_
            refine aw_iconst (v := 3) dX6_isWord_57 (by decide) ?_
            refine aw_iload dX6_isWord_58 rfl ?_
            refine aw_V2 dX6_isWord_60 cw_X6_177 ⟨_, _, rfl⟩ hM.1 (by omega) ⟨Nat.le_refl _, Nat.le_refl _⟩ (by decide) (c_X6_isLetter (i := 3) (by omega) hM hS.1 hS.2.1.1 e24 hen.1 hen.2.1 (by decide) (fun c60 => ?_) (fun c60 => ?_))
            · refine aw_if_eq (tgt := 112) dX6_isWord_63 (by decide) (fun zz => absurd zz (by decide)) (fun _ => ?_)
              refine aw_aload_n dX6_isWord_66 rfl rfl ?_
              refine aw_iconst (v := 4) dX6_isWord_67 (by decide) ?_
              refine aw_iload dX6_isWord_68 rfl ?_
              refine aw_V2 dX6_isWord_70 cw_X6_177 ⟨_, _, rfl⟩ hM.1 (by omega) ⟨Nat.le_refl _, Nat.le_refl _⟩ (by decide) (c_X6_isLetter (i := 4) (by omega) hM hS.1 hS.2.1.1 e24 hen.1 hen.2.1 (by decide) (fun c70 => ?_) (fun c70 => ?_))
              · refine aw_if_eq (tgt := 112) dX6_isWord_73 (by decide) (fun zz => absurd zz (by decide)) (fun _ => ?_)
                refine aw_aload_n dX6_isWord_76 rfl rfl ?_
                refine aw_iconst (v := 5) dX6_isWord_77 (by decide) ?_
                refine aw_iload dX6_isWord_78 rfl ?_
                refine aw_V2 dX6_isWord_80 cw_X6_177 ⟨_, _, rfl⟩ hM.1 (by omega) ⟨Nat.le_refl _, Nat.le_refl _⟩ (by decide) (c_X6_isLetter (i := 5) (by omega) hM hS.1 hS.2.1.1 e24 hen.1 hen.2.1 (by decide) (fun c80 => ?_) (fun c80 => ?_))
                · refine aw_if_eq (tgt := 112) dX6_isWord_83 (by decide) (fun zz => absurd zz (by decide)) (fun _ => ?_)
                  refine aw_aload_n dX6_isWord_86 rfl rfl ?_
                  refine aw_bipush (v := 6) dX6_isWord_87 (by decide) ?_
                  refine aw_iload dX6_isWord_89 rfl ?_
                  refine aw_V2 dX6_isWord_91 cw_X6_177 ⟨_, _, rfl⟩ hM.1 (by omega) ⟨Nat.le_refl _, Nat.le_refl _⟩ (by decide) (c_X6_isLetter (i := 6) (by omega) hM hS.1 hS.2.1.1 e24 hen.1 hen.2.1 (by decide) (fun c91 => ?_) (fun c91 => ?_))
                  · refine aw_if_eq (tgt := 112) dX6_isWord_94 (by decide) (fun zz => absurd zz (by decide)) (fun _ => ?_)
                    refine aw_aload_n dX6_isWord_97 rfl rfl ?_
                    refine aw_bipush (v := 7) dX6_isWord_98 (by decide) ?_
                    refine aw_iload dX6_isWord_100 rfl ?_
                    refine aw_V2 dX6_isWord_102 cw_X6_177 ⟨_, _, rfl⟩ hM.1 (by omega) ⟨Nat.le_refl _, Nat.le_refl _⟩ (by decide) (c_X6_isLetter (i := 7) (by omega) hM hS.1 hS.2.1.1 e24 hen.1 hen.2.1 (by decide) (fun c102 => ?_) (fun c102 => ?_))
                    · refine aw_if_eq (tgt := 112) dX6_isWord_105 (by decide) (fun zz => absurd zz (by decide)) (fun _ => ?_)
                      refine aw_iconst (v := 1) dX6_isWord_108 (by decide) ?_
                      refine aw_goto (tgt := 113) dX6_isWord_109 (by decide) ?_
                      refine aw_ireturn (ty := .boolean) dX6_isWord_113 rfl (by decide) ?_
                      exact hT ((tk_wrd (by decide)).mpr ⟨hmk, (wc_hour B _ _).mpr ((w8_hour hen.2.1 hle).mpr ⟨c32, c41, c50, c60, c70, c80, c91, c102⟩)⟩)
                    · refine aw_if_eq (tgt := 112) dX6_isWord_105 (by decide) (fun _ => ?_) (fun zz => absurd zz (by decide))
                      refine aw_iconst (v := 0) dX6_isWord_112 (by decide) ?_
                      refine aw_ireturn (ty := .boolean) dX6_isWord_113 rfl (by decide) ?_
                      exact hF (fun w => c102 (by have g := (w8_hour hen.2.1 hle).mp ((wc_hour B _ _).mp ((tk_wrd (by decide)).mp w).2); exact g.2.2.2.2.2.2.2))
                  · refine aw_if_eq (tgt := 112) dX6_isWord_94 (by decide) (fun _ => ?_) (fun zz => absurd zz (by decide))
                    refine aw_iconst (v := 0) dX6_isWord_112 (by decide) ?_
                    refine aw_ireturn (ty := .boolean) dX6_isWord_113 rfl (by decide) ?_
                    exact hF (fun w => c91 (by have g := (w8_hour hen.2.1 hle).mp ((wc_hour B _ _).mp ((tk_wrd (by decide)).mp w).2); exact g.2.2.2.2.2.2.1))
                · refine aw_if_eq (tgt := 112) dX6_isWord_83 (by decide) (fun _ => ?_) (fun zz => absurd zz (by decide))
                  refine aw_iconst (v := 0) dX6_isWord_112 (by decide) ?_
                  refine aw_ireturn (ty := .boolean) dX6_isWord_113 rfl (by decide) ?_
                  exact hF (fun w => c80 (by have g := (w8_hour hen.2.1 hle).mp ((wc_hour B _ _).mp ((tk_wrd (by decide)).mp w).2); exact g.2.2.2.2.2.1))
              · refine aw_if_eq (tgt := 112) dX6_isWord_73 (by decide) (fun _ => ?_) (fun zz => absurd zz (by decide))
                refine aw_iconst (v := 0) dX6_isWord_112 (by decide) ?_
                refine aw_ireturn (ty := .boolean) dX6_isWord_113 rfl (by decide) ?_
                exact hF (fun w => c70 (by have g := (w8_hour hen.2.1 hle).mp ((wc_hour B _ _).mp ((tk_wrd (by decide)).mp w).2); exact g.2.2.2.2.1))
            · refine aw_if_eq (tgt := 112) dX6_isWord_63 (by decide) (fun _ => ?_) (fun zz => absurd zz (by decide))
              refine aw_iconst (v := 0) dX6_isWord_112 (by decide) ?_
              refine aw_ireturn (ty := .boolean) dX6_isWord_113 rfl (by decide) ?_
              exact hF (fun w => c60 (by have g := (w8_hour hen.2.1 hle).mp ((wc_hour B _ _).mp ((tk_wrd (by decide)).mp w).2); exact g.2.2.2.1))
          · refine aw_if_eq (tgt := 112) dX6_isWord_53 (by decide) (fun _ => ?_) (fun zz => absurd zz (by decide))
            refine aw_iconst (v := 0) dX6_isWord_112 (by decide) ?_
            refine aw_ireturn (ty := .boolean) dX6_isWord_113 rfl (by decide) ?_
            exact hF (fun w => c50 (by have g := (w8_hour hen.2.1 hle).mp ((wc_hour B _ _).mp ((tk_wrd (by decide)).mp w).2); exact g.2.2.1))
        · refine aw_if_eq (tgt := 112) dX6_isWord_44 (by decide) (fun _ => ?_) (fun zz => absurd zz (by decide))
          refine aw_iconst (v := 0) dX6_isWord_112 (by decide) ?_
          refine aw_ireturn (ty := .boolean) dX6_isWord_113 rfl (by decide) ?_
          exact hF (fun w => c41 (by have g := (w8_hour hen.2.1 hle).mp ((wc_hour B _ _).mp ((tk_wrd (by decide)).mp w).2); exact g.2.1))
      · refine aw_if_eq (tgt := 112) dX6_isWord_35 (by decide) (fun _ => ?_) (fun zz => absurd zz (by decide))
        refine aw_iconst (v := 0) dX6_isWord_112 (by decide) ?_
        refine aw_ireturn (ty := .boolean) dX6_isWord_113 rfl (by decide) ?_
        exact hF (fun w => c32 (by have g := (w8_hour hen.2.1 hle).mp ((wc_hour B _ _).mp ((tk_wrd (by decide)).mp w).2); exact g.1))
theorem c_X6_isWord_slips {E : Ev} {d : Nat} {I : Mi} {L : Ml} {Z : Mz} {Q : Po}  {B : Nat → Int32} {n t k o : Nat} (hd : 2 ≤ d) (hM : MZ Z) (hS : MS I L B n t k o) (hT : (cdF B n (plF B n k) = 36) → Q (some (.int 1)) I L Z) (hF : ¬ (cdF B n (plF B n k) = 36) → Q (some (.int 0)) I L Z) : AC E yX6_isWord cX6_isWord 9 (some .boolean) d 0 0 [.ref 48, .int 115, .int 108, .int 105, .int 112, .int 115, .int 0, .int 0, .int 0] I L Z Q := by
  refine ac_go (ls := [some (.ref 48), some (.int 115), some (.int 108), some (.int 105), some (.int 112), some (.int 115), some (.int 0), some (.int 0), some (.int 0)]) (by decide +kernel) (Nat.le_of_ble_eq_true rfl) rfl ?_
  refine aw_aload_n dX6_isWord_0 rfl rfl ?_
  refine aw_gi dX6_isWord_1 fw_X6_170 hM.1 ?_
  refine aw_if_ne (tgt := 112) dX6_isWord_4 (by decide) (fun zz => absurd hS.2.2.1 zz) (fun c4 => ?_)
  refine aw_aload_n dX6_isWord_7 rfl rfl ?_
  refine aw_gi dX6_isWord_8 fw_X6_153 hM.1 ?_
  refine aw_iconst (v := 1) dX6_isWord_11 (by decide) ?_
  refine aw_icmp_ne (tgt := 112) dX6_isWord_12 (by decide) (fun c12 => ?_) (fun c12 => ?_)
  · refine aw_iconst (v := 0) dX6_isWord_112 (by decide) ?_
    refine aw_ireturn (ty := .boolean) dX6_isWord_113 rfl (by decide) ?_
    exact hF (fun w => c12 (by rw [hS.2.1.2.1, ((tk_wrd (by decide)).mp w).1]; rfl))
  · have hmk : mkF B n (plF B n k) = 1 := by
      have e := hS.2.1.2.1
      rw [c12] at e
      exact ((nI_eq (a := 1) (by decide) (by have := mk_le B n (plF B n k); omega)).mp e).symm
    have e24 := hS.2.1.2.2.1 (Or.inl hmk)
    have hen := en_bd (B := B) (n := n) (pl_bd (B := B) (n := n) k)
    have hle := en_le (mk1 hmk).1 (mk1 hmk).2
    have hn6 := hS.1.2.2.2.1
    have e26 : I 48 26 + 8 = nI (plF B n k + 8) := by rw [hS.2.1.1]; exact nI_add _ 8
    refine aw_aload_n dX6_isWord_15 rfl rfl ?_
    refine aw_gi dX6_isWord_16 fw_X6_144 hM.1 ?_
    refine aw_aload_n dX6_isWord_19 rfl rfl ?_
    refine aw_gi dX6_isWord_20 fw_X6_150 hM.1 ?_
    refine aw_bipush (v := 8) dX6_isWord_23 (by decide) ?_
    refine aw_iadd dX6_isWord_25 ?_
    refine aw_icmp_gt (tgt := 112) dX6_isWord_26 (by decide) (fun c26 => ?_) (fun c26 => ?_)
    · have c26n : ¬ enT B n (plF B n k) ≤ plF B n k + 8 := fun w => Int32.not_le.mpr c26 (by rw [e24, e26]; exact (nI_leI (by omega) (by omega)).mpr w)
      refine aw_iconst (v := 0) dX6_isWord_112 (by decide) ?_
      refine aw_ireturn (ty := .boolean) dX6_isWord_113 rfl (by decide) ?_
      exact hF (fun w => absurd ((wc_slips B _ _).mp ((tk_wrd (by decide)).mp w).2) (fun g => by simp only [wdB, Bool.and_eq_true, beq_iff_eq, List.length_cons, List.length_nil] at g; exact c26n (by omega)))
    · refine aw_aload_n dX6_isWord_29 rfl rfl ?_
      refine aw_iconst (v := 0) dX6_isWord_30 (by decide) ?_
      refine aw_iload_n dX6_isWord_31 rfl ?_
      refine aw_V2 dX6_isWord_32 cw_X6_177 ⟨_, _, rfl⟩ hM.1 (by omega) ⟨Nat.le_refl _, Nat.le_refl _⟩ (by decide) (c_X6_isLetter (i := 0) (by omega) hM hS.1 hS.2.1.1 e24 hen.1 hen.2.1 (by decide) (fun c32 => ?_) (fun c32 => ?_))
      · refine aw_if_eq (tgt := 112) dX6_isWord_35 (by decide) (fun zz => absurd zz (by decide)) (fun _ => ?_)
        refine aw_aload_n dX6_isWord_38 rfl rfl ?_
        refine aw_iconst (v := 1) dX6_isWord_39 (by decide) ?_
        refine aw_iload_n dX6_isWord_40 rfl ?_
        refine aw_V2 dX6_isWord_41 cw_X6_177 ⟨_, _, rfl⟩ hM.1 (by omega) ⟨Nat.le_refl _, Nat.le_refl _⟩ (by decide) (c_X6_isLetter (i := 1) (by omega) hM hS.1 hS.2.1.1 e24 hen.1 hen.2.1 (by decide) (fun c41 => ?_) (fun c41 => ?_))
        · refine aw_if_eq (tgt := 112) dX6_isWord_44 (by decide) (fun zz => absurd zz (by decide)) (fun _ => ?_)
          refine aw_aload_n dX6_isWord_47 rfl rfl ?_
          refine aw_iconst (v := 2) dX6_isWord_48 (by decide) ?_
          refine aw_iload_n dX6_isWord_49 rfl ?_
          refine aw_V2 dX6_isWord_50 cw_X6_177 ⟨_, _, rfl⟩ hM.1 (by omega) ⟨Nat.le_refl _, Nat.le_refl _⟩ (by decide) (c_X6_isLetter (i := 2) (by omega) hM hS.1 hS.2.1.1 e24 hen.1 hen.2.1 (by decide) (fun c50 => ?_) (fun c50 => ?_))
          · refine aw_if_eq (tgt := 112) dX6_isWord_53 (by decide) (fun zz => absurd zz (by decide)) (fun _ => ?_)
            refine aw_aload_n dX6_isWord_56 rfl rfl ?_
            refine aw_iconst (v := 3) dX6_isWord_57 (by decide) ?_
            refine aw_iload dX6_isWord_58 rfl ?_
            refine aw_V2 dX6_isWord_60 cw_X6_177 ⟨_, _, rfl⟩ hM.1 (by omega) ⟨Nat.le_refl _, Nat.le_refl _⟩ (by decide) (c_X6_isLetter (i := 3) (by omega) hM hS.1 hS.2.1.1 e24 hen.1 hen.2.1 (by decide) (fun c60 => ?_) (fun c60 => ?_))
            · refine aw_if_eq (tgt := 112) dX6_isWord_63 (by decide) (fun zz => absurd zz (by decide)) (fun _ => ?_)
              refine aw_aload_n dX6_isWord_66 rfl rfl ?_
              refine aw_iconst (v := 4) dX6_isWord_67 (by decide) ?_
              refine aw_iload dX6_isWord_68 rfl ?_
              refine aw_V2 dX6_isWord_70 cw_X6_177 ⟨_, _, rfl⟩ hM.1 (by omega) ⟨Nat.le_refl _, Nat.le_refl _⟩ (by decide) (c_X6_isLetter (i := 4) (by omega) hM hS.1 hS.2.1.1 e24 hen.1 hen.2.1 (by decide) (fun c70 => ?_) (fun c70 => ?_))
              · refine aw_if_eq (tgt := 112) dX6_isWord_73 (by decide) (fun zz => absurd zz (by decide)) (fun _ => ?_)
                refine aw_aload_n dX6_isWord_76 rfl rfl ?_
                refine aw_iconst (v := 5) dX6_isWord_77 (by decide) ?_
                refine aw_iload dX6_isWord_78 rfl ?_
                refine aw_V2 dX6_isWord_80 cw_X6_177 ⟨_, _, rfl⟩ hM.1 (by omega) ⟨Nat.le_refl _, Nat.le_refl _⟩ (by decide) (c_X6_isLetter (i := 5) (by omega) hM hS.1 hS.2.1.1 e24 hen.1 hen.2.1 (by decide) (fun c80 => ?_) (fun c80 => ?_))
                · refine aw_if_eq (tgt := 112) dX6_isWord_83 (by decide) (fun zz => absurd zz (by decide)) (fun _ => ?_)
                  refine aw_aload_n dX6_isWord_86 rfl rfl ?_
                  refine aw_bipush (v := 6) dX6_isWord_87 (by decide) ?_
                  refine aw_iload dX6_isWord_89 rfl ?_
                  refine aw_V2 dX6_isWord_91 cw_X6_177 ⟨_, _, rfl⟩ hM.1 (by omega) ⟨Nat.le_refl _, Nat.le_refl _⟩ (by decide) (c_X6_isLetter (i := 6) (by omega) hM hS.1 hS.2.1.1 e24 hen.1 hen.2.1 (by decide) (fun c91 => ?_) (fun c91 => ?_))
                  · refine aw_if_eq (tgt := 112) dX6_isWord_94 (by decide) (fun zz => absurd zz (by decide)) (fun _ => ?_)
                    refine aw_aload_n dX6_isWord_97 rfl rfl ?_
                    refine aw_bipush (v := 7) dX6_isWord_98 (by decide) ?_
                    refine aw_iload dX6_isWord_100 rfl ?_
                    refine aw_V2 dX6_isWord_102 cw_X6_177 ⟨_, _, rfl⟩ hM.1 (by omega) ⟨Nat.le_refl _, Nat.le_refl _⟩ (by decide) (c_X6_isLetter (i := 7) (by omega) hM hS.1 hS.2.1.1 e24 hen.1 hen.2.1 (by decide) (fun c102 => ?_) (fun c102 => ?_))
                    · refine aw_if_eq (tgt := 112) dX6_isWord_105 (by decide) (fun zz => absurd zz (by decide)) (fun _ => ?_)
                      refine aw_iconst (v := 1) dX6_isWord_108 (by decide) ?_
                      refine aw_goto (tgt := 113) dX6_isWord_109 (by decide) ?_
                      refine aw_ireturn (ty := .boolean) dX6_isWord_113 rfl (by decide) ?_
                      exact hT ((tk_wrd (by decide)).mpr ⟨hmk, (wc_slips B _ _).mpr ((w8_slips hen.2.1 hle).mpr ⟨c32, c41, c50, c60, c70, c80, c91, c102⟩)⟩)
                    · refine aw_if_eq (tgt := 112) dX6_isWord_105 (by decide) (fun _ => ?_) (fun zz => absurd zz (by decide))
                      refine aw_iconst (v := 0) dX6_isWord_112 (by decide) ?_
                      refine aw_ireturn (ty := .boolean) dX6_isWord_113 rfl (by decide) ?_
                      exact hF (fun w => c102 (by have g := (w8_slips hen.2.1 hle).mp ((wc_slips B _ _).mp ((tk_wrd (by decide)).mp w).2); exact g.2.2.2.2.2.2.2))
                  · refine aw_if_eq (tgt := 112) dX6_isWord_94 (by decide) (fun _ => ?_) (fun zz => absurd zz (by decide))
                    refine aw_iconst (v := 0) dX6_isWord_112 (by decide) ?_
                    refine aw_ireturn (ty := .boolean) dX6_isWord_113 rfl (by decide) ?_
                    exact hF (fun w => c91 (by have g := (w8_slips hen.2.1 hle).mp ((wc_slips B _ _).mp ((tk_wrd (by decide)).mp w).2); exact g.2.2.2.2.2.2.1))
                · refine aw_if_eq (tgt := 112) dX6_isWord_83 (by decide) (fun _ => ?_) (fun zz => absurd zz (by decide))
                  refine aw_iconst (v := 0) dX6_isWord_112 (by decide) ?_
                  refine aw_ireturn (ty := .boolean) dX6_isWord_113 rfl (by decide) ?_
                  exact hF (fun w => c80 (by have g := (w8_slips hen.2.1 hle).mp ((wc_slips B _ _).mp ((tk_wrd (by decide)).mp w).2); exact g.2.2.2.2.2.1))
              · refine aw_if_eq (tgt := 112) dX6_isWord_73 (by decide) (fun _ => ?_) (fun zz => absurd zz (by decide))
                refine aw_iconst (v := 0) dX6_isWord_112 (by decide) ?_
                refine aw_ireturn (ty := .boolean) dX6_isWord_113 rfl (by decide) ?_
                exact hF (fun w => c70 (by have g := (w8_slips hen.2.1 hle).mp ((wc_slips B _ _).mp ((tk_wrd (by decide)).mp w).2); exact g.2.2.2.2.1))
            · refine aw_if_eq (tgt := 112) dX6_isWord_63 (by decide) (fun _ => ?_) (fun zz => absurd zz (by decide))
              refine aw_iconst (v := 0) dX6_isWord_112 (by decide) ?_
              refine aw_ireturn (ty := .boolean) dX6_isWord_113 rfl (by decide) ?_
              exact hF (fun w => c60 (by have g := (w8_slips hen.2.1 hle).mp ((wc_slips B _ _).mp ((tk_wrd (by decide)).mp w).2); exact g.2.2.2.1))
          · refine aw_if_eq (tgt := 112) dX6_isWord_53 (by decide) (fun _ => ?_) (fun zz => absurd zz (by decide))
            refine aw_iconst (v := 0) dX6_isWord_112 (by decide) ?_
            refine aw_ireturn (ty := .boolean) dX6_isWord_113 rfl (by decide) ?_
            exact hF (fun w => c50 (by have g := (w8_slips hen.2.1 hle).mp ((wc_slips B _ _).mp ((tk_wrd (by decide)).mp w).2); exact g.2.2.1))
        · refine aw_if_eq (tgt := 112) dX6_isWord_44 (by decide) (fun _ => ?_) (fun zz => absurd zz (by decide))
          refine aw_iconst (v := 0) dX6_isWord_112 (by decide) ?_
          refine aw_ireturn (ty := .boolean) dX6_isWord_113 rfl (by decide) ?_
          exact hF (fun w => c41 (by have g := (w8_slips hen.2.1 hle).mp ((wc_slips B _ _).mp ((tk_wrd (by decide)).mp w).2); exact g.2.1))
      · refine aw_if_eq (tgt := 112) dX6_isWord_35 (by decide) (fun _ => ?_) (fun zz => absurd zz (by decide))
        refine aw_iconst (v := 0) dX6_isWord_112 (by decide) ?_
        refine aw_ireturn (ty := .boolean) dX6_isWord_113 rfl (by decide) ?_
        exact hF (fun w => c32 (by have g := (w8_slips hen.2.1 hle).mp ((wc_slips B _ _).mp ((tk_wrd (by decide)).mp w).2); exact g.1))
theorem c_X6_isWord_cup {E : Ev} {d : Nat} {I : Mi} {L : Ml} {Z : Mz} {Q : Po}  {B : Nat → Int32} {n t k o : Nat} (hd : 2 ≤ d) (hM : MZ Z) (hS : MS I L B n t k o) (hT : (cdF B n (plF B n k) = 37) → Q (some (.int 1)) I L Z) (hF : ¬ (cdF B n (plF B n k) = 37) → Q (some (.int 0)) I L Z) : AC E yX6_isWord cX6_isWord 9 (some .boolean) d 0 0 [.ref 48, .int 99, .int 117, .int 112, .int 0, .int 0, .int 0, .int 0, .int 0] I L Z Q := by
  refine ac_go (ls := [some (.ref 48), some (.int 99), some (.int 117), some (.int 112), some (.int 0), some (.int 0), some (.int 0), some (.int 0), some (.int 0)]) (by decide +kernel) (Nat.le_of_ble_eq_true rfl) rfl ?_
  refine aw_aload_n dX6_isWord_0 rfl rfl ?_
  refine aw_gi dX6_isWord_1 fw_X6_170 hM.1 ?_
  refine aw_if_ne (tgt := 112) dX6_isWord_4 (by decide) (fun zz => absurd hS.2.2.1 zz) (fun c4 => ?_)
  refine aw_aload_n dX6_isWord_7 rfl rfl ?_
  refine aw_gi dX6_isWord_8 fw_X6_153 hM.1 ?_
  refine aw_iconst (v := 1) dX6_isWord_11 (by decide) ?_
  refine aw_icmp_ne (tgt := 112) dX6_isWord_12 (by decide) (fun c12 => ?_) (fun c12 => ?_)
  · refine aw_iconst (v := 0) dX6_isWord_112 (by decide) ?_
    refine aw_ireturn (ty := .boolean) dX6_isWord_113 rfl (by decide) ?_
    exact hF (fun w => c12 (by rw [hS.2.1.2.1, ((tk_wrd (by decide)).mp w).1]; rfl))
  · have hmk : mkF B n (plF B n k) = 1 := by
      have e := hS.2.1.2.1
      rw [c12] at e
      exact ((nI_eq (a := 1) (by decide) (by have := mk_le B n (plF B n k); omega)).mp e).symm
    have e24 := hS.2.1.2.2.1 (Or.inl hmk)
    have hen := en_bd (B := B) (n := n) (pl_bd (B := B) (n := n) k)
    have hle := en_le (mk1 hmk).1 (mk1 hmk).2
    have hn6 := hS.1.2.2.2.1
    have e26 : I 48 26 + 8 = nI (plF B n k + 8) := by rw [hS.2.1.1]; exact nI_add _ 8
    refine aw_aload_n dX6_isWord_15 rfl rfl ?_
    refine aw_gi dX6_isWord_16 fw_X6_144 hM.1 ?_
    refine aw_aload_n dX6_isWord_19 rfl rfl ?_
    refine aw_gi dX6_isWord_20 fw_X6_150 hM.1 ?_
    refine aw_bipush (v := 8) dX6_isWord_23 (by decide) ?_
    refine aw_iadd dX6_isWord_25 ?_
    refine aw_icmp_gt (tgt := 112) dX6_isWord_26 (by decide) (fun c26 => ?_) (fun c26 => ?_)
    · have c26n : ¬ enT B n (plF B n k) ≤ plF B n k + 8 := fun w => Int32.not_le.mpr c26 (by rw [e24, e26]; exact (nI_leI (by omega) (by omega)).mpr w)
      refine aw_iconst (v := 0) dX6_isWord_112 (by decide) ?_
      refine aw_ireturn (ty := .boolean) dX6_isWord_113 rfl (by decide) ?_
      exact hF (fun w => absurd ((wc_cup B _ _).mp ((tk_wrd (by decide)).mp w).2) (fun g => by simp only [wdB, Bool.and_eq_true, beq_iff_eq, List.length_cons, List.length_nil] at g; exact c26n (by omega)))
    · refine aw_aload_n dX6_isWord_29 rfl rfl ?_
      refine aw_iconst (v := 0) dX6_isWord_30 (by decide) ?_
      refine aw_iload_n dX6_isWord_31 rfl ?_
      refine aw_V2 dX6_isWord_32 cw_X6_177 ⟨_, _, rfl⟩ hM.1 (by omega) ⟨Nat.le_refl _, Nat.le_refl _⟩ (by decide) (c_X6_isLetter (i := 0) (by omega) hM hS.1 hS.2.1.1 e24 hen.1 hen.2.1 (by decide) (fun c32 => ?_) (fun c32 => ?_))
      · refine aw_if_eq (tgt := 112) dX6_isWord_35 (by decide) (fun zz => absurd zz (by decide)) (fun _ => ?_)
        refine aw_aload_n dX6_isWord_38 rfl rfl ?_
        refine aw_iconst (v := 1) dX6_isWord_39 (by decide) ?_
        refine aw_iload_n dX6_isWord_40 rfl ?_
        refine aw_V2 dX6_isWord_41 cw_X6_177 ⟨_, _, rfl⟩ hM.1 (by omega) ⟨Nat.le_refl _, Nat.le_refl _⟩ (by decide) (c_X6_isLetter (i := 1) (by omega) hM hS.1 hS.2.1.1 e24 hen.1 hen.2.1 (by decide) (fun c41 => ?_) (fun c41 => ?_))
        · refine aw_if_eq (tgt := 112) dX6_isWord_44 (by decide) (fun zz => absurd zz (by decide)) (fun _ => ?_)
          refine aw_aload_n dX6_isWord_47 rfl rfl ?_
          refine aw_iconst (v := 2) dX6_isWord_48 (by decide) ?_
          refine aw_iload_n dX6_isWord_49 rfl ?_
          refine aw_V2 dX6_isWord_50 cw_X6_177 ⟨_, _, rfl⟩ hM.1 (by omega) ⟨Nat.le_refl _, Nat.le_refl _⟩ (by decide) (c_X6_isLetter (i := 2) (by omega) hM hS.1 hS.2.1.1 e24 hen.1 hen.2.1 (by decide) (fun c50 => ?_) (fun c50 => ?_))
          · refine aw_if_eq (tgt := 112) dX6_isWord_53 (by decide) (fun zz => absurd zz (by decide)) (fun _ => ?_)
            refine aw_aload_n dX6_isWord_56 rfl rfl ?_
            refine aw_iconst (v := 3) dX6_isWord_57 (by decide) ?_
            refine aw_iload dX6_isWord_58 rfl ?_
            refine aw_V2 dX6_isWord_60 cw_X6_177 ⟨_, _, rfl⟩ hM.1 (by omega) ⟨Nat.le_refl _, Nat.le_refl _⟩ (by decide) (c_X6_isLetter (i := 3) (by omega) hM hS.1 hS.2.1.1 e24 hen.1 hen.2.1 (by decide) (fun c60 => ?_) (fun c60 => ?_))
            · refine aw_if_eq (tgt := 112) dX6_isWord_63 (by decide) (fun zz => absurd zz (by decide)) (fun _ => ?_)
              refine aw_aload_n dX6_isWord_66 rfl rfl ?_
              refine aw_iconst (v := 4) dX6_isWord_67 (by decide) ?_
              refine aw_iload dX6_isWord_68 rfl ?_
              refine aw_V2 dX6_isWord_70 cw_X6_177 ⟨_, _, rfl⟩ hM.1 (by omega) ⟨Nat.le_refl _, Nat.le_refl _⟩ (by decide) (c_X6_isLetter (i := 4) (by omega) hM hS.1 hS.2.1.1 e24 hen.1 hen.2.1 (by decide) (fun c70 => ?_) (fun c70 => ?_))
              · refine aw_if_eq (tgt := 112) dX6_isWord_73 (by decide) (fun zz => absurd zz (by decide)) (fun _ => ?_)
                refine aw_aload_n dX6_isWord_76 rfl rfl ?_
                refine aw_iconst (v := 5) dX6_isWord_77 (by decide) ?_
                refine aw_iload dX6_isWord_78 rfl ?_
                refine aw_V2 dX6_isWord_80 cw_X6_177 ⟨_, _, rfl⟩ hM.1 (by omega) ⟨Nat.le_refl _, Nat.le_refl _⟩ (by decide) (c_X6_isLetter (i := 5) (by omega) hM hS.1 hS.2.1.1 e24 hen.1 hen.2.1 (by decide) (fun c80 => ?_) (fun c80 => ?_))
                · refine aw_if_eq (tgt := 112) dX6_isWord_83 (by decide) (fun zz => absurd zz (by decide)) (fun _ => ?_)
                  refine aw_aload_n dX6_isWord_86 rfl rfl ?_
                  refine aw_bipush (v := 6) dX6_isWord_87 (by decide) ?_
                  refine aw_iload dX6_isWord_89 rfl ?_
                  refine aw_V2 dX6_isWord_91 cw_X6_177 ⟨_, _, rfl⟩ hM.1 (by omega) ⟨Nat.le_refl _, Nat.le_refl _⟩ (by decide) (c_X6_isLetter (i := 6) (by omega) hM hS.1 hS.2.1.1 e24 hen.1 hen.2.1 (by decide) (fun c91 => ?_) (fun c91 => ?_))
                  · refine aw_if_eq (tgt := 112) dX6_isWord_94 (by decide) (fun zz => absurd zz (by decide)) (fun _ => ?_)
                    refine aw_aload_n dX6_isWord_97 rfl rfl ?_
                    refine aw_bipush (v := 7) dX6_isWord_98 (by decide) ?_
                    refine aw_iload dX6_isWord_100 rfl ?_
                    refine aw_V2 dX6_isWord_102 cw_X6_177 ⟨_, _, rfl⟩ hM.1 (by omega) ⟨Nat.le_refl _, Nat.le_refl _⟩ (by decide) (c_X6_isLetter (i := 7) (by omega) hM hS.1 hS.2.1.1 e24 hen.1 hen.2.1 (by decide) (fun c102 => ?_) (fun c102 => ?_))
                    · refine aw_if_eq (tgt := 112) dX6_isWord_105 (by decide) (fun zz => absurd zz (by decide)) (fun _ => ?_)
                      refine aw_iconst (v := 1) dX6_isWord_108 (by decide) ?_
                      refine aw_goto (tgt := 113) dX6_isWord_109 (by decide) ?_
                      refine aw_ireturn (ty := .boolean) dX6_isWord_113 rfl (by decide) ?_
                      exact hT ((tk_wrd (by decide)).mpr ⟨hmk, (wc_cup B _ _).mpr ((w8_cup hen.2.1 hle).mpr ⟨c32, c41, c50, c60, c70, c80, c91, c102⟩)⟩)
                    · refine aw_if_eq (tgt := 112) dX6_isWord_105 (by decide) (fun _ => ?_) (fun zz => absurd zz (by decide))
                      refine aw_iconst (v := 0) dX6_isWord_112 (by decide) ?_
                      refine aw_ireturn (ty := .boolean) dX6_isWord_113 rfl (by decide) ?_
                      exact hF (fun w => c102 (by have g := (w8_cup hen.2.1 hle).mp ((wc_cup B _ _).mp ((tk_wrd (by decide)).mp w).2); exact g.2.2.2.2.2.2.2))
                  · refine aw_if_eq (tgt := 112) dX6_isWord_94 (by decide) (fun _ => ?_) (fun zz => absurd zz (by decide))
                    refine aw_iconst (v := 0) dX6_isWord_112 (by decide) ?_
                    refine aw_ireturn (ty := .boolean) dX6_isWord_113 rfl (by decide) ?_
                    exact hF (fun w => c91 (by have g := (w8_cup hen.2.1 hle).mp ((wc_cup B _ _).mp ((tk_wrd (by decide)).mp w).2); exact g.2.2.2.2.2.2.1))
                · refine aw_if_eq (tgt := 112) dX6_isWord_83 (by decide) (fun _ => ?_) (fun zz => absurd zz (by decide))
                  refine aw_iconst (v := 0) dX6_isWord_112 (by decide) ?_
                  refine aw_ireturn (ty := .boolean) dX6_isWord_113 rfl (by decide) ?_
                  exact hF (fun w => c80 (by have g := (w8_cup hen.2.1 hle).mp ((wc_cup B _ _).mp ((tk_wrd (by decide)).mp w).2); exact g.2.2.2.2.2.1))
              · refine aw_if_eq (tgt := 112) dX6_isWord_73 (by decide) (fun _ => ?_) (fun zz => absurd zz (by decide))
                refine aw_iconst (v := 0) dX6_isWord_112 (by decide) ?_
                refine aw_ireturn (ty := .boolean) dX6_isWord_113 rfl (by decide) ?_
                exact hF (fun w => c70 (by have g := (w8_cup hen.2.1 hle).mp ((wc_cup B _ _).mp ((tk_wrd (by decide)).mp w).2); exact g.2.2.2.2.1))
            · refine aw_if_eq (tgt := 112) dX6_isWord_63 (by decide) (fun _ => ?_) (fun zz => absurd zz (by decide))
              refine aw_iconst (v := 0) dX6_isWord_112 (by decide) ?_
              refine aw_ireturn (ty := .boolean) dX6_isWord_113 rfl (by decide) ?_
              exact hF (fun w => c60 (by have g := (w8_cup hen.2.1 hle).mp ((wc_cup B _ _).mp ((tk_wrd (by decide)).mp w).2); exact g.2.2.2.1))
          · refine aw_if_eq (tgt := 112) dX6_isWord_53 (by decide) (fun _ => ?_) (fun zz => absurd zz (by decide))
            refine aw_iconst (v := 0) dX6_isWord_112 (by decide) ?_
            refine aw_ireturn (ty := .boolean) dX6_isWord_113 rfl (by decide) ?_
            exact hF (fun w => c50 (by have g := (w8_cup hen.2.1 hle).mp ((wc_cup B _ _).mp ((tk_wrd (by decide)).mp w).2); exact g.2.2.1))
        · refine aw_if_eq (tgt := 112) dX6_isWord_44 (by decide) (fun _ => ?_) (fun zz => absurd zz (by decide))
          refine aw_iconst (v := 0) dX6_isWord_112 (by decide) ?_
          refine aw_ireturn (ty := .boolean) dX6_isWord_113 rfl (by decide) ?_
          exact hF (fun w => c41 (by have g := (w8_cup hen.2.1 hle).mp ((wc_cup B _ _).mp ((tk_wrd (by decide)).mp w).2); exact g.2.1))
      · refine aw_if_eq (tgt := 112) dX6_isWord_35 (by decide) (fun _ => ?_) (fun zz => absurd zz (by decide))
        refine aw_iconst (v := 0) dX6_isWord_112 (by decide) ?_
        refine aw_ireturn (ty := .boolean) dX6_isWord_113 rfl (by decide) ?_
        exact hF (fun w => c32 (by have g := (w8_cup hen.2.1 hle).mp ((wc_cup B _ _).mp ((tk_wrd (by decide)).mp w).2); exact g.1))
theorem c_X6_isWordB {E : Ev} {d : Nat} {I : Mi} {L : Ml} {Z : Mz} {Q : Po} {x0 : Int32} {x1 : Int32} {x2 : Int32} {x3 : Int32} {x4 : Int32} {x5 : Int32} {x6 : Int32} {x7 : Int32} {f : Nat} (hd : 2 ≤ d) (hM : MZ Z) (hS : MB I f) (hQ : Q (some (.int 0)) I L Z) : AC E yX6_isWord cX6_isWord 9 (some .boolean) d 0 0 [.ref 48, .int x0, .int x1, .int x2, .int x3, .int x4, .int x5, .int x6, .int x7] I L Z Q := by
  refine ac_go (ls := [some (.ref 48), some (.int x0), some (.int x1), some (.int x2), some (.int x3), some (.int x4), some (.int x5), some (.int x6), some (.int x7)]) (by decide +kernel) (Nat.le_of_ble_eq_true rfl) rfl ?_
  refine aw_aload_n dX6_isWord_0 rfl rfl ?_
  refine aw_gi dX6_isWord_1 fw_X6_170 hM.1 ?_
  refine aw_if_ne (tgt := 112) dX6_isWord_4 (by decide) (fun c4 => ?_) (fun zz => absurd zz (by rw [hS.1]; decide))
  refine aw_iconst (v := 0) dX6_isWord_112 (by decide) ?_
  refine aw_ireturn (ty := .boolean) dX6_isWord_113 rfl (by decide) ?_
  exact hQ
theorem wide_eq (a b : Int32) : a.toInt64 = b.toInt64 ↔ a = b := by
  rw [← Int64.toInt_inj, ← Int32.toInt_inj, Int32.toInt_toInt64, Int32.toInt_toInt64]
theorem c_X6_isSign_10 {E : Ev} {d : Nat} {I : Mi} {L : Ml} {Z : Mz} {Q : Po}  {B : Nat → Int32} {n t k o : Nat} (hM : MZ Z) (hS : MS I L B n t k o) (hT : (SS B n k = 10) → Q (some (.int 1)) I L Z) (hF : ¬ (SS B n k = 10) → Q (some (.int 0)) I L Z) : AC E yX6_isSign cX6_isSign 2 (some .boolean) d 0 0 [.ref 48, .int 40] I L Z Q := by
  refine ac_go (ls := [some (.ref 48), some (.int 40)]) (by decide +kernel) (Nat.le_of_ble_eq_true rfl) rfl ?_
  refine aw_aload_n dX6_isSign_0 rfl rfl ?_
  refine aw_gi dX6_isSign_1 fw_X6_170 hM.1 ?_
  refine aw_if_ne (tgt := 29) dX6_isSign_4 (by decide) (fun zz => absurd hS.2.2.1 zz) (fun c4 => ?_)
  refine aw_aload_n dX6_isSign_7 rfl rfl ?_
  refine aw_gi dX6_isSign_8 fw_X6_153 hM.1 ?_
  refine aw_iconst (v := 3) dX6_isSign_11 (by decide) ?_
  refine aw_icmp_ne (tgt := 29) dX6_isSign_12 (by decide) (fun c12 => ?_) (fun c12 => ?_)
  · refine aw_iconst (v := 0) dX6_isSign_29 (by decide) ?_
    refine aw_ireturn (ty := .boolean) dX6_isSign_30 rfl (by decide) ?_
    exact hF (fun w => c12 (by rw [hS.2.1.2.1, ((tk_sgn (by decide) sg_10).mp w).1]; rfl))
  · have hmk : mkF B n (plF B n k) = 3 := by
      have e := hS.2.1.2.1
      rw [c12] at e
      exact ((nI_eq (a := 3) (by decide) (by have := mk_le B n (plF B n k); omega)).mp e).symm
    have e27 := hS.2.1.2.2.2.2 hmk
    refine aw_aload_n dX6_isSign_15 rfl rfl ?_
    refine aw_gl dX6_isSign_16 fw_X6_164 hM.1 ?_
    refine aw_iload_n dX6_isSign_19 rfl ?_
    refine aw_i2l dX6_isSign_20 ?_
    refine aw_lcmp dX6_isSign_21 ?_
    refine aw_if_ne (tgt := 29) dX6_isSign_22 (by decide) (fun c22 => ?_) (fun c22 => ?_)
    · refine aw_iconst (v := 0) dX6_isSign_29 (by decide) ?_
      refine aw_ireturn (ty := .boolean) dX6_isSign_30 rfl (by decide) ?_
      exact hF (fun w => c22 ((lg_cmp_eq _ _).mpr (by rw [e27, ((tk_sgn (by decide) sg_10).mp w).2])))
    · refine aw_iconst (v := 1) dX6_isSign_25 (by decide) ?_
      refine aw_goto (tgt := 30) dX6_isSign_26 (by decide) ?_
      refine aw_ireturn (ty := .boolean) dX6_isSign_30 rfl (by decide) ?_
      exact hT ((tk_sgn (by decide) sg_10).mpr ⟨hmk, (wide_eq _ _).mp (by rw [← e27]; exact (lg_cmp_eq _ _).mp c22)⟩)
theorem c_X6_isSign_11 {E : Ev} {d : Nat} {I : Mi} {L : Ml} {Z : Mz} {Q : Po}  {B : Nat → Int32} {n t k o : Nat} (hM : MZ Z) (hS : MS I L B n t k o) (hT : (SS B n k = 11) → Q (some (.int 1)) I L Z) (hF : ¬ (SS B n k = 11) → Q (some (.int 0)) I L Z) : AC E yX6_isSign cX6_isSign 2 (some .boolean) d 0 0 [.ref 48, .int 41] I L Z Q := by
  refine ac_go (ls := [some (.ref 48), some (.int 41)]) (by decide +kernel) (Nat.le_of_ble_eq_true rfl) rfl ?_
  refine aw_aload_n dX6_isSign_0 rfl rfl ?_
  refine aw_gi dX6_isSign_1 fw_X6_170 hM.1 ?_
  refine aw_if_ne (tgt := 29) dX6_isSign_4 (by decide) (fun zz => absurd hS.2.2.1 zz) (fun c4 => ?_)
  refine aw_aload_n dX6_isSign_7 rfl rfl ?_
  refine aw_gi dX6_isSign_8 fw_X6_153 hM.1 ?_
  refine aw_iconst (v := 3) dX6_isSign_11 (by decide) ?_
  refine aw_icmp_ne (tgt := 29) dX6_isSign_12 (by decide) (fun c12 => ?_) (fun c12 => ?_)
  · refine aw_iconst (v := 0) dX6_isSign_29 (by decide) ?_
    refine aw_ireturn (ty := .boolean) dX6_isSign_30 rfl (by decide) ?_
    exact hF (fun w => c12 (by rw [hS.2.1.2.1, ((tk_sgn (by decide) sg_11).mp w).1]; rfl))
  · have hmk : mkF B n (plF B n k) = 3 := by
      have e := hS.2.1.2.1
      rw [c12] at e
      exact ((nI_eq (a := 3) (by decide) (by have := mk_le B n (plF B n k); omega)).mp e).symm
    have e27 := hS.2.1.2.2.2.2 hmk
    refine aw_aload_n dX6_isSign_15 rfl rfl ?_
    refine aw_gl dX6_isSign_16 fw_X6_164 hM.1 ?_
    refine aw_iload_n dX6_isSign_19 rfl ?_
    refine aw_i2l dX6_isSign_20 ?_
    refine aw_lcmp dX6_isSign_21 ?_
    refine aw_if_ne (tgt := 29) dX6_isSign_22 (by decide) (fun c22 => ?_) (fun c22 => ?_)
    · refine aw_iconst (v := 0) dX6_isSign_29 (by decide) ?_
      refine aw_ireturn (ty := .boolean) dX6_isSign_30 rfl (by decide) ?_
      exact hF (fun w => c22 ((lg_cmp_eq _ _).mpr (by rw [e27, ((tk_sgn (by decide) sg_11).mp w).2])))
    · refine aw_iconst (v := 1) dX6_isSign_25 (by decide) ?_
      refine aw_goto (tgt := 30) dX6_isSign_26 (by decide) ?_
      refine aw_ireturn (ty := .boolean) dX6_isSign_30 rfl (by decide) ?_
      exact hT ((tk_sgn (by decide) sg_11).mpr ⟨hmk, (wide_eq _ _).mp (by rw [← e27]; exact (lg_cmp_eq _ _).mp c22)⟩)
theorem c_X6_isSign_12 {E : Ev} {d : Nat} {I : Mi} {L : Ml} {Z : Mz} {Q : Po}  {B : Nat → Int32} {n t k o : Nat} (hM : MZ Z) (hS : MS I L B n t k o) (hT : (SS B n k = 12) → Q (some (.int 1)) I L Z) (hF : ¬ (SS B n k = 12) → Q (some (.int 0)) I L Z) : AC E yX6_isSign cX6_isSign 2 (some .boolean) d 0 0 [.ref 48, .int 59] I L Z Q := by
  refine ac_go (ls := [some (.ref 48), some (.int 59)]) (by decide +kernel) (Nat.le_of_ble_eq_true rfl) rfl ?_
  refine aw_aload_n dX6_isSign_0 rfl rfl ?_
  refine aw_gi dX6_isSign_1 fw_X6_170 hM.1 ?_
  refine aw_if_ne (tgt := 29) dX6_isSign_4 (by decide) (fun zz => absurd hS.2.2.1 zz) (fun c4 => ?_)
  refine aw_aload_n dX6_isSign_7 rfl rfl ?_
  refine aw_gi dX6_isSign_8 fw_X6_153 hM.1 ?_
  refine aw_iconst (v := 3) dX6_isSign_11 (by decide) ?_
  refine aw_icmp_ne (tgt := 29) dX6_isSign_12 (by decide) (fun c12 => ?_) (fun c12 => ?_)
  · refine aw_iconst (v := 0) dX6_isSign_29 (by decide) ?_
    refine aw_ireturn (ty := .boolean) dX6_isSign_30 rfl (by decide) ?_
    exact hF (fun w => c12 (by rw [hS.2.1.2.1, ((tk_sgn (by decide) sg_12).mp w).1]; rfl))
  · have hmk : mkF B n (plF B n k) = 3 := by
      have e := hS.2.1.2.1
      rw [c12] at e
      exact ((nI_eq (a := 3) (by decide) (by have := mk_le B n (plF B n k); omega)).mp e).symm
    have e27 := hS.2.1.2.2.2.2 hmk
    refine aw_aload_n dX6_isSign_15 rfl rfl ?_
    refine aw_gl dX6_isSign_16 fw_X6_164 hM.1 ?_
    refine aw_iload_n dX6_isSign_19 rfl ?_
    refine aw_i2l dX6_isSign_20 ?_
    refine aw_lcmp dX6_isSign_21 ?_
    refine aw_if_ne (tgt := 29) dX6_isSign_22 (by decide) (fun c22 => ?_) (fun c22 => ?_)
    · refine aw_iconst (v := 0) dX6_isSign_29 (by decide) ?_
      refine aw_ireturn (ty := .boolean) dX6_isSign_30 rfl (by decide) ?_
      exact hF (fun w => c22 ((lg_cmp_eq _ _).mpr (by rw [e27, ((tk_sgn (by decide) sg_12).mp w).2])))
    · refine aw_iconst (v := 1) dX6_isSign_25 (by decide) ?_
      refine aw_goto (tgt := 30) dX6_isSign_26 (by decide) ?_
      refine aw_ireturn (ty := .boolean) dX6_isSign_30 rfl (by decide) ?_
      exact hT ((tk_sgn (by decide) sg_12).mpr ⟨hmk, (wide_eq _ _).mp (by rw [← e27]; exact (lg_cmp_eq _ _).mp c22)⟩)
theorem c_X6_isSign_13 {E : Ev} {d : Nat} {I : Mi} {L : Ml} {Z : Mz} {Q : Po}  {B : Nat → Int32} {n t k o : Nat} (hM : MZ Z) (hS : MS I L B n t k o) (hT : (SS B n k = 13) → Q (some (.int 1)) I L Z) (hF : ¬ (SS B n k = 13) → Q (some (.int 0)) I L Z) : AC E yX6_isSign cX6_isSign 2 (some .boolean) d 0 0 [.ref 48, .int 43] I L Z Q := by
  refine ac_go (ls := [some (.ref 48), some (.int 43)]) (by decide +kernel) (Nat.le_of_ble_eq_true rfl) rfl ?_
  refine aw_aload_n dX6_isSign_0 rfl rfl ?_
  refine aw_gi dX6_isSign_1 fw_X6_170 hM.1 ?_
  refine aw_if_ne (tgt := 29) dX6_isSign_4 (by decide) (fun zz => absurd hS.2.2.1 zz) (fun c4 => ?_)
  refine aw_aload_n dX6_isSign_7 rfl rfl ?_
  refine aw_gi dX6_isSign_8 fw_X6_153 hM.1 ?_
  refine aw_iconst (v := 3) dX6_isSign_11 (by decide) ?_
  refine aw_icmp_ne (tgt := 29) dX6_isSign_12 (by decide) (fun c12 => ?_) (fun c12 => ?_)
  · refine aw_iconst (v := 0) dX6_isSign_29 (by decide) ?_
    refine aw_ireturn (ty := .boolean) dX6_isSign_30 rfl (by decide) ?_
    exact hF (fun w => c12 (by rw [hS.2.1.2.1, ((tk_sgn (by decide) sg_13).mp w).1]; rfl))
  · have hmk : mkF B n (plF B n k) = 3 := by
      have e := hS.2.1.2.1
      rw [c12] at e
      exact ((nI_eq (a := 3) (by decide) (by have := mk_le B n (plF B n k); omega)).mp e).symm
    have e27 := hS.2.1.2.2.2.2 hmk
    refine aw_aload_n dX6_isSign_15 rfl rfl ?_
    refine aw_gl dX6_isSign_16 fw_X6_164 hM.1 ?_
    refine aw_iload_n dX6_isSign_19 rfl ?_
    refine aw_i2l dX6_isSign_20 ?_
    refine aw_lcmp dX6_isSign_21 ?_
    refine aw_if_ne (tgt := 29) dX6_isSign_22 (by decide) (fun c22 => ?_) (fun c22 => ?_)
    · refine aw_iconst (v := 0) dX6_isSign_29 (by decide) ?_
      refine aw_ireturn (ty := .boolean) dX6_isSign_30 rfl (by decide) ?_
      exact hF (fun w => c22 ((lg_cmp_eq _ _).mpr (by rw [e27, ((tk_sgn (by decide) sg_13).mp w).2])))
    · refine aw_iconst (v := 1) dX6_isSign_25 (by decide) ?_
      refine aw_goto (tgt := 30) dX6_isSign_26 (by decide) ?_
      refine aw_ireturn (ty := .boolean) dX6_isSign_30 rfl (by decide) ?_
      exact hT ((tk_sgn (by decide) sg_13).mpr ⟨hmk, (wide_eq _ _).mp (by rw [← e27]; exact (lg_cmp_eq _ _).mp c22)⟩)
theorem c_X6_isSign_14 {E : Ev} {d : Nat} {I : Mi} {L : Ml} {Z : Mz} {Q : Po}  {B : Nat → Int32} {n t k o : Nat} (hM : MZ Z) (hS : MS I L B n t k o) (hT : (SS B n k = 14) → Q (some (.int 1)) I L Z) (hF : ¬ (SS B n k = 14) → Q (some (.int 0)) I L Z) : AC E yX6_isSign cX6_isSign 2 (some .boolean) d 0 0 [.ref 48, .int 45] I L Z Q := by
  refine ac_go (ls := [some (.ref 48), some (.int 45)]) (by decide +kernel) (Nat.le_of_ble_eq_true rfl) rfl ?_
  refine aw_aload_n dX6_isSign_0 rfl rfl ?_
  refine aw_gi dX6_isSign_1 fw_X6_170 hM.1 ?_
  refine aw_if_ne (tgt := 29) dX6_isSign_4 (by decide) (fun zz => absurd hS.2.2.1 zz) (fun c4 => ?_)
  refine aw_aload_n dX6_isSign_7 rfl rfl ?_
  refine aw_gi dX6_isSign_8 fw_X6_153 hM.1 ?_
  refine aw_iconst (v := 3) dX6_isSign_11 (by decide) ?_
  refine aw_icmp_ne (tgt := 29) dX6_isSign_12 (by decide) (fun c12 => ?_) (fun c12 => ?_)
  · refine aw_iconst (v := 0) dX6_isSign_29 (by decide) ?_
    refine aw_ireturn (ty := .boolean) dX6_isSign_30 rfl (by decide) ?_
    exact hF (fun w => c12 (by rw [hS.2.1.2.1, ((tk_sgn (by decide) sg_14).mp w).1]; rfl))
  · have hmk : mkF B n (plF B n k) = 3 := by
      have e := hS.2.1.2.1
      rw [c12] at e
      exact ((nI_eq (a := 3) (by decide) (by have := mk_le B n (plF B n k); omega)).mp e).symm
    have e27 := hS.2.1.2.2.2.2 hmk
    refine aw_aload_n dX6_isSign_15 rfl rfl ?_
    refine aw_gl dX6_isSign_16 fw_X6_164 hM.1 ?_
    refine aw_iload_n dX6_isSign_19 rfl ?_
    refine aw_i2l dX6_isSign_20 ?_
    refine aw_lcmp dX6_isSign_21 ?_
    refine aw_if_ne (tgt := 29) dX6_isSign_22 (by decide) (fun c22 => ?_) (fun c22 => ?_)
    · refine aw_iconst (v := 0) dX6_isSign_29 (by decide) ?_
      refine aw_ireturn (ty := .boolean) dX6_isSign_30 rfl (by decide) ?_
      exact hF (fun w => c22 ((lg_cmp_eq _ _).mpr (by rw [e27, ((tk_sgn (by decide) sg_14).mp w).2])))
    · refine aw_iconst (v := 1) dX6_isSign_25 (by decide) ?_
      refine aw_goto (tgt := 30) dX6_isSign_26 (by decide) ?_
      refine aw_ireturn (ty := .boolean) dX6_isSign_30 rfl (by decide) ?_
      exact hT ((tk_sgn (by decide) sg_14).mpr ⟨hmk, (wide_eq _ _).mp (by rw [← e27]; exact (lg_cmp_eq _ _).mp c22)⟩)
theorem c_X6_isSign_15 {E : Ev} {d : Nat} {I : Mi} {L : Ml} {Z : Mz} {Q : Po}  {B : Nat → Int32} {n t k o : Nat} (hM : MZ Z) (hS : MS I L B n t k o) (hT : (SS B n k = 15) → Q (some (.int 1)) I L Z) (hF : ¬ (SS B n k = 15) → Q (some (.int 0)) I L Z) : AC E yX6_isSign cX6_isSign 2 (some .boolean) d 0 0 [.ref 48, .int 42] I L Z Q := by
  refine ac_go (ls := [some (.ref 48), some (.int 42)]) (by decide +kernel) (Nat.le_of_ble_eq_true rfl) rfl ?_
  refine aw_aload_n dX6_isSign_0 rfl rfl ?_
  refine aw_gi dX6_isSign_1 fw_X6_170 hM.1 ?_
  refine aw_if_ne (tgt := 29) dX6_isSign_4 (by decide) (fun zz => absurd hS.2.2.1 zz) (fun c4 => ?_)
  refine aw_aload_n dX6_isSign_7 rfl rfl ?_
  refine aw_gi dX6_isSign_8 fw_X6_153 hM.1 ?_
  refine aw_iconst (v := 3) dX6_isSign_11 (by decide) ?_
  refine aw_icmp_ne (tgt := 29) dX6_isSign_12 (by decide) (fun c12 => ?_) (fun c12 => ?_)
  · refine aw_iconst (v := 0) dX6_isSign_29 (by decide) ?_
    refine aw_ireturn (ty := .boolean) dX6_isSign_30 rfl (by decide) ?_
    exact hF (fun w => c12 (by rw [hS.2.1.2.1, ((tk_sgn (by decide) sg_15).mp w).1]; rfl))
  · have hmk : mkF B n (plF B n k) = 3 := by
      have e := hS.2.1.2.1
      rw [c12] at e
      exact ((nI_eq (a := 3) (by decide) (by have := mk_le B n (plF B n k); omega)).mp e).symm
    have e27 := hS.2.1.2.2.2.2 hmk
    refine aw_aload_n dX6_isSign_15 rfl rfl ?_
    refine aw_gl dX6_isSign_16 fw_X6_164 hM.1 ?_
    refine aw_iload_n dX6_isSign_19 rfl ?_
    refine aw_i2l dX6_isSign_20 ?_
    refine aw_lcmp dX6_isSign_21 ?_
    refine aw_if_ne (tgt := 29) dX6_isSign_22 (by decide) (fun c22 => ?_) (fun c22 => ?_)
    · refine aw_iconst (v := 0) dX6_isSign_29 (by decide) ?_
      refine aw_ireturn (ty := .boolean) dX6_isSign_30 rfl (by decide) ?_
      exact hF (fun w => c22 ((lg_cmp_eq _ _).mpr (by rw [e27, ((tk_sgn (by decide) sg_15).mp w).2])))
    · refine aw_iconst (v := 1) dX6_isSign_25 (by decide) ?_
      refine aw_goto (tgt := 30) dX6_isSign_26 (by decide) ?_
      refine aw_ireturn (ty := .boolean) dX6_isSign_30 rfl (by decide) ?_
      exact hT ((tk_sgn (by decide) sg_15).mpr ⟨hmk, (wide_eq _ _).mp (by rw [← e27]; exact (lg_cmp_eq _ _).mp c22)⟩)
theorem c_X6_isSign_16 {E : Ev} {d : Nat} {I : Mi} {L : Ml} {Z : Mz} {Q : Po}  {B : Nat → Int32} {n t k o : Nat} (hM : MZ Z) (hS : MS I L B n t k o) (hT : (SS B n k = 16) → Q (some (.int 1)) I L Z) (hF : ¬ (SS B n k = 16) → Q (some (.int 0)) I L Z) : AC E yX6_isSign cX6_isSign 2 (some .boolean) d 0 0 [.ref 48, .int 60] I L Z Q := by
  refine ac_go (ls := [some (.ref 48), some (.int 60)]) (by decide +kernel) (Nat.le_of_ble_eq_true rfl) rfl ?_
  refine aw_aload_n dX6_isSign_0 rfl rfl ?_
  refine aw_gi dX6_isSign_1 fw_X6_170 hM.1 ?_
  refine aw_if_ne (tgt := 29) dX6_isSign_4 (by decide) (fun zz => absurd hS.2.2.1 zz) (fun c4 => ?_)
  refine aw_aload_n dX6_isSign_7 rfl rfl ?_
  refine aw_gi dX6_isSign_8 fw_X6_153 hM.1 ?_
  refine aw_iconst (v := 3) dX6_isSign_11 (by decide) ?_
  refine aw_icmp_ne (tgt := 29) dX6_isSign_12 (by decide) (fun c12 => ?_) (fun c12 => ?_)
  · refine aw_iconst (v := 0) dX6_isSign_29 (by decide) ?_
    refine aw_ireturn (ty := .boolean) dX6_isSign_30 rfl (by decide) ?_
    exact hF (fun w => c12 (by rw [hS.2.1.2.1, ((tk_sgn (by decide) sg_16).mp w).1]; rfl))
  · have hmk : mkF B n (plF B n k) = 3 := by
      have e := hS.2.1.2.1
      rw [c12] at e
      exact ((nI_eq (a := 3) (by decide) (by have := mk_le B n (plF B n k); omega)).mp e).symm
    have e27 := hS.2.1.2.2.2.2 hmk
    refine aw_aload_n dX6_isSign_15 rfl rfl ?_
    refine aw_gl dX6_isSign_16 fw_X6_164 hM.1 ?_
    refine aw_iload_n dX6_isSign_19 rfl ?_
    refine aw_i2l dX6_isSign_20 ?_
    refine aw_lcmp dX6_isSign_21 ?_
    refine aw_if_ne (tgt := 29) dX6_isSign_22 (by decide) (fun c22 => ?_) (fun c22 => ?_)
    · refine aw_iconst (v := 0) dX6_isSign_29 (by decide) ?_
      refine aw_ireturn (ty := .boolean) dX6_isSign_30 rfl (by decide) ?_
      exact hF (fun w => c22 ((lg_cmp_eq _ _).mpr (by rw [e27, ((tk_sgn (by decide) sg_16).mp w).2])))
    · refine aw_iconst (v := 1) dX6_isSign_25 (by decide) ?_
      refine aw_goto (tgt := 30) dX6_isSign_26 (by decide) ?_
      refine aw_ireturn (ty := .boolean) dX6_isSign_30 rfl (by decide) ?_
      exact hT ((tk_sgn (by decide) sg_16).mpr ⟨hmk, (wide_eq _ _).mp (by rw [← e27]; exact (lg_cmp_eq _ _).mp c22)⟩)
theorem c_X6_isSign_17 {E : Ev} {d : Nat} {I : Mi} {L : Ml} {Z : Mz} {Q : Po}  {B : Nat → Int32} {n t k o : Nat} (hM : MZ Z) (hS : MS I L B n t k o) (hT : (SS B n k = 17) → Q (some (.int 1)) I L Z) (hF : ¬ (SS B n k = 17) → Q (some (.int 0)) I L Z) : AC E yX6_isSign cX6_isSign 2 (some .boolean) d 0 0 [.ref 48, .int 61] I L Z Q := by
  refine ac_go (ls := [some (.ref 48), some (.int 61)]) (by decide +kernel) (Nat.le_of_ble_eq_true rfl) rfl ?_
  refine aw_aload_n dX6_isSign_0 rfl rfl ?_
  refine aw_gi dX6_isSign_1 fw_X6_170 hM.1 ?_
  refine aw_if_ne (tgt := 29) dX6_isSign_4 (by decide) (fun zz => absurd hS.2.2.1 zz) (fun c4 => ?_)
  refine aw_aload_n dX6_isSign_7 rfl rfl ?_
  refine aw_gi dX6_isSign_8 fw_X6_153 hM.1 ?_
  refine aw_iconst (v := 3) dX6_isSign_11 (by decide) ?_
  refine aw_icmp_ne (tgt := 29) dX6_isSign_12 (by decide) (fun c12 => ?_) (fun c12 => ?_)
  · refine aw_iconst (v := 0) dX6_isSign_29 (by decide) ?_
    refine aw_ireturn (ty := .boolean) dX6_isSign_30 rfl (by decide) ?_
    exact hF (fun w => c12 (by rw [hS.2.1.2.1, ((tk_sgn (by decide) sg_17).mp w).1]; rfl))
  · have hmk : mkF B n (plF B n k) = 3 := by
      have e := hS.2.1.2.1
      rw [c12] at e
      exact ((nI_eq (a := 3) (by decide) (by have := mk_le B n (plF B n k); omega)).mp e).symm
    have e27 := hS.2.1.2.2.2.2 hmk
    refine aw_aload_n dX6_isSign_15 rfl rfl ?_
    refine aw_gl dX6_isSign_16 fw_X6_164 hM.1 ?_
    refine aw_iload_n dX6_isSign_19 rfl ?_
    refine aw_i2l dX6_isSign_20 ?_
    refine aw_lcmp dX6_isSign_21 ?_
    refine aw_if_ne (tgt := 29) dX6_isSign_22 (by decide) (fun c22 => ?_) (fun c22 => ?_)
    · refine aw_iconst (v := 0) dX6_isSign_29 (by decide) ?_
      refine aw_ireturn (ty := .boolean) dX6_isSign_30 rfl (by decide) ?_
      exact hF (fun w => c22 ((lg_cmp_eq _ _).mpr (by rw [e27, ((tk_sgn (by decide) sg_17).mp w).2])))
    · refine aw_iconst (v := 1) dX6_isSign_25 (by decide) ?_
      refine aw_goto (tgt := 30) dX6_isSign_26 (by decide) ?_
      refine aw_ireturn (ty := .boolean) dX6_isSign_30 rfl (by decide) ?_
      exact hT ((tk_sgn (by decide) sg_17).mpr ⟨hmk, (wide_eq _ _).mp (by rw [← e27]; exact (lg_cmp_eq _ _).mp c22)⟩)
theorem c_X6_isSignB {E : Ev} {d : Nat} {I : Mi} {L : Ml} {Z : Mz} {Q : Po} {x : Int32} {f : Nat} (hM : MZ Z) (hS : MB I f) (hQ : Q (some (.int 0)) I L Z) : AC E yX6_isSign cX6_isSign 2 (some .boolean) d 0 0 [.ref 48, .int x] I L Z Q := by
  refine ac_go (ls := [some (.ref 48), some (.int x)]) (by decide +kernel) (Nat.le_of_ble_eq_true rfl) rfl ?_
  refine aw_aload_n dX6_isSign_0 rfl rfl ?_
  refine aw_gi dX6_isSign_1 fw_X6_170 hM.1 ?_
  refine aw_if_ne (tgt := 29) dX6_isSign_4 (by decide) (fun c4 => ?_) (fun zz => absurd zz (by rw [hS.1]; decide))
  refine aw_iconst (v := 0) dX6_isSign_29 (by decide) ?_
  refine aw_ireturn (ty := .boolean) dX6_isSign_30 rfl (by decide) ?_
  exact hQ
theorem c_X6_next {E : Ev} {d : Nat} {I : Mi} {L : Ml} {Z : Mz} {Q : Po} {B : Nat → Int32} {n t k o : Nat} (hd : 1 ≤ d) (hM : MZ Z) (hS : MS I L B n t k o) (h0 : ¬ SS B n k = 0) (h1 : ¬ SS B n k = 1) (hQ : ∀ (I9 : Mi) (L9 : Ml), SaQ I I9 → MS I9 L9 B n t (k + 1) o → Q none I9 L9 Z) : AC E yX6_nextToken cX6_nextToken 3 none d 0 0 [.ref 48] I L Z Q := by
  refine c_X6_nextToken hd hM hS.1 (hS.2.1.2.2.1 (mk_tok h0 h1)) (en_bd (pl_bd k)).1 (fun I9 L9 s h => hQ I9 L9 s.q ⟨hS.1.sn s, h, ?_, ?_⟩)
  · rw [s _ _ (by omega)]; exact hS.2.2.1
  · rw [s _ _ (by omega)]; exact hS.2.2.2
theorem c_X6_opens {E : Ev} {d : Nat} {I : Mi} {L : Ml} {Z : Mz} {Q : Po}  {B : Nat → Int32} {n t k o : Nat} (hd : 2 ≤ d) (hM : MZ Z) (hS : MS I L B n t k o) (ho : o < 5) (h0 : ¬ SS B n k = 0) (h1 : ¬ SS B n k = 1) (hQ : ∀ (I9 : Mi) (L9 : Ml), SaQ I I9 → MS I9 L9 B n t (k + 1) (o + 1) → Q (some (.int 1)) I9 L9 Z) : AC E yX6_opens cX6_opens 1 (some .boolean) d 0 0 [.ref 48] I L Z Q := by
  refine ac_go (ls := [some (.ref 48)]) (by decide +kernel) (Nat.le_of_ble_eq_true rfl) rfl ?_
  refine aw_aload_n dX6_opens_0 rfl rfl ?_
  refine aw_gi dX6_opens_1 fw_X6_180 hM.1 ?_
  refine aw_iconst (v := 5) dX6_opens_4 (by decide) ?_
  refine aw_icmp_ne (tgt := 14) dX6_opens_5 (by decide) (fun c5 => ?_) (fun zz => absurd zz (fun w => absurd ((nI_eq (b := 5) (by omega) (by decide)).mp (hS.2.2.2.symm.trans w)) (by omega)))
  refine aw_aload_n dX6_opens_14 rfl rfl ?_
  refine aw_dup dX6_opens_15 rfl ?_
  refine aw_gi dX6_opens_16 fw_X6_180 hM.1 ?_
  refine aw_iconst (v := 1) dX6_opens_19 (by decide) ?_
  refine aw_iadd dX6_opens_20 ?_
  rw [hS.2.2.2, nI_1]
  refine aw_pi dX6_opens_21 fw_X6_180 (ww_X6_180 _) hM.1 rfl ?_
  refine aw_aload_n dX6_opens_24 rfl rfl ?_
  have s1 : SaQ I (iU I 48 28 (nI (o + 1))) := SaQ.rf.put (by omega)
  have hS1 : MS (iU I 48 28 (nI (o + 1))) L B n t k (o + 1) := ⟨hS.1.sq s1, ⟨by rw [iU_at (by omega)]; exact hS.2.1.1, by rw [iU_at (by omega)]; exact hS.2.1.2.1, by rw [iU_at (by omega)]; exact hS.2.1.2.2.1, hS.2.1.2.2.2⟩, by rw [iU_at (by omega)]; exact hS.2.2.1, iU_same⟩
  refine aw_V0 dX6_opens_25 cw_X6_186 ⟨_, _, rfl⟩ hM.1 (by omega) ⟨Nat.le_refl _, Nat.le_refl _⟩ (by decide) (c_X6_next (by omega) hM hS1 h0 h1 (fun I9 L9 s9 m9 => ?_))
  refine aw_iconst (v := 1) dX6_opens_28 (by decide) ?_
  refine aw_ireturn (ty := .boolean) dX6_opens_29 rfl (by decide) ?_
  exact hQ _ _ (s1.tr s9) m9
theorem c_X6_opens5 {E : Ev} {d : Nat} {I : Mi} {L : Ml} {Z : Mz} {Q : Po}  {B : Nat → Int32} {n t k : Nat} (hd : 2 ≤ d) (hM : MZ Z) (hS : MS I L B n t k 5) (hQ : ∀ I9 : Mi, SaQ I I9 → MB I9 (plF B n k) → Q (some (.int 0)) I9 L Z) : AC E yX6_opens cX6_opens 1 (some .boolean) d 0 0 [.ref 48] I L Z Q := by
  refine ac_go (ls := [some (.ref 48)]) (by decide +kernel) (Nat.le_of_ble_eq_true rfl) rfl ?_
  refine aw_aload_n dX6_opens_0 rfl rfl ?_
  refine aw_gi dX6_opens_1 fw_X6_180 hM.1 ?_
  refine aw_iconst (v := 5) dX6_opens_4 (by decide) ?_
  refine aw_icmp_ne (tgt := 14) dX6_opens_5 (by decide) (fun zz => absurd hS.2.2.2 zz) (fun c5 => ?_)
  refine aw_aload_n dX6_opens_8 rfl rfl ?_
  refine aw_V0 dX6_opens_9 cw_X6_183 ⟨_, _, rfl⟩ hM.1 (by omega) ⟨Nat.le_refl _, Nat.le_refl _⟩ (by decide) (c_X6_fail hM hS (fun I9 s9 m9 => ?_))
  refine aw_iconst (v := 0) dX6_opens_12 (by decide) ?_
  refine aw_ireturn (ty := .boolean) dX6_opens_13 rfl (by decide) ?_
  exact hQ _ s9 m9
theorem c_X6_name {E : Ev} {d : Nat} {I : Mi} {L : Ml} {Z : Mz} {Q : Po}  {B : Nat → Int32} {n t k o : Nat} (hd : 3 ≤ d) (hM : MZ Z) (hS : MS I L B n t k o) (hN : SS B n k = 3 → Q (some (.int (nmI I (VV B n k)))) I L Z) (hF : ¬ SS B n k = 3 → ∀ I9 : Mi, SaQ I I9 → MB I9 (plF B n k) → Q (some (.int 0)) I9 L Z) : AC E yX6_name cX6_name 1 (some .int) d 0 0 [.ref 48] I L Z Q := by
  refine ac_go (ls := [some (.ref 48)]) (by decide +kernel) (Nat.le_of_ble_eq_true rfl) rfl ?_
  refine aw_aload_n dX6_name_0 rfl rfl ?_
  refine aw_bipush (v := 103) dX6_name_1 (by decide) ?_
  refine aw_bipush (v := 114) dX6_name_3 (by decide) ?_
  refine aw_bipush (v := 111) dX6_name_5 (by decide) ?_
  refine aw_bipush (v := 117) dX6_name_7 (by decide) ?_
  refine aw_bipush (v := 110) dX6_name_9 (by decide) ?_
  refine aw_bipush (v := 100) dX6_name_11 (by decide) ?_
  refine aw_bipush (v := 115) dX6_name_13 (by decide) ?_
  refine aw_iconst (v := 0) dX6_name_15 (by decide) ?_
  refine aw_V8 dX6_name_16 cw_X6_189 ⟨_, _, rfl⟩ hM.1 (by omega) ⟨Nat.le_refl _, Nat.le_refl _⟩ (by decide) (c_X6_isWord_grounds (by omega) hM hS (fun c16 => ?_) (fun c16 => ?_))
  · refine aw_if_eq (tgt := 27) dX6_name_19 (by decide) (fun zz => absurd zz (by decide)) (fun _ => ?_)
    refine aw_aload_n dX6_name_22 rfl rfl ?_
    refine aw_gi dX6_name_23 fw_X6_193 hM.1 ?_
    refine aw_ireturn (ty := .int) dX6_name_26 rfl rfl ?_
    have h3 := (tk_nam (B := B) (n := n) (p := plF B n k) (i := 0) (by decide)).mpr c16
    have hq := hN h3.1
    rw [show VV B n k = 0 from h3.2] at hq
    exact hq
  · refine aw_if_eq (tgt := 27) dX6_name_19 (by decide) (fun _ => ?_) (fun zz => absurd zz (by decide))
    refine aw_aload_n dX6_name_27 rfl rfl ?_
    refine aw_bipush (v := 115) dX6_name_28 (by decide) ?_
    refine aw_bipush (v := 97) dX6_name_30 (by decide) ?_
    refine aw_bipush (v := 121) dX6_name_32 (by decide) ?_
    refine aw_bipush (v := 105) dX6_name_34 (by decide) ?_
    refine aw_bipush (v := 110) dX6_name_36 (by decide) ?_
    refine aw_bipush (v := 103) dX6_name_38 (by decide) ?_
    refine aw_iconst (v := 0) dX6_name_40 (by decide) ?_
    refine aw_iconst (v := 0) dX6_name_41 (by decide) ?_
    refine aw_V8 dX6_name_42 cw_X6_189 ⟨_, _, rfl⟩ hM.1 (by omega) ⟨Nat.le_refl _, Nat.le_refl _⟩ (by decide) (c_X6_isWord_saying (by omega) hM hS (fun c42 => ?_) (fun c42 => ?_))
    · refine aw_if_eq (tgt := 53) dX6_name_45 (by decide) (fun zz => absurd zz (by decide)) (fun _ => ?_)
      refine aw_aload_n dX6_name_48 rfl rfl ?_
      refine aw_gi dX6_name_49 fw_X6_196 hM.1 ?_
      refine aw_ireturn (ty := .int) dX6_name_52 rfl rfl ?_
      have h3 := (tk_nam (B := B) (n := n) (p := plF B n k) (i := 1) (by decide)).mpr c42
      have hq := hN h3.1
      rw [show VV B n k = 1 from h3.2] at hq
      exact hq
    · refine aw_if_eq (tgt := 53) dX6_name_45 (by decide) (fun _ => ?_) (fun zz => absurd zz (by decide))
      refine aw_aload_n dX6_name_53 rfl rfl ?_
      refine aw_bipush (v := 110) dX6_name_54 (by decide) ?_
      refine aw_bipush (v := 117) dX6_name_56 (by decide) ?_
      refine aw_bipush (v := 109) dX6_name_58 (by decide) ?_
      refine aw_bipush (v := 98) dX6_name_60 (by decide) ?_
      refine aw_bipush (v := 101) dX6_name_62 (by decide) ?_
      refine aw_bipush (v := 114) dX6_name_64 (by decide) ?_
      refine aw_iconst (v := 0) dX6_name_66 (by decide) ?_
      refine aw_iconst (v := 0) dX6_name_67 (by decide) ?_
      refine aw_V8 dX6_name_68 cw_X6_189 ⟨_, _, rfl⟩ hM.1 (by omega) ⟨Nat.le_refl _, Nat.le_refl _⟩ (by decide) (c_X6_isWord_number (by omega) hM hS (fun c68 => ?_) (fun c68 => ?_))
      · refine aw_if_eq (tgt := 79) dX6_name_71 (by decide) (fun zz => absurd zz (by decide)) (fun _ => ?_)
        refine aw_aload_n dX6_name_74 rfl rfl ?_
        refine aw_gi dX6_name_75 fw_X6_199 hM.1 ?_
        refine aw_ireturn (ty := .int) dX6_name_78 rfl rfl ?_
        have h3 := (tk_nam (B := B) (n := n) (p := plF B n k) (i := 2) (by decide)).mpr c68
        have hq := hN h3.1
        rw [show VV B n k = 2 from h3.2] at hq
        exact hq
      · refine aw_if_eq (tgt := 79) dX6_name_71 (by decide) (fun _ => ?_) (fun zz => absurd zz (by decide))
        refine aw_aload_n dX6_name_79 rfl rfl ?_
        refine aw_bipush (v := 104) dX6_name_80 (by decide) ?_
        refine aw_bipush (v := 111) dX6_name_82 (by decide) ?_
        refine aw_bipush (v := 117) dX6_name_84 (by decide) ?_
        refine aw_bipush (v := 114) dX6_name_86 (by decide) ?_
        refine aw_iconst (v := 0) dX6_name_88 (by decide) ?_
        refine aw_iconst (v := 0) dX6_name_89 (by decide) ?_
        refine aw_iconst (v := 0) dX6_name_90 (by decide) ?_
        refine aw_iconst (v := 0) dX6_name_91 (by decide) ?_
        refine aw_V8 dX6_name_92 cw_X6_189 ⟨_, _, rfl⟩ hM.1 (by omega) ⟨Nat.le_refl _, Nat.le_refl _⟩ (by decide) (c_X6_isWord_hour (by omega) hM hS (fun c92 => ?_) (fun c92 => ?_))
        · refine aw_if_eq (tgt := 103) dX6_name_95 (by decide) (fun zz => absurd zz (by decide)) (fun _ => ?_)
          refine aw_aload_n dX6_name_98 rfl rfl ?_
          refine aw_gi dX6_name_99 fw_X6_202 hM.1 ?_
          refine aw_ireturn (ty := .int) dX6_name_102 rfl rfl ?_
          have h3 := (tk_nam (B := B) (n := n) (p := plF B n k) (i := 3) (by decide)).mpr c92
          have hq := hN h3.1
          rw [show VV B n k = 3 from h3.2] at hq
          exact hq
        · refine aw_if_eq (tgt := 103) dX6_name_95 (by decide) (fun _ => ?_) (fun zz => absurd zz (by decide))
          refine aw_aload_n dX6_name_103 rfl rfl ?_
          refine aw_bipush (v := 115) dX6_name_104 (by decide) ?_
          refine aw_bipush (v := 108) dX6_name_106 (by decide) ?_
          refine aw_bipush (v := 105) dX6_name_108 (by decide) ?_
          refine aw_bipush (v := 112) dX6_name_110 (by decide) ?_
          refine aw_bipush (v := 115) dX6_name_112 (by decide) ?_
          refine aw_iconst (v := 0) dX6_name_114 (by decide) ?_
          refine aw_iconst (v := 0) dX6_name_115 (by decide) ?_
          refine aw_iconst (v := 0) dX6_name_116 (by decide) ?_
          refine aw_V8 dX6_name_117 cw_X6_189 ⟨_, _, rfl⟩ hM.1 (by omega) ⟨Nat.le_refl _, Nat.le_refl _⟩ (by decide) (c_X6_isWord_slips (by omega) hM hS (fun c117 => ?_) (fun c117 => ?_))
          · refine aw_if_eq (tgt := 128) dX6_name_120 (by decide) (fun zz => absurd zz (by decide)) (fun _ => ?_)
            refine aw_aload_n dX6_name_123 rfl rfl ?_
            refine aw_gi dX6_name_124 fw_X6_205 hM.1 ?_
            refine aw_ireturn (ty := .int) dX6_name_127 rfl rfl ?_
            have h3 := (tk_nam (B := B) (n := n) (p := plF B n k) (i := 4) (by decide)).mpr c117
            have hq := hN h3.1
            rw [show VV B n k = 4 from h3.2] at hq
            exact hq
          · refine aw_if_eq (tgt := 128) dX6_name_120 (by decide) (fun _ => ?_) (fun zz => absurd zz (by decide))
            refine aw_aload_n dX6_name_128 rfl rfl ?_
            refine aw_bipush (v := 99) dX6_name_129 (by decide) ?_
            refine aw_bipush (v := 117) dX6_name_131 (by decide) ?_
            refine aw_bipush (v := 112) dX6_name_133 (by decide) ?_
            refine aw_iconst (v := 0) dX6_name_135 (by decide) ?_
            refine aw_iconst (v := 0) dX6_name_136 (by decide) ?_
            refine aw_iconst (v := 0) dX6_name_137 (by decide) ?_
            refine aw_iconst (v := 0) dX6_name_138 (by decide) ?_
            refine aw_iconst (v := 0) dX6_name_139 (by decide) ?_
            refine aw_V8 dX6_name_140 cw_X6_189 ⟨_, _, rfl⟩ hM.1 (by omega) ⟨Nat.le_refl _, Nat.le_refl _⟩ (by decide) (c_X6_isWord_cup (by omega) hM hS (fun c140 => ?_) (fun c140 => ?_))
            · refine aw_if_eq (tgt := 151) dX6_name_143 (by decide) (fun zz => absurd zz (by decide)) (fun _ => ?_)
              refine aw_aload_n dX6_name_146 rfl rfl ?_
              refine aw_gi dX6_name_147 fw_X6_208 hM.1 ?_
              refine aw_ireturn (ty := .int) dX6_name_150 rfl rfl ?_
              have h3 := (tk_nam (B := B) (n := n) (p := plF B n k) (i := 5) (by decide)).mpr c140
              have hq := hN h3.1
              rw [show VV B n k = 5 from h3.2] at hq
              exact hq
            · refine aw_if_eq (tgt := 151) dX6_name_143 (by decide) (fun _ => ?_) (fun zz => absurd zz (by decide))
              refine aw_aload_n dX6_name_151 rfl rfl ?_
              have h3 : ¬ SS B n k = 3 := fun w => by
                have hv := ((SV_ok B n).2 k).2.1 w
                have hc := (tk_nam (B := B) (n := n) (p := plF B n k) (i := VV B n k) hv).mp ⟨w, rfl⟩
                have : VV B n k = 0 ∨ VV B n k = 1 ∨ VV B n k = 2 ∨ VV B n k = 3 ∨ VV B n k = 4 ∨ VV B n k = 5 := by omega
                rcases this with g | g | g | g | g | g
                · exact c16 (by rw [hc, g])
                · exact c42 (by rw [hc, g])
                · exact c68 (by rw [hc, g])
                · exact c92 (by rw [hc, g])
                · exact c117 (by rw [hc, g])
                · exact c140 (by rw [hc, g])
              refine aw_V0 dX6_name_152 cw_X6_183 ⟨_, _, rfl⟩ hM.1 (by omega) ⟨Nat.le_refl _, Nat.le_refl _⟩ (by decide) (c_X6_fail hM hS (fun I9 s9 m9 => ?_))
              refine aw_iconst (v := 0) dX6_name_155 (by decide) ?_
              refine aw_ireturn (ty := .int) dX6_name_156 rfl rfl ?_
              exact hF h3 _ s9 m9
