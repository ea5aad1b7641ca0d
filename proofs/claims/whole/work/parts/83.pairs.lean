/-! ===== pairs: the image ===== -/
theorem im_o {I : Mi} {a j : Nat} (h1 : a ≠ 0) (h2 : ¬ (19 ≤ a ∧ a ≤ 26)) (h3 : ¬ (a = 48 ∧ 36 ≤ j)) (h4 : a ≠ 57 ∧ a ≠ 58 ∧ a ≠ 59) : imF (imM (iU (blM I 19 10) 0 6 1)) a j = I a j := by
  unfold imF imM
  rw [iU_at (by omega), iU_at (by omega), iU_at (by omega), iU_at (by omega), iU_at (by omega), iU_at (by omega), cpI_row (by omega), cpI_row (by omega), cpI_row (by omega), iU_at (by omega), blM_row (by omega)]
theorem im_k {I : Mi} : (∀ k, k < 6 → (vC (imF (imM (iU (blM I 19 10) 0 6 1))) 19).1 k = (vC I 10).1 k) ∧ (∀ k j, 1 ≤ k → k ≤ 7 → j < lnH k → (vC (imF (imM (iU (blM I 19 10) 0 6 1))) 19).2 k j = (vC I 10).2 k j) := by
  have row : ∀ a, 19 ≤ a → a ≤ 26 → imF (imM (iU (blM I 19 10) 0 6 1)) a = blM I 19 10 a := fun a g1 g2 => by
    funext j
    unfold imF imM
    rw [iU_at (by omega), iU_at (by omega), iU_at (by omega), iU_at (by omega), iU_at (by omega), iU_at (by omega), cpI_row (by omega), cpI_row (by omega), cpI_row (by omega), iU_at (by omega)]
  refine ⟨fun k hk => ?_, fun k j h1 h2 hj => ?_⟩
  · match k, hk with
    | 0, _ => show imF (imM (iU (blM I 19 10) 0 6 1)) 19 1 = I 10 1; rw [row 19 (by omega) (by omega)]; exact blM_f (by decide)
    | 1, _ => show imF (imM (iU (blM I 19 10) 0 6 1)) 19 2 = I 10 2; rw [row 19 (by omega) (by omega)]; exact blM_f (by decide)
    | 2, _ => show imF (imM (iU (blM I 19 10) 0 6 1)) 19 3 = I 10 3; rw [row 19 (by omega) (by omega)]; exact blM_f (by decide)
    | 3, _ => show imF (imM (iU (blM I 19 10) 0 6 1)) 19 6 = I 10 6; rw [row 19 (by omega) (by omega)]; exact blM_f (by decide)
    | 4, _ => show imF (imM (iU (blM I 19 10) 0 6 1)) 19 9 = I 10 9; rw [row 19 (by omega) (by omega)]; exact blM_f (by decide)
    | 5, _ => show imF (imM (iU (blM I 19 10) 0 6 1)) 19 13 = I 10 13; rw [row 19 (by omega) (by omega)]; exact blM_f (by decide)
    | k + 6, h => omega
  · show imF (imM (iU (blM I 19 10) 0 6 1)) (19 + k) j = I (10 + k) j
    rw [row (19 + k) (by omega) (by omega)]
    exact blM_a (by decide) ⟨h1, h2⟩ hj
theorem im_m {I : Mi} : (∀ k, k < 6 → (vK (imF (imM (iU (blM I 19 10) 0 6 1)))).1 k = (vM I).1 k) ∧ (∀ k j, 1 ≤ k → k ≤ 7 → j < lnH k → (vK (imF (imM (iU (blM I 19 10) 0 6 1)))).2 k j = (vM I).2 k j) := by
  have f48 : ∀ j, imM (iU (blM I 19 10) 0 6 1) 48 j = I 48 j := fun j => by
    unfold imM
    rw [cpI_row (by omega), cpI_row (by omega), cpI_row (by omega), iU_at (by omega), blM_row (by omega)]
  have o57 : ∀ a j, 49 ≤ a → imF (imM (iU (blM I 19 10) 0 6 1)) a j = imM (iU (blM I 19 10) 0 6 1) a j := fun a j g => by
    unfold imF
    rw [iU_at (by omega), iU_at (by omega), iU_at (by omega), iU_at (by omega), iU_at (by omega), iU_at (by omega)]
  have r57 : ∀ j, j < 12 → imM (iU (blM I 19 10) 0 6 1) 57 j = I 52 j := fun j hj => by
    unfold imM
    rw [cpI_row (by omega), cpI_row (by omega), cpI_at hj, iU_at (by omega), blM_row (by omega)]
  have r58 : ∀ j, j < 26 → imM (iU (blM I 19 10) 0 6 1) 58 j = I 53 j := fun j hj => by
    unfold imM
    rw [cpI_row (by omega), cpI_at hj, cpI_row (by omega), iU_at (by omega), blM_row (by omega)]
  have r59 : ∀ j, j < 10 → imM (iU (blM I 19 10) 0 6 1) 59 j = I 55 j := fun j hj => by
    unfold imM
    rw [cpI_at hj, cpI_row (by omega), cpI_row (by omega), iU_at (by omega), blM_row (by omega)]
  refine ⟨fun k hk => ?_, fun k j h1 h2 hj => ?_⟩
  · match k, hk with
    | 0, _ => show imF (imM (iU (blM I 19 10) 0 6 1)) 48 39 = I 48 7; unfold imF; rw [iU_at (by omega), iU_at (by omega), iU_same, f48]
    | 1, _ => show imF (imM (iU (blM I 19 10) 0 6 1)) 48 40 = I 48 8; unfold imF; rw [iU_at (by omega), iU_same, f48]
    | 2, _ => show imF (imM (iU (blM I 19 10) 0 6 1)) 48 41 = I 48 4; unfold imF; rw [iU_same, f48]
    | 3, _ => show imF (imM (iU (blM I 19 10) 0 6 1)) 48 37 = I 48 10; unfold imF; rw [iU_at (by omega), iU_at (by omega), iU_at (by omega), iU_at (by omega), iU_same, f48]
    | 4, _ => show imF (imM (iU (blM I 19 10) 0 6 1)) 48 38 = I 48 12; unfold imF; rw [iU_at (by omega), iU_at (by omega), iU_at (by omega), iU_same, f48]
    | 5, _ => show imF (imM (iU (blM I 19 10) 0 6 1)) 48 36 = I 48 15; unfold imF; rw [iU_at (by omega), iU_at (by omega), iU_at (by omega), iU_at (by omega), iU_at (by omega), iU_same, f48]
    | k + 6, h => omega
  · match k, h1, h2, hj with
    | 1, _, _, hj => show imF (imM (iU (blM I 19 10) 0 6 1)) 57 (2 * j) = I 52 (2 * j); rw [o57 _ _ (by omega)]; exact r57 _ (by have : j < 6 := hj; omega)
    | 2, _, _, hj => show imF (imM (iU (blM I 19 10) 0 6 1)) 57 (2 * j + 1) = I 52 (2 * j + 1); rw [o57 _ _ (by omega)]; exact r57 _ (by have : j < 6 := hj; omega)
    | 3, _, _, hj => show imF (imM (iU (blM I 19 10) 0 6 1)) 58 (2 * j) = I 53 (2 * j); rw [o57 _ _ (by omega)]; exact r58 _ (by have : j < 12 := hj; omega)
    | 4, _, _, hj => show imF (imM (iU (blM I 19 10) 0 6 1)) 58 (2 * j + 1) = I 53 (2 * j + 1); rw [o57 _ _ (by omega)]; exact r58 _ (by have : j < 12 := hj; omega)
    | 5, _, _, hj => show imF (imM (iU (blM I 19 10) 0 6 1)) 54 j = I 54 j; exact im_o (by omega) (by omega) (by omega) (by omega)
    | 6, _, _, hj => show imF (imM (iU (blM I 19 10) 0 6 1)) 59 (2 * j) = I 55 (2 * j); rw [o57 _ _ (by omega)]; exact r59 _ (by have : j < 5 := hj; omega)
    | 7, _, _, hj => show imF (imM (iU (blM I 19 10) 0 6 1)) 59 (2 * j + 1) = I 55 (2 * j + 1); rw [o57 _ _ (by omega)]; exact r59 _ (by have : j < 5 := hj; omega)
    | k + 8, _, h, _ => omega
theorem ct_ln {k n m r : Nat} (h1 : n ≤ 6) (h2 : m ≤ 5) (h3 : r ≤ 12) : ctH k n m r ≤ lnH k := by
  unfold ctH lnH
  split
  · exact h1
  · split
    · exact h3
    · exact h2
theorem pr_image {E : Ev} {I : Mi} {L : Ml} {Z : Mz} {Q : Po} (hI : GI I Z) (H : ∀ (rv : Int32) (I1 : Mi) (L1 : Ml), MD E yX6_image cX6_image 2 (some .int) [.ref 48] (some (.int rv)) I1 L1 Z → Q (some (.int rv)) I1 L1 Z) : AC E yX5_image cX5_image 1 (some .int) 60 0 0 [.ref 0] I L Z Q := by
  obtain ⟨n, m, r, ru, N, k, tA, qA, mA, aA, bA, WA, h⟩ := hI
  have hG : GZ Z := h.1.1
  have hM : MZ Z := h.1.2.1
  have h6 := h.n6
  refine c_X5_image (by decide) hG (H _ _ _ fun Q2 K => c_X6_image hM ?_)
  have e1 : iU (blM I 19 10) 0 6 1 10 13 = I 10 13 := by rw [iU_at (by omega), blM_row (by omega)]
  have e2 : iU (blM I 19 10) 0 6 1 48 15 = I 48 15 := by rw [iU_at (by omega), blM_row (by omega)]
  rw [e2, h.eM.2.2.2.2.2, ← e1]
  obtain ⟨h1, ⟨h2, h3⟩, h4, h5, h7, h8⟩ := h
  refine K _ _ _ ⟨n, m, r, ru, N, k, tA, qA, mA, aA, bA, WA, h1, ⟨h2.eqv fun a j w => im_o (by omega) (by omega) (by omega) (by omega), h3⟩, Or.inr ⟨?_, n, m, r, ru, HRel.eqv h2 (fun k hk => ⟨im_k.1 k hk, im_m.1 k hk⟩) (fun k j g1 g2 hj => ?_), h3, Nat.le_refl _⟩, h5.eqv fun a j w => im_o (by omega) (by omega) (by omega) (by omega), h7.eqv fun a j w => im_o (by omega) (by omega) (by omega) (by omega), h8.eqv fun a j w => im_o (by omega) (by omega) (by omega) (by omega)⟩
  · unfold imF imM
    rw [iU_at (by omega), iU_at (by omega), iU_at (by omega), iU_at (by omega), iU_at (by omega), iU_at (by omega), cpI_row (by omega), cpI_row (by omega), cpI_row (by omega), iU_same]
  · have hl := Nat.lt_of_lt_of_le hj (ct_ln (k := k) h6.1 h6.2.1 h6.2.2)
    exact ⟨im_k.2 k j g1 g2 hl, im_m.2 k j g1 g2 hl⟩
theorem bk_o {I : Mi} {a j : Nat} (h1 : ¬ (10 ≤ a ∧ a ≤ 17)) (h3 : ¬ (a = 48 ∧ j < 16)) (h4 : a ≠ 52 ∧ a ≠ 53 ∧ a ≠ 55) : bkF (bkM (blM I 10 19)) a j = I a j := by
  unfold bkF bkM
  rw [iU_at (by omega), iU_at (by omega), iU_at (by omega), iU_at (by omega), iU_at (by omega), iU_at (by omega), cpI_row (by omega), cpI_row (by omega), cpI_row (by omega), blM_row (by omega)]
theorem bk_48 {I : Mi} {j : Nat} (h : j ≠ 15 ∧ j ≠ 10 ∧ j ≠ 12 ∧ j ≠ 7 ∧ j ≠ 8 ∧ j ≠ 4) : bkF (bkM (blM I 10 19)) 48 j = I 48 j := by
  unfold bkF bkM
  rw [iU_at (by omega), iU_at (by omega), iU_at (by omega), iU_at (by omega), iU_at (by omega), iU_at (by omega), cpI_row (by omega), cpI_row (by omega), cpI_row (by omega), blM_row (by omega)]
theorem bk_k {I : Mi} : (∀ k, k < 6 → (vC (bkF (bkM (blM I 10 19))) 10).1 k = (vC I 19).1 k) ∧ (∀ k j, 1 ≤ k → k ≤ 7 → j < lnH k → (vC (bkF (bkM (blM I 10 19))) 10).2 k j = (vC I 19).2 k j) := by
  have row : ∀ a, 10 ≤ a → a ≤ 17 → bkF (bkM (blM I 10 19)) a = blM I 10 19 a := fun a g1 g2 => by
    funext j
    unfold bkF bkM
    rw [iU_at (by omega), iU_at (by omega), iU_at (by omega), iU_at (by omega), iU_at (by omega), iU_at (by omega), cpI_row (by omega), cpI_row (by omega), cpI_row (by omega)]
  refine ⟨fun k hk => ?_, fun k j h1 h2 hj => ?_⟩
  · match k, hk with
    | 0, _ => show bkF (bkM (blM I 10 19)) 10 1 = I 19 1; rw [row 10 (by omega) (by omega)]; exact blM_f (by decide)
    | 1, _ => show bkF (bkM (blM I 10 19)) 10 2 = I 19 2; rw [row 10 (by omega) (by omega)]; exact blM_f (by decide)
    | 2, _ => show bkF (bkM (blM I 10 19)) 10 3 = I 19 3; rw [row 10 (by omega) (by omega)]; exact blM_f (by decide)
    | 3, _ => show bkF (bkM (blM I 10 19)) 10 6 = I 19 6; rw [row 10 (by omega) (by omega)]; exact blM_f (by decide)
    | 4, _ => show bkF (bkM (blM I 10 19)) 10 9 = I 19 9; rw [row 10 (by omega) (by omega)]; exact blM_f (by decide)
    | 5, _ => show bkF (bkM (blM I 10 19)) 10 13 = I 19 13; rw [row 10 (by omega) (by omega)]; exact blM_f (by decide)
    | k + 6, h => omega
  · show bkF (bkM (blM I 10 19)) (10 + k) j = I (19 + k) j
    rw [row (10 + k) (by omega) (by omega)]
    exact blM_a (by decide) ⟨h1, h2⟩ hj
theorem bk_m {I : Mi} : (∀ k, k < 6 → (vM (bkF (bkM (blM I 10 19)))).1 k = (vK I).1 k) ∧ (∀ k j, 1 ≤ k → k ≤ 7 → j < lnH k → (vM (bkF (bkM (blM I 10 19)))).2 k j = (vK I).2 k j) := by
  have f48 : ∀ j, bkM (blM I 10 19) 48 j = I 48 j := fun j => by
    unfold bkM
    rw [cpI_row (by omega), cpI_row (by omega), cpI_row (by omega), blM_row (by omega)]
  have o57 : ∀ a j, 49 ≤ a → bkF (bkM (blM I 10 19)) a j = bkM (blM I 10 19) a j := fun a j g => by
    unfold bkF
    rw [iU_at (by omega), iU_at (by omega), iU_at (by omega), iU_at (by omega), iU_at (by omega), iU_at (by omega)]
  have r57 : ∀ j, j < 12 → bkM (blM I 10 19) 52 j = I 57 j := fun j hj => by
    unfold bkM
    rw [cpI_row (by omega), cpI_row (by omega), cpI_at hj, blM_row (by omega)]
  have r58 : ∀ j, j < 26 → bkM (blM I 10 19) 53 j = I 58 j := fun j hj => by
    unfold bkM
    rw [cpI_row (by omega), cpI_at hj, cpI_row (by omega), blM_row (by omega)]
  have r59 : ∀ j, j < 10 → bkM (blM I 10 19) 55 j = I 59 j := fun j hj => by
    unfold bkM
    rw [cpI_at hj, cpI_row (by omega), cpI_row (by omega), blM_row (by omega)]
  refine ⟨fun k hk => ?_, fun k j h1 h2 hj => ?_⟩
  · match k, hk with
    | 0, _ => show bkF (bkM (blM I 10 19)) 48 7 = I 48 39; unfold bkF; rw [iU_at (by omega), iU_at (by omega), iU_same, f48]
    | 1, _ => show bkF (bkM (blM I 10 19)) 48 8 = I 48 40; unfold bkF; rw [iU_at (by omega), iU_same, f48]
    | 2, _ => show bkF (bkM (blM I 10 19)) 48 4 = I 48 41; unfold bkF; rw [iU_same, f48]
    | 3, _ => show bkF (bkM (blM I 10 19)) 48 10 = I 48 37; unfold bkF; rw [iU_at (by omega), iU_at (by omega), iU_at (by omega), iU_at (by omega), iU_same, f48]
    | 4, _ => show bkF (bkM (blM I 10 19)) 48 12 = I 48 38; unfold bkF; rw [iU_at (by omega), iU_at (by omega), iU_at (by omega), iU_same, f48]
    | 5, _ => show bkF (bkM (blM I 10 19)) 48 15 = I 48 36; unfold bkF; rw [iU_at (by omega), iU_at (by omega), iU_at (by omega), iU_at (by omega), iU_at (by omega), iU_same, f48]
    | k + 6, h => omega
  · match k, h1, h2, hj with
    | 1, _, _, hj => show bkF (bkM (blM I 10 19)) 52 (2 * j) = I 57 (2 * j); rw [o57 _ _ (by omega)]; exact r57 _ (by have : j < 6 := hj; omega)
    | 2, _, _, hj => show bkF (bkM (blM I 10 19)) 52 (2 * j + 1) = I 57 (2 * j + 1); rw [o57 _ _ (by omega)]; exact r57 _ (by have : j < 6 := hj; omega)
    | 3, _, _, hj => show bkF (bkM (blM I 10 19)) 53 (2 * j) = I 58 (2 * j); rw [o57 _ _ (by omega)]; exact r58 _ (by have : j < 12 := hj; omega)
    | 4, _, _, hj => show bkF (bkM (blM I 10 19)) 53 (2 * j + 1) = I 58 (2 * j + 1); rw [o57 _ _ (by omega)]; exact r58 _ (by have : j < 12 := hj; omega)
    | 5, _, _, hj => show bkF (bkM (blM I 10 19)) 54 j = I 54 j; exact bk_o (by omega) (by omega) (by omega)
    | 6, _, _, hj => show bkF (bkM (blM I 10 19)) 55 (2 * j) = I 59 (2 * j); rw [o57 _ _ (by omega)]; exact r59 _ (by have : j < 5 := hj; omega)
    | 7, _, _, hj => show bkF (bkM (blM I 10 19)) 55 (2 * j + 1) = I 59 (2 * j + 1); rw [o57 _ _ (by omega)]; exact r59 _ (by have : j < 5 := hj; omega)
    | k + 8, _, h, _ => omega
theorem pr_back {E : Ev} {I : Mi} {L : Ml} {Z : Mz} {Q : Po} (hI : GI I Z) (H : ∀ (rv : Int32) (I1 : Mi) (L1 : Ml), MD E yX6_back cX6_back 2 (some .int) [.ref 48] (some (.int rv)) I1 L1 Z → Q (some (.int rv)) I1 L1 Z) : AC E yX5_back cX5_back 1 (some .int) 60 0 0 [.ref 0] I L Z Q := by
  obtain ⟨n, m, r, ru, N, k, tA, qA, mA, aA, bA, WA, h⟩ := hI
  have hG : GZ Z := h.1.1
  have hM : MZ Z := h.1.2.1
  have h6 := h.n6
  rcases h.2.2.1 with ⟨g1, g2⟩ | ⟨g1, n', m', r', ru', hh, hr, hm'⟩
  · exact c_X5_back (by decide) hG (fun _ => H _ _ _ fun Q2 K => c_X6_back hM (fun _ => K _ _ _ h.gi) (fun w => absurd g2 w)) (fun w => absurd g1 w)
  · have e36 : I 48 36 = I 19 13 := hh.2.2.1.2.2.2.2.2
    have em : I 19 13 = nI m' := hh.2.1.2.1
    have hb := hh.1
    have hne : ¬ I 48 36 = -1 := by
      rw [e36, em]
      intro w
      have := nI_pos (n := m') (by omega)
      rw [w] at this
      exact this (by decide)
    refine c_X5_back (by decide) hG (fun w => absurd (g1.symm.trans w) (by decide)) (fun _ => H _ _ _ fun Q2 K => c_X6_back hM (fun w => absurd w ?_) (fun _ => ?_))
    · rw [blM_row (by omega)]; exact hne
    · have e1 : blM I 10 19 10 13 = I 19 13 := blM_f (by decide)
      rw [blM_row (show 48 < 10 ∨ 10 + 7 < 48 by omega), e36, ← e1]
      obtain ⟨h1, ⟨h2, h3⟩, h4, h5, h7, h8⟩ := h
      have hT := h5.eqv (J := bkF (bkM (blM I 10 19))) fun a j w => by
        by_cases e : a = 48
        · subst e; exact bk_48 (by omega)
        · exact bk_o (by omega) (by omega) (by omega)
      have hP := h7.eqv (J := bkF (bkM (blM I 10 19))) fun a j w => by
        by_cases e : a = 48
        · subst e; exact bk_48 (by omega)
        · exact bk_o (by omega) (by omega) (by omega)
      have hK : KepR (bkF (bkM (blM I 10 19))) m' N := KepR.eqv (m := m') (N := N) (Or.inr ⟨g1, n', m', r', ru', hh, hr, Nat.le_refl _⟩) (Nat.le_refl _) (Nat.le_refl _) fun a j w => bk_o (by omega) (by omega) (by omega)
      refine K _ _ _ ⟨n', m', r', ru', N, k, tA, qA, mA, aA, bA, WA, h1, ⟨HRel.eqv hh (fun k hk => ⟨bk_k.1 k hk, bk_m.1 k hk⟩) (fun k j g1 g2 hj => ?_), hr⟩, hK, hT, hP, h8.eqv fun a j w => bk_o (by omega) (by omega) (by omega)⟩
      have hl := Nat.lt_of_lt_of_le hj (ct_ln (k := k) hb.1 hb.2.1 hb.2.2.1)
      exact ⟨bk_k.2 k j g1 g2 hl, bk_m.2 k j g1 g2 hl⟩
