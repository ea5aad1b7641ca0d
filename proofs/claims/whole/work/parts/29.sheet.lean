theorem ix_iff {x c : Int32} {n : Nat} (hc : c = nI n) (hn : n < 2 ^ 31) : (¬ x < 0 ∧ ¬ c ≤ x) ↔ ∃ j, j < n ∧ x = nI j := by
  subst hc
  constructor
  · rintro ⟨h0, h1⟩
    obtain ⟨j, hj, e, -, -, -⟩ := pk_mu h0 h1 hn
    exact ⟨j, hj, e⟩
  · rintro ⟨j, hj, rfl⟩
    exact ⟨nI_pos (by omega), nI_ge hj hn⟩
/-! ===== Arrays.fill; sheets ===== -/
def flR (I : Mi) (a n : Nat) (v : Int32) : Mi := rU I a (fun j => if j < n then v else I a j)
theorem flR_up (I : Mi) (a k : Nat) (v : Int32) : iU (flR I a k v) a k v = flR I a (k + 1) v := by
  funext b j
  by_cases hb : b = a
  · subst hb
    by_cases hj : j = k
    · subst hj; simp [iU, flR, rU]
    · simp only [iU, flR, rU, hj, and_false, if_false, if_true]
      by_cases h1 : j < k
      · simp [h1, show j < k + 1 by omega]
      · simp [h1, show ¬ j < k + 1 by omega]
  · simp [iU, flR, rU, hb]
theorem flR_0 (I : Mi) (a : Nat) (v : Int32) : flR I a 0 v = I := by
  funext b j
  by_cases hb : b = a
  · subst hb; simp [flR, rU]
  · simp [flR, rU, hb]
theorem l_fill {E : Ev} {d : Nat} {I : Mi} {L : Ml} {Z : Mz} {Q : Po} {a n : Nat} {v : Int32} (hA : ArrI Z a n) (hn : n < 2 ^ 31) (hQ : Q none (flR I a n v) L Z) : ∀ k j : Nat, j + k = n → AW E yJ7_fill_53178 cJ7_fill_53178 4 none (rmOf d 0 0) Q 0 0 5 [some (.ref a), some (.int v), some (.int (nI j)), some (.int (nI n))] [] (flR I a j v) L Z := by
  intro k
  induction k with
  | zero =>
    intro j hj
    have e : j = n := by omega
    subst e
    refine aw_iload_n dJ7_fill_53178_5 rfl ?_
    refine aw_iload_n dJ7_fill_53178_6 rfl ?_
    refine aw_icmp_ge (tgt := 20) dJ7_fill_53178_7 (by decide) (fun c7 => ?_) (fun zz => absurd (Int32.le_refl _) zz)
    refine aw_return dJ7_fill_53178_20 rfl ?_
    exact hQ
  | succ k ih =>
    intro j hj
    refine aw_iload_n dJ7_fill_53178_5 rfl ?_
    refine aw_iload_n dJ7_fill_53178_6 rfl ?_
    refine aw_icmp_ge (tgt := 20) dJ7_fill_53178_7 (by decide) (fun zz => absurd zz (nI_ge (by omega) hn)) (fun c7 => ?_)
    refine aw_aload_n dJ7_fill_53178_10 rfl rfl ?_
    refine aw_iload_n dJ7_fill_53178_11 rfl ?_
    refine aw_iload_n dJ7_fill_53178_12 rfl ?_
    refine aw_is j dJ7_fill_53178_13 hA rfl (by omega) hn ?_
    refine aw_iinc (v := nI (j + 1)) (ls' := [_, _, _, _]) dJ7_fill_53178_14 rfl (nI_1 j) (by decide) rfl rfl ?_
    refine aw_goto (tgt := 5) dJ7_fill_53178_17 (by decide) ?_
    rw [flR_up]
    exact ih (j + 1) (by omega)
theorem c_fill {E : Ev} {d : Nat} {I : Mi} {L : Ml} {Z : Mz} {Q : Po} {a : Nat} {v : Int32} {n : Nat} (hA : ArrI Z a n) (hn : n < 2 ^ 31) (hQ : Q none (flR I a n v) L Z) : AC E yJ7_fill_53178 cJ7_fill_53178 4 none d 0 0 [.ref a, .int v] I L Z Q := by
  refine ac_go (ls := [some (.ref a), some (.int v), none, none]) (by decide +kernel) (Nat.le_of_ble_eq_true rfl) rfl ?_
  refine aw_iconst (v := 0) dJ7_fill_53178_0 (by decide) ?_
  refine aw_istore_n (ls' := [_, _, _, _]) dJ7_fill_53178_1 (by decide) rfl rfl ?_
  refine aw_aload_n dJ7_fill_53178_2 rfl rfl ?_
  refine aw_al dJ7_fill_53178_3 hA ?_
  refine aw_istore_n (ls' := [_, _, _, _]) dJ7_fill_53178_4 (by decide) rfl rfl ?_
  have := l_fill (E := E) (d := d) hA hn hQ n 0 (by omega)
  rw [flR_0] at this
  exact this
theorem c_X2_isMissing {E : Ev} {d : Nat} {I : Mi} {L : Ml} {Z : Mz} {Q : Po} {a : Nat}  (hA : StZ Z a) (hT : (I a 1 = -1) → Q (some (.int 1)) I L Z) (hF : ¬ (I a 1 = -1) → Q (some (.int 0)) I L Z) : AC E yX2_isMissing cX2_isMissing 1 (some .boolean) d 0 0 [.ref a] I L Z Q := by
  refine ac_go (ls := [some (.ref a)]) (by decide +kernel) (Nat.le_of_ble_eq_true rfl) rfl ?_
  refine aw_aload_n dX2_isMissing_0 rfl rfl ?_
  refine aw_gi dX2_isMissing_1 fw_X2_15 hA.1 ?_
  refine aw_iconst (v := -1) dX2_isMissing_4 (by decide) ?_
  refine aw_icmp_ne (tgt := 12) dX2_isMissing_5 (by decide) (fun c5 => ?_) (fun c5 => ?_)
  · refine aw_iconst (v := 0) dX2_isMissing_12 (by decide) ?_
    refine aw_ireturn (ty := .boolean) dX2_isMissing_13 rfl (by decide) ?_
    exact hF (by simp only [c5, not_true_eq_false, not_false_eq_true, and_true, true_and, and_false, false_and, or_true, true_or, or_false, false_or, ite_true, ite_false, if_true, if_false, reduceIte, and_self, or_self])
  · refine aw_iconst (v := 1) dX2_isMissing_8 (by decide) ?_
    refine aw_goto (tgt := 13) dX2_isMissing_9 (by decide) ?_
    refine aw_ireturn (ty := .boolean) dX2_isMissing_13 rfl (by decide) ?_
    exact hT (by simp only [c5, not_true_eq_false, not_false_eq_true, and_true, true_and, and_false, false_and, or_true, true_or, or_false, false_or, ite_true, ite_false, if_true, if_false, reduceIte, and_self, or_self])
theorem c_X2_hasItem {E : Ev} {d : Nat} {I : Mi} {L : Ml} {Z : Mz} {Q : Po} {a : Nat} {x : Int32}  (hA : StZ Z a) (hT : (¬ x < 0 ∧ ¬ I a 2 ≤ x) → Q (some (.int 1)) I L Z) (hF : ¬ (¬ x < 0 ∧ ¬ I a 2 ≤ x) → Q (some (.int 0)) I L Z) : AC E yX2_hasItem cX2_hasItem 2 (some .boolean) d 0 0 [.ref a, .int x] I L Z Q := by
  refine ac_go (ls := [some (.ref a), some (.int x)]) (by decide +kernel) (Nat.le_of_ble_eq_true rfl) rfl ?_
  refine aw_iload_n dX2_hasItem_0 rfl ?_
  refine aw_if_lt (tgt := 16) dX2_hasItem_1 (by decide) (fun c1 => ?_) (fun c1 => ?_)
  · refine aw_iconst (v := 0) dX2_hasItem_16 (by decide) ?_
    refine aw_ireturn (ty := .boolean) dX2_hasItem_17 rfl (by decide) ?_
    exact hF (by simp only [c1, not_true_eq_false, not_false_eq_true, and_true, true_and, and_false, false_and, or_true, true_or, or_false, false_or, ite_true, ite_false, if_true, if_false, reduceIte, and_self, or_self])
  · refine aw_iload_n dX2_hasItem_4 rfl ?_
    refine aw_aload_n dX2_hasItem_5 rfl rfl ?_
    refine aw_gi dX2_hasItem_6 fw_X2_28 hA.1 ?_
    refine aw_icmp_ge (tgt := 16) dX2_hasItem_9 (by decide) (fun c9 => ?_) (fun c9 => ?_)
    · refine aw_iconst (v := 0) dX2_hasItem_16 (by decide) ?_
      refine aw_ireturn (ty := .boolean) dX2_hasItem_17 rfl (by decide) ?_
      exact hF (by simp only [c1, c9, not_true_eq_false, not_false_eq_true, and_true, true_and, and_false, false_and, or_true, true_or, or_false, false_or, ite_true, ite_false, if_true, if_false, reduceIte, and_self, or_self])
    · refine aw_iconst (v := 1) dX2_hasItem_12 (by decide) ?_
      refine aw_goto (tgt := 17) dX2_hasItem_13 (by decide) ?_
      refine aw_ireturn (ty := .boolean) dX2_hasItem_17 rfl (by decide) ?_
      exact hT (by simp only [c1, c9, not_true_eq_false, not_false_eq_true, and_true, true_and, and_false, false_and, or_true, true_or, or_false, false_or, ite_true, ite_false, if_true, if_false, reduceIte, and_self, or_self])
theorem c_X2_hasRange {E : Ev} {d : Nat} {I : Mi} {L : Ml} {Z : Mz} {Q : Po} {a : Nat} {x : Int32} {k : Int32}  (hA : StZ Z a) (hT : (¬ x < 0 ∧ ¬ k < 0 ∧ ¬ I a 2 < x ∧ ¬ I a 2 - x < k) → Q (some (.int 1)) I L Z) (hF : ¬ (¬ x < 0 ∧ ¬ k < 0 ∧ ¬ I a 2 < x ∧ ¬ I a 2 - x < k) → Q (some (.int 0)) I L Z) : AC E yX2_hasRange cX2_hasRange 3 (some .boolean) d 0 0 [.ref a, .int x, .int k] I L Z Q := by
  refine ac_go (ls := [some (.ref a), some (.int x), some (.int k)]) (by decide +kernel) (Nat.le_of_ble_eq_true rfl) rfl ?_
  refine aw_iload_n dX2_hasRange_0 rfl ?_
  refine aw_if_lt (tgt := 30) dX2_hasRange_1 (by decide) (fun c1 => ?_) (fun c1 => ?_)
  · refine aw_iconst (v := 0) dX2_hasRange_30 (by decide) ?_
    refine aw_ireturn (ty := .boolean) dX2_hasRange_31 rfl (by decide) ?_
    exact hF (by simp only [c1, not_true_eq_false, not_false_eq_true, and_true, true_and, and_false, false_and, or_true, true_or, or_false, false_or, ite_true, ite_false, if_true, if_false, reduceIte, and_self, or_self])
  · refine aw_iload_n dX2_hasRange_4 rfl ?_
    refine aw_if_lt (tgt := 30) dX2_hasRange_5 (by decide) (fun c5 => ?_) (fun c5 => ?_)
    · refine aw_iconst (v := 0) dX2_hasRange_30 (by decide) ?_
      refine aw_ireturn (ty := .boolean) dX2_hasRange_31 rfl (by decide) ?_
      exact hF (by simp only [c1, c5, not_true_eq_false, not_false_eq_true, and_true, true_and, and_false, false_and, or_true, true_or, or_false, false_or, ite_true, ite_false, if_true, if_false, reduceIte, and_self, or_self])
    · refine aw_iload_n dX2_hasRange_8 rfl ?_
      refine aw_aload_n dX2_hasRange_9 rfl rfl ?_
      refine aw_gi dX2_hasRange_10 fw_X2_28 hA.1 ?_
      refine aw_icmp_gt (tgt := 30) dX2_hasRange_13 (by decide) (fun c13 => ?_) (fun c13 => ?_)
      · refine aw_iconst (v := 0) dX2_hasRange_30 (by decide) ?_
        refine aw_ireturn (ty := .boolean) dX2_hasRange_31 rfl (by decide) ?_
        exact hF (by simp only [c1, c5, c13, not_true_eq_false, not_false_eq_true, and_true, true_and, and_false, false_and, or_true, true_or, or_false, false_or, ite_true, ite_false, if_true, if_false, reduceIte, and_self, or_self])
      · refine aw_iload_n dX2_hasRange_16 rfl ?_
        refine aw_aload_n dX2_hasRange_17 rfl rfl ?_
        refine aw_gi dX2_hasRange_18 fw_X2_28 hA.1 ?_
        refine aw_iload_n dX2_hasRange_21 rfl ?_
        refine aw_isub dX2_hasRange_22 ?_
        refine aw_icmp_gt (tgt := 30) dX2_hasRange_23 (by decide) (fun c23 => ?_) (fun c23 => ?_)
        · refine aw_iconst (v := 0) dX2_hasRange_30 (by decide) ?_
          refine aw_ireturn (ty := .boolean) dX2_hasRange_31 rfl (by decide) ?_
          exact hF (by simp only [c1, c5, c13, c23, not_true_eq_false, not_false_eq_true, and_true, true_and, and_false, false_and, or_true, true_or, or_false, false_or, ite_true, ite_false, if_true, if_false, reduceIte, and_self, or_self])
        · refine aw_iconst (v := 1) dX2_hasRange_26 (by decide) ?_
          refine aw_goto (tgt := 31) dX2_hasRange_27 (by decide) ?_
          refine aw_ireturn (ty := .boolean) dX2_hasRange_31 rfl (by decide) ?_
          exact hT (by simp only [c1, c5, c13, c23, not_true_eq_false, not_false_eq_true, and_true, true_and, and_false, false_and, or_true, true_or, or_false, false_or, ite_true, ite_false, if_true, if_false, reduceIte, and_self, or_self])
def naV (s v : Int32) : Int32 := if s = 0 then v.toInt8.toInt32 else if s = 1 then v.toInt16.toInt32 else v
def beM (I : Mi) (a : Nat) (s : Int32) (n : Nat) : Mi := flR (iU (iU I a 1 s) a 2 (nI n)) (a + 1) 40 0
theorem c_X2_become {E : Ev} {d : Nat} {I : Mi} {L : Ml} {Z : Mz} {Q : Po} {a : Nat} {s : Int32} {n : Nat} (hd : 1 ≤ d) (hA : StZ Z a) (hn : n ≤ 40) (hQ : Q none (beM I a s n) L Z) : AC E yX2_become cX2_become 3 none d 0 0 [.ref a, .int s, .int (nI n)] I L Z Q := by
  refine ac_go (ls := [some (.ref a), some (.int s), some (.int (nI n))]) (by decide +kernel) (Nat.le_of_ble_eq_true rfl) rfl ?_
  refine aw_aload_n dX2_become_0 rfl rfl ?_
  refine aw_iload_n dX2_become_1 rfl ?_
  refine aw_pi dX2_become_2 fw_X2_15 (ww_X2_15 _) hA.1 rfl ?_
  refine aw_aload_n dX2_become_5 rfl rfl ?_
  refine aw_iconst (v := 0) dX2_become_6 (by decide) ?_
  refine aw_iload_n dX2_become_7 rfl ?_
  refine aw_bipush (v := 40) dX2_become_8 (by decide) ?_
  refine aw_mmin dX2_become_10 ml_X2_19 (rm_ok (d' := 0) (by omega)) (by simp [Value.category, psh]) ?_
  refine aw_mmax dX2_become_13 ml_X2_25 (rm_ok (d' := 0) (by omega)) (by simp [Value.category, psh]) ?_
  refine aw_pi dX2_become_16 fw_X2_28 (ww_X2_28 _) hA.1 rfl ?_
  refine aw_aload_n dX2_become_19 rfl rfl ?_
  refine aw_gr dX2_become_20 fw_X2_9 hA.1 hA.2.1 ?_
  refine aw_iconst (v := 0) dX2_become_23 (by decide) ?_
  refine aw_S2 dX2_become_24 cw_X2_31 (by omega) ⟨Nat.le_refl _, Nat.le_refl _⟩ (by decide) (c_fill hA.2.2 (by decide) ?_)
  refine aw_return dX2_become_27 rfl ?_
  rw [if_neg (show ¬ (40 : Int32) < nI n from nI_nlt (a := 40) (by omega) (by decide)), show (if (0 : Int32) < nI n then nI n else 0) = nI n by
      by_cases h0 : n = 0
      · subst h0; rfl
      · rw [if_pos (show (0 : Int32) < nI n from nI_lt (a := 0) (b := n) (by omega) (by omega))]]
  exact hQ
theorem c_X2_put {E : Ev} {d : Nat} {I : Mi} {L : Ml} {Z : Mz} {Q : Po} {a : Nat} {v : Int32} {j z : Nat} (hd : 1 ≤ d) (hA : StZ Z a) (hz : I a 2 = nI z) (hj : j < z) (hz4 : z ≤ 40) (hQ : Q none (iU I (a + 1) j (naV (I a 1) v)) L Z) : AC E yX2_put cX2_put 3 none d 0 0 [.ref a, .int (nI j), .int v] I L Z Q := by
  refine ac_go (ls := [some (.ref a), some (.int (nI j)), some (.int v)]) (by decide +kernel) (Nat.le_of_ble_eq_true rfl) rfl ?_
  refine aw_aload_n dX2_put_0 rfl rfl ?_
  refine aw_iload_n dX2_put_1 rfl ?_
  refine aw_V1 dX2_put_2 cw_X2_37 ⟨_, _, rfl⟩ hA.1 (by omega) ⟨Nat.le_refl _, Nat.le_refl _⟩ (by decide) (c_X2_hasItem hA (fun c2 => ?_) (fun zz => absurd ⟨nI_pos (by omega), by rw [hz]; exact nI_ge hj (by omega)⟩ zz))
  refine aw_if_ne (tgt := 9) dX2_put_5 (by decide) (fun _ => ?_) (fun zz => absurd zz (by decide))
  refine aw_aload_n dX2_put_9 rfl rfl ?_
  refine aw_gi dX2_put_10 fw_X2_15 hA.1 ?_
  refine aw_if_ne (tgt := 27) dX2_put_13 (by decide) (fun c13 => ?_) (fun c13 => ?_)
  · refine aw_aload_n dX2_put_27 rfl rfl ?_
    refine aw_gi dX2_put_28 fw_X2_15 hA.1 ?_
    refine aw_iconst (v := 1) dX2_put_31 (by decide) ?_
    refine aw_icmp_ne (tgt := 46) dX2_put_32 (by decide) (fun c32 => ?_) (fun c32 => ?_)
    · refine aw_aload_n dX2_put_46 rfl rfl ?_
      refine aw_gr dX2_put_47 fw_X2_9 hA.1 hA.2.1 ?_
      refine aw_iload_n dX2_put_50 rfl ?_
      refine aw_iload_n dX2_put_51 rfl ?_
      refine aw_is j dX2_put_52 hA.2.2 rfl (by omega) (by decide) ?_
      refine aw_return dX2_put_53 rfl ?_
      simp only [naV, c13, c32, not_true_eq_false, not_false_eq_true, and_true, true_and, and_false, false_and, or_true, true_or, or_false, false_or, ite_true, ite_false, if_true, if_false, reduceIte, and_self, or_self] at hQ
      exact hQ
    · refine aw_aload_n dX2_put_35 rfl rfl ?_
      refine aw_gr dX2_put_36 fw_X2_9 hA.1 hA.2.1 ?_
      refine aw_iload_n dX2_put_39 rfl ?_
      refine aw_iload_n dX2_put_40 rfl ?_
      refine aw_i2s dX2_put_41 ?_
      refine aw_is j dX2_put_42 hA.2.2 rfl (by omega) (by decide) ?_
      refine aw_goto (tgt := 53) dX2_put_43 (by decide) ?_
      refine aw_return dX2_put_53 rfl ?_
      simp only [naV, c13, c32, not_true_eq_false, not_false_eq_true, and_true, true_and, and_false, false_and, or_true, true_or, or_false, false_or, ite_true, ite_false, if_true, if_false, reduceIte, and_self, or_self] at hQ
      exact hQ
  · refine aw_aload_n dX2_put_16 rfl rfl ?_
    refine aw_gr dX2_put_17 fw_X2_9 hA.1 hA.2.1 ?_
    refine aw_iload_n dX2_put_20 rfl ?_
    refine aw_iload_n dX2_put_21 rfl ?_
    refine aw_i2b dX2_put_22 ?_
    refine aw_is j dX2_put_23 hA.2.2 rfl (by omega) (by decide) ?_
    refine aw_goto (tgt := 53) dX2_put_24 (by decide) ?_
    refine aw_return dX2_put_53 rfl ?_
    simp only [naV, c13, not_true_eq_false, not_false_eq_true, and_true, true_and, and_false, false_and, or_true, true_or, or_false, false_or, ite_true, ite_false, if_true, if_false, reduceIte, and_self, or_self] at hQ
    exact hQ
