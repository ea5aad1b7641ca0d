/-! ===== the reference: sheets, image, back, taken ===== -/
def zrM (I : Mi) (s j : Nat) : Mi := rU I 63 (fun k => if 40 * s ≤ k ∧ k < 40 * s + j then 0 else I 63 k)
theorem zrM_0 {I : Mi} {s : Nat} : zrM I s 0 = I := by
  funext b k
  by_cases h : b = 63
  · subst h; simp only [zrM, rU, if_true]; rw [if_neg (by omega)]
  · simp only [zrM, rU, if_neg h]
theorem zrM_s {I : Mi} {s j : Nat} : iU (zrM I s j) 63 (40 * s + j) 0 = zrM I s (j + 1) := by
  funext b k
  by_cases h : b = 63
  · subst h
    by_cases h2 : k = 40 * s + j
    · subst h2; rw [iU_same]; simp only [zrM, rU, if_true]; rw [if_pos (by omega)]
    · rw [iU_at (by omega)]; simp only [zrM, rU, if_true]
      by_cases h3 : 40 * s ≤ k ∧ k < 40 * s + j
      · rw [if_pos h3, if_pos (by omega)]
      · rw [if_neg h3, if_neg (by omega)]
  · rw [iU_at (by omega)]; simp only [zrM, rU, if_neg h]
theorem zrM_row {I : Mi} {s j b : Nat} (h : b ≠ 63) : zrM I s j b = I b := by simp only [zrM, rU, if_neg h]
def cpI (I : Mi) (d s j : Nat) : Mi := rU I d (va_cpy (I s) (I d) 0 0 j)
theorem cpI_0 {I : Mi} {d s : Nat} : cpI I d s 0 = I := by
  funext b k
  by_cases h : b = d
  · subst h; simp only [cpI, rU, va_cpy, if_true]; rw [if_neg (by omega)]
  · simp only [cpI, rU, if_neg h]
theorem cpI_row {I : Mi} {d s j b : Nat} (h : b ≠ d) : cpI I d s j b = I b := by simp only [cpI, rU, if_neg h]
theorem cpI_at {I : Mi} {d s j k : Nat} (h : k < j) : cpI I d s j d k = I s k := by
  simp only [cpI, rU, if_true, va_cpy]; rw [if_pos (by omega)]; simp
theorem cpI_s {I : Mi} {d s j : Nat} (hds : s ≠ d) : iU (cpI I d s j) d j (cpI I d s j s j) = cpI I d s (j + 1) := by
  funext b k
  by_cases h : b = d
  · subst h
    by_cases h2 : k = j
    · subst h2; rw [iU_same, cpI_at (by omega), cpI_row hds]
    · rw [iU_at (by omega)]; simp only [cpI, rU, if_true, va_cpy]
      by_cases h3 : 0 ≤ k ∧ k < 0 + j
      · rw [if_pos h3, if_pos (by omega)]
      · rw [if_neg h3, if_neg (by omega)]
  · rw [iU_at (by omega), cpI_row h, cpI_row h]
theorem sub_toInt {a b : Nat} (ha : a < 2 ^ 31) (hb : b < 2 ^ 31) : (nI a - nI b).toInt = (a : Int) - b := by
  rw [Int32.toInt_sub, nI_toInt ha, nI_toInt hb]
  exact Int.bmod_eq_of_le (by omega) (by omega)
theorem rgm_iff {y k c : Int32} {z : Nat} (hc : c = nI z) (hz : z ≤ 40) (hk : ¬ k < 0) (hy : ¬ y < 0) : y ≤ c - k ↔ (¬ c < y ∧ ¬ c - y < k) := by
  subst hc
  obtain ⟨a, ha, rfl⟩ := nI_of hy
  obtain ⟨b, hb, rfl⟩ := nI_of hk
  rw [Int32.le_iff_toInt_le, Int32.lt_iff_toInt_lt, Int32.lt_iff_toInt_lt, sub_toInt (by omega) hb, sub_toInt (by omega) ha, nI_toInt ha, nI_toInt hb, nI_toInt (by omega)]
  omega
theorem y_neg {y : Int32} (h : ¬ y < -1) (g : y < 0) : y = -1 := by
  rw [Int32.lt_iff_toInt_lt] at h g
  apply Int32.toInt_inj.mp
  have e1 : (-1 : Int32).toInt = -1 := by decide
  have e0 : (0 : Int32).toInt = 0 := by decide
  omega
theorem y_pos {y : Int32} (g : ¬ y < 0) : ¬ y = -1 := fun h => g (by rw [h]; decide)
theorem k_le {k : Int32} (h1 : k ≤ 40) (h2 : ¬ k < 0) : ∃ n : Nat, n ≤ 40 ∧ k = nI n := nI_of2 (M := 40) (n := 40) (by decide) h2 h1
def smM (I : Mi) (s : Nat) (b y k : Int32) : Mi := iU (iU (iU I 60 s b) 61 s y) 62 s k
theorem l_X6_sheet {E : Ev} {d : Nat} {I : Mi} {L : Ml} {Z : Mz} {Q : Po} {s N : Nat} {y : Int32} (hM : MZ Z) (hs : s < 4) (hN : N ≤ 40) (hy : ¬ y < 0) : ∀ (n : Nat) (j : Nat), j + n = N → Q (some (.int 1)) (zrM I s N) L Z → AW E yX6_sheet cX6_sheet 5 (some .int) (rmOf d 0 0) Q 0 0 77 [some (.ref 48), some (.int (nI s)), some (.int y), some (.int (nI N)), some (.int (nI j))] [] (zrM I s j) L Z := by
  intro n
  induction n with
  | zero =>
    intro j hj hQ
    refine aw_iload dX6_sheet_77 rfl ?_
    refine aw_iload_n dX6_sheet_79 rfl ?_
    refine aw_icmp_ge (tgt := 106) dX6_sheet_80 (by decide) (fun c80 => ?_) (fun zz => absurd (by rw [show j = N by omega]; exact Int32.le_refl _) zz)
    refine aw_iconst (v := 1) dX6_sheet_106 (by decide) ?_
    refine aw_ireturn (ty := .int) dX6_sheet_107 rfl rfl ?_
    rw [show j = N by omega]
    exact hQ
  | succ n ih =>
    intro j hj hQ
    refine aw_iload dX6_sheet_77 rfl ?_
    refine aw_iload_n dX6_sheet_79 rfl ?_
    refine aw_icmp_ge (tgt := 106) dX6_sheet_80 (by decide) (fun zz => absurd zz (nI_ge (by omega) (by omega))) (fun c80 => ?_)
    refine aw_iload_n dX6_sheet_83 rfl ?_
    refine aw_if_lt (tgt := 106) dX6_sheet_84 (by decide) (fun zz => absurd zz hy) (fun c84 => ?_)
    refine aw_aload_n dX6_sheet_87 rfl rfl ?_
    refine aw_gr dX6_sheet_88 fw_X6_60 hM.1 hM.2.2.2.2.2.2.2.2.2.2.2.2.2.2.2.2.2.2.2.2.2.2.2.2.2.2.2.2.2.1 ?_
    refine aw_bipush (v := 40) dX6_sheet_91 (by decide) ?_
    refine aw_iload_n dX6_sheet_93 rfl ?_
    refine aw_imul dX6_sheet_94 ?_
    refine aw_iload dX6_sheet_95 rfl ?_
    refine aw_iadd dX6_sheet_97 ?_
    refine aw_iconst (v := 0) dX6_sheet_98 (by decide) ?_
    refine aw_is (40 * s + j) dX6_sheet_99 hM.2.2.2.2.2.2.2.2.2.2.2.2.2.2.2.2.2.2.2.2.2.2.2.2.2.2.2.2.2.2 (by show nI 40 * nI s + nI j = _; rw [pk_mul, nI_add]) (by omega) (by decide) ?_
    refine aw_iinc (v := nI (j + 1)) (ls' := [_, _, _, _, _]) dX6_sheet_100 rfl (nI_1 j) (by decide) rfl rfl ?_
    refine aw_goto (tgt := 77) dX6_sheet_103 (by decide) ?_
    rw [zrM_s]
    exact ih (j + 1) (by omega) hQ
theorem c_X6_sheet {E : Ev} {d : Nat} {I : Mi} {L : Ml} {Z : Mz} {Q : Po} {x : Int32} {y : Int32} {k : Int32}  (hd : 2 ≤ d) (hM : MZ Z) (hB : ¬ ((¬ x < 0 ∧ ¬ 3 < x) ∧ (¬ y < -1 ∧ ¬ 2 < y)) → Q (some (.int (-2))) I L Z) (hMs : ∀ s, s < 4 → x = nI s → (¬ y < -1 ∧ ¬ 2 < y) → y = -1 → Q (some (.int 1)) (smM I s 0 y k) L Z) (hB2 : (¬ x < 0 ∧ ¬ 3 < x) → (¬ y < -1 ∧ ¬ 2 < y) → ¬ y = -1 → ¬ k ≤ 40 → Q (some (.int (-2))) I L Z) (hL : (¬ x < 0 ∧ ¬ 3 < x) → (¬ y < -1 ∧ ¬ 2 < y) → ¬ y = -1 → k ≤ 40 → ¬ 0 ≤ k → Q (some (.int (-14))) I L Z) (hA : ∀ s n, s < 4 → n ≤ 40 → x = nI s → k = nI n → (¬ y < -1 ∧ ¬ 2 < y) → ¬ y = -1 → Q (some (.int 1)) (zrM (smM I s 1 y (nI n)) s n) L Z) : AC E yX6_sheet cX6_sheet 5 (some .int) d 0 0 [.ref 48, .int x, .int y, .int k] I L Z Q := by
  refine ac_go (ls := [some (.ref 48), some (.int x), some (.int y), some (.int k), none]) (by decide +kernel) (Nat.le_of_ble_eq_true rfl) rfl ?_
  refine aw_iload_n dX6_sheet_0 rfl ?_
  refine aw_S1 dX6_sheet_1 cw_X6_415 (by omega) ⟨Nat.le_refl _, Nat.le_refl _⟩ (by decide) (c_X6_isSheet (by omega) (fun c1 => ?_) (fun c1 => ?_))
  · refine aw_if_eq (tgt := 31) dX6_sheet_4 (by decide) (fun zz => absurd zz (by decide)) (fun _ => ?_)
    refine aw_iload_n dX6_sheet_7 rfl ?_
    refine aw_i2l dX6_sheet_8 ?_
    refine aw_ldc2 dX6_sheet_9 kw_X6_447 ?_
    refine aw_ldc2 dX6_sheet_12 kw_X6_366 ?_
    refine aw_S3 dX6_sheet_15 cw_X6_73 (by omega) ⟨Nat.le_refl _, Nat.le_refl _⟩ (by decide) (c_X6_in (x := y) (a := -1) (b := 2) rfl (by decide) (by decide) (fun c15 => ?_) (fun c15 => ?_))
    · refine aw_if_eq (tgt := 31) dX6_sheet_18 (by decide) (fun zz => absurd zz (by decide)) (fun _ => ?_)
      refine aw_iload_n dX6_sheet_21 rfl ?_
      refine aw_if_lt (tgt := 34) dX6_sheet_22 (by decide) (fun c22 => ?_) (fun c22 => ?_)
      · refine aw_iload_n dX6_sheet_34 rfl ?_
        refine aw_if_lt (tgt := 45) dX6_sheet_35 (by decide) (fun c35 => ?_) (fun zz => absurd c22 zz)
        obtain ⟨s, hs, rfl⟩ := sh4 c1
        refine aw_aload_n dX6_sheet_45 rfl rfl ?_
        refine aw_gr dX6_sheet_46 fw_X6_50 hM.1 hM.2.2.2.2.2.2.2.2.2.2.2.2.2.2.2.2.2.2.2.2.2.2.2.1 ?_
        refine aw_iload_n dX6_sheet_49 rfl ?_
        refine aw_iload_n dX6_sheet_50 rfl ?_
        refine aw_if_lt (tgt := 58) dX6_sheet_51 (by decide) (fun c51 => ?_) (fun zz => absurd c22 zz)
        refine aw_iconst (v := 0) dX6_sheet_58 (by decide) ?_
        refine aw_zs s dX6_sheet_59 hM.2.2.2.2.2.2.2.2.2.2.2.2.2.2.2.2.2.2.2.2.2.2.2.2.1 rfl hs (by decide) (by decide) ?_
        refine aw_aload_n dX6_sheet_60 rfl rfl ?_
        refine aw_gr dX6_sheet_61 fw_X6_54 hM.1 hM.2.2.2.2.2.2.2.2.2.2.2.2.2.2.2.2.2.2.2.2.2.2.2.2.2.1 ?_
        refine aw_iload_n dX6_sheet_64 rfl ?_
        refine aw_iload_n dX6_sheet_65 rfl ?_
        refine aw_is s dX6_sheet_66 hM.2.2.2.2.2.2.2.2.2.2.2.2.2.2.2.2.2.2.2.2.2.2.2.2.2.2.1 rfl hs (by decide) ?_
        refine aw_aload_n dX6_sheet_67 rfl rfl ?_
        refine aw_gr dX6_sheet_68 fw_X6_57 hM.1 hM.2.2.2.2.2.2.2.2.2.2.2.2.2.2.2.2.2.2.2.2.2.2.2.2.2.2.2.1 ?_
        refine aw_iload_n dX6_sheet_71 rfl ?_
        refine aw_iload_n dX6_sheet_72 rfl ?_
        refine aw_is s dX6_sheet_73 hM.2.2.2.2.2.2.2.2.2.2.2.2.2.2.2.2.2.2.2.2.2.2.2.2.2.2.2.2.1 rfl hs (by decide) ?_
        refine aw_iconst (v := 0) dX6_sheet_74 (by decide) ?_
        refine aw_istore (ls' := [_, _, _, _, _]) dX6_sheet_75 (by decide) rfl rfl ?_
        refine aw_iload dX6_sheet_77 rfl ?_
        refine aw_iload_n dX6_sheet_79 rfl ?_
        refine aw_icmp_ge (tgt := 106) dX6_sheet_80 (by decide) (fun c80 => ?_) (fun c80 => ?_)
        · refine aw_iconst (v := 1) dX6_sheet_106 (by decide) ?_
          refine aw_ireturn (ty := .int) dX6_sheet_107 rfl rfl ?_
          exact hMs s hs rfl c15 (y_neg c15.1 c22)
        · refine aw_iload_n dX6_sheet_83 rfl ?_
          refine aw_if_lt (tgt := 106) dX6_sheet_84 (by decide) (fun c84 => ?_) (fun zz => absurd c22 zz)
          refine aw_iconst (v := 1) dX6_sheet_106 (by decide) ?_
          refine aw_ireturn (ty := .int) dX6_sheet_107 rfl rfl ?_
          exact hMs s hs rfl c15 (y_neg c15.1 c22)
      · refine aw_iload_n dX6_sheet_25 rfl ?_
        refine aw_bipush (v := 40) dX6_sheet_26 (by decide) ?_
        refine aw_icmp_le (tgt := 34) dX6_sheet_28 (by decide) (fun c28 => ?_) (fun c28 => ?_)
        · refine aw_iload_n dX6_sheet_34 rfl ?_
          refine aw_if_lt (tgt := 45) dX6_sheet_35 (by decide) (fun zz => absurd zz c22) (fun c35 => ?_)
          refine aw_iload_n dX6_sheet_38 rfl ?_
          refine aw_if_ge (tgt := 45) dX6_sheet_39 (by decide) (fun c39 => ?_) (fun c39 => ?_)
          · obtain ⟨N, hN, rfl⟩ := k_le c28 (Int32.not_lt.mpr c39)
            obtain ⟨s, hs, rfl⟩ := sh4 c1
            refine aw_aload_n dX6_sheet_45 rfl rfl ?_
            refine aw_gr dX6_sheet_46 fw_X6_50 hM.1 hM.2.2.2.2.2.2.2.2.2.2.2.2.2.2.2.2.2.2.2.2.2.2.2.1 ?_
            refine aw_iload_n dX6_sheet_49 rfl ?_
            refine aw_iload_n dX6_sheet_50 rfl ?_
            refine aw_if_lt (tgt := 58) dX6_sheet_51 (by decide) (fun zz => absurd zz c22) (fun c51 => ?_)
            refine aw_iconst (v := 1) dX6_sheet_54 (by decide) ?_
            refine aw_goto (tgt := 59) dX6_sheet_55 (by decide) ?_
            refine aw_zs s dX6_sheet_59 hM.2.2.2.2.2.2.2.2.2.2.2.2.2.2.2.2.2.2.2.2.2.2.2.2.1 rfl hs (by decide) (by decide) ?_
            refine aw_aload_n dX6_sheet_60 rfl rfl ?_
            refine aw_gr dX6_sheet_61 fw_X6_54 hM.1 hM.2.2.2.2.2.2.2.2.2.2.2.2.2.2.2.2.2.2.2.2.2.2.2.2.2.1 ?_
            refine aw_iload_n dX6_sheet_64 rfl ?_
            refine aw_iload_n dX6_sheet_65 rfl ?_
            refine aw_is s dX6_sheet_66 hM.2.2.2.2.2.2.2.2.2.2.2.2.2.2.2.2.2.2.2.2.2.2.2.2.2.2.1 rfl hs (by decide) ?_
            refine aw_aload_n dX6_sheet_67 rfl rfl ?_
            refine aw_gr dX6_sheet_68 fw_X6_57 hM.1 hM.2.2.2.2.2.2.2.2.2.2.2.2.2.2.2.2.2.2.2.2.2.2.2.2.2.2.2.1 ?_
            refine aw_iload_n dX6_sheet_71 rfl ?_
            refine aw_iload_n dX6_sheet_72 rfl ?_
            refine aw_is s dX6_sheet_73 hM.2.2.2.2.2.2.2.2.2.2.2.2.2.2.2.2.2.2.2.2.2.2.2.2.2.2.2.2.1 rfl hs (by decide) ?_
            refine aw_iconst (v := 0) dX6_sheet_74 (by decide) ?_
            refine aw_istore (ls' := [_, _, _, _, _]) dX6_sheet_75 (by decide) rfl rfl ?_
            have ez : zrM (smM I s 1 y (nI N)) s 0 = iU (iU (iU I 60 s 1) 61 s y) 62 s (nI N) := zrM_0
            refine ez ▸ l_X6_sheet (I := smM I s 1 y (nI N)) hM hs hN c22 N 0 (by omega) (hA s N hs hN rfl rfl c15 (y_pos c22))
          · refine aw_bipush (v := -14) dX6_sheet_42 (by decide) ?_
            refine aw_ireturn (ty := .int) dX6_sheet_44 rfl rfl ?_
            exact hL c1 c15 (y_pos c22) c28 c39
        · refine aw_bipush (v := -2) dX6_sheet_31 (by decide) ?_
          refine aw_ireturn (ty := .int) dX6_sheet_33 rfl rfl ?_
          exact hB2 c1 c15 (y_pos c22) c28
    · refine aw_if_eq (tgt := 31) dX6_sheet_18 (by decide) (fun _ => ?_) (fun zz => absurd zz (by decide))
      refine aw_bipush (v := -2) dX6_sheet_31 (by decide) ?_
      refine aw_ireturn (ty := .int) dX6_sheet_33 rfl rfl ?_
      exact hB (fun zz => c15 zz.2)
  · refine aw_if_eq (tgt := 31) dX6_sheet_4 (by decide) (fun _ => ?_) (fun zz => absurd zz (by decide))
    refine aw_bipush (v := -2) dX6_sheet_31 (by decide) ?_
    refine aw_ireturn (ty := .int) dX6_sheet_33 rfl rfl ?_
    exact hB (fun zz => c1 zz.1)
theorem c_X6_cell {E : Ev} {d : Nat} {I : Mi} {L : Ml} {Z : Mz} {Q : Po} {x : Int32} {y : Int32} {k : Int32}  (hd : 2 ≤ d) (hM : MZ Z) (hz : ∀ s, s < 4 → ¬ I 60 s = 0 → ∃ z, z ≤ 40 ∧ I 62 s = nI z) (hB : ¬ (¬ x < 0 ∧ ¬ 3 < x) → Q (some (.int (-2))) I L Z) (hMs : ∀ s, s < 4 → x = nI s → I 60 s = 0 → Q (some (.int (-11))) I L Z) (hO : ∀ s, s < 4 → x = nI s → ¬ I 60 s = 0 → ∀ z, I 62 s = nI z → z ≤ 40 → (¬ ∃ j, j < z ∧ y = nI j) → Q (some (.int (-12))) I L Z) (hA : ∀ s, s < 4 → x = nI s → ¬ I 60 s = 0 → ∀ z, I 62 s = nI z → z ≤ 40 → ∀ j, j < z → y = nI j → Q (some (.int 1)) (iU I 63 (40 * s + j) (naV (I 61 s) k)) L Z) : AC E yX6_cell cX6_cell 4 (some .int) d 0 0 [.ref 48, .int x, .int y, .int k] I L Z Q := by
  refine ac_go (ls := [some (.ref 48), some (.int x), some (.int y), some (.int k)]) (by decide +kernel) (Nat.le_of_ble_eq_true rfl) rfl ?_
  refine aw_iload_n dX6_cell_0 rfl ?_
  refine aw_S1 dX6_cell_1 cw_X6_415 (by omega) ⟨Nat.le_refl _, Nat.le_refl _⟩ (by decide) (c_X6_isSheet (by omega) (fun c1 => ?_) (fun c1 => ?_))
  · refine aw_if_ne (tgt := 10) dX6_cell_4 (by decide) (fun _ => ?_) (fun zz => absurd zz (by decide))
    obtain ⟨s, hs, rfl⟩ := sh4 c1
    refine aw_aload_n dX6_cell_10 rfl rfl ?_
    refine aw_gr dX6_cell_11 fw_X6_50 hM.1 hM.2.2.2.2.2.2.2.2.2.2.2.2.2.2.2.2.2.2.2.2.2.2.2.1 ?_
    refine aw_iload_n dX6_cell_14 rfl ?_
    refine aw_za s dX6_cell_15 hM.2.2.2.2.2.2.2.2.2.2.2.2.2.2.2.2.2.2.2.2.2.2.2.2.1 rfl hs (by decide) ?_
    refine aw_if_ne (tgt := 22) dX6_cell_16 (by decide) (fun c16 => ?_) (fun c16 => ?_)
    · obtain ⟨z, hz4, hz⟩ := hz s hs c16
      refine aw_iload_n dX6_cell_22 rfl ?_
      refine aw_i2l dX6_cell_23 ?_
      refine aw_lconst (v := 0) dX6_cell_24 (by decide) ?_
      refine aw_aload_n dX6_cell_25 rfl rfl ?_
      refine aw_gr dX6_cell_26 fw_X6_57 hM.1 hM.2.2.2.2.2.2.2.2.2.2.2.2.2.2.2.2.2.2.2.2.2.2.2.2.2.2.2.1 ?_
      refine aw_iload_n dX6_cell_29 rfl ?_
      refine aw_ia s dX6_cell_30 hM.2.2.2.2.2.2.2.2.2.2.2.2.2.2.2.2.2.2.2.2.2.2.2.2.2.2.2.2.1 rfl hs (by decide) ?_
      refine aw_iconst (v := 1) dX6_cell_31 (by decide) ?_
      refine aw_isub dX6_cell_32 ?_
      refine aw_i2l dX6_cell_33 ?_
      refine aw_S3 dX6_cell_34 cw_X6_73 (by omega) ⟨Nat.le_refl _, Nat.le_refl _⟩ (by decide) (c_X6_in (x := y) (a := 0) (b := I 62 s - 1) rfl (by decide) rfl (fun c34 => ?_) (fun c34 => ?_))
      · refine aw_if_ne (tgt := 43) dX6_cell_37 (by decide) (fun _ => ?_) (fun zz => absurd zz (by decide))
        obtain ⟨j, hj, rfl⟩ := (ixm_iff hz (by omega)).mp c34
        refine aw_aload_n dX6_cell_43 rfl rfl ?_
        refine aw_gr dX6_cell_44 fw_X6_60 hM.1 hM.2.2.2.2.2.2.2.2.2.2.2.2.2.2.2.2.2.2.2.2.2.2.2.2.2.2.2.2.2.1 ?_
        refine aw_bipush (v := 40) dX6_cell_47 (by decide) ?_
        refine aw_iload_n dX6_cell_49 rfl ?_
        refine aw_imul dX6_cell_50 ?_
        refine aw_iload_n dX6_cell_51 rfl ?_
        refine aw_iadd dX6_cell_52 ?_
        refine aw_aload_n dX6_cell_53 rfl rfl ?_
        refine aw_gr dX6_cell_54 fw_X6_54 hM.1 hM.2.2.2.2.2.2.2.2.2.2.2.2.2.2.2.2.2.2.2.2.2.2.2.2.2.1 ?_
        refine aw_iload_n dX6_cell_57 rfl ?_
        refine aw_ia s dX6_cell_58 hM.2.2.2.2.2.2.2.2.2.2.2.2.2.2.2.2.2.2.2.2.2.2.2.2.2.2.1 rfl hs (by decide) ?_
        refine aw_if_ne (tgt := 67) dX6_cell_59 (by decide) (fun c59 => ?_) (fun c59 => ?_)
        · refine aw_aload_n dX6_cell_67 rfl rfl ?_
          refine aw_gr dX6_cell_68 fw_X6_54 hM.1 hM.2.2.2.2.2.2.2.2.2.2.2.2.2.2.2.2.2.2.2.2.2.2.2.2.2.1 ?_
          refine aw_iload_n dX6_cell_71 rfl ?_
          refine aw_ia s dX6_cell_72 hM.2.2.2.2.2.2.2.2.2.2.2.2.2.2.2.2.2.2.2.2.2.2.2.2.2.2.1 rfl hs (by decide) ?_
          refine aw_iconst (v := 1) dX6_cell_73 (by decide) ?_
          refine aw_icmp_ne (tgt := 82) dX6_cell_74 (by decide) (fun c74 => ?_) (fun c74 => ?_)
          · refine aw_iload_n dX6_cell_82 rfl ?_
            refine aw_is (40 * s + j) dX6_cell_83 hM.2.2.2.2.2.2.2.2.2.2.2.2.2.2.2.2.2.2.2.2.2.2.2.2.2.2.2.2.2.2 (by show nI 40 * nI s + nI j = _; rw [pk_mul, nI_add]) (by omega) (by decide) ?_
            refine aw_iconst (v := 1) dX6_cell_84 (by decide) ?_
            refine aw_ireturn (ty := .int) dX6_cell_85 rfl rfl ?_
            have hq := hA s hs rfl c16 z hz hz4 j hj rfl
            unfold naV at hq
            simp only [c59, c74, if_true, if_false] at hq
            exact hq
          · refine aw_iload_n dX6_cell_77 rfl ?_
            refine aw_i2s dX6_cell_78 ?_
            refine aw_goto (tgt := 83) dX6_cell_79 (by decide) ?_
            refine aw_is (40 * s + j) dX6_cell_83 hM.2.2.2.2.2.2.2.2.2.2.2.2.2.2.2.2.2.2.2.2.2.2.2.2.2.2.2.2.2.2 (by show nI 40 * nI s + nI j = _; rw [pk_mul, nI_add]) (by omega) (by decide) ?_
            refine aw_iconst (v := 1) dX6_cell_84 (by decide) ?_
            refine aw_ireturn (ty := .int) dX6_cell_85 rfl rfl ?_
            have hq := hA s hs rfl c16 z hz hz4 j hj rfl
            unfold naV at hq
            simp only [c59, c74, if_true, if_false] at hq
            exact hq
        · refine aw_iload_n dX6_cell_62 rfl ?_
          refine aw_i2b dX6_cell_63 ?_
          refine aw_goto (tgt := 83) dX6_cell_64 (by decide) ?_
          refine aw_is (40 * s + j) dX6_cell_83 hM.2.2.2.2.2.2.2.2.2.2.2.2.2.2.2.2.2.2.2.2.2.2.2.2.2.2.2.2.2.2 (by show nI 40 * nI s + nI j = _; rw [pk_mul, nI_add]) (by omega) (by decide) ?_
          refine aw_iconst (v := 1) dX6_cell_84 (by decide) ?_
          refine aw_ireturn (ty := .int) dX6_cell_85 rfl rfl ?_
          have hq := hA s hs rfl c16 z hz hz4 j hj rfl
          unfold naV at hq
          simp only [c59, if_true, if_false] at hq
          exact hq
      · refine aw_if_ne (tgt := 43) dX6_cell_37 (by decide) (fun zz => absurd zz (by decide)) (fun _ => ?_)
        refine aw_bipush (v := -12) dX6_cell_40 (by decide) ?_
        refine aw_ireturn (ty := .int) dX6_cell_42 rfl rfl ?_
        exact hO s hs rfl c16 z hz hz4 (fun zz => c34 ((ixm_iff hz (by omega)).mpr zz))
    · refine aw_bipush (v := -11) dX6_cell_19 (by decide) ?_
      refine aw_ireturn (ty := .int) dX6_cell_21 rfl rfl ?_
      exact hMs s hs rfl c16
  · refine aw_if_ne (tgt := 10) dX6_cell_4 (by decide) (fun zz => absurd zz (by decide)) (fun _ => ?_)
    refine aw_bipush (v := -2) dX6_cell_7 (by decide) ?_
    refine aw_ireturn (ty := .int) dX6_cell_9 rfl rfl ?_
    exact hB c1
/-- a piece of the items moved -/
def cyM (I : Mi) (p q n : Nat) : Mi := rU I 63 (va_cpy (I 63) (I 63) p q n)
def cyU (I : Mi) (p q n j : Nat) : Mi := rU I 63 (va_cpy (I 63) (I 63) (p + (n - j)) (q + (n - j)) j)
theorem cyM_0 {I : Mi} {p q : Nat} : cyM I p q 0 = I := by
  funext b k
  by_cases h : b = 63
  · subst h; simp only [cyM, rU, va_cpy, if_true]; rw [if_neg (by omega)]
  · simp only [cyM, rU, if_neg h]
theorem cyU_0 {I : Mi} {p q n : Nat} : cyU I p q n 0 = I := by
  funext b k
  by_cases h : b = 63
  · subst h; simp only [cyU, rU, va_cpy, if_true]; rw [if_neg (by omega)]
  · simp only [cyU, rU, if_neg h]
theorem cyU_n {I : Mi} {p q n : Nat} : cyU I p q n n = cyM I p q n := by
  simp only [cyU, cyM, Nat.sub_self, Nat.add_zero]
theorem cyM_s {I : Mi} {p q j : Nat} (h : p + j < q ∨ q ≤ p) : iU (cyM I p q j) 63 (q + j) (cyM I p q j 63 (p + j)) = cyM I p q (j + 1) := by
  have e : cyM I p q j 63 (p + j) = I 63 (p + j) := by
    simp only [cyM, rU, if_true, va_cpy]; rw [if_neg (by omega)]
  rw [e]
  funext b k
  by_cases hb : b = 63
  · subst hb
    by_cases h2 : k = q + j
    · subst h2; rw [iU_same]; simp only [cyM, rU, if_true, va_cpy]; rw [if_pos (by omega), show p + (q + j - q) = p + j by omega]
    · rw [iU_at (by omega)]; simp only [cyM, rU, if_true, va_cpy]
      by_cases h3 : q ≤ k ∧ k < q + j
      · rw [if_pos h3, if_pos (by omega)]
      · rw [if_neg h3, if_neg (by omega)]
  · rw [iU_at (by omega)]; simp only [cyM, rU, if_neg hb]
theorem cyU_s {I : Mi} {p q n j : Nat} (hj : j < n) (h : p < q) : iU (cyU I p q n j) 63 (q + (n - 1 - j)) (cyU I p q n j 63 (p + (n - 1 - j))) = cyU I p q n (j + 1) := by
  have e : cyU I p q n j 63 (p + (n - 1 - j)) = I 63 (p + (n - 1 - j)) := by
    simp only [cyU, rU, if_true, va_cpy]; rw [if_neg (by omega)]
  rw [e]
  funext b k
  by_cases hb : b = 63
  · subst hb
    by_cases h2 : k = q + (n - 1 - j)
    · subst h2; rw [iU_same]; simp only [cyU, rU, if_true, va_cpy]; rw [if_pos (by omega)]; congr 1; omega
    · rw [iU_at (by omega)]; simp only [cyU, rU, if_true, va_cpy]
      by_cases h3 : q + (n - j) ≤ k ∧ k < q + (n - j) + j
      · rw [if_pos h3, if_pos (by omega)]; congr 1; omega
      · rw [if_neg h3, if_neg (by omega)]
  · rw [iU_at (by omega)]; simp only [cyU, rU, if_neg hb]
theorem l_X6_copy0 {E : Ev} {d : Nat} {I : Mi} {L : Ml} {Z : Mz} {Q : Po} {s u a b c : Nat} (hM : MZ Z) (hs : s < 4) (hu : u < 4) (ha : a + b ≤ 40) (hc : c + b ≤ 40) (ho : s ≠ u ∨ c ≤ a) : ∀ (n : Nat) (j : Nat) (o8 : Option Value), j + n = b → Q (some (.int (nI b))) (cyM I (40 * s + a) (40 * u + c) b) L Z → AW E yX6_copy cX6_copy 9 (some .int) (rmOf d 0 0) Q 0 0 121 [some (.ref 48), some (.int (nI s)), some (.int (nI a)), some (.int (nI u)), some (.int (nI c)), some (.int (nI b)), some (.int 0), some (.int (nI j)), o8] [] (cyM I (40 * s + a) (40 * u + c) j) L Z := by
  intro n
  induction n with
  | zero =>
    intro j o8 hj hQ
    refine aw_iload dX6_copy_121 rfl ?_
    refine aw_iload dX6_copy_123 rfl ?_
    refine aw_icmp_ge (tgt := 182) dX6_copy_125 (by decide) (fun c125 => ?_) (fun zz => absurd (by rw [show j = b by omega]; exact Int32.le_refl _) zz)
    refine aw_iload dX6_copy_182 rfl ?_
    refine aw_ireturn (ty := .int) dX6_copy_184 rfl rfl ?_
    rw [show j = b by omega]
    exact hQ
  | succ n ih =>
    intro j o8 hj hQ
    refine aw_iload dX6_copy_121 rfl ?_
    refine aw_iload dX6_copy_123 rfl ?_
    refine aw_icmp_ge (tgt := 182) dX6_copy_125 (by decide) (fun zz => absurd zz (nI_ge (by omega) (by omega))) (fun c125 => ?_)
    refine aw_iload dX6_copy_128 rfl ?_
    refine aw_if_eq (tgt := 143) dX6_copy_130 (by decide) (fun _ => ?_) (fun zz => absurd zz (by decide))
    refine aw_iload dX6_copy_143 rfl ?_
    refine aw_istore (ls' := [_, _, _, _, _, _, _, _, _]) dX6_copy_145 (by decide) rfl rfl ?_
    refine aw_aload_n dX6_copy_147 rfl rfl ?_
    refine aw_gr dX6_copy_148 fw_X6_60 hM.1 hM.2.2.2.2.2.2.2.2.2.2.2.2.2.2.2.2.2.2.2.2.2.2.2.2.2.2.2.2.2.1 ?_
    refine aw_bipush (v := 40) dX6_copy_151 (by decide) ?_
    refine aw_iload_n dX6_copy_153 rfl ?_
    refine aw_imul dX6_copy_154 ?_
    refine aw_iload dX6_copy_155 rfl ?_
    refine aw_iadd dX6_copy_157 ?_
    refine aw_iload dX6_copy_158 rfl ?_
    refine aw_iadd dX6_copy_160 ?_
    refine aw_aload_n dX6_copy_161 rfl rfl ?_
    refine aw_gr dX6_copy_162 fw_X6_60 hM.1 hM.2.2.2.2.2.2.2.2.2.2.2.2.2.2.2.2.2.2.2.2.2.2.2.2.2.2.2.2.2.1 ?_
    refine aw_bipush (v := 40) dX6_copy_165 (by decide) ?_
    refine aw_iload_n dX6_copy_167 rfl ?_
    refine aw_imul dX6_copy_168 ?_
    refine aw_iload_n dX6_copy_169 rfl ?_
    refine aw_iadd dX6_copy_170 ?_
    refine aw_iload dX6_copy_171 rfl ?_
    refine aw_iadd dX6_copy_173 ?_
    refine aw_ia (40 * s + a + j) dX6_copy_174 hM.2.2.2.2.2.2.2.2.2.2.2.2.2.2.2.2.2.2.2.2.2.2.2.2.2.2.2.2.2.2 (by show nI 40 * nI s + nI a + nI j = _; rw [pk_mul, nI_add, nI_add]) (by omega) (by decide) ?_
    refine aw_is (40 * u + c + j) dX6_copy_175 hM.2.2.2.2.2.2.2.2.2.2.2.2.2.2.2.2.2.2.2.2.2.2.2.2.2.2.2.2.2.2 (by show nI 40 * nI u + nI c + nI j = _; rw [pk_mul, nI_add, nI_add]) (by omega) (by decide) ?_
    refine aw_iinc (v := nI (j + 1)) (ls' := [_, _, _, _, _, _, _, _, _]) dX6_copy_176 rfl (nI_1 j) (by decide) rfl rfl ?_
    refine aw_goto (tgt := 121) dX6_copy_179 (by decide) ?_
    rw [cyM_s (by omega)]
    exact ih (j + 1) _ (by omega) hQ
theorem l_X6_copy1 {E : Ev} {d : Nat} {I : Mi} {L : Ml} {Z : Mz} {Q : Po} {s u a b c : Nat} (hM : MZ Z) (hs : s < 4) (hu : u < 4) (ha : a + b ≤ 40) (hc : c + b ≤ 40) (ho : s = u ∧ a < c) : ∀ (n : Nat) (j : Nat) (o8 : Option Value), j + n = b → Q (some (.int (nI b))) (cyM I (40 * s + a) (40 * u + c) b) L Z → AW E yX6_copy cX6_copy 9 (some .int) (rmOf d 0 0) Q 0 0 121 [some (.ref 48), some (.int (nI s)), some (.int (nI a)), some (.int (nI u)), some (.int (nI c)), some (.int (nI b)), some (.int 1), some (.int (nI j)), o8] [] (cyU I (40 * s + a) (40 * u + c) b j) L Z := by
  intro n
  induction n with
  | zero =>
    intro j o8 hj hQ
    refine aw_iload dX6_copy_121 rfl ?_
    refine aw_iload dX6_copy_123 rfl ?_
    refine aw_icmp_ge (tgt := 182) dX6_copy_125 (by decide) (fun c125 => ?_) (fun zz => absurd (by rw [show j = b by omega]; exact Int32.le_refl _) zz)
    refine aw_iload dX6_copy_182 rfl ?_
    refine aw_ireturn (ty := .int) dX6_copy_184 rfl rfl ?_
    rw [show j = b by omega, cyU_n]
    exact hQ
  | succ n ih =>
    intro j o8 hj hQ
    refine aw_iload dX6_copy_121 rfl ?_
    refine aw_iload dX6_copy_123 rfl ?_
    refine aw_icmp_ge (tgt := 182) dX6_copy_125 (by decide) (fun zz => absurd zz (nI_ge (by omega) (by omega))) (fun c125 => ?_)
    refine aw_iload dX6_copy_128 rfl ?_
    refine aw_if_eq (tgt := 143) dX6_copy_130 (by decide) (fun zz => absurd zz (by decide)) (fun _ => ?_)
    refine aw_iload dX6_copy_133 rfl ?_
    refine aw_iconst (v := 1) dX6_copy_135 (by decide) ?_
    refine aw_isub dX6_copy_136 ?_
    refine aw_iload dX6_copy_137 rfl ?_
    refine aw_isub dX6_copy_139 ?_
    refine aw_goto (tgt := 145) dX6_copy_140 (by decide) ?_
    refine aw_istore (ls' := [_, _, _, _, _, _, _, _, _]) dX6_copy_145 (by decide) rfl rfl ?_
    refine aw_aload_n dX6_copy_147 rfl rfl ?_
    refine aw_gr dX6_copy_148 fw_X6_60 hM.1 hM.2.2.2.2.2.2.2.2.2.2.2.2.2.2.2.2.2.2.2.2.2.2.2.2.2.2.2.2.2.1 ?_
    refine aw_bipush (v := 40) dX6_copy_151 (by decide) ?_
    refine aw_iload_n dX6_copy_153 rfl ?_
    refine aw_imul dX6_copy_154 ?_
    refine aw_iload dX6_copy_155 rfl ?_
    refine aw_iadd dX6_copy_157 ?_
    refine aw_iload dX6_copy_158 rfl ?_
    refine aw_iadd dX6_copy_160 ?_
    refine aw_aload_n dX6_copy_161 rfl rfl ?_
    refine aw_gr dX6_copy_162 fw_X6_60 hM.1 hM.2.2.2.2.2.2.2.2.2.2.2.2.2.2.2.2.2.2.2.2.2.2.2.2.2.2.2.2.2.1 ?_
    refine aw_bipush (v := 40) dX6_copy_165 (by decide) ?_
    refine aw_iload_n dX6_copy_167 rfl ?_
    refine aw_imul dX6_copy_168 ?_
    refine aw_iload_n dX6_copy_169 rfl ?_
    refine aw_iadd dX6_copy_170 ?_
    refine aw_iload dX6_copy_171 rfl ?_
    refine aw_iadd dX6_copy_173 ?_
    refine aw_ia (40 * s + a + (b - 1 - j)) dX6_copy_174 hM.2.2.2.2.2.2.2.2.2.2.2.2.2.2.2.2.2.2.2.2.2.2.2.2.2.2.2.2.2.2 (by show nI 40 * nI s + nI a + (nI b - 1 - nI j) = _; rw [pk_mul, nI_add, nI_m1 (by omega), pk_sub (by omega), nI_add]) (by omega) (by decide) ?_
    refine aw_is (40 * u + c + (b - 1 - j)) dX6_copy_175 hM.2.2.2.2.2.2.2.2.2.2.2.2.2.2.2.2.2.2.2.2.2.2.2.2.2.2.2.2.2.2 (by show nI 40 * nI u + nI c + (nI b - 1 - nI j) = _; rw [pk_mul, nI_add, nI_m1 (by omega), pk_sub (by omega), nI_add]) (by omega) (by decide) ?_
    refine aw_iinc (v := nI (j + 1)) (ls' := [_, _, _, _, _, _, _, _, _]) dX6_copy_176 rfl (nI_1 j) (by decide) rfl rfl ?_
    refine aw_goto (tgt := 121) dX6_copy_179 (by decide) ?_
    rw [cyU_s (by omega) (by omega)]
    exact ih (j + 1) _ (by omega) hQ
theorem c_X6_copy {E : Ev} {d : Nat} {I : Mi} {L : Ml} {Z : Mz} {Q : Po} {x : Int32} {y : Int32} {z : Int32} {w : Int32} {k : Int32}  (hd : 2 ≤ d) (hM : MZ Z) (hz : ∀ s, s < 4 → ¬ I 60 s = 0 → ∃ z, z ≤ 40 ∧ I 62 s = nI z) (hB : ¬ ((¬ x < 0 ∧ ¬ 3 < x) ∧ (¬ z < 0 ∧ ¬ 3 < z)) → Q (some (.int (-2))) I L Z) (hMs : ∀ s u, s < 4 → u < 4 → x = nI s → z = nI u → (I 60 s = 0 ∨ I 60 u = 0) → Q (some (.int (-11))) I L Z) (hT : ∀ s u, s < 4 → u < 4 → x = nI s → z = nI u → ¬ I 60 s = 0 → ¬ I 60 u = 0 → ¬ I 61 s = I 61 u → Q (some (.int (-13))) I L Z) (hO : ∀ s u, s < 4 → u < 4 → x = nI s → z = nI u → ¬ I 60 s = 0 → ¬ I 60 u = 0 → I 61 s = I 61 u → ¬ ((¬ y < 0 ∧ ¬ k < 0 ∧ ¬ I 62 s < y ∧ ¬ I 62 s - y < k) ∧ (¬ w < 0 ∧ ¬ k < 0 ∧ ¬ I 62 u < w ∧ ¬ I 62 u - w < k)) → Q (some (.int (-12))) I L Z) (hA : ∀ s u, s < 4 → u < 4 → x = nI s → z = nI u → ¬ I 60 s = 0 → ¬ I 60 u = 0 → I 61 s = I 61 u → ((¬ y < 0 ∧ ¬ k < 0 ∧ ¬ I 62 s < y ∧ ¬ I 62 s - y < k) ∧ (¬ w < 0 ∧ ¬ k < 0 ∧ ¬ I 62 u < w ∧ ¬ I 62 u - w < k)) → ∀ a b c : Nat, y = nI a → k = nI b → w = nI c → a + b ≤ 40 → c + b ≤ 40 → Q (some (.int k)) (cyM I (40 * s + a) (40 * u + c) b) L Z) : AC E yX6_copy cX6_copy 9 (some .int) d 0 0 [.ref 48, .int x, .int y, .int z, .int w, .int k] I L Z Q := by
  refine ac_go (ls := [some (.ref 48), some (.int x), some (.int y), some (.int z), some (.int w), some (.int k), none, none, none]) (by decide +kernel) (Nat.le_of_ble_eq_true rfl) rfl ?_
  refine aw_iload_n dX6_copy_0 rfl ?_
  refine aw_S1 dX6_copy_1 cw_X6_415 (by omega) ⟨Nat.le_refl _, Nat.le_refl _⟩ (by decide) (c_X6_isSheet (by omega) (fun c1 => ?_) (fun c1 => ?_))
  · refine aw_if_eq (tgt := 14) dX6_copy_4 (by decide) (fun zz => absurd zz (by decide)) (fun _ => ?_)
    refine aw_iload_n dX6_copy_7 rfl ?_
    refine aw_S1 dX6_copy_8 cw_X6_415 (by omega) ⟨Nat.le_refl _, Nat.le_refl _⟩ (by decide) (c_X6_isSheet (by omega) (fun c8 => ?_) (fun c8 => ?_))
    · refine aw_if_ne (tgt := 17) dX6_copy_11 (by decide) (fun _ => ?_) (fun zz => absurd zz (by decide))
      obtain ⟨s, hs, rfl⟩ := sh4 c1
      obtain ⟨u, hu, rfl⟩ := sh4 c8
      refine aw_aload_n dX6_copy_17 rfl rfl ?_
      refine aw_gr dX6_copy_18 fw_X6_50 hM.1 hM.2.2.2.2.2.2.2.2.2.2.2.2.2.2.2.2.2.2.2.2.2.2.2.1 ?_
      refine aw_iload_n dX6_copy_21 rfl ?_
      refine aw_za s dX6_copy_22 hM.2.2.2.2.2.2.2.2.2.2.2.2.2.2.2.2.2.2.2.2.2.2.2.2.1 rfl hs (by decide) ?_
      refine aw_if_eq (tgt := 35) dX6_copy_23 (by decide) (fun c23 => ?_) (fun c23 => ?_)
      · refine aw_bipush (v := -11) dX6_copy_35 (by decide) ?_
        refine aw_ireturn (ty := .int) dX6_copy_37 rfl rfl ?_
        exact hMs s u hs hu rfl rfl (Or.inl c23)
      · refine aw_aload_n dX6_copy_26 rfl rfl ?_
        refine aw_gr dX6_copy_27 fw_X6_50 hM.1 hM.2.2.2.2.2.2.2.2.2.2.2.2.2.2.2.2.2.2.2.2.2.2.2.1 ?_
        refine aw_iload_n dX6_copy_30 rfl ?_
        refine aw_za u dX6_copy_31 hM.2.2.2.2.2.2.2.2.2.2.2.2.2.2.2.2.2.2.2.2.2.2.2.2.1 rfl hu (by decide) ?_
        refine aw_if_ne (tgt := 38) dX6_copy_32 (by decide) (fun c32 => ?_) (fun c32 => ?_)
        · refine aw_aload_n dX6_copy_38 rfl rfl ?_
          refine aw_gr dX6_copy_39 fw_X6_54 hM.1 hM.2.2.2.2.2.2.2.2.2.2.2.2.2.2.2.2.2.2.2.2.2.2.2.2.2.1 ?_
          refine aw_iload_n dX6_copy_42 rfl ?_
          refine aw_ia s dX6_copy_43 hM.2.2.2.2.2.2.2.2.2.2.2.2.2.2.2.2.2.2.2.2.2.2.2.2.2.2.1 rfl hs (by decide) ?_
          refine aw_aload_n dX6_copy_44 rfl rfl ?_
          refine aw_gr dX6_copy_45 fw_X6_54 hM.1 hM.2.2.2.2.2.2.2.2.2.2.2.2.2.2.2.2.2.2.2.2.2.2.2.2.2.1 ?_
          refine aw_iload_n dX6_copy_48 rfl ?_
          refine aw_ia u dX6_copy_49 hM.2.2.2.2.2.2.2.2.2.2.2.2.2.2.2.2.2.2.2.2.2.2.2.2.2.2.1 rfl hu (by decide) ?_
          refine aw_icmp_eq (tgt := 56) dX6_copy_50 (by decide) (fun c50 => ?_) (fun c50 => ?_)
          · obtain ⟨z1, hz1, ez1⟩ := hz s hs c23
            obtain ⟨z2, hz2, ez2⟩ := hz u hu c32
            refine aw_iload dX6_copy_56 rfl ?_
            refine aw_if_lt (tgt := 97) dX6_copy_58 (by decide) (fun c58 => ?_) (fun c58 => ?_)
            · refine aw_bipush (v := -12) dX6_copy_97 (by decide) ?_
              refine aw_ireturn (ty := .int) dX6_copy_99 rfl rfl ?_
              exact hO s u hs hu rfl rfl c23 c32 c50 (fun zz => zz.1.2.1 c58)
            · refine aw_iload_n dX6_copy_61 rfl ?_
              refine aw_if_lt (tgt := 97) dX6_copy_62 (by decide) (fun c62 => ?_) (fun c62 => ?_)
              · refine aw_bipush (v := -12) dX6_copy_97 (by decide) ?_
                refine aw_ireturn (ty := .int) dX6_copy_99 rfl rfl ?_
                exact hO s u hs hu rfl rfl c23 c32 c50 (fun zz => zz.1.1 c62)
              · refine aw_iload dX6_copy_65 rfl ?_
                refine aw_if_lt (tgt := 97) dX6_copy_67 (by decide) (fun c67 => ?_) (fun c67 => ?_)
                · refine aw_bipush (v := -12) dX6_copy_97 (by decide) ?_
                  refine aw_ireturn (ty := .int) dX6_copy_99 rfl rfl ?_
                  exact hO s u hs hu rfl rfl c23 c32 c50 (fun zz => zz.2.1 c67)
                · refine aw_iload_n dX6_copy_70 rfl ?_
                  refine aw_aload_n dX6_copy_71 rfl rfl ?_
                  refine aw_gr dX6_copy_72 fw_X6_57 hM.1 hM.2.2.2.2.2.2.2.2.2.2.2.2.2.2.2.2.2.2.2.2.2.2.2.2.2.2.2.1 ?_
                  refine aw_iload_n dX6_copy_75 rfl ?_
                  refine aw_ia s dX6_copy_76 hM.2.2.2.2.2.2.2.2.2.2.2.2.2.2.2.2.2.2.2.2.2.2.2.2.2.2.2.2.1 rfl hs (by decide) ?_
                  refine aw_iload dX6_copy_77 rfl ?_
                  refine aw_isub dX6_copy_79 ?_
                  refine aw_icmp_gt (tgt := 97) dX6_copy_80 (by decide) (fun c80 => ?_) (fun c80 => ?_)
                  · refine aw_bipush (v := -12) dX6_copy_97 (by decide) ?_
                    refine aw_ireturn (ty := .int) dX6_copy_99 rfl rfl ?_
                    exact hO s u hs hu rfl rfl c23 c32 c50 (fun zz => Int32.not_lt.mpr ((rgm_iff ez1 hz1 c58 c62).mpr zz.1.2.2) c80)
                  · refine aw_iload dX6_copy_83 rfl ?_
                    refine aw_aload_n dX6_copy_85 rfl rfl ?_
                    refine aw_gr dX6_copy_86 fw_X6_57 hM.1 hM.2.2.2.2.2.2.2.2.2.2.2.2.2.2.2.2.2.2.2.2.2.2.2.2.2.2.2.1 ?_
                    refine aw_iload_n dX6_copy_89 rfl ?_
                    refine aw_ia u dX6_copy_90 hM.2.2.2.2.2.2.2.2.2.2.2.2.2.2.2.2.2.2.2.2.2.2.2.2.2.2.2.2.1 rfl hu (by decide) ?_
                    refine aw_iload dX6_copy_91 rfl ?_
                    refine aw_isub dX6_copy_93 ?_
                    refine aw_icmp_le (tgt := 100) dX6_copy_94 (by decide) (fun c94 => ?_) (fun c94 => ?_)
                    · obtain ⟨a, b, rfl, rfl, hab⟩ := rng_ok ez1 hz1 ⟨c62, c58, (rgm_iff ez1 hz1 c58 c62).mp (Int32.not_lt.mp c80)⟩
                      obtain ⟨c, b', rfl, eb', hcb⟩ := rng_ok ez2 hz2 ⟨c67, c58, (rgm_iff ez2 hz2 c58 c67).mp c94⟩
                      have hbb : b = b' := (nI_eq (by omega) (by omega)).mp eb'
                      subst hbb
                      refine aw_iload_n dX6_copy_100 rfl ?_
                      refine aw_iload_n dX6_copy_101 rfl ?_
                      refine aw_icmp_ne (tgt := 115) dX6_copy_102 (by decide) (fun c102 => ?_) (fun c102 => ?_)
                      · refine aw_iconst (v := 0) dX6_copy_115 (by decide) ?_
                        refine aw_istore (ls' := [_, _, _, _, _, _, _, _, _]) dX6_copy_116 (by decide) rfl rfl ?_
                        refine aw_iconst (v := 0) dX6_copy_118 (by decide) ?_
                        refine aw_istore (ls' := [_, _, _, _, _, _, _, _, _]) dX6_copy_119 (by decide) rfl rfl ?_
                        have ez := @cyM_0 I (40 * s + a) (40 * u + c)
                        refine ez ▸ l_X6_copy0 hM hs hu (by omega) (by omega) (Or.inl (fun w => c102 (by rw [w]))) b 0 _ (by omega) ?_
                        exact hA s u hs hu rfl rfl c23 c32 c50 ⟨⟨c62, c58, ((rgm_iff ez1 hz1 c58 c62).mp (Int32.not_lt.mp c80))⟩, ⟨c67, c58, ((rgm_iff ez2 hz2 c58 c67).mp c94)⟩⟩ a b c rfl rfl rfl (by omega) (by omega)
                      · refine aw_iload_n dX6_copy_105 rfl ?_
                        refine aw_iload dX6_copy_106 rfl ?_
                        refine aw_icmp_ge (tgt := 115) dX6_copy_108 (by decide) (fun c108 => ?_) (fun c108 => ?_)
                        · refine aw_iconst (v := 0) dX6_copy_115 (by decide) ?_
                          refine aw_istore (ls' := [_, _, _, _, _, _, _, _, _]) dX6_copy_116 (by decide) rfl rfl ?_
                          refine aw_iconst (v := 0) dX6_copy_118 (by decide) ?_
                          refine aw_istore (ls' := [_, _, _, _, _, _, _, _, _]) dX6_copy_119 (by decide) rfl rfl ?_
                          have ez := @cyM_0 I (40 * s + a) (40 * u + c)
                          refine ez ▸ l_X6_copy0 hM hs hu (by omega) (by omega) (Or.inr ((nI_leI (by omega) (by omega)).mp c108)) b 0 _ (by omega) ?_
                          exact hA s u hs hu rfl rfl c23 c32 c50 ⟨⟨c62, c58, ((rgm_iff ez1 hz1 c58 c62).mp (Int32.not_lt.mp c80))⟩, ⟨c67, c58, ((rgm_iff ez2 hz2 c58 c67).mp c94)⟩⟩ a b c rfl rfl rfl (by omega) (by omega)
                        · refine aw_iconst (v := 1) dX6_copy_111 (by decide) ?_
                          refine aw_goto (tgt := 116) dX6_copy_112 (by decide) ?_
                          refine aw_istore (ls' := [_, _, _, _, _, _, _, _, _]) dX6_copy_116 (by decide) rfl rfl ?_
                          refine aw_iconst (v := 0) dX6_copy_118 (by decide) ?_
                          refine aw_istore (ls' := [_, _, _, _, _, _, _, _, _]) dX6_copy_119 (by decide) rfl rfl ?_
                          have ez := @cyU_0 I (40 * s + a) (40 * u + c) b
                          refine ez ▸ l_X6_copy1 hM hs hu (by omega) (by omega) ⟨(nI_eq (by omega) (by omega)).mp c102, Nat.not_le.mp (fun w => c108 ((nI_leI (by omega) (by omega)).mpr w))⟩ b 0 _ (by omega) ?_
                          exact hA s u hs hu rfl rfl c23 c32 c50 ⟨⟨c62, c58, ((rgm_iff ez1 hz1 c58 c62).mp (Int32.not_lt.mp c80))⟩, ⟨c67, c58, ((rgm_iff ez2 hz2 c58 c67).mp c94)⟩⟩ a b c rfl rfl rfl (by omega) (by omega)
                    · refine aw_bipush (v := -12) dX6_copy_97 (by decide) ?_
                      refine aw_ireturn (ty := .int) dX6_copy_99 rfl rfl ?_
                      exact hO s u hs hu rfl rfl c23 c32 c50 (fun zz => c94 ((rgm_iff ez2 hz2 c58 c67).mpr zz.2.2.2))
          · refine aw_bipush (v := -13) dX6_copy_53 (by decide) ?_
            refine aw_ireturn (ty := .int) dX6_copy_55 rfl rfl ?_
            exact hT s u hs hu rfl rfl c23 c32 c50
        · refine aw_bipush (v := -11) dX6_copy_35 (by decide) ?_
          refine aw_ireturn (ty := .int) dX6_copy_37 rfl rfl ?_
          exact hMs s u hs hu rfl rfl (Or.inr c32)
    · refine aw_if_ne (tgt := 17) dX6_copy_11 (by decide) (fun zz => absurd zz (by decide)) (fun _ => ?_)
      refine aw_bipush (v := -2) dX6_copy_14 (by decide) ?_
      refine aw_ireturn (ty := .int) dX6_copy_16 rfl rfl ?_
      exact hB (fun zz => c8 zz.2)
  · refine aw_if_eq (tgt := 14) dX6_copy_4 (by decide) (fun _ => ?_) (fun zz => absurd zz (by decide))
    refine aw_bipush (v := -2) dX6_copy_14 (by decide) ?_
    refine aw_ireturn (ty := .int) dX6_copy_16 rfl rfl ?_
    exact hB (fun zz => c1 zz.1)
theorem l_X6_image0 {E : Ev} {d : Nat} {I : Mi} {L : Ml} {Z : Mz} {Q : Po}  (hM : MZ Z) : ∀ (n : Nat) (j : Nat), j + n = 12 → AW E yX6_image cX6_image 2 (some .int) (rmOf d 0 0) Q 0 0 26 [some (.ref 48), some (.int 12)] [] (cpI I 57 52 12) L Z → AW E yX6_image cX6_image 2 (some .int) (rmOf d 0 0) Q 0 0 2 [some (.ref 48), some (.int (nI j))] [] (cpI I 57 52 j) L Z := by
  intro n
  induction n with
  | zero =>
    intro j hj hQ
    refine aw_iload_n dX6_image_2 rfl ?_
    refine aw_bipush (v := 12) dX6_image_3 (by decide) ?_
    refine aw_icmp_ge (tgt := 26) dX6_image_5 (by decide) (fun c5 => ?_) (fun zz => absurd (by rw [show j = 12 by omega]; decide) zz)
    rw [show j = 12 by omega]
    exact hQ
  | succ n ih =>
    intro j hj hQ
    refine aw_iload_n dX6_image_2 rfl ?_
    refine aw_bipush (v := 12) dX6_image_3 (by decide) ?_
    refine aw_icmp_ge (tgt := 26) dX6_image_5 (by decide) (fun zz => absurd zz (nI_ge (b := 12) (by omega) (by decide))) (fun c5 => ?_)
    refine aw_aload_n dX6_image_8 rfl rfl ?_
    refine aw_gr dX6_image_9 fw_X6_38 hM.1 hM.2.2.2.2.2.2.2.2.2.2.2.2.2.2.2.2.2.1 ?_
    refine aw_iload_n dX6_image_12 rfl ?_
    refine aw_aload_n dX6_image_13 rfl rfl ?_
    refine aw_gr dX6_image_14 fw_X6_23 hM.1 hM.2.2.2.2.2.2.2.1 ?_
    refine aw_iload_n dX6_image_17 rfl ?_
    refine aw_ia j dX6_image_18 hM.2.2.2.2.2.2.2.2.1 rfl (by omega) (by decide) ?_
    refine aw_is j dX6_image_19 hM.2.2.2.2.2.2.2.2.2.2.2.2.2.2.2.2.2.2.1 rfl (by omega) (by decide) ?_
    refine aw_iinc (v := nI (j + 1)) (ls' := [_, _]) dX6_image_20 rfl (nI_1 j) (by decide) rfl rfl ?_
    refine aw_goto (tgt := 2) dX6_image_23 (by decide) ?_
    rw [cpI_s (by decide)]
    exact ih (j + 1) (by omega) hQ
theorem l_X6_image1 {E : Ev} {d : Nat} {I : Mi} {L : Ml} {Z : Mz} {Q : Po}  (hM : MZ Z) : ∀ (n : Nat) (j : Nat), j + n = 26 → AW E yX6_image cX6_image 2 (some .int) (rmOf d 0 0) Q 0 0 52 [some (.ref 48), some (.int 26)] [] (cpI I 58 53 26) L Z → AW E yX6_image cX6_image 2 (some .int) (rmOf d 0 0) Q 0 0 28 [some (.ref 48), some (.int (nI j))] [] (cpI I 58 53 j) L Z := by
  intro n
  induction n with
  | zero =>
    intro j hj hQ
    refine aw_iload_n dX6_image_28 rfl ?_
    refine aw_bipush (v := 26) dX6_image_29 (by decide) ?_
    refine aw_icmp_ge (tgt := 52) dX6_image_31 (by decide) (fun c31 => ?_) (fun zz => absurd (by rw [show j = 26 by omega]; decide) zz)
    rw [show j = 26 by omega]
    exact hQ
  | succ n ih =>
    intro j hj hQ
    refine aw_iload_n dX6_image_28 rfl ?_
    refine aw_bipush (v := 26) dX6_image_29 (by decide) ?_
    refine aw_icmp_ge (tgt := 52) dX6_image_31 (by decide) (fun zz => absurd zz (nI_ge (b := 26) (by omega) (by decide))) (fun c31 => ?_)
    refine aw_aload_n dX6_image_34 rfl rfl ?_
    refine aw_gr dX6_image_35 fw_X6_41 hM.1 hM.2.2.2.2.2.2.2.2.2.2.2.2.2.2.2.2.2.2.2.1 ?_
    refine aw_iload_n dX6_image_38 rfl ?_
    refine aw_aload_n dX6_image_39 rfl rfl ?_
    refine aw_gr dX6_image_40 fw_X6_26 hM.1 hM.2.2.2.2.2.2.2.2.2.1 ?_
    refine aw_iload_n dX6_image_43 rfl ?_
    refine aw_ia j dX6_image_44 hM.2.2.2.2.2.2.2.2.2.2.1 rfl (by omega) (by decide) ?_
    refine aw_is j dX6_image_45 hM.2.2.2.2.2.2.2.2.2.2.2.2.2.2.2.2.2.2.2.2.1 rfl (by omega) (by decide) ?_
    refine aw_iinc (v := nI (j + 1)) (ls' := [_, _]) dX6_image_46 rfl (nI_1 j) (by decide) rfl rfl ?_
    refine aw_goto (tgt := 28) dX6_image_49 (by decide) ?_
    rw [cpI_s (by decide)]
    exact ih (j + 1) (by omega) hQ
theorem l_X6_image2 {E : Ev} {d : Nat} {I : Mi} {L : Ml} {Z : Mz} {Q : Po}  (hM : MZ Z) : ∀ (n : Nat) (j : Nat), j + n = 10 → AW E yX6_image cX6_image 2 (some .int) (rmOf d 0 0) Q 0 0 78 [some (.ref 48), some (.int 10)] [] (cpI I 59 55 10) L Z → AW E yX6_image cX6_image 2 (some .int) (rmOf d 0 0) Q 0 0 54 [some (.ref 48), some (.int (nI j))] [] (cpI I 59 55 j) L Z := by
  intro n
  induction n with
  | zero =>
    intro j hj hQ
    refine aw_iload_n dX6_image_54 rfl ?_
    refine aw_bipush (v := 10) dX6_image_55 (by decide) ?_
    refine aw_icmp_ge (tgt := 78) dX6_image_57 (by decide) (fun c57 => ?_) (fun zz => absurd (by rw [show j = 10 by omega]; decide) zz)
    rw [show j = 10 by omega]
    exact hQ
  | succ n ih =>
    intro j hj hQ
    refine aw_iload_n dX6_image_54 rfl ?_
    refine aw_bipush (v := 10) dX6_image_55 (by decide) ?_
    refine aw_icmp_ge (tgt := 78) dX6_image_57 (by decide) (fun zz => absurd zz (nI_ge (b := 10) (by omega) (by decide))) (fun c57 => ?_)
    refine aw_aload_n dX6_image_60 rfl rfl ?_
    refine aw_gr dX6_image_61 fw_X6_44 hM.1 hM.2.2.2.2.2.2.2.2.2.2.2.2.2.2.2.2.2.2.2.2.2.1 ?_
    refine aw_iload_n dX6_image_64 rfl ?_
    refine aw_aload_n dX6_image_65 rfl rfl ?_
    refine aw_gr dX6_image_66 fw_X6_32 hM.1 hM.2.2.2.2.2.2.2.2.2.2.2.2.2.1 ?_
    refine aw_iload_n dX6_image_69 rfl ?_
    refine aw_ia j dX6_image_70 hM.2.2.2.2.2.2.2.2.2.2.2.2.2.2.1 rfl (by omega) (by decide) ?_
    refine aw_is j dX6_image_71 hM.2.2.2.2.2.2.2.2.2.2.2.2.2.2.2.2.2.2.2.2.2.2.1 rfl (by omega) (by decide) ?_
    refine aw_iinc (v := nI (j + 1)) (ls' := [_, _]) dX6_image_72 rfl (nI_1 j) (by decide) rfl rfl ?_
    refine aw_goto (tgt := 54) dX6_image_75 (by decide) ?_
    rw [cpI_s (by decide)]
    exact ih (j + 1) (by omega) hQ
def imM (I : Mi) : Mi := cpI (cpI (cpI I 57 52 12) 58 53 26) 59 55 10
def imF (M : Mi) : Mi := iU (iU (iU (iU (iU (iU M 48 36 (M 48 15)) 48 37 (M 48 10)) 48 38 (M 48 12)) 48 39 (M 48 7)) 48 40 (M 48 8)) 48 41 (M 48 4)
theorem c_X6_image {E : Ev} {d : Nat} {I : Mi} {L : Ml} {Z : Mz} {Q : Po}   (hM : MZ Z) (hQ : Q (some (.int (I 48 15))) (imF (imM I)) L Z) : AC E yX6_image cX6_image 2 (some .int) d 0 0 [.ref 48] I L Z Q := by
  refine ac_go (ls := [some (.ref 48), none]) (by decide +kernel) (Nat.le_of_ble_eq_true rfl) rfl ?_
  refine aw_iconst (v := 0) dX6_image_0 (by decide) ?_
  refine aw_istore_n (ls' := [_, _]) dX6_image_1 (by decide) rfl rfl ?_
  have z0 := @cpI_0 I 57 52
  refine z0 ▸ l_X6_image0 (I := I) hM 12 0 (by omega) ?_
  refine aw_iconst (v := 0) dX6_image_26 (by decide) ?_
  refine aw_istore_n (ls' := [_, _]) dX6_image_27 (by decide) rfl rfl ?_
  have z1 := @cpI_0 (cpI I 57 52 12) 58 53
  refine z1 ▸ l_X6_image1 (I := (cpI I 57 52 12)) hM 26 0 (by omega) ?_
  refine aw_iconst (v := 0) dX6_image_52 (by decide) ?_
  refine aw_istore_n (ls' := [_, _]) dX6_image_53 (by decide) rfl rfl ?_
  have z2 := @cpI_0 (cpI (cpI I 57 52 12) 58 53 26) 59 55
  refine z2 ▸ l_X6_image2 (I := (cpI (cpI I 57 52 12) 58 53 26)) hM 10 0 (by omega) ?_
  refine aw_aload_n dX6_image_78 rfl rfl ?_
  refine aw_aload_n dX6_image_79 rfl rfl ?_
  refine aw_gi dX6_image_80 fw_X6_70 hM.1 ?_
  refine aw_pi dX6_image_83 fw_X6_47 (ww_X6_47 _) hM.1 rfl ?_
  refine aw_aload_n dX6_image_86 rfl rfl ?_
  refine aw_aload_n dX6_image_87 rfl rfl ?_
  refine aw_gi dX6_image_88 fw_X6_77 hM.1 ?_
  refine aw_pi dX6_image_91 fw_X6_430 (ww_X6_430 _) hM.1 rfl ?_
  refine aw_aload_n dX6_image_94 rfl rfl ?_
  refine aw_aload_n dX6_image_95 rfl rfl ?_
  refine aw_gi dX6_image_96 fw_X6_89 hM.1 ?_
  refine aw_pi dX6_image_99 fw_X6_433 (ww_X6_433 _) hM.1 rfl ?_
  refine aw_aload_n dX6_image_102 rfl rfl ?_
  refine aw_aload_n dX6_image_103 rfl rfl ?_
  refine aw_gi dX6_image_104 fw_X6_110 hM.1 ?_
  refine aw_pi dX6_image_107 fw_X6_436 (ww_X6_436 _) hM.1 rfl ?_
  refine aw_aload_n dX6_image_110 rfl rfl ?_
  refine aw_aload_n dX6_image_111 rfl rfl ?_
  refine aw_gi dX6_image_112 fw_X6_113 hM.1 ?_
  refine aw_pi dX6_image_115 fw_X6_439 (ww_X6_439 _) hM.1 rfl ?_
  refine aw_aload_n dX6_image_118 rfl rfl ?_
  refine aw_aload_n dX6_image_119 rfl rfl ?_
  refine aw_gi dX6_image_120 fw_X6_116 hM.1 ?_
  refine aw_pi dX6_image_123 fw_X6_442 (ww_X6_442 _) hM.1 rfl ?_
  refine aw_aload_n dX6_image_126 rfl rfl ?_
  refine aw_gi dX6_image_127 fw_X6_70 hM.1 ?_
  refine aw_ireturn (ty := .int) dX6_image_130 rfl rfl ?_
  exact hQ
theorem l_X6_back0 {E : Ev} {d : Nat} {I : Mi} {L : Ml} {Z : Mz} {Q : Po}  (hM : MZ Z) : ∀ (n : Nat) (j : Nat), j + n = 12 → AW E yX6_back cX6_back 2 (some .int) (rmOf d 0 0) Q 0 0 37 [some (.ref 48), some (.int 12)] [] (cpI I 52 57 12) L Z → AW E yX6_back cX6_back 2 (some .int) (rmOf d 0 0) Q 0 0 13 [some (.ref 48), some (.int (nI j))] [] (cpI I 52 57 j) L Z := by
  intro n
  induction n with
  | zero =>
    intro j hj hQ
    refine aw_iload_n dX6_back_13 rfl ?_
    refine aw_bipush (v := 12) dX6_back_14 (by decide) ?_
    refine aw_icmp_ge (tgt := 37) dX6_back_16 (by decide) (fun c16 => ?_) (fun zz => absurd (by rw [show j = 12 by omega]; decide) zz)
    rw [show j = 12 by omega]
    exact hQ
  | succ n ih =>
    intro j hj hQ
    refine aw_iload_n dX6_back_13 rfl ?_
    refine aw_bipush (v := 12) dX6_back_14 (by decide) ?_
    refine aw_icmp_ge (tgt := 37) dX6_back_16 (by decide) (fun zz => absurd zz (nI_ge (b := 12) (by omega) (by decide))) (fun c16 => ?_)
    refine aw_aload_n dX6_back_19 rfl rfl ?_
    refine aw_gr dX6_back_20 fw_X6_23 hM.1 hM.2.2.2.2.2.2.2.1 ?_
    refine aw_iload_n dX6_back_23 rfl ?_
    refine aw_aload_n dX6_back_24 rfl rfl ?_
    refine aw_gr dX6_back_25 fw_X6_38 hM.1 hM.2.2.2.2.2.2.2.2.2.2.2.2.2.2.2.2.2.1 ?_
    refine aw_iload_n dX6_back_28 rfl ?_
    refine aw_ia j dX6_back_29 hM.2.2.2.2.2.2.2.2.2.2.2.2.2.2.2.2.2.2.1 rfl (by omega) (by decide) ?_
    refine aw_is j dX6_back_30 hM.2.2.2.2.2.2.2.2.1 rfl (by omega) (by decide) ?_
    refine aw_iinc (v := nI (j + 1)) (ls' := [_, _]) dX6_back_31 rfl (nI_1 j) (by decide) rfl rfl ?_
    refine aw_goto (tgt := 13) dX6_back_34 (by decide) ?_
    rw [cpI_s (by decide)]
    exact ih (j + 1) (by omega) hQ
theorem l_X6_back1 {E : Ev} {d : Nat} {I : Mi} {L : Ml} {Z : Mz} {Q : Po}  (hM : MZ Z) : ∀ (n : Nat) (j : Nat), j + n = 26 → AW E yX6_back cX6_back 2 (some .int) (rmOf d 0 0) Q 0 0 63 [some (.ref 48), some (.int 26)] [] (cpI I 53 58 26) L Z → AW E yX6_back cX6_back 2 (some .int) (rmOf d 0 0) Q 0 0 39 [some (.ref 48), some (.int (nI j))] [] (cpI I 53 58 j) L Z := by
  intro n
  induction n with
  | zero =>
    intro j hj hQ
    refine aw_iload_n dX6_back_39 rfl ?_
    refine aw_bipush (v := 26) dX6_back_40 (by decide) ?_
    refine aw_icmp_ge (tgt := 63) dX6_back_42 (by decide) (fun c42 => ?_) (fun zz => absurd (by rw [show j = 26 by omega]; decide) zz)
    rw [show j = 26 by omega]
    exact hQ
  | succ n ih =>
    intro j hj hQ
    refine aw_iload_n dX6_back_39 rfl ?_
    refine aw_bipush (v := 26) dX6_back_40 (by decide) ?_
    refine aw_icmp_ge (tgt := 63) dX6_back_42 (by decide) (fun zz => absurd zz (nI_ge (b := 26) (by omega) (by decide))) (fun c42 => ?_)
    refine aw_aload_n dX6_back_45 rfl rfl ?_
    refine aw_gr dX6_back_46 fw_X6_26 hM.1 hM.2.2.2.2.2.2.2.2.2.1 ?_
    refine aw_iload_n dX6_back_49 rfl ?_
    refine aw_aload_n dX6_back_50 rfl rfl ?_
    refine aw_gr dX6_back_51 fw_X6_41 hM.1 hM.2.2.2.2.2.2.2.2.2.2.2.2.2.2.2.2.2.2.2.1 ?_
    refine aw_iload_n dX6_back_54 rfl ?_
    refine aw_ia j dX6_back_55 hM.2.2.2.2.2.2.2.2.2.2.2.2.2.2.2.2.2.2.2.2.1 rfl (by omega) (by decide) ?_
    refine aw_is j dX6_back_56 hM.2.2.2.2.2.2.2.2.2.2.1 rfl (by omega) (by decide) ?_
    refine aw_iinc (v := nI (j + 1)) (ls' := [_, _]) dX6_back_57 rfl (nI_1 j) (by decide) rfl rfl ?_
    refine aw_goto (tgt := 39) dX6_back_60 (by decide) ?_
    rw [cpI_s (by decide)]
    exact ih (j + 1) (by omega) hQ
theorem l_X6_back2 {E : Ev} {d : Nat} {I : Mi} {L : Ml} {Z : Mz} {Q : Po}  (hM : MZ Z) : ∀ (n : Nat) (j : Nat), j + n = 10 → AW E yX6_back cX6_back 2 (some .int) (rmOf d 0 0) Q 0 0 89 [some (.ref 48), some (.int 10)] [] (cpI I 55 59 10) L Z → AW E yX6_back cX6_back 2 (some .int) (rmOf d 0 0) Q 0 0 65 [some (.ref 48), some (.int (nI j))] [] (cpI I 55 59 j) L Z := by
  intro n
  induction n with
  | zero =>
    intro j hj hQ
    refine aw_iload_n dX6_back_65 rfl ?_
    refine aw_bipush (v := 10) dX6_back_66 (by decide) ?_
    refine aw_icmp_ge (tgt := 89) dX6_back_68 (by decide) (fun c68 => ?_) (fun zz => absurd (by rw [show j = 10 by omega]; decide) zz)
    rw [show j = 10 by omega]
    exact hQ
  | succ n ih =>
    intro j hj hQ
    refine aw_iload_n dX6_back_65 rfl ?_
    refine aw_bipush (v := 10) dX6_back_66 (by decide) ?_
    refine aw_icmp_ge (tgt := 89) dX6_back_68 (by decide) (fun zz => absurd zz (nI_ge (b := 10) (by omega) (by decide))) (fun c68 => ?_)
    refine aw_aload_n dX6_back_71 rfl rfl ?_
    refine aw_gr dX6_back_72 fw_X6_32 hM.1 hM.2.2.2.2.2.2.2.2.2.2.2.2.2.1 ?_
    refine aw_iload_n dX6_back_75 rfl ?_
    refine aw_aload_n dX6_back_76 rfl rfl ?_
    refine aw_gr dX6_back_77 fw_X6_44 hM.1 hM.2.2.2.2.2.2.2.2.2.2.2.2.2.2.2.2.2.2.2.2.2.1 ?_
    refine aw_iload_n dX6_back_80 rfl ?_
    refine aw_ia j dX6_back_81 hM.2.2.2.2.2.2.2.2.2.2.2.2.2.2.2.2.2.2.2.2.2.2.1 rfl (by omega) (by decide) ?_
    refine aw_is j dX6_back_82 hM.2.2.2.2.2.2.2.2.2.2.2.2.2.2.1 rfl (by omega) (by decide) ?_
    refine aw_iinc (v := nI (j + 1)) (ls' := [_, _]) dX6_back_83 rfl (nI_1 j) (by decide) rfl rfl ?_
    refine aw_goto (tgt := 65) dX6_back_86 (by decide) ?_
    rw [cpI_s (by decide)]
    exact ih (j + 1) (by omega) hQ
def bkM (I : Mi) : Mi := cpI (cpI (cpI I 52 57 12) 53 58 26) 55 59 10
def bkF (M : Mi) : Mi := iU (iU (iU (iU (iU (iU M 48 15 (M 48 36)) 48 10 (M 48 37)) 48 12 (M 48 38)) 48 7 (M 48 39)) 48 8 (M 48 40)) 48 4 (M 48 41)
theorem c_X6_back {E : Ev} {d : Nat} {I : Mi} {L : Ml} {Z : Mz} {Q : Po}   (hM : MZ Z) (hB : I 48 36 = -1 → Q (some (.int (-3))) I L Z) (hA : ¬ I 48 36 = -1 → Q (some (.int (I 48 36))) (bkF (bkM I)) L Z) : AC E yX6_back cX6_back 2 (some .int) d 0 0 [.ref 48] I L Z Q := by
  refine ac_go (ls := [some (.ref 48), none]) (by decide +kernel) (Nat.le_of_ble_eq_true rfl) rfl ?_
  refine aw_aload_n dX6_back_0 rfl rfl ?_
  refine aw_gi dX6_back_1 fw_X6_47 hM.1 ?_
  refine aw_iconst (v := -1) dX6_back_4 (by decide) ?_
  refine aw_icmp_ne (tgt := 11) dX6_back_5 (by decide) (fun c5 => ?_) (fun c5 => ?_)
  · refine aw_iconst (v := 0) dX6_back_11 (by decide) ?_
    refine aw_istore_n (ls' := [_, _]) dX6_back_12 (by decide) rfl rfl ?_
    have z0 := @cpI_0 I 52 57
    refine z0 ▸ l_X6_back0 (I := I) hM 12 0 (by omega) ?_
    refine aw_iconst (v := 0) dX6_back_37 (by decide) ?_
    refine aw_istore_n (ls' := [_, _]) dX6_back_38 (by decide) rfl rfl ?_
    have z1 := @cpI_0 (cpI I 52 57 12) 53 58
    refine z1 ▸ l_X6_back1 (I := (cpI I 52 57 12)) hM 26 0 (by omega) ?_
    refine aw_iconst (v := 0) dX6_back_63 (by decide) ?_
    refine aw_istore_n (ls' := [_, _]) dX6_back_64 (by decide) rfl rfl ?_
    have z2 := @cpI_0 (cpI (cpI I 52 57 12) 53 58 26) 55 59
    refine z2 ▸ l_X6_back2 (I := (cpI (cpI I 52 57 12) 53 58 26)) hM 10 0 (by omega) ?_
    refine aw_aload_n dX6_back_89 rfl rfl ?_
    refine aw_aload_n dX6_back_90 rfl rfl ?_
    refine aw_gi dX6_back_91 fw_X6_47 hM.1 ?_
    refine aw_pi dX6_back_94 fw_X6_70 (ww_X6_70 _) hM.1 rfl ?_
    refine aw_aload_n dX6_back_97 rfl rfl ?_
    refine aw_aload_n dX6_back_98 rfl rfl ?_
    refine aw_gi dX6_back_99 fw_X6_430 hM.1 ?_
    refine aw_pi dX6_back_102 fw_X6_77 (ww_X6_77 _) hM.1 rfl ?_
    refine aw_aload_n dX6_back_105 rfl rfl ?_
    refine aw_aload_n dX6_back_106 rfl rfl ?_
    refine aw_gi dX6_back_107 fw_X6_433 hM.1 ?_
    refine aw_pi dX6_back_110 fw_X6_89 (ww_X6_89 _) hM.1 rfl ?_
    refine aw_aload_n dX6_back_113 rfl rfl ?_
    refine aw_aload_n dX6_back_114 rfl rfl ?_
    refine aw_gi dX6_back_115 fw_X6_436 hM.1 ?_
    refine aw_pi dX6_back_118 fw_X6_110 (ww_X6_110 _) hM.1 rfl ?_
    refine aw_aload_n dX6_back_121 rfl rfl ?_
    refine aw_aload_n dX6_back_122 rfl rfl ?_
    refine aw_gi dX6_back_123 fw_X6_439 hM.1 ?_
    refine aw_pi dX6_back_126 fw_X6_113 (ww_X6_113 _) hM.1 rfl ?_
    refine aw_aload_n dX6_back_129 rfl rfl ?_
    refine aw_aload_n dX6_back_130 rfl rfl ?_
    refine aw_gi dX6_back_131 fw_X6_442 hM.1 ?_
    refine aw_pi dX6_back_134 fw_X6_116 (ww_X6_116 _) hM.1 rfl ?_
    refine aw_aload_n dX6_back_137 rfl rfl ?_
    refine aw_gi dX6_back_138 fw_X6_70 hM.1 ?_
    refine aw_ireturn (ty := .int) dX6_back_141 rfl rfl ?_
    exact hA c5
  · refine aw_bipush (v := -3) dX6_back_8 (by decide) ?_
    refine aw_ireturn (ty := .int) dX6_back_10 rfl rfl ?_
    exact hB c5
theorem c_X6_over0 {E : Ev} {d : Nat} {I : Mi} {L : Ml} {Z : Mz} {Q : Po}    (hQ : ∀ rv : Int32, rv = (-1) → Q (some (.int rv)) I L Z) : AC E yX6_over cX6_over 1 (some .int) d 0 0 [.int 0] I L Z Q := by
  refine ac_go (ls := [some (.int 0)]) (by decide +kernel) (Nat.le_of_ble_eq_true rfl) rfl ?_
  refine aw_iload_n dX6_over_0 rfl ?_
  refine aw_if_ne (tgt := 8) dX6_over_1 (by decide) (fun zz => absurd zz (by decide)) (fun _ => ?_)
  refine aw_iconst (v := -1) dX6_over_4 (by decide) ?_
  refine aw_goto (tgt := 27) dX6_over_5 (by decide) ?_
  refine aw_ireturn (ty := .int) dX6_over_27 rfl rfl ?_
  exact hQ _ rfl
theorem c_X6_over1 {E : Ev} {d : Nat} {I : Mi} {L : Ml} {Z : Mz} {Q : Po}    (hQ : ∀ rv : Int32, rv = (0) → Q (some (.int rv)) I L Z) : AC E yX6_over cX6_over 1 (some .int) d 0 0 [.int 1] I L Z Q := by
  refine ac_go (ls := [some (.int 1)]) (by decide +kernel) (Nat.le_of_ble_eq_true rfl) rfl ?_
  refine aw_iload_n dX6_over_0 rfl ?_
  refine aw_if_ne (tgt := 8) dX6_over_1 (by decide) (fun _ => ?_) (fun zz => absurd zz (by decide))
  refine aw_iload_n dX6_over_8 rfl ?_
  refine aw_iconst (v := 3) dX6_over_9 (by decide) ?_
  refine aw_icmp_ne (tgt := 17) dX6_over_10 (by decide) (fun _ => ?_) (fun zz => absurd zz (by decide))
  refine aw_iload_n dX6_over_17 rfl ?_
  refine aw_iconst (v := 4) dX6_over_18 (by decide) ?_
  refine aw_icmp_ne (tgt := 26) dX6_over_19 (by decide) (fun _ => ?_) (fun zz => absurd zz (by decide))
  refine aw_iconst (v := 0) dX6_over_26 (by decide) ?_
  refine aw_ireturn (ty := .int) dX6_over_27 rfl rfl ?_
  exact hQ _ rfl
theorem c_X6_over2 {E : Ev} {d : Nat} {I : Mi} {L : Ml} {Z : Mz} {Q : Po}    (hQ : ∀ rv : Int32, rv = (0) → Q (some (.int rv)) I L Z) : AC E yX6_over cX6_over 1 (some .int) d 0 0 [.int 2] I L Z Q := by
  refine ac_go (ls := [some (.int 2)]) (by decide +kernel) (Nat.le_of_ble_eq_true rfl) rfl ?_
  refine aw_iload_n dX6_over_0 rfl ?_
  refine aw_if_ne (tgt := 8) dX6_over_1 (by decide) (fun _ => ?_) (fun zz => absurd zz (by decide))
  refine aw_iload_n dX6_over_8 rfl ?_
  refine aw_iconst (v := 3) dX6_over_9 (by decide) ?_
  refine aw_icmp_ne (tgt := 17) dX6_over_10 (by decide) (fun _ => ?_) (fun zz => absurd zz (by decide))
  refine aw_iload_n dX6_over_17 rfl ?_
  refine aw_iconst (v := 4) dX6_over_18 (by decide) ?_
  refine aw_icmp_ne (tgt := 26) dX6_over_19 (by decide) (fun _ => ?_) (fun zz => absurd zz (by decide))
  refine aw_iconst (v := 0) dX6_over_26 (by decide) ?_
  refine aw_ireturn (ty := .int) dX6_over_27 rfl rfl ?_
  exact hQ _ rfl
theorem c_X6_over3 {E : Ev} {d : Nat} {I : Mi} {L : Ml} {Z : Mz} {Q : Po}    (hQ : ∀ rv : Int32, rv = (1) → Q (some (.int rv)) I L Z) : AC E yX6_over cX6_over 1 (some .int) d 0 0 [.int 3] I L Z Q := by
  refine ac_go (ls := [some (.int 3)]) (by decide +kernel) (Nat.le_of_ble_eq_true rfl) rfl ?_
  refine aw_iload_n dX6_over_0 rfl ?_
  refine aw_if_ne (tgt := 8) dX6_over_1 (by decide) (fun _ => ?_) (fun zz => absurd zz (by decide))
  refine aw_iload_n dX6_over_8 rfl ?_
  refine aw_iconst (v := 3) dX6_over_9 (by decide) ?_
  refine aw_icmp_ne (tgt := 17) dX6_over_10 (by decide) (fun zz => absurd zz (by decide)) (fun _ => ?_)
  refine aw_iconst (v := 1) dX6_over_13 (by decide) ?_
  refine aw_goto (tgt := 27) dX6_over_14 (by decide) ?_
  refine aw_ireturn (ty := .int) dX6_over_27 rfl rfl ?_
  exact hQ _ rfl
theorem c_X6_over4 {E : Ev} {d : Nat} {I : Mi} {L : Ml} {Z : Mz} {Q : Po}    (hQ : ∀ rv : Int32, rv = (2) → Q (some (.int rv)) I L Z) : AC E yX6_over cX6_over 1 (some .int) d 0 0 [.int 4] I L Z Q := by
  refine ac_go (ls := [some (.int 4)]) (by decide +kernel) (Nat.le_of_ble_eq_true rfl) rfl ?_
  refine aw_iload_n dX6_over_0 rfl ?_
  refine aw_if_ne (tgt := 8) dX6_over_1 (by decide) (fun _ => ?_) (fun zz => absurd zz (by decide))
  refine aw_iload_n dX6_over_8 rfl ?_
  refine aw_iconst (v := 3) dX6_over_9 (by decide) ?_
  refine aw_icmp_ne (tgt := 17) dX6_over_10 (by decide) (fun _ => ?_) (fun zz => absurd zz (by decide))
  refine aw_iload_n dX6_over_17 rfl ?_
  refine aw_iconst (v := 4) dX6_over_18 (by decide) ?_
  refine aw_icmp_ne (tgt := 26) dX6_over_19 (by decide) (fun zz => absurd zz (by decide)) (fun _ => ?_)
  refine aw_iconst (v := 2) dX6_over_22 (by decide) ?_
  refine aw_goto (tgt := 27) dX6_over_23 (by decide) ?_
  refine aw_ireturn (ty := .int) dX6_over_27 rfl rfl ?_
  exact hQ _ rfl
theorem c_X6_over5 {E : Ev} {d : Nat} {I : Mi} {L : Ml} {Z : Mz} {Q : Po}    (hQ : ∀ rv : Int32, rv = (0) → Q (some (.int rv)) I L Z) : AC E yX6_over cX6_over 1 (some .int) d 0 0 [.int 5] I L Z Q := by
  refine ac_go (ls := [some (.int 5)]) (by decide +kernel) (Nat.le_of_ble_eq_true rfl) rfl ?_
  refine aw_iload_n dX6_over_0 rfl ?_
  refine aw_if_ne (tgt := 8) dX6_over_1 (by decide) (fun _ => ?_) (fun zz => absurd zz (by decide))
  refine aw_iload_n dX6_over_8 rfl ?_
  refine aw_iconst (v := 3) dX6_over_9 (by decide) ?_
  refine aw_icmp_ne (tgt := 17) dX6_over_10 (by decide) (fun _ => ?_) (fun zz => absurd zz (by decide))
  refine aw_iload_n dX6_over_17 rfl ?_
  refine aw_iconst (v := 4) dX6_over_18 (by decide) ?_
  refine aw_icmp_ne (tgt := 26) dX6_over_19 (by decide) (fun _ => ?_) (fun zz => absurd zz (by decide))
  refine aw_iconst (v := 0) dX6_over_26 (by decide) ?_
  refine aw_ireturn (ty := .int) dX6_over_27 rfl rfl ?_
  exact hQ _ rfl
/-- what a kind is under -/
def udP (q : Nat) (k : Int32) : Prop := match q with
  | 0 => k = 0
  | 1 => k = 1 ∨ k = 0
  | 2 => k = 2 ∨ k = 0
  | 3 => k = 3 ∨ k = 1 ∨ k = 0
  | 4 => k = 4 ∨ k = 2 ∨ k = 0
  | _ => k = 5 ∨ k = 0
theorem c_X6_taken0 {E : Ev} {d : Nat} {I : Mi} {L : Ml} {Z : Mz} {Q : Po} {x : Int32} {k : Int32} {n : Nat}  (hd : 2 ≤ d) (hM : MZ Z) (hn : I 48 15 = nI n) (hl : n ≤ 5) (hB : ¬ (¬ k < 0 ∧ ¬ 5 < k) → Q (some (.int (-2))) I L Z) (hN : (¬ k < 0 ∧ ¬ 5 < k) → (¬ ∃ j, j < n ∧ x = nI j) → Q (some (.int (-11))) I L Z) (hK : ∀ p, p < n → x = nI p → I 54 p = 0) (hS : (¬ k < 0 ∧ ¬ 5 < k) → ∀ p, p < n → x = nI p → udP 0 k → Q (some (.int (I 55 (2 * p)))) I L Z) (hO : (¬ k < 0 ∧ ¬ 5 < k) → ∀ p, p < n → x = nI p → ¬ udP 0 k → Q (some (.int (-13))) I L Z) : AC E yX6_taken cX6_taken 4 (some .int) d 0 0 [.ref 48, .int x, .int k] I L Z Q := by
  refine ac_go (ls := [some (.ref 48), some (.int x), some (.int k), none]) (by decide +kernel) (Nat.le_of_ble_eq_true rfl) rfl ?_
  refine aw_iload_n dX6_taken_0 rfl ?_
  refine aw_i2l dX6_taken_1 ?_
  refine aw_lconst (v := 0) dX6_taken_2 (by decide) ?_
  refine aw_ldc2 dX6_taken_3 kw_X6_92 ?_
  refine aw_S3 dX6_taken_6 cw_X6_73 (by omega) ⟨Nat.le_refl _, Nat.le_refl _⟩ (by decide) (c_X6_in (x := k) (a := 0) (b := 5) rfl (by decide) (by decide) (fun c6 => ?_) (fun c6 => ?_))
  · refine aw_if_ne (tgt := 15) dX6_taken_9 (by decide) (fun _ => ?_) (fun zz => absurd zz (by decide))
    refine aw_aload_n dX6_taken_15 rfl rfl ?_
    refine aw_iload_n dX6_taken_16 rfl ?_
    refine aw_V1 dX6_taken_17 cw_X6_86 ⟨_, _, rfl⟩ hM.1 (by omega) ⟨Nat.le_refl _, Nat.le_refl _⟩ (by decide) (c_X6_isOne (by omega) hM hn hl (fun c17 => ?_) (fun c17 => ?_))
    · refine aw_if_ne (tgt := 26) dX6_taken_20 (by decide) (fun _ => ?_) (fun zz => absurd zz (by decide))
      obtain ⟨p, hp, rfl⟩ := c17
      refine aw_aload_n dX6_taken_26 rfl rfl ?_
      refine aw_gr dX6_taken_27 fw_X6_29 hM.1 hM.2.2.2.2.2.2.2.2.2.2.2.1 ?_
      refine aw_iload_n dX6_taken_30 rfl ?_
      refine aw_ia p dX6_taken_31 hM.2.2.2.2.2.2.2.2.2.2.2.2.1 rfl (by omega) (by decide) ?_
      rw [hK p hp rfl]
      refine aw_istore_n (ls' := [_, _, _, _]) dX6_taken_32 (by decide) rfl rfl ?_
      refine aw_iload_n dX6_taken_33 rfl ?_
      refine aw_iconst (v := -1) dX6_taken_34 (by decide) ?_
      refine aw_icmp_eq (tgt := 51) dX6_taken_35 (by decide) (fun zz => absurd zz (by decide)) (fun _ => ?_)
      refine aw_iload_n dX6_taken_38 rfl ?_
      refine aw_iload_n dX6_taken_39 rfl ?_
      refine aw_icmp_eq (tgt := 51) dX6_taken_40 (by decide) (fun c40 => ?_) (fun c40 => ?_)
      · refine aw_iload_n dX6_taken_51 rfl ?_
        refine aw_iload_n dX6_taken_52 rfl ?_
        refine aw_icmp_ne (tgt := 67) dX6_taken_53 (by decide) (fun c53 => ?_) (fun c53 => ?_)
        · refine aw_bipush (v := -13) dX6_taken_67 (by decide) ?_
          refine aw_ireturn (ty := .int) dX6_taken_69 rfl rfl ?_
          first
            | exact hS c6 p hp rfl (by simp only [udP]; exact (c40.symm))
            | exact hO c6 p hp rfl (by simp only [udP]; exact (fun w => c40 w.symm))
            | exact absurd c40 c53
            | exact absurd (show k < 0 by rw [← c53]; decide) c6.1
        · refine aw_aload_n dX6_taken_56 rfl rfl ?_
          refine aw_gr dX6_taken_57 fw_X6_32 hM.1 hM.2.2.2.2.2.2.2.2.2.2.2.2.2.1 ?_
          refine aw_iconst (v := 2) dX6_taken_60 (by decide) ?_
          refine aw_iload_n dX6_taken_61 rfl ?_
          refine aw_imul dX6_taken_62 ?_
          refine aw_ia (2 * p) dX6_taken_63 hM.2.2.2.2.2.2.2.2.2.2.2.2.2.2.1 (ix0 p) (by omega) (by decide) ?_
          refine aw_goto (tgt := 69) dX6_taken_64 (by decide) ?_
          refine aw_ireturn (ty := .int) dX6_taken_69 rfl rfl ?_
          first
            | exact hS c6 p hp rfl (by simp only [udP]; exact (c40.symm))
            | exact hO c6 p hp rfl (by simp only [udP]; exact (fun w => c40 w.symm))
            | exact absurd c40 c53
            | exact absurd (show k < 0 by rw [← c53]; decide) c6.1
      · refine aw_iload_n dX6_taken_43 rfl ?_
        refine aw_S1 dX6_taken_44 cw_X6_452 (by omega) ⟨Nat.le_refl _, Nat.le_refl _⟩ (by decide) (c_X6_over0 (fun r e => ?_))
        subst e
        refine aw_istore_n (ls' := [_, _, _, _]) dX6_taken_47 (by decide) rfl rfl ?_
        refine aw_goto (tgt := 33) dX6_taken_48 (by decide) ?_
        refine aw_iload_n dX6_taken_33 rfl ?_
        refine aw_iconst (v := -1) dX6_taken_34 (by decide) ?_
        refine aw_icmp_eq (tgt := 51) dX6_taken_35 (by decide) (fun _ => ?_) (fun zz => absurd zz (by decide))
        refine aw_iload_n dX6_taken_51 rfl ?_
        refine aw_iload_n dX6_taken_52 rfl ?_
        refine aw_icmp_ne (tgt := 67) dX6_taken_53 (by decide) (fun c53 => ?_) (fun c53 => ?_)
        · refine aw_bipush (v := -13) dX6_taken_67 (by decide) ?_
          refine aw_ireturn (ty := .int) dX6_taken_69 rfl rfl ?_
          first
            | exact hS c6 p hp rfl (by simp only [udP]; exact (c40.symm))
            | exact hO c6 p hp rfl (by simp only [udP]; exact (fun w => c40 w.symm))
            | exact absurd c40 c53
            | exact absurd (show k < 0 by rw [← c53]; decide) c6.1
        · refine aw_aload_n dX6_taken_56 rfl rfl ?_
          refine aw_gr dX6_taken_57 fw_X6_32 hM.1 hM.2.2.2.2.2.2.2.2.2.2.2.2.2.1 ?_
          refine aw_iconst (v := 2) dX6_taken_60 (by decide) ?_
          refine aw_iload_n dX6_taken_61 rfl ?_
          refine aw_imul dX6_taken_62 ?_
          refine aw_ia (2 * p) dX6_taken_63 hM.2.2.2.2.2.2.2.2.2.2.2.2.2.2.1 (ix0 p) (by omega) (by decide) ?_
          refine aw_goto (tgt := 69) dX6_taken_64 (by decide) ?_
          refine aw_ireturn (ty := .int) dX6_taken_69 rfl rfl ?_
          first
            | exact hS c6 p hp rfl (by simp only [udP]; exact (c40.symm))
            | exact hO c6 p hp rfl (by simp only [udP]; exact (fun w => c40 w.symm))
            | exact absurd c40 c53
            | exact absurd (show k < 0 by rw [← c53]; decide) c6.1
    · refine aw_if_ne (tgt := 26) dX6_taken_20 (by decide) (fun zz => absurd zz (by decide)) (fun _ => ?_)
      refine aw_bipush (v := -11) dX6_taken_23 (by decide) ?_
      refine aw_ireturn (ty := .int) dX6_taken_25 rfl rfl ?_
      exact hN c6 c17
  · refine aw_if_ne (tgt := 15) dX6_taken_9 (by decide) (fun zz => absurd zz (by decide)) (fun _ => ?_)
    refine aw_bipush (v := -2) dX6_taken_12 (by decide) ?_
    refine aw_ireturn (ty := .int) dX6_taken_14 rfl rfl ?_
    exact hB c6
theorem c_X6_taken1 {E : Ev} {d : Nat} {I : Mi} {L : Ml} {Z : Mz} {Q : Po} {x : Int32} {k : Int32} {n : Nat}  (hd : 2 ≤ d) (hM : MZ Z) (hn : I 48 15 = nI n) (hl : n ≤ 5) (hB : ¬ (¬ k < 0 ∧ ¬ 5 < k) → Q (some (.int (-2))) I L Z) (hN : (¬ k < 0 ∧ ¬ 5 < k) → (¬ ∃ j, j < n ∧ x = nI j) → Q (some (.int (-11))) I L Z) (hK : ∀ p, p < n → x = nI p → I 54 p = 1) (hS : (¬ k < 0 ∧ ¬ 5 < k) → ∀ p, p < n → x = nI p → udP 1 k → Q (some (.int (I 55 (2 * p)))) I L Z) (hO : (¬ k < 0 ∧ ¬ 5 < k) → ∀ p, p < n → x = nI p → ¬ udP 1 k → Q (some (.int (-13))) I L Z) : AC E yX6_taken cX6_taken 4 (some .int) d 0 0 [.ref 48, .int x, .int k] I L Z Q := by
  refine ac_go (ls := [some (.ref 48), some (.int x), some (.int k), none]) (by decide +kernel) (Nat.le_of_ble_eq_true rfl) rfl ?_
  refine aw_iload_n dX6_taken_0 rfl ?_
  refine aw_i2l dX6_taken_1 ?_
  refine aw_lconst (v := 0) dX6_taken_2 (by decide) ?_
  refine aw_ldc2 dX6_taken_3 kw_X6_92 ?_
  refine aw_S3 dX6_taken_6 cw_X6_73 (by omega) ⟨Nat.le_refl _, Nat.le_refl _⟩ (by decide) (c_X6_in (x := k) (a := 0) (b := 5) rfl (by decide) (by decide) (fun c6 => ?_) (fun c6 => ?_))
  · refine aw_if_ne (tgt := 15) dX6_taken_9 (by decide) (fun _ => ?_) (fun zz => absurd zz (by decide))
    refine aw_aload_n dX6_taken_15 rfl rfl ?_
    refine aw_iload_n dX6_taken_16 rfl ?_
    refine aw_V1 dX6_taken_17 cw_X6_86 ⟨_, _, rfl⟩ hM.1 (by omega) ⟨Nat.le_refl _, Nat.le_refl _⟩ (by decide) (c_X6_isOne (by omega) hM hn hl (fun c17 => ?_) (fun c17 => ?_))
    · refine aw_if_ne (tgt := 26) dX6_taken_20 (by decide) (fun _ => ?_) (fun zz => absurd zz (by decide))
      obtain ⟨p, hp, rfl⟩ := c17
      refine aw_aload_n dX6_taken_26 rfl rfl ?_
      refine aw_gr dX6_taken_27 fw_X6_29 hM.1 hM.2.2.2.2.2.2.2.2.2.2.2.1 ?_
      refine aw_iload_n dX6_taken_30 rfl ?_
      refine aw_ia p dX6_taken_31 hM.2.2.2.2.2.2.2.2.2.2.2.2.1 rfl (by omega) (by decide) ?_
      rw [hK p hp rfl]
      refine aw_istore_n (ls' := [_, _, _, _]) dX6_taken_32 (by decide) rfl rfl ?_
      refine aw_iload_n dX6_taken_33 rfl ?_
      refine aw_iconst (v := -1) dX6_taken_34 (by decide) ?_
      refine aw_icmp_eq (tgt := 51) dX6_taken_35 (by decide) (fun zz => absurd zz (by decide)) (fun _ => ?_)
      refine aw_iload_n dX6_taken_38 rfl ?_
      refine aw_iload_n dX6_taken_39 rfl ?_
      refine aw_icmp_eq (tgt := 51) dX6_taken_40 (by decide) (fun c40 => ?_) (fun c40 => ?_)
      · refine aw_iload_n dX6_taken_51 rfl ?_
        refine aw_iload_n dX6_taken_52 rfl ?_
        refine aw_icmp_ne (tgt := 67) dX6_taken_53 (by decide) (fun c53 => ?_) (fun c53 => ?_)
        · refine aw_bipush (v := -13) dX6_taken_67 (by decide) ?_
          refine aw_ireturn (ty := .int) dX6_taken_69 rfl rfl ?_
          first
            | exact hS c6 p hp rfl (by simp only [udP]; exact (Or.inl c40.symm))
            | exact hO c6 p hp rfl (by simp only [udP]; exact (fun w => c40 w.symm))
            | exact absurd c40 c53
            | exact absurd (show k < 0 by rw [← c53]; decide) c6.1
        · refine aw_aload_n dX6_taken_56 rfl rfl ?_
          refine aw_gr dX6_taken_57 fw_X6_32 hM.1 hM.2.2.2.2.2.2.2.2.2.2.2.2.2.1 ?_
          refine aw_iconst (v := 2) dX6_taken_60 (by decide) ?_
          refine aw_iload_n dX6_taken_61 rfl ?_
          refine aw_imul dX6_taken_62 ?_
          refine aw_ia (2 * p) dX6_taken_63 hM.2.2.2.2.2.2.2.2.2.2.2.2.2.2.1 (ix0 p) (by omega) (by decide) ?_
          refine aw_goto (tgt := 69) dX6_taken_64 (by decide) ?_
          refine aw_ireturn (ty := .int) dX6_taken_69 rfl rfl ?_
          first
            | exact hS c6 p hp rfl (by simp only [udP]; exact (Or.inl c40.symm))
            | exact hO c6 p hp rfl (by simp only [udP]; exact (fun w => c40 w.symm))
            | exact absurd c40 c53
            | exact absurd (show k < 0 by rw [← c53]; decide) c6.1
      · refine aw_iload_n dX6_taken_43 rfl ?_
        refine aw_S1 dX6_taken_44 cw_X6_452 (by omega) ⟨Nat.le_refl _, Nat.le_refl _⟩ (by decide) (c_X6_over1 (fun r e => ?_))
        subst e
        refine aw_istore_n (ls' := [_, _, _, _]) dX6_taken_47 (by decide) rfl rfl ?_
        refine aw_goto (tgt := 33) dX6_taken_48 (by decide) ?_
        refine aw_iload_n dX6_taken_33 rfl ?_
        refine aw_iconst (v := -1) dX6_taken_34 (by decide) ?_
        refine aw_icmp_eq (tgt := 51) dX6_taken_35 (by decide) (fun zz => absurd zz (by decide)) (fun _ => ?_)
        refine aw_iload_n dX6_taken_38 rfl ?_
        refine aw_iload_n dX6_taken_39 rfl ?_
        refine aw_icmp_eq (tgt := 51) dX6_taken_40 (by decide) (fun c40' => ?_) (fun c40' => ?_)
        · refine aw_iload_n dX6_taken_51 rfl ?_
          refine aw_iload_n dX6_taken_52 rfl ?_
          refine aw_icmp_ne (tgt := 67) dX6_taken_53 (by decide) (fun c53 => ?_) (fun c53 => ?_)
          · refine aw_bipush (v := -13) dX6_taken_67 (by decide) ?_
            refine aw_ireturn (ty := .int) dX6_taken_69 rfl rfl ?_
            first
              | exact hS c6 p hp rfl (by simp only [udP]; exact (Or.inr (c40'.symm)))
              | exact hO c6 p hp rfl (by simp only [udP]; exact not_or.mpr ⟨fun w => c40 w.symm, fun w => c40' w.symm⟩)
              | exact absurd c40' c53
              | exact absurd (show k < 0 by rw [← c53]; decide) c6.1
          · refine aw_aload_n dX6_taken_56 rfl rfl ?_
            refine aw_gr dX6_taken_57 fw_X6_32 hM.1 hM.2.2.2.2.2.2.2.2.2.2.2.2.2.1 ?_
            refine aw_iconst (v := 2) dX6_taken_60 (by decide) ?_
            refine aw_iload_n dX6_taken_61 rfl ?_
            refine aw_imul dX6_taken_62 ?_
            refine aw_ia (2 * p) dX6_taken_63 hM.2.2.2.2.2.2.2.2.2.2.2.2.2.2.1 (ix0 p) (by omega) (by decide) ?_
            refine aw_goto (tgt := 69) dX6_taken_64 (by decide) ?_
            refine aw_ireturn (ty := .int) dX6_taken_69 rfl rfl ?_
            first
              | exact hS c6 p hp rfl (by simp only [udP]; exact (Or.inr (c40'.symm)))
              | exact hO c6 p hp rfl (by simp only [udP]; exact not_or.mpr ⟨fun w => c40 w.symm, fun w => c40' w.symm⟩)
              | exact absurd c40' c53
              | exact absurd (show k < 0 by rw [← c53]; decide) c6.1
        · refine aw_iload_n dX6_taken_43 rfl ?_
          refine aw_S1 dX6_taken_44 cw_X6_452 (by omega) ⟨Nat.le_refl _, Nat.le_refl _⟩ (by decide) (c_X6_over0 (fun r e => ?_))
          subst e
          refine aw_istore_n (ls' := [_, _, _, _]) dX6_taken_47 (by decide) rfl rfl ?_
          refine aw_goto (tgt := 33) dX6_taken_48 (by decide) ?_
          refine aw_iload_n dX6_taken_33 rfl ?_
          refine aw_iconst (v := -1) dX6_taken_34 (by decide) ?_
          refine aw_icmp_eq (tgt := 51) dX6_taken_35 (by decide) (fun _ => ?_) (fun zz => absurd zz (by decide))
          refine aw_iload_n dX6_taken_51 rfl ?_
          refine aw_iload_n dX6_taken_52 rfl ?_
          refine aw_icmp_ne (tgt := 67) dX6_taken_53 (by decide) (fun c53 => ?_) (fun c53 => ?_)
          · refine aw_bipush (v := -13) dX6_taken_67 (by decide) ?_
            refine aw_ireturn (ty := .int) dX6_taken_69 rfl rfl ?_
            first
              | exact hS c6 p hp rfl (by simp only [udP]; exact (Or.inr (c40'.symm)))
              | exact hO c6 p hp rfl (by simp only [udP]; exact not_or.mpr ⟨fun w => c40 w.symm, fun w => c40' w.symm⟩)
              | exact absurd c40' c53
              | exact absurd (show k < 0 by rw [← c53]; decide) c6.1
          · refine aw_aload_n dX6_taken_56 rfl rfl ?_
            refine aw_gr dX6_taken_57 fw_X6_32 hM.1 hM.2.2.2.2.2.2.2.2.2.2.2.2.2.1 ?_
            refine aw_iconst (v := 2) dX6_taken_60 (by decide) ?_
            refine aw_iload_n dX6_taken_61 rfl ?_
            refine aw_imul dX6_taken_62 ?_
            refine aw_ia (2 * p) dX6_taken_63 hM.2.2.2.2.2.2.2.2.2.2.2.2.2.2.1 (ix0 p) (by omega) (by decide) ?_
            refine aw_goto (tgt := 69) dX6_taken_64 (by decide) ?_
            refine aw_ireturn (ty := .int) dX6_taken_69 rfl rfl ?_
            first
              | exact hS c6 p hp rfl (by simp only [udP]; exact (Or.inr (c40'.symm)))
              | exact hO c6 p hp rfl (by simp only [udP]; exact not_or.mpr ⟨fun w => c40 w.symm, fun w => c40' w.symm⟩)
              | exact absurd c40' c53
              | exact absurd (show k < 0 by rw [← c53]; decide) c6.1
    · refine aw_if_ne (tgt := 26) dX6_taken_20 (by decide) (fun zz => absurd zz (by decide)) (fun _ => ?_)
      refine aw_bipush (v := -11) dX6_taken_23 (by decide) ?_
      refine aw_ireturn (ty := .int) dX6_taken_25 rfl rfl ?_
      exact hN c6 c17
  · refine aw_if_ne (tgt := 15) dX6_taken_9 (by decide) (fun zz => absurd zz (by decide)) (fun _ => ?_)
    refine aw_bipush (v := -2) dX6_taken_12 (by decide) ?_
    refine aw_ireturn (ty := .int) dX6_taken_14 rfl rfl ?_
    exact hB c6
theorem c_X6_taken2 {E : Ev} {d : Nat} {I : Mi} {L : Ml} {Z : Mz} {Q : Po} {x : Int32} {k : Int32} {n : Nat}  (hd : 2 ≤ d) (hM : MZ Z) (hn : I 48 15 = nI n) (hl : n ≤ 5) (hB : ¬ (¬ k < 0 ∧ ¬ 5 < k) → Q (some (.int (-2))) I L Z) (hN : (¬ k < 0 ∧ ¬ 5 < k) → (¬ ∃ j, j < n ∧ x = nI j) → Q (some (.int (-11))) I L Z) (hK : ∀ p, p < n → x = nI p → I 54 p = 2) (hS : (¬ k < 0 ∧ ¬ 5 < k) → ∀ p, p < n → x = nI p → udP 2 k → Q (some (.int (I 55 (2 * p)))) I L Z) (hO : (¬ k < 0 ∧ ¬ 5 < k) → ∀ p, p < n → x = nI p → ¬ udP 2 k → Q (some (.int (-13))) I L Z) : AC E yX6_taken cX6_taken 4 (some .int) d 0 0 [.ref 48, .int x, .int k] I L Z Q := by
  refine ac_go (ls := [some (.ref 48), some (.int x), some (.int k), none]) (by decide +kernel) (Nat.le_of_ble_eq_true rfl) rfl ?_
  refine aw_iload_n dX6_taken_0 rfl ?_
  refine aw_i2l dX6_taken_1 ?_
  refine aw_lconst (v := 0) dX6_taken_2 (by decide) ?_
  refine aw_ldc2 dX6_taken_3 kw_X6_92 ?_
  refine aw_S3 dX6_taken_6 cw_X6_73 (by omega) ⟨Nat.le_refl _, Nat.le_refl _⟩ (by decide) (c_X6_in (x := k) (a := 0) (b := 5) rfl (by decide) (by decide) (fun c6 => ?_) (fun c6 => ?_))
  · refine aw_if_ne (tgt := 15) dX6_taken_9 (by decide) (fun _ => ?_) (fun zz => absurd zz (by decide))
    refine aw_aload_n dX6_taken_15 rfl rfl ?_
    refine aw_iload_n dX6_taken_16 rfl ?_
    refine aw_V1 dX6_taken_17 cw_X6_86 ⟨_, _, rfl⟩ hM.1 (by omega) ⟨Nat.le_refl _, Nat.le_refl _⟩ (by decide) (c_X6_isOne (by omega) hM hn hl (fun c17 => ?_) (fun c17 => ?_))
    · refine aw_if_ne (tgt := 26) dX6_taken_20 (by decide) (fun _ => ?_) (fun zz => absurd zz (by decide))
      obtain ⟨p, hp, rfl⟩ := c17
      refine aw_aload_n dX6_taken_26 rfl rfl ?_
      refine aw_gr dX6_taken_27 fw_X6_29 hM.1 hM.2.2.2.2.2.2.2.2.2.2.2.1 ?_
      refine aw_iload_n dX6_taken_30 rfl ?_
      refine aw_ia p dX6_taken_31 hM.2.2.2.2.2.2.2.2.2.2.2.2.1 rfl (by omega) (by decide) ?_
      rw [hK p hp rfl]
      refine aw_istore_n (ls' := [_, _, _, _]) dX6_taken_32 (by decide) rfl rfl ?_
      refine aw_iload_n dX6_taken_33 rfl ?_
      refine aw_iconst (v := -1) dX6_taken_34 (by decide) ?_
      refine aw_icmp_eq (tgt := 51) dX6_taken_35 (by decide) (fun zz => absurd zz (by decide)) (fun _ => ?_)
      refine aw_iload_n dX6_taken_38 rfl ?_
      refine aw_iload_n dX6_taken_39 rfl ?_
      refine aw_icmp_eq (tgt := 51) dX6_taken_40 (by decide) (fun c40 => ?_) (fun c40 => ?_)
      · refine aw_iload_n dX6_taken_51 rfl ?_
        refine aw_iload_n dX6_taken_52 rfl ?_
        refine aw_icmp_ne (tgt := 67) dX6_taken_53 (by decide) (fun c53 => ?_) (fun c53 => ?_)
        · refine aw_bipush (v := -13) dX6_taken_67 (by decide) ?_
          refine aw_ireturn (ty := .int) dX6_taken_69 rfl rfl ?_
          first
            | exact hS c6 p hp rfl (by simp only [udP]; exact (Or.inl c40.symm))
            | exact hO c6 p hp rfl (by simp only [udP]; exact (fun w => c40 w.symm))
            | exact absurd c40 c53
            | exact absurd (show k < 0 by rw [← c53]; decide) c6.1
        · refine aw_aload_n dX6_taken_56 rfl rfl ?_
          refine aw_gr dX6_taken_57 fw_X6_32 hM.1 hM.2.2.2.2.2.2.2.2.2.2.2.2.2.1 ?_
          refine aw_iconst (v := 2) dX6_taken_60 (by decide) ?_
          refine aw_iload_n dX6_taken_61 rfl ?_
          refine aw_imul dX6_taken_62 ?_
          refine aw_ia (2 * p) dX6_taken_63 hM.2.2.2.2.2.2.2.2.2.2.2.2.2.2.1 (ix0 p) (by omega) (by decide) ?_
          refine aw_goto (tgt := 69) dX6_taken_64 (by decide) ?_
          refine aw_ireturn (ty := .int) dX6_taken_69 rfl rfl ?_
          first
            | exact hS c6 p hp rfl (by simp only [udP]; exact (Or.inl c40.symm))
            | exact hO c6 p hp rfl (by simp only [udP]; exact (fun w => c40 w.symm))
            | exact absurd c40 c53
            | exact absurd (show k < 0 by rw [← c53]; decide) c6.1
      · refine aw_iload_n dX6_taken_43 rfl ?_
        refine aw_S1 dX6_taken_44 cw_X6_452 (by omega) ⟨Nat.le_refl _, Nat.le_refl _⟩ (by decide) (c_X6_over2 (fun r e => ?_))
        subst e
        refine aw_istore_n (ls' := [_, _, _, _]) dX6_taken_47 (by decide) rfl rfl ?_
        refine aw_goto (tgt := 33) dX6_taken_48 (by decide) ?_
        refine aw_iload_n dX6_taken_33 rfl ?_
        refine aw_iconst (v := -1) dX6_taken_34 (by decide) ?_
        refine aw_icmp_eq (tgt := 51) dX6_taken_35 (by decide) (fun zz => absurd zz (by decide)) (fun _ => ?_)
        refine aw_iload_n dX6_taken_38 rfl ?_
        refine aw_iload_n dX6_taken_39 rfl ?_
        refine aw_icmp_eq (tgt := 51) dX6_taken_40 (by decide) (fun c40' => ?_) (fun c40' => ?_)
        · refine aw_iload_n dX6_taken_51 rfl ?_
          refine aw_iload_n dX6_taken_52 rfl ?_
          refine aw_icmp_ne (tgt := 67) dX6_taken_53 (by decide) (fun c53 => ?_) (fun c53 => ?_)
          · refine aw_bipush (v := -13) dX6_taken_67 (by decide) ?_
            refine aw_ireturn (ty := .int) dX6_taken_69 rfl rfl ?_
            first
              | exact hS c6 p hp rfl (by simp only [udP]; exact (Or.inr (c40'.symm)))
              | exact hO c6 p hp rfl (by simp only [udP]; exact not_or.mpr ⟨fun w => c40 w.symm, fun w => c40' w.symm⟩)
              | exact absurd c40' c53
              | exact absurd (show k < 0 by rw [← c53]; decide) c6.1
          · refine aw_aload_n dX6_taken_56 rfl rfl ?_
            refine aw_gr dX6_taken_57 fw_X6_32 hM.1 hM.2.2.2.2.2.2.2.2.2.2.2.2.2.1 ?_
            refine aw_iconst (v := 2) dX6_taken_60 (by decide) ?_
            refine aw_iload_n dX6_taken_61 rfl ?_
            refine aw_imul dX6_taken_62 ?_
            refine aw_ia (2 * p) dX6_taken_63 hM.2.2.2.2.2.2.2.2.2.2.2.2.2.2.1 (ix0 p) (by omega) (by decide) ?_
            refine aw_goto (tgt := 69) dX6_taken_64 (by decide) ?_
            refine aw_ireturn (ty := .int) dX6_taken_69 rfl rfl ?_
            first
              | exact hS c6 p hp rfl (by simp only [udP]; exact (Or.inr (c40'.symm)))
              | exact hO c6 p hp rfl (by simp only [udP]; exact not_or.mpr ⟨fun w => c40 w.symm, fun w => c40' w.symm⟩)
              | exact absurd c40' c53
              | exact absurd (show k < 0 by rw [← c53]; decide) c6.1
        · refine aw_iload_n dX6_taken_43 rfl ?_
          refine aw_S1 dX6_taken_44 cw_X6_452 (by omega) ⟨Nat.le_refl _, Nat.le_refl _⟩ (by decide) (c_X6_over0 (fun r e => ?_))
          subst e
          refine aw_istore_n (ls' := [_, _, _, _]) dX6_taken_47 (by decide) rfl rfl ?_
          refine aw_goto (tgt := 33) dX6_taken_48 (by decide) ?_
          refine aw_iload_n dX6_taken_33 rfl ?_
          refine aw_iconst (v := -1) dX6_taken_34 (by decide) ?_
          refine aw_icmp_eq (tgt := 51) dX6_taken_35 (by decide) (fun _ => ?_) (fun zz => absurd zz (by decide))
          refine aw_iload_n dX6_taken_51 rfl ?_
          refine aw_iload_n dX6_taken_52 rfl ?_
          refine aw_icmp_ne (tgt := 67) dX6_taken_53 (by decide) (fun c53 => ?_) (fun c53 => ?_)
          · refine aw_bipush (v := -13) dX6_taken_67 (by decide) ?_
            refine aw_ireturn (ty := .int) dX6_taken_69 rfl rfl ?_
            first
              | exact hS c6 p hp rfl (by simp only [udP]; exact (Or.inr (c40'.symm)))
              | exact hO c6 p hp rfl (by simp only [udP]; exact not_or.mpr ⟨fun w => c40 w.symm, fun w => c40' w.symm⟩)
              | exact absurd c40' c53
              | exact absurd (show k < 0 by rw [← c53]; decide) c6.1
          · refine aw_aload_n dX6_taken_56 rfl rfl ?_
            refine aw_gr dX6_taken_57 fw_X6_32 hM.1 hM.2.2.2.2.2.2.2.2.2.2.2.2.2.1 ?_
            refine aw_iconst (v := 2) dX6_taken_60 (by decide) ?_
            refine aw_iload_n dX6_taken_61 rfl ?_
            refine aw_imul dX6_taken_62 ?_
            refine aw_ia (2 * p) dX6_taken_63 hM.2.2.2.2.2.2.2.2.2.2.2.2.2.2.1 (ix0 p) (by omega) (by decide) ?_
            refine aw_goto (tgt := 69) dX6_taken_64 (by decide) ?_
            refine aw_ireturn (ty := .int) dX6_taken_69 rfl rfl ?_
            first
              | exact hS c6 p hp rfl (by simp only [udP]; exact (Or.inr (c40'.symm)))
              | exact hO c6 p hp rfl (by simp only [udP]; exact not_or.mpr ⟨fun w => c40 w.symm, fun w => c40' w.symm⟩)
              | exact absurd c40' c53
              | exact absurd (show k < 0 by rw [← c53]; decide) c6.1
    · refine aw_if_ne (tgt := 26) dX6_taken_20 (by decide) (fun zz => absurd zz (by decide)) (fun _ => ?_)
      refine aw_bipush (v := -11) dX6_taken_23 (by decide) ?_
      refine aw_ireturn (ty := .int) dX6_taken_25 rfl rfl ?_
      exact hN c6 c17
  · refine aw_if_ne (tgt := 15) dX6_taken_9 (by decide) (fun zz => absurd zz (by decide)) (fun _ => ?_)
    refine aw_bipush (v := -2) dX6_taken_12 (by decide) ?_
    refine aw_ireturn (ty := .int) dX6_taken_14 rfl rfl ?_
    exact hB c6
theorem c_X6_taken3 {E : Ev} {d : Nat} {I : Mi} {L : Ml} {Z : Mz} {Q : Po} {x : Int32} {k : Int32} {n : Nat}  (hd : 2 ≤ d) (hM : MZ Z) (hn : I 48 15 = nI n) (hl : n ≤ 5) (hB : ¬ (¬ k < 0 ∧ ¬ 5 < k) → Q (some (.int (-2))) I L Z) (hN : (¬ k < 0 ∧ ¬ 5 < k) → (¬ ∃ j, j < n ∧ x = nI j) → Q (some (.int (-11))) I L Z) (hK : ∀ p, p < n → x = nI p → I 54 p = 3) (hS : (¬ k < 0 ∧ ¬ 5 < k) → ∀ p, p < n → x = nI p → udP 3 k → Q (some (.int (I 55 (2 * p)))) I L Z) (hO : (¬ k < 0 ∧ ¬ 5 < k) → ∀ p, p < n → x = nI p → ¬ udP 3 k → Q (some (.int (-13))) I L Z) : AC E yX6_taken cX6_taken 4 (some .int) d 0 0 [.ref 48, .int x, .int k] I L Z Q := by
  refine ac_go (ls := [some (.ref 48), some (.int x), some (.int k), none]) (by decide +kernel) (Nat.le_of_ble_eq_true rfl) rfl ?_
  refine aw_iload_n dX6_taken_0 rfl ?_
  refine aw_i2l dX6_taken_1 ?_
  refine aw_lconst (v := 0) dX6_taken_2 (by decide) ?_
  refine aw_ldc2 dX6_taken_3 kw_X6_92 ?_
  refine aw_S3 dX6_taken_6 cw_X6_73 (by omega) ⟨Nat.le_refl _, Nat.le_refl _⟩ (by decide) (c_X6_in (x := k) (a := 0) (b := 5) rfl (by decide) (by decide) (fun c6 => ?_) (fun c6 => ?_))
  · refine aw_if_ne (tgt := 15) dX6_taken_9 (by decide) (fun _ => ?_) (fun zz => absurd zz (by decide))
    refine aw_aload_n dX6_taken_15 rfl rfl ?_
    refine aw_iload_n dX6_taken_16 rfl ?_
    refine aw_V1 dX6_taken_17 cw_X6_86 ⟨_, _, rfl⟩ hM.1 (by omega) ⟨Nat.le_refl _, Nat.le_refl _⟩ (by decide) (c_X6_isOne (by omega) hM hn hl (fun c17 => ?_) (fun c17 => ?_))
    · refine aw_if_ne (tgt := 26) dX6_taken_20 (by decide) (fun _ => ?_) (fun zz => absurd zz (by decide))
      obtain ⟨p, hp, rfl⟩ := c17
      refine aw_aload_n dX6_taken_26 rfl rfl ?_
      refine aw_gr dX6_taken_27 fw_X6_29 hM.1 hM.2.2.2.2.2.2.2.2.2.2.2.1 ?_
      refine aw_iload_n dX6_taken_30 rfl ?_
      refine aw_ia p dX6_taken_31 hM.2.2.2.2.2.2.2.2.2.2.2.2.1 rfl (by omega) (by decide) ?_
      rw [hK p hp rfl]
      refine aw_istore_n (ls' := [_, _, _, _]) dX6_taken_32 (by decide) rfl rfl ?_
      refine aw_iload_n dX6_taken_33 rfl ?_
      refine aw_iconst (v := -1) dX6_taken_34 (by decide) ?_
      refine aw_icmp_eq (tgt := 51) dX6_taken_35 (by decide) (fun zz => absurd zz (by decide)) (fun _ => ?_)
      refine aw_iload_n dX6_taken_38 rfl ?_
      refine aw_iload_n dX6_taken_39 rfl ?_
      refine aw_icmp_eq (tgt := 51) dX6_taken_40 (by decide) (fun c40 => ?_) (fun c40 => ?_)
      · refine aw_iload_n dX6_taken_51 rfl ?_
        refine aw_iload_n dX6_taken_52 rfl ?_
        refine aw_icmp_ne (tgt := 67) dX6_taken_53 (by decide) (fun c53 => ?_) (fun c53 => ?_)
        · refine aw_bipush (v := -13) dX6_taken_67 (by decide) ?_
          refine aw_ireturn (ty := .int) dX6_taken_69 rfl rfl ?_
          first
            | exact hS c6 p hp rfl (by simp only [udP]; exact (Or.inl c40.symm))
            | exact hO c6 p hp rfl (by simp only [udP]; exact (fun w => c40 w.symm))
            | exact absurd c40 c53
            | exact absurd (show k < 0 by rw [← c53]; decide) c6.1
        · refine aw_aload_n dX6_taken_56 rfl rfl ?_
          refine aw_gr dX6_taken_57 fw_X6_32 hM.1 hM.2.2.2.2.2.2.2.2.2.2.2.2.2.1 ?_
          refine aw_iconst (v := 2) dX6_taken_60 (by decide) ?_
          refine aw_iload_n dX6_taken_61 rfl ?_
          refine aw_imul dX6_taken_62 ?_
          refine aw_ia (2 * p) dX6_taken_63 hM.2.2.2.2.2.2.2.2.2.2.2.2.2.2.1 (ix0 p) (by omega) (by decide) ?_
          refine aw_goto (tgt := 69) dX6_taken_64 (by decide) ?_
          refine aw_ireturn (ty := .int) dX6_taken_69 rfl rfl ?_
          first
            | exact hS c6 p hp rfl (by simp only [udP]; exact (Or.inl c40.symm))
            | exact hO c6 p hp rfl (by simp only [udP]; exact (fun w => c40 w.symm))
            | exact absurd c40 c53
            | exact absurd (show k < 0 by rw [← c53]; decide) c6.1
      · refine aw_iload_n dX6_taken_43 rfl ?_
        refine aw_S1 dX6_taken_44 cw_X6_452 (by omega) ⟨Nat.le_refl _, Nat.le_refl _⟩ (by decide) (c_X6_over3 (fun r e => ?_))
        subst e
        refine aw_istore_n (ls' := [_, _, _, _]) dX6_taken_47 (by decide) rfl rfl ?_
        refine aw_goto (tgt := 33) dX6_taken_48 (by decide) ?_
        refine aw_iload_n dX6_taken_33 rfl ?_
        refine aw_iconst (v := -1) dX6_taken_34 (by decide) ?_
        refine aw_icmp_eq (tgt := 51) dX6_taken_35 (by decide) (fun zz => absurd zz (by decide)) (fun _ => ?_)
        refine aw_iload_n dX6_taken_38 rfl ?_
        refine aw_iload_n dX6_taken_39 rfl ?_
        refine aw_icmp_eq (tgt := 51) dX6_taken_40 (by decide) (fun c40' => ?_) (fun c40' => ?_)
        · refine aw_iload_n dX6_taken_51 rfl ?_
          refine aw_iload_n dX6_taken_52 rfl ?_
          refine aw_icmp_ne (tgt := 67) dX6_taken_53 (by decide) (fun c53 => ?_) (fun c53 => ?_)
          · refine aw_bipush (v := -13) dX6_taken_67 (by decide) ?_
            refine aw_ireturn (ty := .int) dX6_taken_69 rfl rfl ?_
            first
              | exact hS c6 p hp rfl (by simp only [udP]; exact (Or.inr (Or.inl c40'.symm)))
              | exact hO c6 p hp rfl (by simp only [udP]; exact not_or.mpr ⟨fun w => c40 w.symm, fun w => c40' w.symm⟩)
              | exact absurd c40' c53
              | exact absurd (show k < 0 by rw [← c53]; decide) c6.1
          · refine aw_aload_n dX6_taken_56 rfl rfl ?_
            refine aw_gr dX6_taken_57 fw_X6_32 hM.1 hM.2.2.2.2.2.2.2.2.2.2.2.2.2.1 ?_
            refine aw_iconst (v := 2) dX6_taken_60 (by decide) ?_
            refine aw_iload_n dX6_taken_61 rfl ?_
            refine aw_imul dX6_taken_62 ?_
            refine aw_ia (2 * p) dX6_taken_63 hM.2.2.2.2.2.2.2.2.2.2.2.2.2.2.1 (ix0 p) (by omega) (by decide) ?_
            refine aw_goto (tgt := 69) dX6_taken_64 (by decide) ?_
            refine aw_ireturn (ty := .int) dX6_taken_69 rfl rfl ?_
            first
              | exact hS c6 p hp rfl (by simp only [udP]; exact (Or.inr (Or.inl c40'.symm)))
              | exact hO c6 p hp rfl (by simp only [udP]; exact not_or.mpr ⟨fun w => c40 w.symm, fun w => c40' w.symm⟩)
              | exact absurd c40' c53
              | exact absurd (show k < 0 by rw [← c53]; decide) c6.1
        · refine aw_iload_n dX6_taken_43 rfl ?_
          refine aw_S1 dX6_taken_44 cw_X6_452 (by omega) ⟨Nat.le_refl _, Nat.le_refl _⟩ (by decide) (c_X6_over1 (fun r e => ?_))
          subst e
          refine aw_istore_n (ls' := [_, _, _, _]) dX6_taken_47 (by decide) rfl rfl ?_
          refine aw_goto (tgt := 33) dX6_taken_48 (by decide) ?_
          refine aw_iload_n dX6_taken_33 rfl ?_
          refine aw_iconst (v := -1) dX6_taken_34 (by decide) ?_
          refine aw_icmp_eq (tgt := 51) dX6_taken_35 (by decide) (fun zz => absurd zz (by decide)) (fun _ => ?_)
          refine aw_iload_n dX6_taken_38 rfl ?_
          refine aw_iload_n dX6_taken_39 rfl ?_
          refine aw_icmp_eq (tgt := 51) dX6_taken_40 (by decide) (fun c40'' => ?_) (fun c40'' => ?_)
          · refine aw_iload_n dX6_taken_51 rfl ?_
            refine aw_iload_n dX6_taken_52 rfl ?_
            refine aw_icmp_ne (tgt := 67) dX6_taken_53 (by decide) (fun c53 => ?_) (fun c53 => ?_)
            · refine aw_bipush (v := -13) dX6_taken_67 (by decide) ?_
              refine aw_ireturn (ty := .int) dX6_taken_69 rfl rfl ?_
              first
                | exact hS c6 p hp rfl (by simp only [udP]; exact (Or.inr (Or.inr (c40''.symm))))
                | exact hO c6 p hp rfl (by simp only [udP]; exact not_or.mpr ⟨fun w => c40 w.symm, not_or.mpr ⟨fun w => c40' w.symm, fun w => c40'' w.symm⟩⟩)
                | exact absurd c40'' c53
                | exact absurd (show k < 0 by rw [← c53]; decide) c6.1
            · refine aw_aload_n dX6_taken_56 rfl rfl ?_
              refine aw_gr dX6_taken_57 fw_X6_32 hM.1 hM.2.2.2.2.2.2.2.2.2.2.2.2.2.1 ?_
              refine aw_iconst (v := 2) dX6_taken_60 (by decide) ?_
              refine aw_iload_n dX6_taken_61 rfl ?_
              refine aw_imul dX6_taken_62 ?_
              refine aw_ia (2 * p) dX6_taken_63 hM.2.2.2.2.2.2.2.2.2.2.2.2.2.2.1 (ix0 p) (by omega) (by decide) ?_
              refine aw_goto (tgt := 69) dX6_taken_64 (by decide) ?_
              refine aw_ireturn (ty := .int) dX6_taken_69 rfl rfl ?_
              first
                | exact hS c6 p hp rfl (by simp only [udP]; exact (Or.inr (Or.inr (c40''.symm))))
                | exact hO c6 p hp rfl (by simp only [udP]; exact not_or.mpr ⟨fun w => c40 w.symm, not_or.mpr ⟨fun w => c40' w.symm, fun w => c40'' w.symm⟩⟩)
                | exact absurd c40'' c53
                | exact absurd (show k < 0 by rw [← c53]; decide) c6.1
          · refine aw_iload_n dX6_taken_43 rfl ?_
            refine aw_S1 dX6_taken_44 cw_X6_452 (by omega) ⟨Nat.le_refl _, Nat.le_refl _⟩ (by decide) (c_X6_over0 (fun r e => ?_))
            subst e
            refine aw_istore_n (ls' := [_, _, _, _]) dX6_taken_47 (by decide) rfl rfl ?_
            refine aw_goto (tgt := 33) dX6_taken_48 (by decide) ?_
            refine aw_iload_n dX6_taken_33 rfl ?_
            refine aw_iconst (v := -1) dX6_taken_34 (by decide) ?_
            refine aw_icmp_eq (tgt := 51) dX6_taken_35 (by decide) (fun _ => ?_) (fun zz => absurd zz (by decide))
            refine aw_iload_n dX6_taken_51 rfl ?_
            refine aw_iload_n dX6_taken_52 rfl ?_
            refine aw_icmp_ne (tgt := 67) dX6_taken_53 (by decide) (fun c53 => ?_) (fun c53 => ?_)
            · refine aw_bipush (v := -13) dX6_taken_67 (by decide) ?_
              refine aw_ireturn (ty := .int) dX6_taken_69 rfl rfl ?_
              first
                | exact hS c6 p hp rfl (by simp only [udP]; exact (Or.inr (Or.inr (c40''.symm))))
                | exact hO c6 p hp rfl (by simp only [udP]; exact not_or.mpr ⟨fun w => c40 w.symm, not_or.mpr ⟨fun w => c40' w.symm, fun w => c40'' w.symm⟩⟩)
                | exact absurd c40'' c53
                | exact absurd (show k < 0 by rw [← c53]; decide) c6.1
            · refine aw_aload_n dX6_taken_56 rfl rfl ?_
              refine aw_gr dX6_taken_57 fw_X6_32 hM.1 hM.2.2.2.2.2.2.2.2.2.2.2.2.2.1 ?_
              refine aw_iconst (v := 2) dX6_taken_60 (by decide) ?_
              refine aw_iload_n dX6_taken_61 rfl ?_
              refine aw_imul dX6_taken_62 ?_
              refine aw_ia (2 * p) dX6_taken_63 hM.2.2.2.2.2.2.2.2.2.2.2.2.2.2.1 (ix0 p) (by omega) (by decide) ?_
              refine aw_goto (tgt := 69) dX6_taken_64 (by decide) ?_
              refine aw_ireturn (ty := .int) dX6_taken_69 rfl rfl ?_
              first
                | exact hS c6 p hp rfl (by simp only [udP]; exact (Or.inr (Or.inr (c40''.symm))))
                | exact hO c6 p hp rfl (by simp only [udP]; exact not_or.mpr ⟨fun w => c40 w.symm, not_or.mpr ⟨fun w => c40' w.symm, fun w => c40'' w.symm⟩⟩)
                | exact absurd c40'' c53
                | exact absurd (show k < 0 by rw [← c53]; decide) c6.1
    · refine aw_if_ne (tgt := 26) dX6_taken_20 (by decide) (fun zz => absurd zz (by decide)) (fun _ => ?_)
      refine aw_bipush (v := -11) dX6_taken_23 (by decide) ?_
      refine aw_ireturn (ty := .int) dX6_taken_25 rfl rfl ?_
      exact hN c6 c17
  · refine aw_if_ne (tgt := 15) dX6_taken_9 (by decide) (fun zz => absurd zz (by decide)) (fun _ => ?_)
    refine aw_bipush (v := -2) dX6_taken_12 (by decide) ?_
    refine aw_ireturn (ty := .int) dX6_taken_14 rfl rfl ?_
    exact hB c6
theorem c_X6_taken4 {E : Ev} {d : Nat} {I : Mi} {L : Ml} {Z : Mz} {Q : Po} {x : Int32} {k : Int32} {n : Nat}  (hd : 2 ≤ d) (hM : MZ Z) (hn : I 48 15 = nI n) (hl : n ≤ 5) (hB : ¬ (¬ k < 0 ∧ ¬ 5 < k) → Q (some (.int (-2))) I L Z) (hN : (¬ k < 0 ∧ ¬ 5 < k) → (¬ ∃ j, j < n ∧ x = nI j) → Q (some (.int (-11))) I L Z) (hK : ∀ p, p < n → x = nI p → I 54 p = 4) (hS : (¬ k < 0 ∧ ¬ 5 < k) → ∀ p, p < n → x = nI p → udP 4 k → Q (some (.int (I 55 (2 * p)))) I L Z) (hO : (¬ k < 0 ∧ ¬ 5 < k) → ∀ p, p < n → x = nI p → ¬ udP 4 k → Q (some (.int (-13))) I L Z) : AC E yX6_taken cX6_taken 4 (some .int) d 0 0 [.ref 48, .int x, .int k] I L Z Q := by
  refine ac_go (ls := [some (.ref 48), some (.int x), some (.int k), none]) (by decide +kernel) (Nat.le_of_ble_eq_true rfl) rfl ?_
  refine aw_iload_n dX6_taken_0 rfl ?_
  refine aw_i2l dX6_taken_1 ?_
  refine aw_lconst (v := 0) dX6_taken_2 (by decide) ?_
  refine aw_ldc2 dX6_taken_3 kw_X6_92 ?_
  refine aw_S3 dX6_taken_6 cw_X6_73 (by omega) ⟨Nat.le_refl _, Nat.le_refl _⟩ (by decide) (c_X6_in (x := k) (a := 0) (b := 5) rfl (by decide) (by decide) (fun c6 => ?_) (fun c6 => ?_))
  · refine aw_if_ne (tgt := 15) dX6_taken_9 (by decide) (fun _ => ?_) (fun zz => absurd zz (by decide))
    refine aw_aload_n dX6_taken_15 rfl rfl ?_
    refine aw_iload_n dX6_taken_16 rfl ?_
    refine aw_V1 dX6_taken_17 cw_X6_86 ⟨_, _, rfl⟩ hM.1 (by omega) ⟨Nat.le_refl _, Nat.le_refl _⟩ (by decide) (c_X6_isOne (by omega) hM hn hl (fun c17 => ?_) (fun c17 => ?_))
    · refine aw_if_ne (tgt := 26) dX6_taken_20 (by decide) (fun _ => ?_) (fun zz => absurd zz (by decide))
      obtain ⟨p, hp, rfl⟩ := c17
      refine aw_aload_n dX6_taken_26 rfl rfl ?_
      refine aw_gr dX6_taken_27 fw_X6_29 hM.1 hM.2.2.2.2.2.2.2.2.2.2.2.1 ?_
      refine aw_iload_n dX6_taken_30 rfl ?_
      refine aw_ia p dX6_taken_31 hM.2.2.2.2.2.2.2.2.2.2.2.2.1 rfl (by omega) (by decide) ?_
      rw [hK p hp rfl]
      refine aw_istore_n (ls' := [_, _, _, _]) dX6_taken_32 (by decide) rfl rfl ?_
      refine aw_iload_n dX6_taken_33 rfl ?_
      refine aw_iconst (v := -1) dX6_taken_34 (by decide) ?_
      refine aw_icmp_eq (tgt := 51) dX6_taken_35 (by decide) (fun zz => absurd zz (by decide)) (fun _ => ?_)
      refine aw_iload_n dX6_taken_38 rfl ?_
      refine aw_iload_n dX6_taken_39 rfl ?_
      refine aw_icmp_eq (tgt := 51) dX6_taken_40 (by decide) (fun c40 => ?_) (fun c40 => ?_)
      · refine aw_iload_n dX6_taken_51 rfl ?_
        refine aw_iload_n dX6_taken_52 rfl ?_
        refine aw_icmp_ne (tgt := 67) dX6_taken_53 (by decide) (fun c53 => ?_) (fun c53 => ?_)
        · refine aw_bipush (v := -13) dX6_taken_67 (by decide) ?_
          refine aw_ireturn (ty := .int) dX6_taken_69 rfl rfl ?_
          first
            | exact hS c6 p hp rfl (by simp only [udP]; exact (Or.inl c40.symm))
            | exact hO c6 p hp rfl (by simp only [udP]; exact (fun w => c40 w.symm))
            | exact absurd c40 c53
            | exact absurd (show k < 0 by rw [← c53]; decide) c6.1
        · refine aw_aload_n dX6_taken_56 rfl rfl ?_
          refine aw_gr dX6_taken_57 fw_X6_32 hM.1 hM.2.2.2.2.2.2.2.2.2.2.2.2.2.1 ?_
          refine aw_iconst (v := 2) dX6_taken_60 (by decide) ?_
          refine aw_iload_n dX6_taken_61 rfl ?_
          refine aw_imul dX6_taken_62 ?_
          refine aw_ia (2 * p) dX6_taken_63 hM.2.2.2.2.2.2.2.2.2.2.2.2.2.2.1 (ix0 p) (by omega) (by decide) ?_
          refine aw_goto (tgt := 69) dX6_taken_64 (by decide) ?_
          refine aw_ireturn (ty := .int) dX6_taken_69 rfl rfl ?_
          first
            | exact hS c6 p hp rfl (by simp only [udP]; exact (Or.inl c40.symm))
            | exact hO c6 p hp rfl (by simp only [udP]; exact (fun w => c40 w.symm))
            | exact absurd c40 c53
            | exact absurd (show k < 0 by rw [← c53]; decide) c6.1
      · refine aw_iload_n dX6_taken_43 rfl ?_
        refine aw_S1 dX6_taken_44 cw_X6_452 (by omega) ⟨Nat.le_refl _, Nat.le_refl _⟩ (by decide) (c_X6_over4 (fun r e => ?_))
        subst e
        refine aw_istore_n (ls' := [_, _, _, _]) dX6_taken_47 (by decide) rfl rfl ?_
        refine aw_goto (tgt := 33) dX6_taken_48 (by decide) ?_
        refine aw_iload_n dX6_taken_33 rfl ?_
        refine aw_iconst (v := -1) dX6_taken_34 (by decide) ?_
        refine aw_icmp_eq (tgt := 51) dX6_taken_35 (by decide) (fun zz => absurd zz (by decide)) (fun _ => ?_)
        refine aw_iload_n dX6_taken_38 rfl ?_
        refine aw_iload_n dX6_taken_39 rfl ?_
        refine aw_icmp_eq (tgt := 51) dX6_taken_40 (by decide) (fun c40' => ?_) (fun c40' => ?_)
        · refine aw_iload_n dX6_taken_51 rfl ?_
          refine aw_iload_n dX6_taken_52 rfl ?_
          refine aw_icmp_ne (tgt := 67) dX6_taken_53 (by decide) (fun c53 => ?_) (fun c53 => ?_)
          · refine aw_bipush (v := -13) dX6_taken_67 (by decide) ?_
            refine aw_ireturn (ty := .int) dX6_taken_69 rfl rfl ?_
            first
              | exact hS c6 p hp rfl (by simp only [udP]; exact (Or.inr (Or.inl c40'.symm)))
              | exact hO c6 p hp rfl (by simp only [udP]; exact not_or.mpr ⟨fun w => c40 w.symm, fun w => c40' w.symm⟩)
              | exact absurd c40' c53
              | exact absurd (show k < 0 by rw [← c53]; decide) c6.1
          · refine aw_aload_n dX6_taken_56 rfl rfl ?_
            refine aw_gr dX6_taken_57 fw_X6_32 hM.1 hM.2.2.2.2.2.2.2.2.2.2.2.2.2.1 ?_
            refine aw_iconst (v := 2) dX6_taken_60 (by decide) ?_
            refine aw_iload_n dX6_taken_61 rfl ?_
            refine aw_imul dX6_taken_62 ?_
            refine aw_ia (2 * p) dX6_taken_63 hM.2.2.2.2.2.2.2.2.2.2.2.2.2.2.1 (ix0 p) (by omega) (by decide) ?_
            refine aw_goto (tgt := 69) dX6_taken_64 (by decide) ?_
            refine aw_ireturn (ty := .int) dX6_taken_69 rfl rfl ?_
            first
              | exact hS c6 p hp rfl (by simp only [udP]; exact (Or.inr (Or.inl c40'.symm)))
              | exact hO c6 p hp rfl (by simp only [udP]; exact not_or.mpr ⟨fun w => c40 w.symm, fun w => c40' w.symm⟩)
              | exact absurd c40' c53
              | exact absurd (show k < 0 by rw [← c53]; decide) c6.1
        · refine aw_iload_n dX6_taken_43 rfl ?_
          refine aw_S1 dX6_taken_44 cw_X6_452 (by omega) ⟨Nat.le_refl _, Nat.le_refl _⟩ (by decide) (c_X6_over2 (fun r e => ?_))
          subst e
          refine aw_istore_n (ls' := [_, _, _, _]) dX6_taken_47 (by decide) rfl rfl ?_
          refine aw_goto (tgt := 33) dX6_taken_48 (by decide) ?_
          refine aw_iload_n dX6_taken_33 rfl ?_
          refine aw_iconst (v := -1) dX6_taken_34 (by decide) ?_
          refine aw_icmp_eq (tgt := 51) dX6_taken_35 (by decide) (fun zz => absurd zz (by decide)) (fun _ => ?_)
          refine aw_iload_n dX6_taken_38 rfl ?_
          refine aw_iload_n dX6_taken_39 rfl ?_
          refine aw_icmp_eq (tgt := 51) dX6_taken_40 (by decide) (fun c40'' => ?_) (fun c40'' => ?_)
          · refine aw_iload_n dX6_taken_51 rfl ?_
            refine aw_iload_n dX6_taken_52 rfl ?_
            refine aw_icmp_ne (tgt := 67) dX6_taken_53 (by decide) (fun c53 => ?_) (fun c53 => ?_)
            · refine aw_bipush (v := -13) dX6_taken_67 (by decide) ?_
              refine aw_ireturn (ty := .int) dX6_taken_69 rfl rfl ?_
              first
                | exact hS c6 p hp rfl (by simp only [udP]; exact (Or.inr (Or.inr (c40''.symm))))
                | exact hO c6 p hp rfl (by simp only [udP]; exact not_or.mpr ⟨fun w => c40 w.symm, not_or.mpr ⟨fun w => c40' w.symm, fun w => c40'' w.symm⟩⟩)
                | exact absurd c40'' c53
                | exact absurd (show k < 0 by rw [← c53]; decide) c6.1
            · refine aw_aload_n dX6_taken_56 rfl rfl ?_
              refine aw_gr dX6_taken_57 fw_X6_32 hM.1 hM.2.2.2.2.2.2.2.2.2.2.2.2.2.1 ?_
              refine aw_iconst (v := 2) dX6_taken_60 (by decide) ?_
              refine aw_iload_n dX6_taken_61 rfl ?_
              refine aw_imul dX6_taken_62 ?_
              refine aw_ia (2 * p) dX6_taken_63 hM.2.2.2.2.2.2.2.2.2.2.2.2.2.2.1 (ix0 p) (by omega) (by decide) ?_
              refine aw_goto (tgt := 69) dX6_taken_64 (by decide) ?_
              refine aw_ireturn (ty := .int) dX6_taken_69 rfl rfl ?_
              first
                | exact hS c6 p hp rfl (by simp only [udP]; exact (Or.inr (Or.inr (c40''.symm))))
                | exact hO c6 p hp rfl (by simp only [udP]; exact not_or.mpr ⟨fun w => c40 w.symm, not_or.mpr ⟨fun w => c40' w.symm, fun w => c40'' w.symm⟩⟩)
                | exact absurd c40'' c53
                | exact absurd (show k < 0 by rw [← c53]; decide) c6.1
          · refine aw_iload_n dX6_taken_43 rfl ?_
            refine aw_S1 dX6_taken_44 cw_X6_452 (by omega) ⟨Nat.le_refl _, Nat.le_refl _⟩ (by decide) (c_X6_over0 (fun r e => ?_))
            subst e
            refine aw_istore_n (ls' := [_, _, _, _]) dX6_taken_47 (by decide) rfl rfl ?_
            refine aw_goto (tgt := 33) dX6_taken_48 (by decide) ?_
            refine aw_iload_n dX6_taken_33 rfl ?_
            refine aw_iconst (v := -1) dX6_taken_34 (by decide) ?_
            refine aw_icmp_eq (tgt := 51) dX6_taken_35 (by decide) (fun _ => ?_) (fun zz => absurd zz (by decide))
            refine aw_iload_n dX6_taken_51 rfl ?_
            refine aw_iload_n dX6_taken_52 rfl ?_
            refine aw_icmp_ne (tgt := 67) dX6_taken_53 (by decide) (fun c53 => ?_) (fun c53 => ?_)
            · refine aw_bipush (v := -13) dX6_taken_67 (by decide) ?_
              refine aw_ireturn (ty := .int) dX6_taken_69 rfl rfl ?_
              first
                | exact hS c6 p hp rfl (by simp only [udP]; exact (Or.inr (Or.inr (c40''.symm))))
                | exact hO c6 p hp rfl (by simp only [udP]; exact not_or.mpr ⟨fun w => c40 w.symm, not_or.mpr ⟨fun w => c40' w.symm, fun w => c40'' w.symm⟩⟩)
                | exact absurd c40'' c53
                | exact absurd (show k < 0 by rw [← c53]; decide) c6.1
            · refine aw_aload_n dX6_taken_56 rfl rfl ?_
              refine aw_gr dX6_taken_57 fw_X6_32 hM.1 hM.2.2.2.2.2.2.2.2.2.2.2.2.2.1 ?_
              refine aw_iconst (v := 2) dX6_taken_60 (by decide) ?_
              refine aw_iload_n dX6_taken_61 rfl ?_
              refine aw_imul dX6_taken_62 ?_
              refine aw_ia (2 * p) dX6_taken_63 hM.2.2.2.2.2.2.2.2.2.2.2.2.2.2.1 (ix0 p) (by omega) (by decide) ?_
              refine aw_goto (tgt := 69) dX6_taken_64 (by decide) ?_
              refine aw_ireturn (ty := .int) dX6_taken_69 rfl rfl ?_
              first
                | exact hS c6 p hp rfl (by simp only [udP]; exact (Or.inr (Or.inr (c40''.symm))))
                | exact hO c6 p hp rfl (by simp only [udP]; exact not_or.mpr ⟨fun w => c40 w.symm, not_or.mpr ⟨fun w => c40' w.symm, fun w => c40'' w.symm⟩⟩)
                | exact absurd c40'' c53
                | exact absurd (show k < 0 by rw [← c53]; decide) c6.1
    · refine aw_if_ne (tgt := 26) dX6_taken_20 (by decide) (fun zz => absurd zz (by decide)) (fun _ => ?_)
      refine aw_bipush (v := -11) dX6_taken_23 (by decide) ?_
      refine aw_ireturn (ty := .int) dX6_taken_25 rfl rfl ?_
      exact hN c6 c17
  · refine aw_if_ne (tgt := 15) dX6_taken_9 (by decide) (fun zz => absurd zz (by decide)) (fun _ => ?_)
    refine aw_bipush (v := -2) dX6_taken_12 (by decide) ?_
    refine aw_ireturn (ty := .int) dX6_taken_14 rfl rfl ?_
    exact hB c6
theorem c_X6_taken5 {E : Ev} {d : Nat} {I : Mi} {L : Ml} {Z : Mz} {Q : Po} {x : Int32} {k : Int32} {n : Nat}  (hd : 2 ≤ d) (hM : MZ Z) (hn : I 48 15 = nI n) (hl : n ≤ 5) (hB : ¬ (¬ k < 0 ∧ ¬ 5 < k) → Q (some (.int (-2))) I L Z) (hN : (¬ k < 0 ∧ ¬ 5 < k) → (¬ ∃ j, j < n ∧ x = nI j) → Q (some (.int (-11))) I L Z) (hK : ∀ p, p < n → x = nI p → I 54 p = 5) (hS : (¬ k < 0 ∧ ¬ 5 < k) → ∀ p, p < n → x = nI p → udP 5 k → Q (some (.int (I 55 (2 * p)))) I L Z) (hO : (¬ k < 0 ∧ ¬ 5 < k) → ∀ p, p < n → x = nI p → ¬ udP 5 k → Q (some (.int (-13))) I L Z) : AC E yX6_taken cX6_taken 4 (some .int) d 0 0 [.ref 48, .int x, .int k] I L Z Q := by
  refine ac_go (ls := [some (.ref 48), some (.int x), some (.int k), none]) (by decide +kernel) (Nat.le_of_ble_eq_true rfl) rfl ?_
  refine aw_iload_n dX6_taken_0 rfl ?_
  refine aw_i2l dX6_taken_1 ?_
  refine aw_lconst (v := 0) dX6_taken_2 (by decide) ?_
  refine aw_ldc2 dX6_taken_3 kw_X6_92 ?_
  refine aw_S3 dX6_taken_6 cw_X6_73 (by omega) ⟨Nat.le_refl _, Nat.le_refl _⟩ (by decide) (c_X6_in (x := k) (a := 0) (b := 5) rfl (by decide) (by decide) (fun c6 => ?_) (fun c6 => ?_))
  · refine aw_if_ne (tgt := 15) dX6_taken_9 (by decide) (fun _ => ?_) (fun zz => absurd zz (by decide))
    refine aw_aload_n dX6_taken_15 rfl rfl ?_
    refine aw_iload_n dX6_taken_16 rfl ?_
    refine aw_V1 dX6_taken_17 cw_X6_86 ⟨_, _, rfl⟩ hM.1 (by omega) ⟨Nat.le_refl _, Nat.le_refl _⟩ (by decide) (c_X6_isOne (by omega) hM hn hl (fun c17 => ?_) (fun c17 => ?_))
    · refine aw_if_ne (tgt := 26) dX6_taken_20 (by decide) (fun _ => ?_) (fun zz => absurd zz (by decide))
      obtain ⟨p, hp, rfl⟩ := c17
      refine aw_aload_n dX6_taken_26 rfl rfl ?_
      refine aw_gr dX6_taken_27 fw_X6_29 hM.1 hM.2.2.2.2.2.2.2.2.2.2.2.1 ?_
      refine aw_iload_n dX6_taken_30 rfl ?_
      refine aw_ia p dX6_taken_31 hM.2.2.2.2.2.2.2.2.2.2.2.2.1 rfl (by omega) (by decide) ?_
      rw [hK p hp rfl]
      refine aw_istore_n (ls' := [_, _, _, _]) dX6_taken_32 (by decide) rfl rfl ?_
      refine aw_iload_n dX6_taken_33 rfl ?_
      refine aw_iconst (v := -1) dX6_taken_34 (by decide) ?_
      refine aw_icmp_eq (tgt := 51) dX6_taken_35 (by decide) (fun zz => absurd zz (by decide)) (fun _ => ?_)
      refine aw_iload_n dX6_taken_38 rfl ?_
      refine aw_iload_n dX6_taken_39 rfl ?_
      refine aw_icmp_eq (tgt := 51) dX6_taken_40 (by decide) (fun c40 => ?_) (fun c40 => ?_)
      · refine aw_iload_n dX6_taken_51 rfl ?_
        refine aw_iload_n dX6_taken_52 rfl ?_
        refine aw_icmp_ne (tgt := 67) dX6_taken_53 (by decide) (fun c53 => ?_) (fun c53 => ?_)
        · refine aw_bipush (v := -13) dX6_taken_67 (by decide) ?_
          refine aw_ireturn (ty := .int) dX6_taken_69 rfl rfl ?_
          first
            | exact hS c6 p hp rfl (by simp only [udP]; exact (Or.inl c40.symm))
            | exact hO c6 p hp rfl (by simp only [udP]; exact (fun w => c40 w.symm))
            | exact absurd c40 c53
            | exact absurd (show k < 0 by rw [← c53]; decide) c6.1
        · refine aw_aload_n dX6_taken_56 rfl rfl ?_
          refine aw_gr dX6_taken_57 fw_X6_32 hM.1 hM.2.2.2.2.2.2.2.2.2.2.2.2.2.1 ?_
          refine aw_iconst (v := 2) dX6_taken_60 (by decide) ?_
          refine aw_iload_n dX6_taken_61 rfl ?_
          refine aw_imul dX6_taken_62 ?_
          refine aw_ia (2 * p) dX6_taken_63 hM.2.2.2.2.2.2.2.2.2.2.2.2.2.2.1 (ix0 p) (by omega) (by decide) ?_
          refine aw_goto (tgt := 69) dX6_taken_64 (by decide) ?_
          refine aw_ireturn (ty := .int) dX6_taken_69 rfl rfl ?_
          first
            | exact hS c6 p hp rfl (by simp only [udP]; exact (Or.inl c40.symm))
            | exact hO c6 p hp rfl (by simp only [udP]; exact (fun w => c40 w.symm))
            | exact absurd c40 c53
            | exact absurd (show k < 0 by rw [← c53]; decide) c6.1
      · refine aw_iload_n dX6_taken_43 rfl ?_
        refine aw_S1 dX6_taken_44 cw_X6_452 (by omega) ⟨Nat.le_refl _, Nat.le_refl _⟩ (by decide) (c_X6_over5 (fun r e => ?_))
        subst e
        refine aw_istore_n (ls' := [_, _, _, _]) dX6_taken_47 (by decide) rfl rfl ?_
        refine aw_goto (tgt := 33) dX6_taken_48 (by decide) ?_
        refine aw_iload_n dX6_taken_33 rfl ?_
        refine aw_iconst (v := -1) dX6_taken_34 (by decide) ?_
        refine aw_icmp_eq (tgt := 51) dX6_taken_35 (by decide) (fun zz => absurd zz (by decide)) (fun _ => ?_)
        refine aw_iload_n dX6_taken_38 rfl ?_
        refine aw_iload_n dX6_taken_39 rfl ?_
        refine aw_icmp_eq (tgt := 51) dX6_taken_40 (by decide) (fun c40' => ?_) (fun c40' => ?_)
        · refine aw_iload_n dX6_taken_51 rfl ?_
          refine aw_iload_n dX6_taken_52 rfl ?_
          refine aw_icmp_ne (tgt := 67) dX6_taken_53 (by decide) (fun c53 => ?_) (fun c53 => ?_)
          · refine aw_bipush (v := -13) dX6_taken_67 (by decide) ?_
            refine aw_ireturn (ty := .int) dX6_taken_69 rfl rfl ?_
            first
              | exact hS c6 p hp rfl (by simp only [udP]; exact (Or.inr (c40'.symm)))
              | exact hO c6 p hp rfl (by simp only [udP]; exact not_or.mpr ⟨fun w => c40 w.symm, fun w => c40' w.symm⟩)
              | exact absurd c40' c53
              | exact absurd (show k < 0 by rw [← c53]; decide) c6.1
          · refine aw_aload_n dX6_taken_56 rfl rfl ?_
            refine aw_gr dX6_taken_57 fw_X6_32 hM.1 hM.2.2.2.2.2.2.2.2.2.2.2.2.2.1 ?_
            refine aw_iconst (v := 2) dX6_taken_60 (by decide) ?_
            refine aw_iload_n dX6_taken_61 rfl ?_
            refine aw_imul dX6_taken_62 ?_
            refine aw_ia (2 * p) dX6_taken_63 hM.2.2.2.2.2.2.2.2.2.2.2.2.2.2.1 (ix0 p) (by omega) (by decide) ?_
            refine aw_goto (tgt := 69) dX6_taken_64 (by decide) ?_
            refine aw_ireturn (ty := .int) dX6_taken_69 rfl rfl ?_
            first
              | exact hS c6 p hp rfl (by simp only [udP]; exact (Or.inr (c40'.symm)))
              | exact hO c6 p hp rfl (by simp only [udP]; exact not_or.mpr ⟨fun w => c40 w.symm, fun w => c40' w.symm⟩)
              | exact absurd c40' c53
              | exact absurd (show k < 0 by rw [← c53]; decide) c6.1
        · refine aw_iload_n dX6_taken_43 rfl ?_
          refine aw_S1 dX6_taken_44 cw_X6_452 (by omega) ⟨Nat.le_refl _, Nat.le_refl _⟩ (by decide) (c_X6_over0 (fun r e => ?_))
          subst e
          refine aw_istore_n (ls' := [_, _, _, _]) dX6_taken_47 (by decide) rfl rfl ?_
          refine aw_goto (tgt := 33) dX6_taken_48 (by decide) ?_
          refine aw_iload_n dX6_taken_33 rfl ?_
          refine aw_iconst (v := -1) dX6_taken_34 (by decide) ?_
          refine aw_icmp_eq (tgt := 51) dX6_taken_35 (by decide) (fun _ => ?_) (fun zz => absurd zz (by decide))
          refine aw_iload_n dX6_taken_51 rfl ?_
          refine aw_iload_n dX6_taken_52 rfl ?_
          refine aw_icmp_ne (tgt := 67) dX6_taken_53 (by decide) (fun c53 => ?_) (fun c53 => ?_)
          · refine aw_bipush (v := -13) dX6_taken_67 (by decide) ?_
            refine aw_ireturn (ty := .int) dX6_taken_69 rfl rfl ?_
            first
              | exact hS c6 p hp rfl (by simp only [udP]; exact (Or.inr (c40'.symm)))
              | exact hO c6 p hp rfl (by simp only [udP]; exact not_or.mpr ⟨fun w => c40 w.symm, fun w => c40' w.symm⟩)
              | exact absurd c40' c53
              | exact absurd (show k < 0 by rw [← c53]; decide) c6.1
          · refine aw_aload_n dX6_taken_56 rfl rfl ?_
            refine aw_gr dX6_taken_57 fw_X6_32 hM.1 hM.2.2.2.2.2.2.2.2.2.2.2.2.2.1 ?_
            refine aw_iconst (v := 2) dX6_taken_60 (by decide) ?_
            refine aw_iload_n dX6_taken_61 rfl ?_
            refine aw_imul dX6_taken_62 ?_
            refine aw_ia (2 * p) dX6_taken_63 hM.2.2.2.2.2.2.2.2.2.2.2.2.2.2.1 (ix0 p) (by omega) (by decide) ?_
            refine aw_goto (tgt := 69) dX6_taken_64 (by decide) ?_
            refine aw_ireturn (ty := .int) dX6_taken_69 rfl rfl ?_
            first
              | exact hS c6 p hp rfl (by simp only [udP]; exact (Or.inr (c40'.symm)))
              | exact hO c6 p hp rfl (by simp only [udP]; exact not_or.mpr ⟨fun w => c40 w.symm, fun w => c40' w.symm⟩)
              | exact absurd c40' c53
              | exact absurd (show k < 0 by rw [← c53]; decide) c6.1
    · refine aw_if_ne (tgt := 26) dX6_taken_20 (by decide) (fun zz => absurd zz (by decide)) (fun _ => ?_)
      refine aw_bipush (v := -11) dX6_taken_23 (by decide) ?_
      refine aw_ireturn (ty := .int) dX6_taken_25 rfl rfl ?_
      exact hN c6 c17
  · refine aw_if_ne (tgt := 15) dX6_taken_9 (by decide) (fun zz => absurd zz (by decide)) (fun _ => ?_)
    refine aw_bipush (v := -2) dX6_taken_12 (by decide) ?_
    refine aw_ireturn (ty := .int) dX6_taken_14 rfl rfl ?_
    exact hB c6
