/-! ===== the class: sheets ===== -/
theorem RD.eqv {I I' : Mi} {Z : Mz} {h ru t q mm ma mb n : Nat} (e1 : I' h = I h) (e2 : I' t = I t) (g : RD I Z h ru t q mm ma mb n) : RD I' Z h ru t q mm ma mb n := by
  obtain ⟨h1, h2, h3, h4, h5, h6⟩ := g
  obtain ⟨g1, g2, g3, g4, g5, g6, g7, g8, g9, ga, gb, gc, gd⟩ := h3
  exact ⟨h1, h2, ⟨by rw [e1]; exact g1, g2, g3, g4, g5, by rw [e2]; exact g6, by rw [e2]; exact g7, g8, g9, ga, gb, gc, gd⟩, by rw [e1]; exact h4, h5, h6⟩
theorem rbV_eqv {I I' : Mi} {h q ma mb mm p c : Nat} (eq : I' q = I q) (e0 : I' h = I h) (e1 : I' (h + 1) = I (h + 1)) (e2 : I' (h + 2) = I (h + 2)) (e5 : I' (h + 5) = I (h + 5)) (e6 : I' (h + 6) = I (h + 6)) (e7 : I' (h + 7) = I (h + 7)) : rbV I' h q ma mb mm p c = rbV I h q ma mb mm p c := by
  simp only [rbV, rlC, eq, e0, e1, e2, e5, e6, e7]
theorem beM_row {I : Mi} {a : Nat} {s : Int32} {n b : Nat} (h1 : b ≠ a) (h2 : b ≠ a + 1) : beM I a s n b = I b := by
  funext j
  simp only [beM, flR, rU, h2, if_false]
  rw [iU_at (fun z => h1 z.1), iU_at (fun z => h1 z.1)]
theorem beM_sort {I : Mi} {a : Nat} {s : Int32} {n : Nat} : beM I a s n a 1 = s := by
  simp only [beM, flR, rU, show ¬ a = a + 1 by omega, if_false]
  rw [iU_at (by omega), iU_same]
theorem beM_size {I : Mi} {a : Nat} {s : Int32} {n : Nat} : beM I a s n a 2 = nI n := by
  simp only [beM, flR, rU, show ¬ a = a + 1 by omega, if_false]
  rw [iU_same]
theorem beM_item {I : Mi} {a : Nat} {s : Int32} {n k : Nat} (hk : k < 40) : beM I a s n (a + 1) k = 0 := by
  simp only [beM, flR, rU, if_true, hk]
theorem sh4 {x : Int32} (h : ¬ x < 0 ∧ ¬ 3 < x) : ∃ s : Nat, s < 4 ∧ x = nI s := by
  obtain ⟨j, hj, e⟩ := nI_of2 (M := 3) (n := 3) (by decide) h.1 (Int32.not_lt.mp h.2)
  exact ⟨j, by omega, e⟩
theorem c_X5_sheet {E : Ev} {d : Nat} {I : Mi} {L : Ml} {Z : Mz} {Q : Po} {x : Int32} {y : Int32} {k : Int32}  (hd : 3 ≤ d) (hG : GZ Z) (hB : ¬ ((¬ x < 0 ∧ ¬ 3 < x) ∧ (¬ y < -1 ∧ ¬ 2 < y)) → Q (some (.int (-2))) I L Z) (hM : ∀ s, s < 4 → x = nI s → (¬ y < -1 ∧ ¬ 2 < y) → y = -1 → Q (some (.int 1)) (beM I (38 + 2 * s) (-1) 0) L Z) (hB2 : (¬ x < 0 ∧ ¬ 3 < x) → (¬ y < -1 ∧ ¬ 2 < y) → ¬ y = -1 → ¬ k ≤ 40 → Q (some (.int (-2))) I L Z) (hL : (¬ x < 0 ∧ ¬ 3 < x) → (¬ y < -1 ∧ ¬ 2 < y) → ¬ y = -1 → k ≤ 40 → ¬ 0 ≤ k → Q (some (.int (-14))) I L Z) (hA : ∀ s n, s < 4 → n ≤ 40 → x = nI s → k = nI n → (¬ y < -1 ∧ ¬ 2 < y) → ¬ y = -1 → Q (some (.int 1)) (beM I (38 + 2 * s) y n) L Z) : AC E yX5_sheet cX5_sheet 4 (some .int) d 0 0 [.ref 0, .int x, .int y, .int k] I L Z Q := by
  refine ac_go (ls := [some (.ref 0), some (.int x), some (.int y), some (.int k)]) (by decide +kernel) (Nat.le_of_ble_eq_true rfl) rfl ?_
  refine aw_iload_n dX5_sheet_0 rfl ?_
  refine aw_S1 dX5_sheet_1 cw_X5_214 (by omega) ⟨Nat.le_refl _, Nat.le_refl _⟩ (by decide) (c_X5_isSheet (by omega) (fun c1 => ?_) (fun c1 => ?_))
  · refine aw_if_eq (tgt := 16) dX5_sheet_4 (by decide) (fun zz => absurd zz (by decide)) (fun _ => ?_)
    refine aw_iload_n dX5_sheet_7 rfl ?_
    refine aw_iconst (v := -1) dX5_sheet_8 (by decide) ?_
    refine aw_iconst (v := 2) dX5_sheet_9 (by decide) ?_
    refine aw_S3 dX5_sheet_10 cw_X5_72 (by omega) ⟨Nat.le_refl _, Nat.le_refl _⟩ (by decide) (c_X5_within (fun c10 => ?_) (fun c10 => ?_))
    · refine aw_if_ne (tgt := 19) dX5_sheet_13 (by decide) (fun _ => ?_) (fun zz => absurd zz (by decide))
      refine aw_iload_n dX5_sheet_19 rfl ?_
      refine aw_iconst (v := -1) dX5_sheet_20 (by decide) ?_
      refine aw_icmp_ne (tgt := 37) dX5_sheet_21 (by decide) (fun c21 => ?_) (fun c21 => ?_)
      · refine aw_iload_n dX5_sheet_37 rfl ?_
        refine aw_bipush (v := 40) dX5_sheet_38 (by decide) ?_
        refine aw_icmp_le (tgt := 46) dX5_sheet_40 (by decide) (fun c40 => ?_) (fun c40 => ?_)
        · refine aw_iload_n dX5_sheet_46 rfl ?_
          refine aw_if_ge (tgt := 53) dX5_sheet_47 (by decide) (fun c47 => ?_) (fun c47 => ?_)
          · obtain ⟨s, hs, rfl⟩ := sh4 c1
            obtain ⟨n, hn, rfl⟩ := nI_of2 (M := 40) (n := 40) (by decide) (Int32.not_lt.mpr c47) c40
            refine aw_aload_n dX5_sheet_53 rfl rfl ?_
            refine aw_gr dX5_sheet_54 fw_X5_40 hG.1 hG.2.2.2.2.2.2.1 ?_
            refine aw_iload_n dX5_sheet_57 rfl ?_
            refine aw_ar s dX5_sheet_58 hG.2.2.2.2.2.2.2.1 rfl hs (by decide) (hG.2.2.2.2.2.2.2.2.1 s hs).1 ?_
            refine aw_iload_n dX5_sheet_59 rfl ?_
            refine aw_iload_n dX5_sheet_60 rfl ?_
            refine aw_V2 dX5_sheet_61 cw_X5_239 ⟨_, _, rfl⟩ (hG.2.2.2.2.2.2.2.2.1 s hs).2.1 (by omega) ⟨Nat.le_refl _, Nat.le_refl _⟩ (by decide) (c_X2_become (n := n) (by omega) (hG.2.2.2.2.2.2.2.2.1 s hs).2 hn ?_)
            refine aw_iconst (v := 1) dX5_sheet_64 (by decide) ?_
            refine aw_ireturn (ty := .int) dX5_sheet_65 rfl rfl ?_
            exact hA s n hs hn rfl rfl c10 c21
          · refine aw_bipush (v := -14) dX5_sheet_50 (by decide) ?_
            refine aw_ireturn (ty := .int) dX5_sheet_52 rfl rfl ?_
            exact hL c1 c10 c21 c40 c47
        · refine aw_bipush (v := -2) dX5_sheet_43 (by decide) ?_
          refine aw_ireturn (ty := .int) dX5_sheet_45 rfl rfl ?_
          exact hB2 c1 c10 c21 c40
      · obtain ⟨s, hs, rfl⟩ := sh4 c1
        refine aw_aload_n dX5_sheet_24 rfl rfl ?_
        refine aw_gr dX5_sheet_25 fw_X5_40 hG.1 hG.2.2.2.2.2.2.1 ?_
        refine aw_iload_n dX5_sheet_28 rfl ?_
        refine aw_ar s dX5_sheet_29 hG.2.2.2.2.2.2.2.1 rfl hs (by decide) (hG.2.2.2.2.2.2.2.2.1 s hs).1 ?_
        refine aw_iconst (v := -1) dX5_sheet_30 (by decide) ?_
        refine aw_iconst (v := 0) dX5_sheet_31 (by decide) ?_
        refine aw_V2 dX5_sheet_32 cw_X5_239 ⟨_, _, rfl⟩ (hG.2.2.2.2.2.2.2.2.1 s hs).2.1 (by omega) ⟨Nat.le_refl _, Nat.le_refl _⟩ (by decide) (c_X2_become (n := 0) (by omega) (hG.2.2.2.2.2.2.2.2.1 s hs).2 (by omega) ?_)
        refine aw_iconst (v := 1) dX5_sheet_35 (by decide) ?_
        refine aw_ireturn (ty := .int) dX5_sheet_36 rfl rfl ?_
        exact hM s hs rfl c10 c21
    · refine aw_if_ne (tgt := 19) dX5_sheet_13 (by decide) (fun zz => absurd zz (by decide)) (fun _ => ?_)
      refine aw_bipush (v := -2) dX5_sheet_16 (by decide) ?_
      refine aw_ireturn (ty := .int) dX5_sheet_18 rfl rfl ?_
      exact hB (fun zz => c10 zz.2)
  · refine aw_if_eq (tgt := 16) dX5_sheet_4 (by decide) (fun _ => ?_) (fun zz => absurd zz (by decide))
    refine aw_bipush (v := -2) dX5_sheet_16 (by decide) ?_
    refine aw_ireturn (ty := .int) dX5_sheet_18 rfl rfl ?_
    exact hB (fun zz => c1 zz.1)
theorem c_X5_cell {E : Ev} {d : Nat} {I : Mi} {L : Ml} {Z : Mz} {Q : Po} {x : Int32} {y : Int32} {k : Int32}  (hd : 3 ≤ d) (hG : GZ Z) (hz : ∀ s, s < 4 → ∃ z, z ≤ 40 ∧ I (38 + 2 * s) 2 = nI z) (hB : ¬ (¬ x < 0 ∧ ¬ 3 < x) → Q (some (.int (-2))) I L Z) (hM : ∀ s, s < 4 → x = nI s → I (38 + 2 * s) 1 = -1 → Q (some (.int (-11))) I L Z) (hO : ∀ s, s < 4 → x = nI s → ¬ I (38 + 2 * s) 1 = -1 → ∀ z, I (38 + 2 * s) 2 = nI z → z ≤ 40 → (¬ ∃ j, j < z ∧ y = nI j) → Q (some (.int (-12))) I L Z) (hA : ∀ s, s < 4 → x = nI s → ¬ I (38 + 2 * s) 1 = -1 → ∀ z, I (38 + 2 * s) 2 = nI z → z ≤ 40 → ∀ j, j < z → y = nI j → Q (some (.int 1)) (iU I (38 + 2 * s + 1) j (naV (I (38 + 2 * s) 1) k)) L Z) : AC E yX5_cell cX5_cell 5 (some .int) d 0 0 [.ref 0, .int x, .int y, .int k] I L Z Q := by
  refine ac_go (ls := [some (.ref 0), some (.int x), some (.int y), some (.int k), none]) (by decide +kernel) (Nat.le_of_ble_eq_true rfl) rfl ?_
  refine aw_iload_n dX5_cell_0 rfl ?_
  refine aw_S1 dX5_cell_1 cw_X5_214 (by omega) ⟨Nat.le_refl _, Nat.le_refl _⟩ (by decide) (c_X5_isSheet (by omega) (fun c1 => ?_) (fun c1 => ?_))
  · refine aw_if_ne (tgt := 10) dX5_cell_4 (by decide) (fun _ => ?_) (fun zz => absurd zz (by decide))
    obtain ⟨s, hs, rfl⟩ := sh4 c1
    refine aw_aload_n dX5_cell_10 rfl rfl ?_
    refine aw_gr dX5_cell_11 fw_X5_40 hG.1 hG.2.2.2.2.2.2.1 ?_
    refine aw_iload_n dX5_cell_14 rfl ?_
    refine aw_ar s dX5_cell_15 hG.2.2.2.2.2.2.2.1 rfl hs (by decide) (hG.2.2.2.2.2.2.2.2.1 s hs).1 ?_
    refine aw_astore (ls' := [_, _, _, _, _]) dX5_cell_16 (by decide) rfl rfl rfl ?_
    refine aw_aload dX5_cell_18 rfl rfl ?_
    refine aw_V0 dX5_cell_20 cw_X5_217 ⟨_, _, rfl⟩ (hG.2.2.2.2.2.2.2.2.1 s hs).2.1 (by omega) ⟨Nat.le_refl _, Nat.le_refl _⟩ (by decide) (c_X2_isMissing (hG.2.2.2.2.2.2.2.2.1 s hs).2 (fun c20 => ?_) (fun c20 => ?_))
    · refine aw_if_eq (tgt := 29) dX5_cell_23 (by decide) (fun zz => absurd zz (by decide)) (fun _ => ?_)
      refine aw_bipush (v := -11) dX5_cell_26 (by decide) ?_
      refine aw_ireturn (ty := .int) dX5_cell_28 rfl rfl ?_
      exact hM s hs rfl c20
    · refine aw_if_eq (tgt := 29) dX5_cell_23 (by decide) (fun _ => ?_) (fun zz => absurd zz (by decide))
      obtain ⟨z, hz4, hz⟩ := hz s hs
      refine aw_aload dX5_cell_29 rfl rfl ?_
      refine aw_iload_n dX5_cell_31 rfl ?_
      refine aw_V1 dX5_cell_32 cw_X5_260 ⟨_, _, rfl⟩ (hG.2.2.2.2.2.2.2.2.1 s hs).2.1 (by omega) ⟨Nat.le_refl _, Nat.le_refl _⟩ (by decide) (c_X2_hasItem (hG.2.2.2.2.2.2.2.2.1 s hs).2 (fun c32 => ?_) (fun c32 => ?_))
      · refine aw_if_ne (tgt := 41) dX5_cell_35 (by decide) (fun _ => ?_) (fun zz => absurd zz (by decide))
        obtain ⟨j, hj, rfl⟩ := (ix_iff hz (by omega)).mp c32
        refine aw_aload dX5_cell_41 rfl rfl ?_
        refine aw_iload_n dX5_cell_43 rfl ?_
        refine aw_iload_n dX5_cell_44 rfl ?_
        refine aw_V2 dX5_cell_45 cw_X5_243 ⟨_, _, rfl⟩ (hG.2.2.2.2.2.2.2.2.1 s hs).2.1 (by omega) ⟨Nat.le_refl _, Nat.le_refl _⟩ (by decide) (c_X2_put (by omega) (hG.2.2.2.2.2.2.2.2.1 s hs).2 hz hj hz4 ?_)
        refine aw_iconst (v := 1) dX5_cell_48 (by decide) ?_
        refine aw_ireturn (ty := .int) dX5_cell_49 rfl rfl ?_
        exact hA s hs rfl c20 z hz hz4 j hj rfl
      · refine aw_if_ne (tgt := 41) dX5_cell_35 (by decide) (fun zz => absurd zz (by decide)) (fun _ => ?_)
        refine aw_bipush (v := -12) dX5_cell_38 (by decide) ?_
        refine aw_ireturn (ty := .int) dX5_cell_40 rfl rfl ?_
        exact hO s hs rfl c20 z hz hz4 (fun zz => c32 ((ix_iff hz (by omega)).mpr zz))
  · refine aw_if_ne (tgt := 10) dX5_cell_4 (by decide) (fun zz => absurd zz (by decide)) (fun _ => ?_)
    refine aw_bipush (v := -2) dX5_cell_7 (by decide) ?_
    refine aw_ireturn (ty := .int) dX5_cell_9 rfl rfl ?_
    exact hB c1
theorem rng_ok {i k c : Int32} {z : Nat} (hc : c = nI z) (hz : z ≤ 40) (h : ¬ i < 0 ∧ ¬ k < 0 ∧ ¬ c < i ∧ ¬ c - i < k) : ∃ a b : Nat, i = nI a ∧ k = nI b ∧ a + b ≤ z := by
  obtain ⟨h1, h2, h3, h4⟩ := h
  subst hc
  obtain ⟨a, ha, rfl⟩ := nI_of h1
  obtain ⟨b, hb, rfl⟩ := nI_of h2
  have h5 : a ≤ z := Nat.not_lt.mp fun w => h3 (nI_lt w ha)
  rw [pk_sub h5] at h4
  have h6 : b ≤ z - a := Nat.not_lt.mp fun w => h4 (nI_lt w hb)
  exact ⟨a, b, rfl, rfl, by omega⟩
theorem c_X5_copy {E : Ev} {d : Nat} {I : Mi} {L : Ml} {Z : Mz} {Q : Po} {x : Int32} {y : Int32} {z : Int32} {w : Int32} {k : Int32}  (hd : 3 ≤ d) (hG : GZ Z) (hz : ∀ s, s < 4 → ∃ z, z ≤ 40 ∧ I (38 + 2 * s) 2 = nI z) (hB : ¬ ((¬ x < 0 ∧ ¬ 3 < x) ∧ (¬ z < 0 ∧ ¬ 3 < z)) → Q (some (.int (-2))) I L Z) (hM : ∀ s u, s < 4 → u < 4 → x = nI s → z = nI u → (I (38 + 2 * s) 1 = -1 ∨ I (38 + 2 * u) 1 = -1) → Q (some (.int (-11))) I L Z) (hT : ∀ s u, s < 4 → u < 4 → x = nI s → z = nI u → ¬ I (38 + 2 * s) 1 = -1 → ¬ I (38 + 2 * u) 1 = -1 → ¬ I (38 + 2 * s) 1 = I (38 + 2 * u) 1 → Q (some (.int (-13))) I L Z) (hO : ∀ s u, s < 4 → u < 4 → x = nI s → z = nI u → ¬ I (38 + 2 * s) 1 = -1 → ¬ I (38 + 2 * u) 1 = -1 → I (38 + 2 * s) 1 = I (38 + 2 * u) 1 → ¬ ((¬ y < 0 ∧ ¬ k < 0 ∧ ¬ I (38 + 2 * s) 2 < y ∧ ¬ I (38 + 2 * s) 2 - y < k) ∧ (¬ w < 0 ∧ ¬ k < 0 ∧ ¬ I (38 + 2 * u) 2 < w ∧ ¬ I (38 + 2 * u) 2 - w < k)) → Q (some (.int (-12))) I L Z) (hA : ∀ s u, s < 4 → u < 4 → x = nI s → z = nI u → ¬ I (38 + 2 * s) 1 = -1 → ¬ I (38 + 2 * u) 1 = -1 → I (38 + 2 * s) 1 = I (38 + 2 * u) 1 → ((¬ y < 0 ∧ ¬ k < 0 ∧ ¬ I (38 + 2 * s) 2 < y ∧ ¬ I (38 + 2 * s) 2 - y < k) ∧ (¬ w < 0 ∧ ¬ k < 0 ∧ ¬ I (38 + 2 * u) 2 < w ∧ ¬ I (38 + 2 * u) 2 - w < k)) → ∀ a b c : Nat, y = nI a → k = nI b → w = nI c → a + b ≤ 40 → c + b ≤ 40 → Q (some (.int k)) (rU I (38 + 2 * u + 1) (va_cpy (I (38 + 2 * s + 1)) (I (38 + 2 * u + 1)) a c b)) L Z) : AC E yX5_copy cX5_copy 8 (some .int) d 0 0 [.ref 0, .int x, .int y, .int z, .int w, .int k] I L Z Q := by
  refine ac_go (ls := [some (.ref 0), some (.int x), some (.int y), some (.int z), some (.int w), some (.int k), none, none]) (by decide +kernel) (Nat.le_of_ble_eq_true rfl) rfl ?_
  refine aw_iload_n dX5_copy_0 rfl ?_
  refine aw_S1 dX5_copy_1 cw_X5_214 (by omega) ⟨Nat.le_refl _, Nat.le_refl _⟩ (by decide) (c_X5_isSheet (by omega) (fun c1 => ?_) (fun c1 => ?_))
  · refine aw_if_eq (tgt := 14) dX5_copy_4 (by decide) (fun zz => absurd zz (by decide)) (fun _ => ?_)
    refine aw_iload_n dX5_copy_7 rfl ?_
    refine aw_S1 dX5_copy_8 cw_X5_214 (by omega) ⟨Nat.le_refl _, Nat.le_refl _⟩ (by decide) (c_X5_isSheet (by omega) (fun c8 => ?_) (fun c8 => ?_))
    · refine aw_if_ne (tgt := 17) dX5_copy_11 (by decide) (fun _ => ?_) (fun zz => absurd zz (by decide))
      obtain ⟨s, hs, rfl⟩ := sh4 c1
      obtain ⟨u, hu, rfl⟩ := sh4 c8
      refine aw_aload_n dX5_copy_17 rfl rfl ?_
      refine aw_gr dX5_copy_18 fw_X5_40 hG.1 hG.2.2.2.2.2.2.1 ?_
      refine aw_iload_n dX5_copy_21 rfl ?_
      refine aw_ar s dX5_copy_22 hG.2.2.2.2.2.2.2.1 rfl hs (by decide) (hG.2.2.2.2.2.2.2.2.1 s hs).1 ?_
      refine aw_astore (ls' := [_, _, _, _, _, _, _, _]) dX5_copy_23 (by decide) rfl rfl rfl ?_
      refine aw_aload_n dX5_copy_25 rfl rfl ?_
      refine aw_gr dX5_copy_26 fw_X5_40 hG.1 hG.2.2.2.2.2.2.1 ?_
      refine aw_iload_n dX5_copy_29 rfl ?_
      refine aw_ar u dX5_copy_30 hG.2.2.2.2.2.2.2.1 rfl hu (by decide) (hG.2.2.2.2.2.2.2.2.1 u hu).1 ?_
      refine aw_astore (ls' := [_, _, _, _, _, _, _, _]) dX5_copy_31 (by decide) rfl rfl rfl ?_
      refine aw_aload dX5_copy_33 rfl rfl ?_
      refine aw_V0 dX5_copy_35 cw_X5_217 ⟨_, _, rfl⟩ (hG.2.2.2.2.2.2.2.2.1 s hs).2.1 (by omega) ⟨Nat.le_refl _, Nat.le_refl _⟩ (by decide) (c_X2_isMissing (hG.2.2.2.2.2.2.2.2.1 s hs).2 (fun c35 => ?_) (fun c35 => ?_))
      · refine aw_if_ne (tgt := 49) dX5_copy_38 (by decide) (fun _ => ?_) (fun zz => absurd zz (by decide))
        refine aw_bipush (v := -11) dX5_copy_49 (by decide) ?_
        refine aw_ireturn (ty := .int) dX5_copy_51 rfl rfl ?_
        exact hM s u hs hu rfl rfl (Or.inl c35)
      · refine aw_if_ne (tgt := 49) dX5_copy_38 (by decide) (fun zz => absurd zz (by decide)) (fun _ => ?_)
        refine aw_aload dX5_copy_41 rfl rfl ?_
        refine aw_V0 dX5_copy_43 cw_X5_217 ⟨_, _, rfl⟩ (hG.2.2.2.2.2.2.2.2.1 u hu).2.1 (by omega) ⟨Nat.le_refl _, Nat.le_refl _⟩ (by decide) (c_X2_isMissing (hG.2.2.2.2.2.2.2.2.1 u hu).2 (fun c43 => ?_) (fun c43 => ?_))
        · refine aw_if_eq (tgt := 52) dX5_copy_46 (by decide) (fun zz => absurd zz (by decide)) (fun _ => ?_)
          refine aw_bipush (v := -11) dX5_copy_49 (by decide) ?_
          refine aw_ireturn (ty := .int) dX5_copy_51 rfl rfl ?_
          exact hM s u hs hu rfl rfl (Or.inr c43)
        · refine aw_if_eq (tgt := 52) dX5_copy_46 (by decide) (fun _ => ?_) (fun zz => absurd zz (by decide))
          refine aw_aload dX5_copy_52 rfl rfl ?_
          refine aw_gi dX5_copy_54 fw_X5_263 (hG.2.2.2.2.2.2.2.2.1 s hs).2.1 ?_
          refine aw_aload dX5_copy_57 rfl rfl ?_
          refine aw_gi dX5_copy_59 fw_X5_263 (hG.2.2.2.2.2.2.2.2.1 u hu).2.1 ?_
          refine aw_icmp_eq (tgt := 68) dX5_copy_62 (by decide) (fun c62 => ?_) (fun c62 => ?_)
          · refine aw_aload dX5_copy_68 rfl rfl ?_
            refine aw_iload_n dX5_copy_70 rfl ?_
            refine aw_iload dX5_copy_71 rfl ?_
            refine aw_V2 dX5_copy_73 cw_X5_266 ⟨_, _, rfl⟩ (hG.2.2.2.2.2.2.2.2.1 s hs).2.1 (by omega) ⟨Nat.le_refl _, Nat.le_refl _⟩ (by decide) (c_X2_hasRange (hG.2.2.2.2.2.2.2.2.1 s hs).2 (fun c73 => ?_) (fun c73 => ?_))
            · refine aw_if_eq (tgt := 91) dX5_copy_76 (by decide) (fun zz => absurd zz (by decide)) (fun _ => ?_)
              refine aw_aload dX5_copy_79 rfl rfl ?_
              refine aw_iload dX5_copy_81 rfl ?_
              refine aw_iload dX5_copy_83 rfl ?_
              refine aw_V2 dX5_copy_85 cw_X5_266 ⟨_, _, rfl⟩ (hG.2.2.2.2.2.2.2.2.1 u hu).2.1 (by omega) ⟨Nat.le_refl _, Nat.le_refl _⟩ (by decide) (c_X2_hasRange (hG.2.2.2.2.2.2.2.2.1 u hu).2 (fun c85 => ?_) (fun c85 => ?_))
              · refine aw_if_ne (tgt := 94) dX5_copy_88 (by decide) (fun _ => ?_) (fun zz => absurd zz (by decide))
                obtain ⟨z1, hz1, ez1⟩ := hz s hs
                obtain ⟨z2, hz2, ez2⟩ := hz u hu
                obtain ⟨a, b, ea, eb, hab⟩ := rng_ok ez1 hz1 c73
                obtain ⟨c, b', ec, eb', hcb⟩ := rng_ok ez2 hz2 c85
                have hbb : b = b' := (nI_eq (by omega) (by omega)).mp (eb.symm.trans eb')
                subst hbb
                have ta : y.toNatClampNeg = a := by rw [ea]; exact nI_clamp (by omega)
                have tb : k.toNatClampNeg = b := by rw [eb]; exact nI_clamp (by omega)
                have tc : w.toNatClampNeg = c := by rw [ec]; exact nI_clamp (by omega)
                refine aw_aload dX5_copy_94 rfl rfl ?_
                refine aw_gr dX5_copy_96 fw_X5_269 (hG.2.2.2.2.2.2.2.2.1 s hs).2.1 (hG.2.2.2.2.2.2.2.2.1 s hs).2.2.1 ?_
                refine aw_iload_n dX5_copy_99 rfl ?_
                refine aw_aload dX5_copy_100 rfl rfl ?_
                refine aw_gr dX5_copy_102 fw_X5_269 (hG.2.2.2.2.2.2.2.2.1 u hu).2.1 (hG.2.2.2.2.2.2.2.2.1 u hu).2.2.1 ?_
                refine aw_iload dX5_copy_105 rfl ?_
                refine aw_iload dX5_copy_107 rfl ?_
                refine aw_copy dX5_copy_109 cw_X5_272 (hG.2.2.2.2.2.2.2.2.1 s hs).2.2.2.1 (hG.2.2.2.2.2.2.2.2.1 u hu).2.2.2.1 (hG.2.2.2.2.2.2.2.2.1 s hs).2.2.2.2.1 (hG.2.2.2.2.2.2.2.2.1 u hu).2.2.2.2.1 c73.1 c85.1 c73.2.1 (by rw [(hG.2.2.2.2.2.2.2.2.1 s hs).2.2.2.2.2, ta, tb]; omega) (by rw [(hG.2.2.2.2.2.2.2.2.1 u hu).2.2.2.2.2, tc, tb]; omega) (rm_ok (d' := 0) (by omega)) (by decide) ?_
                refine aw_iload dX5_copy_112 rfl ?_
                refine aw_ireturn (ty := .int) dX5_copy_114 rfl rfl ?_
                have hq := hA s u hs hu rfl rfl c35 c43 c62 ⟨c73, c85⟩ a b c ea eb ec (by omega) (by omega)
                rw [ta, tb, tc]
                exact hq
              · refine aw_if_ne (tgt := 94) dX5_copy_88 (by decide) (fun zz => absurd zz (by decide)) (fun _ => ?_)
                refine aw_bipush (v := -12) dX5_copy_91 (by decide) ?_
                refine aw_ireturn (ty := .int) dX5_copy_93 rfl rfl ?_
                exact hO s u hs hu rfl rfl c35 c43 c62 (fun zz => c85 zz.2)
            · refine aw_if_eq (tgt := 91) dX5_copy_76 (by decide) (fun _ => ?_) (fun zz => absurd zz (by decide))
              refine aw_bipush (v := -12) dX5_copy_91 (by decide) ?_
              refine aw_ireturn (ty := .int) dX5_copy_93 rfl rfl ?_
              exact hO s u hs hu rfl rfl c35 c43 c62 (fun zz => c73 zz.1)
          · refine aw_bipush (v := -13) dX5_copy_65 (by decide) ?_
            refine aw_ireturn (ty := .int) dX5_copy_67 rfl rfl ?_
            exact hT s u hs hu rfl rfl c35 c43 c62
    · refine aw_if_ne (tgt := 17) dX5_copy_11 (by decide) (fun zz => absurd zz (by decide)) (fun _ => ?_)
      refine aw_bipush (v := -2) dX5_copy_14 (by decide) ?_
      refine aw_ireturn (ty := .int) dX5_copy_16 rfl rfl ?_
      exact hB (fun zz => c8 zz.2)
  · refine aw_if_eq (tgt := 14) dX5_copy_4 (by decide) (fun _ => ?_) (fun zz => absurd zz (by decide))
    refine aw_bipush (v := -2) dX5_copy_14 (by decide) ?_
    refine aw_ireturn (ty := .int) dX5_copy_16 rfl rfl ?_
    exact hB (fun zz => c1 zz.1)
