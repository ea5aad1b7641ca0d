/-! ===== the class: house; the tape ===== -/
abbrev rgP (M : Mi) (a : Nat) (i k : Int32) : Prop := ¬ i < 0 ∧ ¬ k < 0 ∧ ¬ M a 2 < i ∧ ¬ M a 2 - i < k
abbrev rkP (x z : Int32) : Prop := (¬ x < 0 ∧ ¬ 5 < x) ∧ (¬ z < 0 ∧ ¬ 9 < z)
def rdM (M : Mi) (m : Nat) (x z : Int32) : Mi := iU (iU (iU (iU M 15 m x) 16 m z) 17 m 0) 10 13 (nI (m + 1))
theorem rdM_row {M : Mi} {m : Nat} {x z : Int32} {b : Nat} (h : b ≠ 10 ∧ b ≠ 15 ∧ b ≠ 16 ∧ b ≠ 17) : rdM M m x z b = M b := by
  funext j
  unfold rdM
  rw [iU_at (fun w => h.1 w.1), iU_at (fun w => h.2.2.2 w.1), iU_at (fun w => h.2.2.1 w.1), iU_at (fun w => h.2.1 w.1)]
def hoF (a : Nat) (fr : Int32) : Nat → Nat → Int32 → Nat → Mi → Int32 × Mi
  | 0, _, c, _, M => (c, M)
  | n + 1, k, c, m, M =>
    if rgP M a (fr + 2 * nI k) 2 then
      (if rkP (M (a + 1) (fr + 2 * nI k).toNatClampNeg) (M (a + 1) ((fr + 2 * nI k).toNatClampNeg + 1)) ∧ m < 5 then hoF a fr n (k + 1) (c + 1) (m + 1) (rdM M m (M (a + 1) (fr + 2 * nI k).toNatClampNeg) (M (a + 1) ((fr + 2 * nI k).toNatClampNeg + 1)))
       else hoF a fr n (k + 1) c m M)
    else (-12, M)
theorem l_X5_house {E : Ev} {d : Nat} {L : Ml} {Z : Mz} {Q : Po} {s N z : Nat} {fr : Int32} {xs xo : Option Value} (hG : GZ Z) (hs : s < 4) (hd : 5 ≤ d) (hN : N ≤ 5) (hz4 : z ≤ 40) : ∀ (n j : Nat) (c : Int32) (k0 : Nat) (M : Mi) (o8 : Option Value), j + n = N → k0 ≤ 5 → M 10 13 = nI k0 → M (38 + 2 * s) 2 = nI z → (∀ (rv : Int32) (I9 : Mi), (rv, I9) = hoF (38 + 2 * s) fr n j c k0 M → Q (some (.int rv)) I9 L Z) → AW E yX5_house cX5_house 9 (some .int) (rmOf d 0 0) Q 0 0 66 [some (.ref 0), xs, xo, some (.int fr), some (.int (nI N)), some (.ref (38 + 2 * s)), some (.int c), some (.int (nI j)), o8] [] M L Z := by
  intro n
  induction n with
  | zero =>
    intro j c k0 M o8 hj hk5 hk0 hsz hQ
    refine aw_iload dX5_house_66 rfl ?_
    refine aw_iload dX5_house_68 rfl ?_
    refine aw_icmp_ge (tgt := 129) dX5_house_70 (by decide) (fun c70 => ?_) (fun zz => absurd (by rw [show j = N by omega]; exact Int32.le_refl _) zz)
    refine aw_iload dX5_house_129 rfl ?_
    refine aw_ireturn (ty := .int) dX5_house_131 rfl rfl ?_
    exact hQ _ _ rfl
  | succ n ih =>
    intro j c k0 M o8 hj hk5 hk0 hsz hQ
    refine aw_iload dX5_house_66 rfl ?_
    refine aw_iload dX5_house_68 rfl ?_
    refine aw_icmp_ge (tgt := 129) dX5_house_70 (by decide) (fun zz => absurd zz (nI_ge (by omega) (by omega))) (fun c70 => ?_)
    refine aw_iload_n dX5_house_73 rfl ?_
    refine aw_iconst (v := 2) dX5_house_74 (by decide) ?_
    refine aw_iload dX5_house_75 rfl ?_
    refine aw_imul dX5_house_77 ?_
    refine aw_iadd dX5_house_78 ?_
    refine aw_istore (ls' := [_, _, _, _, _, _, _, _, _]) dX5_house_79 (by decide) rfl rfl ?_
    refine aw_aload dX5_house_81 rfl rfl ?_
    refine aw_iload dX5_house_83 rfl ?_
    refine aw_iconst (v := 2) dX5_house_85 (by decide) ?_
    refine aw_V2 dX5_house_86 cw_X5_266 ⟨_, _, rfl⟩ (hG.2.2.2.2.2.2.2.2.1 s hs).2.1 (by omega) ⟨Nat.le_refl _, Nat.le_refl _⟩ (by decide) (c_X2_hasRange (hG.2.2.2.2.2.2.2.2.1 s hs).2 (fun c86 => ?_) (fun c86 => ?_))
    · refine aw_if_ne (tgt := 95) dX5_house_89 (by decide) (fun _ => ?_) (fun zz => absurd zz (by decide))
      obtain ⟨i, i2, ei, e2, hi⟩ := rng_ok hsz hz4 c86
      have e22 : i2 = 2 := ((nI_eq (a := i2) (b := 2) (by omega) (by decide)).mp e2.symm)
      subst e22
      have et : (fr + 2 * nI j).toNatClampNeg = i := by rw [ei]; exact nI_clamp (by omega)
      refine aw_aload_n dX5_house_95 rfl rfl ?_
      refine aw_aload dX5_house_96 rfl rfl ?_
      refine aw_gr dX5_house_98 fw_X5_269 (hG.2.2.2.2.2.2.2.2.1 s hs).2.1 (hG.2.2.2.2.2.2.2.2.1 s hs).2.2.1 ?_
      refine aw_iload dX5_house_101 rfl ?_
      refine aw_ia i dX5_house_103 (hG.2.2.2.2.2.2.2.2.1 s hs).2.2.2 ei (by omega) (by decide) ?_
      refine aw_aload dX5_house_104 rfl rfl ?_
      refine aw_gr dX5_house_106 fw_X5_269 (hG.2.2.2.2.2.2.2.2.1 s hs).2.1 (hG.2.2.2.2.2.2.2.2.1 s hs).2.2.1 ?_
      refine aw_iload dX5_house_109 rfl ?_
      refine aw_iconst (v := 1) dX5_house_111 (by decide) ?_
      refine aw_iadd dX5_house_112 ?_
      refine aw_ia (i + 1) dX5_house_113 (hG.2.2.2.2.2.2.2.2.1 s hs).2.2.2 (by rw [ei]; exact nI_1 i) (by omega) (by decide) ?_
      refine aw_V2 dX5_house_114 cw_X5_278 ⟨_, _, rfl⟩ hG.1 (by omega) ⟨Nat.le_refl _, Nat.le_refl _⟩ (by decide) (c_X5_reader (n := k0) (by omega) hG hk0 hk5 (fun cR => ?_) (fun cR eM => ?_) (fun cR eM => ?_))
      · refine aw_if_lt (tgt := 123) dX5_house_117 (by decide) (fun _ => ?_) (fun zz => absurd zz (by decide))
        refine aw_iinc (v := nI (j + 1)) (ls' := [_, _, _, _, _, _, _, _, _]) dX5_house_123 rfl (nI_1 j) (by decide) rfl rfl ?_
        refine aw_goto (tgt := 66) dX5_house_126 (by decide) ?_
        refine ih (j + 1) c k0 M _ (by omega) hk5 hk0 hsz (fun rv I9 e0 => hQ rv I9 ?_)
        rw [e0]
        simp only [hoF]
        rw [if_pos c86, et, if_neg (fun zz => cR zz.1)]
      · refine aw_if_lt (tgt := 123) dX5_house_117 (by decide) (fun _ => ?_) (fun zz => absurd zz (by decide))
        refine aw_iinc (v := nI (j + 1)) (ls' := [_, _, _, _, _, _, _, _, _]) dX5_house_123 rfl (nI_1 j) (by decide) rfl rfl ?_
        refine aw_goto (tgt := 66) dX5_house_126 (by decide) ?_
        refine ih (j + 1) c k0 M _ (by omega) hk5 hk0 hsz (fun rv I9 e0 => hQ rv I9 ?_)
        rw [e0]
        simp only [hoF]
        rw [if_pos c86, et, if_neg (fun zz => absurd zz.2 (by omega))]
      · refine aw_if_lt (tgt := 123) dX5_house_117 (by decide) (fun zz => absurd zz (nI_pos (by omega))) (fun c117 => ?_)
        refine aw_iinc (v := (c + 1)) (ls' := [_, _, _, _, _, _, _, _, _]) dX5_house_120 rfl rfl (by decide) rfl rfl ?_
        refine aw_iinc (v := nI (j + 1)) (ls' := [_, _, _, _, _, _, _, _, _]) dX5_house_123 rfl (nI_1 j) (by decide) rfl rfl ?_
        refine aw_goto (tgt := 66) dX5_house_126 (by decide) ?_
        refine ih (j + 1) (c + 1) (k0 + 1) (rdM M k0 (M (38 + 2 * s + 1) i) (M (38 + 2 * s + 1) (i + 1))) _ (by omega) (by omega) (by rw [show rdM M k0 _ _ 10 13 = nI (k0 + 1) from iU_same]) (by rw [rdM_row (by omega)]; exact hsz) (fun rv I9 e0 => hQ rv I9 ?_)
        rw [e0]
        simp only [hoF]
        rw [if_pos c86, et, if_pos ⟨cR, eM⟩]
    · refine aw_if_ne (tgt := 95) dX5_house_89 (by decide) (fun zz => absurd zz (by decide)) (fun _ => ?_)
      refine aw_bipush (v := -12) dX5_house_92 (by decide) ?_
      refine aw_ireturn (ty := .int) dX5_house_94 rfl rfl ?_
      refine hQ _ _ ?_
      simp only [hoF]
      rw [if_neg c86]
theorem c_X5_house {E : Ev} {d : Nat} {I : Mi} {L : Ml} {Z : Mz} {Q : Po} {x : Int32} {y : Int32} {fr : Int32} {k : Int32} {m : Nat} (hd : 5 ≤ d) (hG : GZ Z) (hm : I 10 13 = nI m) (hm5 : m ≤ 5) (hz : ∀ s, s < 4 → ∃ z, z ≤ 40 ∧ I (38 + 2 * s) 2 = nI z) (hB : ¬ ((¬ x < 0 ∧ ¬ 3 < x) ∧ (¬ y < 0 ∧ ¬ 2 < y) ∧ (¬ k < 0 ∧ ¬ 5 < k)) → Q (some (.int (-2))) I L Z) (hM : ∀ s, s < 4 → x = nI s → (¬ y < 0 ∧ ¬ 2 < y) ∧ (¬ k < 0 ∧ ¬ 5 < k) → I (38 + 2 * s) 1 = -1 → Q (some (.int (-11))) I L Z) (hT : ∀ s, s < 4 → x = nI s → (¬ y < 0 ∧ ¬ 2 < y) ∧ (¬ k < 0 ∧ ¬ 5 < k) → ¬ I (38 + 2 * s) 1 = -1 → ¬ I (38 + 2 * s) 1 = y → Q (some (.int (-13))) I L Z) (hS : ∀ s N, s < 4 → N ≤ 5 → x = nI s → k = nI N → (¬ y < 0 ∧ ¬ 2 < y) → ¬ I (38 + 2 * s) 1 = -1 → I (38 + 2 * s) 1 = y → ∀ (rv : Int32) (I9 : Mi), (rv, I9) = hoF (38 + 2 * s) fr N 0 0 m I → Q (some (.int rv)) I9 L Z) : AC E yX5_house cX5_house 9 (some .int) d 0 0 [.ref 0, .int x, .int y, .int fr, .int k] I L Z Q := by
  refine ac_go (ls := [some (.ref 0), some (.int x), some (.int y), some (.int fr), some (.int k), none, none, none, none]) (by decide +kernel) (Nat.le_of_ble_eq_true rfl) rfl ?_
  refine aw_iload_n dX5_house_0 rfl ?_
  refine aw_S1 dX5_house_1 cw_X5_214 (by omega) ⟨Nat.le_refl _, Nat.le_refl _⟩ (by decide) (c_X5_isSheet (by omega) (fun c1 => ?_) (fun c1 => ?_))
  · refine aw_if_eq (tgt := 26) dX5_house_4 (by decide) (fun zz => absurd zz (by decide)) (fun _ => ?_)
    refine aw_iload_n dX5_house_7 rfl ?_
    refine aw_iconst (v := 0) dX5_house_8 (by decide) ?_
    refine aw_iconst (v := 2) dX5_house_9 (by decide) ?_
    refine aw_S3 dX5_house_10 cw_X5_72 (by omega) ⟨Nat.le_refl _, Nat.le_refl _⟩ (by decide) (c_X5_within (fun c10 => ?_) (fun c10 => ?_))
    · refine aw_if_eq (tgt := 26) dX5_house_13 (by decide) (fun zz => absurd zz (by decide)) (fun _ => ?_)
      refine aw_iload dX5_house_16 rfl ?_
      refine aw_iconst (v := 0) dX5_house_18 (by decide) ?_
      refine aw_iconst (v := 5) dX5_house_19 (by decide) ?_
      refine aw_S3 dX5_house_20 cw_X5_72 (by omega) ⟨Nat.le_refl _, Nat.le_refl _⟩ (by decide) (c_X5_within (fun c20 => ?_) (fun c20 => ?_))
      · refine aw_if_ne (tgt := 29) dX5_house_23 (by decide) (fun _ => ?_) (fun zz => absurd zz (by decide))
        obtain ⟨s, hs, rfl⟩ := sh4 c1
        refine aw_aload_n dX5_house_29 rfl rfl ?_
        refine aw_gr dX5_house_30 fw_X5_40 hG.1 hG.2.2.2.2.2.2.1 ?_
        refine aw_iload_n dX5_house_33 rfl ?_
        refine aw_ar s dX5_house_34 hG.2.2.2.2.2.2.2.1 rfl hs (by decide) (hG.2.2.2.2.2.2.2.2.1 s hs).1 ?_
        refine aw_astore (ls' := [_, _, _, _, _, _, _, _, _]) dX5_house_35 (by decide) rfl rfl rfl ?_
        refine aw_aload dX5_house_37 rfl rfl ?_
        refine aw_V0 dX5_house_39 cw_X5_217 ⟨_, _, rfl⟩ (hG.2.2.2.2.2.2.2.2.1 s hs).2.1 (by omega) ⟨Nat.le_refl _, Nat.le_refl _⟩ (by decide) (c_X2_isMissing (hG.2.2.2.2.2.2.2.2.1 s hs).2 (fun c39 => ?_) (fun c39 => ?_))
        · refine aw_if_eq (tgt := 48) dX5_house_42 (by decide) (fun zz => absurd zz (by decide)) (fun _ => ?_)
          refine aw_bipush (v := -11) dX5_house_45 (by decide) ?_
          refine aw_ireturn (ty := .int) dX5_house_47 rfl rfl ?_
          exact hM s hs rfl ⟨c10, c20⟩ c39
        · refine aw_if_eq (tgt := 48) dX5_house_42 (by decide) (fun _ => ?_) (fun zz => absurd zz (by decide))
          refine aw_aload dX5_house_48 rfl rfl ?_
          refine aw_gi dX5_house_50 fw_X5_263 (hG.2.2.2.2.2.2.2.2.1 s hs).2.1 ?_
          refine aw_iload_n dX5_house_53 rfl ?_
          refine aw_icmp_eq (tgt := 60) dX5_house_54 (by decide) (fun c54 => ?_) (fun c54 => ?_)
          · refine aw_iconst (v := 0) dX5_house_60 (by decide) ?_
            refine aw_istore (ls' := [_, _, _, _, _, _, _, _, _]) dX5_house_61 (by decide) rfl rfl ?_
            refine aw_iconst (v := 0) dX5_house_63 (by decide) ?_
            refine aw_istore (ls' := [_, _, _, _, _, _, _, _, _]) dX5_house_64 (by decide) rfl rfl ?_
            obtain ⟨N, hN, rfl⟩ := nI_of2 (M := 5) (n := 5) (by decide) c20.1 (Int32.not_lt.mp c20.2)
            obtain ⟨z, hz4, hsz⟩ := hz s hs
            exact l_X5_house hG hs hd hN hz4 N 0 0 m I _ (by omega) hm5 hm hsz (hS s N hs hN rfl rfl c10 c39 c54)
          · refine aw_bipush (v := -13) dX5_house_57 (by decide) ?_
            refine aw_ireturn (ty := .int) dX5_house_59 rfl rfl ?_
            exact hT s hs rfl ⟨c10, c20⟩ c39 c54
      · refine aw_if_ne (tgt := 29) dX5_house_23 (by decide) (fun zz => absurd zz (by decide)) (fun _ => ?_)
        refine aw_bipush (v := -2) dX5_house_26 (by decide) ?_
        refine aw_ireturn (ty := .int) dX5_house_28 rfl rfl ?_
        exact hB (fun zz => c20 zz.2.2)
    · refine aw_if_eq (tgt := 26) dX5_house_13 (by decide) (fun _ => ?_) (fun zz => absurd zz (by decide))
      refine aw_bipush (v := -2) dX5_house_26 (by decide) ?_
      refine aw_ireturn (ty := .int) dX5_house_28 rfl rfl ?_
      exact hB (fun zz => c10 zz.2.1)
  · refine aw_if_eq (tgt := 26) dX5_house_4 (by decide) (fun _ => ?_) (fun zz => absurd zz (by decide))
    refine aw_bipush (v := -2) dX5_house_26 (by decide) ?_
    refine aw_ireturn (ty := .int) dX5_house_28 rfl rfl ?_
    exact hB (fun zz => c1 zz.1)
theorem c_X1_clear {E : Ev} {d : Nat} {I : Mi} {L : Ml} {Z : Mz} {Q : Po}   (hC : ScZ Z) (hQ : Q none (iU I 4 1 0) L Z) : AC E yX1_clear cX1_clear 1 none d 0 0 [.ref 4] I L Z Q := by
  refine ac_go (ls := [some (.ref 4)]) (by decide +kernel) (Nat.le_of_ble_eq_true rfl) rfl ?_
  refine aw_aload_n dX1_clear_0 rfl rfl ?_
  refine aw_iconst (v := 0) dX1_clear_1 (by decide) ?_
  refine aw_pi dX1_clear_2 fw_X1_27 (ww_X1_27 _) hC.1 rfl ?_
  refine aw_return dX1_clear_5 rfl ?_
  exact hQ
theorem c_X1_put {E : Ev} {d : Nat} {I : Mi} {L : Ml} {Z : Mz} {Q : Po} {x : Int32} {n : Nat} (hC : ScZ Z) (hn : I 4 1 = nI n) (hl : n ≤ 160) (hFl : n = 160 → Q (some (.int (-4))) I L Z) (hA : n < 160 → Q (some (.int (nI (n + 1)))) (iU (iU I 5 n x) 4 1 (nI (n + 1))) L Z) : AC E yX1_put cX1_put 2 (some .int) d 0 0 [.ref 4, .int x] I L Z Q := by
  refine ac_go (ls := [some (.ref 4), some (.int x)]) (by decide +kernel) (Nat.le_of_ble_eq_true rfl) rfl ?_
  have hlt : I 4 1 < 160 ↔ n < 160 := by rw [hn]; exact nI_ltI (b := 160) (by omega) (by decide)
  refine aw_aload_n dX1_put_0 rfl rfl ?_
  refine aw_gi dX1_put_1 fw_X1_27 hC.1 ?_
  refine aw_sipush (v := 160) dX1_put_4 (by decide) ?_
  refine aw_icmp_lt (tgt := 13) dX1_put_7 (by decide) (fun c7 => ?_) (fun c7 => ?_)
  · refine aw_aload_n dX1_put_13 rfl rfl ?_
    refine aw_gr dX1_put_14 fw_X1_9 hC.1 hC.2.1 ?_
    refine aw_aload_n dX1_put_17 rfl rfl ?_
    refine aw_gi dX1_put_18 fw_X1_27 hC.1 ?_
    refine aw_iload_n dX1_put_21 rfl ?_
    refine aw_is n dX1_put_22 hC.2.2.2.2.2.2.1 hn (hlt.mp c7) (by decide) ?_
    refine aw_aload_n dX1_put_23 rfl rfl ?_
    refine aw_dup dX1_put_24 rfl ?_
    refine aw_gi dX1_put_25 fw_X1_27 hC.1 ?_
    refine aw_iconst (v := 1) dX1_put_28 (by decide) ?_
    refine aw_iadd dX1_put_29 ?_
    refine aw_pi dX1_put_30 fw_X1_27 (ww_X1_27 _) hC.1 rfl ?_
    refine aw_aload_n dX1_put_33 rfl rfl ?_
    refine aw_gi dX1_put_34 fw_X1_27 hC.1 ?_
    refine aw_ireturn (ty := .int) dX1_put_37 rfl rfl ?_
    have e : (iU I 5 n x) 4 1 = nI n := by rw [iU_at (by omega)]; exact hn
    rw [iU_same, e, nI_1 n]
    exact hA (hlt.mp c7)
  · refine aw_bipush (v := -4) dX1_put_10 (by decide) ?_
    refine aw_ireturn (ty := .int) dX1_put_12 rfl rfl ?_
    exact hFl (Nat.le_antisymm hl (Nat.not_lt.mp (fun z => c7 (hlt.mpr z))))
theorem c_X5_feed {E : Ev} {d : Nat} {I : Mi} {L : Ml} {Z : Mz} {Q : Po} {x : Int32} {n : Nat} (hd : 2 ≤ d) (hG : GZ Z) (hn : I 4 1 = nI n) (hl : n ≤ 160) (hB : ¬ (¬ x < 0 ∧ ¬ 255 < x) → Q (some (.int (-2))) I L Z) (hFl : (¬ x < 0 ∧ ¬ 255 < x) → n = 160 → Q (some (.int (-4))) I L Z) (hA : (¬ x < 0 ∧ ¬ 255 < x) → n < 160 → Q (some (.int (nI (n + 1)))) (iU (iU I 5 n x) 4 1 (nI (n + 1))) L Z) : AC E yX5_feed cX5_feed 2 (some .int) d 0 0 [.ref 0, .int x] I L Z Q := by
  refine ac_go (ls := [some (.ref 0), some (.int x)]) (by decide +kernel) (Nat.le_of_ble_eq_true rfl) rfl ?_
  refine aw_iload_n dX5_feed_0 rfl ?_
  refine aw_iconst (v := 0) dX5_feed_1 (by decide) ?_
  refine aw_sipush (v := 255) dX5_feed_2 (by decide) ?_
  refine aw_S3 dX5_feed_5 cw_X5_72 (by omega) ⟨Nat.le_refl _, Nat.le_refl _⟩ (by decide) (c_X5_within (fun c5 => ?_) (fun c5 => ?_))
  · refine aw_if_ne (tgt := 14) dX5_feed_8 (by decide) (fun _ => ?_) (fun zz => absurd zz (by decide))
    refine aw_aload_n dX5_feed_14 rfl rfl ?_
    refine aw_gr dX5_feed_15 fw_X5_19 hG.1 hG.2.2.1 ?_
    refine aw_iload_n dX5_feed_18 rfl ?_
    refine aw_V1 dX5_feed_19 cw_X5_57 ⟨_, _, rfl⟩ hG.2.2.2.2.2.2.2.2.2.2.2.2.2.1 (by omega) ⟨Nat.le_refl _, Nat.le_refl _⟩ (by decide) (c_X1_put hG.2.2.2.2.2.2.2.2.2.2.2.2.2 hn hl (fun e => ?_) (fun e => ?_))
    · refine aw_ireturn (ty := .int) dX5_feed_22 rfl rfl ?_
      exact hFl c5 e
    · refine aw_ireturn (ty := .int) dX5_feed_22 rfl rfl ?_
      exact hA c5 e
  · refine aw_if_ne (tgt := 14) dX5_feed_8 (by decide) (fun zz => absurd zz (by decide)) (fun _ => ?_)
    refine aw_bipush (v := -2) dX5_feed_11 (by decide) ?_
    refine aw_ireturn (ty := .int) dX5_feed_13 rfl rfl ?_
    exact hB c5
