/-! ===== the class: sees, read ===== -/
theorem c_X5_sees0 {E : Ev} {d : Nat} {I : Mi} {L : Ml} {Z : Mz} {Q : Po} {x : Int32} {z : Int32} {ru t q mm ma mb n m : Nat} (hd : 5 ≤ d) (hG : GZ Z) (hR : RD I Z 10 ru t q mm ma mb n) (hm : I 10 13 = nI m) (hm5 : m ≤ 5) (hB : ¬ ((∃ j, j < m ∧ x = nI j) ∧ (∃ j, j < n ∧ z = nI j)) → Q (some (.int (-2))) I L Z) (hS : ∀ p c, p < m → c < n → x = nI p → z = nI c → ∀ (rv : Int32) (I9 : Mi), SamH 10 I I9 → rv = seV (I 15 p) (I 16 p) (I 11 c) (rlC I 10 q ma mb mm 0 p c) → Q (some (.int rv)) I9 L Z) : AC E yX5_sees cX5_sees 4 (some .int) d 0 0 [.ref 0, .int x, .int z, .int 0] I L Z Q := by
  refine ac_go (ls := [some (.ref 0), some (.int x), some (.int z), some (.int 0)]) (by decide +kernel) (Nat.le_of_ble_eq_true rfl) rfl ?_
  refine aw_aload_n dX5_sees_0 rfl rfl ?_
  refine aw_gr dX5_sees_1 fw_X5_28 hG.1 hG.2.2.2.1 ?_
  refine aw_iload_n dX5_sees_4 rfl ?_
  refine aw_V1 dX5_sees_5 cw_X5_117 ⟨_, _, rfl⟩ hG.2.2.2.2.2.2.2.2.2.1.1 (by omega) ⟨Nat.le_refl _, Nat.le_refl _⟩ (by decide) (c_X0_hasReader hG.2.2.2.2.2.2.2.2.2.1 (fun c5 => ?_) (fun c5 => ?_))
  · refine aw_if_eq (tgt := 31) dX5_sees_8 (by decide) (fun zz => absurd zz (by decide)) (fun _ => ?_)
    refine aw_aload_n dX5_sees_11 rfl rfl ?_
    refine aw_gr dX5_sees_12 fw_X5_28 hG.1 hG.2.2.2.1 ?_
    refine aw_iload_n dX5_sees_15 rfl ?_
    refine aw_V1 dX5_sees_16 cw_X5_120 ⟨_, _, rfl⟩ hG.2.2.2.2.2.2.2.2.2.1.1 (by omega) ⟨Nat.le_refl _, Nat.le_refl _⟩ (by decide) (c_X0_hasCup hG.2.2.2.2.2.2.2.2.2.1 (fun c16 => ?_) (fun c16 => ?_))
    · refine aw_if_eq (tgt := 31) dX5_sees_19 (by decide) (fun zz => absurd zz (by decide)) (fun _ => ?_)
      have hn6 := hR.2.2.2.2.1
      obtain ⟨p, hp, rfl⟩ := (ix_iff hm (by omega)).mp c5
      obtain ⟨c, hc, rfl⟩ := (ix_iff hR.2.2.2.1 (by have := hR.2.2.2.2.1; omega)).mp c16
      refine aw_iload_n dX5_sees_22 rfl ?_
      refine aw_iconst (v := 0) dX5_sees_23 (by decide) ?_
      refine aw_iconst (v := 2) dX5_sees_24 (by decide) ?_
      refine aw_S3 dX5_sees_25 cw_X5_72 (by omega) ⟨Nat.le_refl _, Nat.le_refl _⟩ (by decide) (c_X5_within (fun _ => ?_) (fun zz => absurd (by decide) zz))
      refine aw_if_ne (tgt := 34) dX5_sees_28 (by decide) (fun _ => ?_) (fun zz => absurd zz (by decide))
      refine aw_iload_n dX5_sees_34 rfl ?_
      refine aw_if_ne (tgt := 66) dX5_sees_35 (by decide) (fun zz => absurd zz (by decide)) (fun _ => ?_)
      refine aw_aload_n dX5_sees_38 rfl rfl ?_
      refine aw_gr dX5_sees_39 fw_X5_28 hG.1 hG.2.2.2.1 ?_
      refine aw_iload_n dX5_sees_42 rfl ?_
      refine aw_aload_n dX5_sees_43 rfl rfl ?_
      refine aw_gr dX5_sees_44 fw_X5_28 hG.1 hG.2.2.2.1 ?_
      refine aw_gr dX5_sees_47 fw_X5_123 hG.2.2.2.2.2.2.2.2.2.1.1 hG.2.2.2.2.2.2.2.2.2.1.2.2.1 ?_
      refine aw_iload_n dX5_sees_50 rfl ?_
      refine aw_ia c dX5_sees_51 hG.2.2.2.2.2.2.2.2.2.1.2.2.2.2.2.2.2.2.2.2.1 rfl (by omega) (by decide) ?_
      refine aw_aload_n dX5_sees_52 rfl rfl ?_
      refine aw_gr dX5_sees_53 fw_X5_28 hG.1 hG.2.2.2.1 ?_
      refine aw_iconst (v := 0) dX5_sees_56 (by decide) ?_
      refine aw_iload_n dX5_sees_57 rfl ?_
      refine aw_iload_n dX5_sees_58 rfl ?_
      refine aw_V3 dX5_sees_59 cw_X5_127 ⟨_, _, rfl⟩ hG.2.2.2.2.2.2.2.2.2.1.1 (by omega) ⟨Nat.le_refl _, Nat.le_refl _⟩ (by simp [Value.category, psh]) (c_X0_ruled0 (by omega) hR.1 hR.2.1 hR.2.2.1 (show p < 5 by omega) hR.2.2.2.1 hR.2.2.2.2.1 hc (by decide) (fun r59 I59 h59 e59 => ?_))
      refine aw_V3 dX5_sees_62 cw_X5_131 ⟨_, _, rfl⟩ hG.2.2.2.2.2.2.2.2.2.1.1 (by omega) ⟨Nat.le_refl _, Nat.le_refl _⟩ (by decide) (c_X0_seen (by omega) hG.2.2.2.2.2.2.2.2.2.1 (show p < 5 by omega) (fun r62 e62 => ?_))
      refine aw_ireturn (ty := .int) dX5_sees_65 rfl rfl ?_
      refine hS p c hp hc rfl rfl _ _ h59 ?_
      rw [e62, e59, h59 15 (by decide) (by decide), h59 16 (by decide) (by decide)]
    · refine aw_if_eq (tgt := 31) dX5_sees_19 (by decide) (fun _ => ?_) (fun zz => absurd zz (by decide))
      refine aw_bipush (v := -2) dX5_sees_31 (by decide) ?_
      refine aw_ireturn (ty := .int) dX5_sees_33 rfl rfl ?_
      exact hB (fun zz => c16 ((ix_iff hR.2.2.2.1 (by have := hR.2.2.2.2.1; omega)).mpr zz.2))
  · refine aw_if_eq (tgt := 31) dX5_sees_8 (by decide) (fun _ => ?_) (fun zz => absurd zz (by decide))
    refine aw_bipush (v := -2) dX5_sees_31 (by decide) ?_
    refine aw_ireturn (ty := .int) dX5_sees_33 rfl rfl ?_
    exact hB (fun zz => c5 ((ix_iff hm (by omega)).mpr zz.1))
theorem c_X5_sees1 {E : Ev} {d : Nat} {I : Mi} {L : Ml} {Z : Mz} {Q : Po} {x : Int32} {z : Int32} {ru t q mm ma mb n m : Nat} (hd : 5 ≤ d) (hG : GZ Z) (hR : RD I Z 10 ru t q mm ma mb n) (hm : I 10 13 = nI m) (hm5 : m ≤ 5) (hB : ¬ ((∃ j, j < m ∧ x = nI j) ∧ (∃ j, j < n ∧ z = nI j)) → Q (some (.int (-2))) I L Z) (hS : ∀ p c, p < m → c < n → x = nI p → z = nI c → ∀ (rv : Int32) (I9 : Mi), SamH 10 I I9 → rv = ovV (I 15 p) (I 16 p) (I 10 2) (rlC I 10 q ma mb mm 1 p c) → Q (some (.int rv)) I9 L Z) : AC E yX5_sees cX5_sees 4 (some .int) d 0 0 [.ref 0, .int x, .int z, .int 1] I L Z Q := by
  refine ac_go (ls := [some (.ref 0), some (.int x), some (.int z), some (.int 1)]) (by decide +kernel) (Nat.le_of_ble_eq_true rfl) rfl ?_
  refine aw_aload_n dX5_sees_0 rfl rfl ?_
  refine aw_gr dX5_sees_1 fw_X5_28 hG.1 hG.2.2.2.1 ?_
  refine aw_iload_n dX5_sees_4 rfl ?_
  refine aw_V1 dX5_sees_5 cw_X5_117 ⟨_, _, rfl⟩ hG.2.2.2.2.2.2.2.2.2.1.1 (by omega) ⟨Nat.le_refl _, Nat.le_refl _⟩ (by decide) (c_X0_hasReader hG.2.2.2.2.2.2.2.2.2.1 (fun c5 => ?_) (fun c5 => ?_))
  · refine aw_if_eq (tgt := 31) dX5_sees_8 (by decide) (fun zz => absurd zz (by decide)) (fun _ => ?_)
    refine aw_aload_n dX5_sees_11 rfl rfl ?_
    refine aw_gr dX5_sees_12 fw_X5_28 hG.1 hG.2.2.2.1 ?_
    refine aw_iload_n dX5_sees_15 rfl ?_
    refine aw_V1 dX5_sees_16 cw_X5_120 ⟨_, _, rfl⟩ hG.2.2.2.2.2.2.2.2.2.1.1 (by omega) ⟨Nat.le_refl _, Nat.le_refl _⟩ (by decide) (c_X0_hasCup hG.2.2.2.2.2.2.2.2.2.1 (fun c16 => ?_) (fun c16 => ?_))
    · refine aw_if_eq (tgt := 31) dX5_sees_19 (by decide) (fun zz => absurd zz (by decide)) (fun _ => ?_)
      have hn6 := hR.2.2.2.2.1
      obtain ⟨p, hp, rfl⟩ := (ix_iff hm (by omega)).mp c5
      obtain ⟨c, hc, rfl⟩ := (ix_iff hR.2.2.2.1 (by have := hR.2.2.2.2.1; omega)).mp c16
      refine aw_iload_n dX5_sees_22 rfl ?_
      refine aw_iconst (v := 0) dX5_sees_23 (by decide) ?_
      refine aw_iconst (v := 2) dX5_sees_24 (by decide) ?_
      refine aw_S3 dX5_sees_25 cw_X5_72 (by omega) ⟨Nat.le_refl _, Nat.le_refl _⟩ (by decide) (c_X5_within (fun _ => ?_) (fun zz => absurd (by decide) zz))
      refine aw_if_ne (tgt := 34) dX5_sees_28 (by decide) (fun _ => ?_) (fun zz => absurd zz (by decide))
      refine aw_iload_n dX5_sees_34 rfl ?_
      refine aw_if_ne (tgt := 66) dX5_sees_35 (by decide) (fun _ => ?_) (fun zz => absurd zz (by decide))
      refine aw_iload_n dX5_sees_66 rfl ?_
      refine aw_iconst (v := 1) dX5_sees_67 (by decide) ?_
      refine aw_icmp_ne (tgt := 92) dX5_sees_68 (by decide) (fun zz => absurd zz (by decide)) (fun _ => ?_)
      refine aw_aload_n dX5_sees_71 rfl rfl ?_
      refine aw_gr dX5_sees_72 fw_X5_28 hG.1 hG.2.2.2.1 ?_
      refine aw_iload_n dX5_sees_75 rfl ?_
      refine aw_aload_n dX5_sees_76 rfl rfl ?_
      refine aw_gr dX5_sees_77 fw_X5_28 hG.1 hG.2.2.2.1 ?_
      refine aw_iconst (v := 1) dX5_sees_80 (by decide) ?_
      refine aw_iload_n dX5_sees_81 rfl ?_
      refine aw_iload_n dX5_sees_82 rfl ?_
      refine aw_V3 dX5_sees_83 cw_X5_127 ⟨_, _, rfl⟩ hG.2.2.2.2.2.2.2.2.2.1.1 (by omega) ⟨Nat.le_refl _, Nat.le_refl _⟩ (by simp [Value.category, psh]) (c_X0_ruled1 (by omega) hR.1 hR.2.1 hR.2.2.1 (show p < 5 by omega) hR.2.2.2.1 hR.2.2.2.2.1 hc (by decide) (fun r83 I83 h83 e83 => ?_))
      refine aw_V2 dX5_sees_86 cw_X5_134 ⟨_, _, rfl⟩ hG.2.2.2.2.2.2.2.2.2.1.1 (by omega) ⟨Nat.le_refl _, Nat.le_refl _⟩ (by decide) (c_X0_overlooked (by omega) hG.2.2.2.2.2.2.2.2.2.1 (show p < 5 by omega) (fun r86 e86 => ?_))
      refine aw_goto (tgt := 101) dX5_sees_89 (by decide) ?_
      refine aw_ireturn (ty := .int) dX5_sees_101 rfl rfl ?_
      refine hS p c hp hc rfl rfl _ _ h83 ?_
      rw [e86, e83, h83 15 (by decide) (by decide), h83 16 (by decide) (by decide), h83 10 (by decide) (by decide)]
    · refine aw_if_eq (tgt := 31) dX5_sees_19 (by decide) (fun _ => ?_) (fun zz => absurd zz (by decide))
      refine aw_bipush (v := -2) dX5_sees_31 (by decide) ?_
      refine aw_ireturn (ty := .int) dX5_sees_33 rfl rfl ?_
      exact hB (fun zz => c16 ((ix_iff hR.2.2.2.1 (by have := hR.2.2.2.2.1; omega)).mpr zz.2))
  · refine aw_if_eq (tgt := 31) dX5_sees_8 (by decide) (fun _ => ?_) (fun zz => absurd zz (by decide))
    refine aw_bipush (v := -2) dX5_sees_31 (by decide) ?_
    refine aw_ireturn (ty := .int) dX5_sees_33 rfl rfl ?_
    exact hB (fun zz => c5 ((ix_iff hm (by omega)).mpr zz.1))
theorem c_X5_sees2 {E : Ev} {d : Nat} {I : Mi} {L : Ml} {Z : Mz} {Q : Po} {x : Int32} {z : Int32} {ru t q mm ma mb n m : Nat} (hd : 5 ≤ d) (hG : GZ Z) (hR : RD I Z 10 ru t q mm ma mb n) (hm : I 10 13 = nI m) (hm5 : m ≤ 5) (hB : ¬ ((∃ j, j < m ∧ x = nI j) ∧ (∃ j, j < n ∧ z = nI j)) → Q (some (.int (-2))) I L Z) (hS : ∀ p c, p < m → c < n → x = nI p → z = nI c → ∀ (rv : Int32) (I9 : Mi), SamH 10 I I9 → rv = rbV I 10 q ma mb mm p c → Q (some (.int rv)) I9 L Z) : AC E yX5_sees cX5_sees 4 (some .int) d 0 0 [.ref 0, .int x, .int z, .int 2] I L Z Q := by
  refine ac_go (ls := [some (.ref 0), some (.int x), some (.int z), some (.int 2)]) (by decide +kernel) (Nat.le_of_ble_eq_true rfl) rfl ?_
  refine aw_aload_n dX5_sees_0 rfl rfl ?_
  refine aw_gr dX5_sees_1 fw_X5_28 hG.1 hG.2.2.2.1 ?_
  refine aw_iload_n dX5_sees_4 rfl ?_
  refine aw_V1 dX5_sees_5 cw_X5_117 ⟨_, _, rfl⟩ hG.2.2.2.2.2.2.2.2.2.1.1 (by omega) ⟨Nat.le_refl _, Nat.le_refl _⟩ (by decide) (c_X0_hasReader hG.2.2.2.2.2.2.2.2.2.1 (fun c5 => ?_) (fun c5 => ?_))
  · refine aw_if_eq (tgt := 31) dX5_sees_8 (by decide) (fun zz => absurd zz (by decide)) (fun _ => ?_)
    refine aw_aload_n dX5_sees_11 rfl rfl ?_
    refine aw_gr dX5_sees_12 fw_X5_28 hG.1 hG.2.2.2.1 ?_
    refine aw_iload_n dX5_sees_15 rfl ?_
    refine aw_V1 dX5_sees_16 cw_X5_120 ⟨_, _, rfl⟩ hG.2.2.2.2.2.2.2.2.2.1.1 (by omega) ⟨Nat.le_refl _, Nat.le_refl _⟩ (by decide) (c_X0_hasCup hG.2.2.2.2.2.2.2.2.2.1 (fun c16 => ?_) (fun c16 => ?_))
    · refine aw_if_eq (tgt := 31) dX5_sees_19 (by decide) (fun zz => absurd zz (by decide)) (fun _ => ?_)
      have hn6 := hR.2.2.2.2.1
      obtain ⟨p, hp, rfl⟩ := (ix_iff hm (by omega)).mp c5
      obtain ⟨c, hc, rfl⟩ := (ix_iff hR.2.2.2.1 (by have := hR.2.2.2.2.1; omega)).mp c16
      refine aw_iload_n dX5_sees_22 rfl ?_
      refine aw_iconst (v := 0) dX5_sees_23 (by decide) ?_
      refine aw_iconst (v := 2) dX5_sees_24 (by decide) ?_
      refine aw_S3 dX5_sees_25 cw_X5_72 (by omega) ⟨Nat.le_refl _, Nat.le_refl _⟩ (by decide) (c_X5_within (fun _ => ?_) (fun zz => absurd (by decide) zz))
      refine aw_if_ne (tgt := 34) dX5_sees_28 (by decide) (fun _ => ?_) (fun zz => absurd zz (by decide))
      refine aw_iload_n dX5_sees_34 rfl ?_
      refine aw_if_ne (tgt := 66) dX5_sees_35 (by decide) (fun _ => ?_) (fun zz => absurd zz (by decide))
      refine aw_iload_n dX5_sees_66 rfl ?_
      refine aw_iconst (v := 1) dX5_sees_67 (by decide) ?_
      refine aw_icmp_ne (tgt := 92) dX5_sees_68 (by decide) (fun _ => ?_) (fun zz => absurd zz (by decide))
      refine aw_aload_n dX5_sees_92 rfl rfl ?_
      refine aw_gr dX5_sees_93 fw_X5_28 hG.1 hG.2.2.2.1 ?_
      refine aw_iload_n dX5_sees_96 rfl ?_
      refine aw_iload_n dX5_sees_97 rfl ?_
      refine aw_V2 dX5_sees_98 cw_X5_137 ⟨_, _, rfl⟩ hG.2.2.2.2.2.2.2.2.2.1.1 (by omega) ⟨Nat.le_refl _, Nat.le_refl _⟩ (by decide) (c_X0_readBy (by omega) hR (show p < 5 by omega) hc (fun r98 I98 h98 e98 => ?_))
      refine aw_ireturn (ty := .int) dX5_sees_101 rfl rfl ?_
      exact hS p c hp hc rfl rfl _ _ h98 e98
    · refine aw_if_eq (tgt := 31) dX5_sees_19 (by decide) (fun _ => ?_) (fun zz => absurd zz (by decide))
      refine aw_bipush (v := -2) dX5_sees_31 (by decide) ?_
      refine aw_ireturn (ty := .int) dX5_sees_33 rfl rfl ?_
      exact hB (fun zz => c16 ((ix_iff hR.2.2.2.1 (by have := hR.2.2.2.2.1; omega)).mpr zz.2))
  · refine aw_if_eq (tgt := 31) dX5_sees_8 (by decide) (fun _ => ?_) (fun zz => absurd zz (by decide))
    refine aw_bipush (v := -2) dX5_sees_31 (by decide) ?_
    refine aw_ireturn (ty := .int) dX5_sees_33 rfl rfl ?_
    exact hB (fun zz => c5 ((ix_iff hm (by omega)).mpr zz.1))
theorem c_X5_seesX {E : Ev} {d : Nat} {I : Mi} {L : Ml} {Z : Mz} {Q : Po} {x : Int32} {z : Int32} {w : Int32}  (hd : 5 ≤ d) (hG : GZ Z) (hw : ¬ (¬ w < 0 ∧ ¬ 2 < w)) (hB : Q (some (.int (-2))) I L Z) : AC E yX5_sees cX5_sees 4 (some .int) d 0 0 [.ref 0, .int x, .int z, .int w] I L Z Q := by
  refine ac_go (ls := [some (.ref 0), some (.int x), some (.int z), some (.int w)]) (by decide +kernel) (Nat.le_of_ble_eq_true rfl) rfl ?_
  refine aw_aload_n dX5_sees_0 rfl rfl ?_
  refine aw_gr dX5_sees_1 fw_X5_28 hG.1 hG.2.2.2.1 ?_
  refine aw_iload_n dX5_sees_4 rfl ?_
  refine aw_V1 dX5_sees_5 cw_X5_117 ⟨_, _, rfl⟩ hG.2.2.2.2.2.2.2.2.2.1.1 (by omega) ⟨Nat.le_refl _, Nat.le_refl _⟩ (by decide) (c_X0_hasReader hG.2.2.2.2.2.2.2.2.2.1 (fun c5 => ?_) (fun c5 => ?_))
  · refine aw_if_eq (tgt := 31) dX5_sees_8 (by decide) (fun zz => absurd zz (by decide)) (fun _ => ?_)
    refine aw_aload_n dX5_sees_11 rfl rfl ?_
    refine aw_gr dX5_sees_12 fw_X5_28 hG.1 hG.2.2.2.1 ?_
    refine aw_iload_n dX5_sees_15 rfl ?_
    refine aw_V1 dX5_sees_16 cw_X5_120 ⟨_, _, rfl⟩ hG.2.2.2.2.2.2.2.2.2.1.1 (by omega) ⟨Nat.le_refl _, Nat.le_refl _⟩ (by decide) (c_X0_hasCup hG.2.2.2.2.2.2.2.2.2.1 (fun c16 => ?_) (fun c16 => ?_))
    · refine aw_if_eq (tgt := 31) dX5_sees_19 (by decide) (fun zz => absurd zz (by decide)) (fun _ => ?_)
      refine aw_iload_n dX5_sees_22 rfl ?_
      refine aw_iconst (v := 0) dX5_sees_23 (by decide) ?_
      refine aw_iconst (v := 2) dX5_sees_24 (by decide) ?_
      refine aw_S3 dX5_sees_25 cw_X5_72 (by omega) ⟨Nat.le_refl _, Nat.le_refl _⟩ (by decide) (c_X5_within (fun zz => absurd zz hw) (fun c25 => ?_))
      refine aw_if_ne (tgt := 34) dX5_sees_28 (by decide) (fun zz => absurd zz (by decide)) (fun _ => ?_)
      refine aw_bipush (v := -2) dX5_sees_31 (by decide) ?_
      refine aw_ireturn (ty := .int) dX5_sees_33 rfl rfl ?_
      exact hB
    · refine aw_if_eq (tgt := 31) dX5_sees_19 (by decide) (fun _ => ?_) (fun zz => absurd zz (by decide))
      refine aw_bipush (v := -2) dX5_sees_31 (by decide) ?_
      refine aw_ireturn (ty := .int) dX5_sees_33 rfl rfl ?_
      exact hB
  · refine aw_if_eq (tgt := 31) dX5_sees_8 (by decide) (fun _ => ?_) (fun zz => absurd zz (by decide))
    refine aw_bipush (v := -2) dX5_sees_31 (by decide) ?_
    refine aw_ireturn (ty := .int) dX5_sees_33 rfl rfl ?_
    exact hB
theorem roM_sam {I I' : Mi} {h r p c : Nat} {v : Int32} (s : SamH h I I') (h3 : 3 < h) : SamH h (roM I h r p c v) (roM I' h r p c v) := by
  unfold roM
  rw [s (h + 2) (by omega) (by omega), s (h + 7) (by omega) (by omega), s h (by omega) (by omega)]
  by_cases hv : v = 0
  · rw [if_pos hv, if_pos hv]
    exact ((((s.up2 _ _ _).up2 _ _ _).up2 _ _ _).up2 _ _ _).up2 _ _ _
  · rw [if_neg hv, if_neg hv]
    exact (((s.up2 _ _ _).up2 _ _ _).up2 _ _ _).up2 _ _ _
theorem c_X5_read {E : Ev} {d : Nat} {I : Mi} {L : Ml} {Z : Mz} {Q : Po} {x : Int32} {z : Int32} {ru t q mm ma mb n m r : Nat} (hd : 5 ≤ d) (hG : GZ Z) (hR : RD I Z 10 ru t q mm ma mb n) (hm : I 10 13 = nI m) (hm5 : m ≤ 5) (hrn : I 10 9 = nI r) (hr : r ≤ 12) (hB : ¬ ((∃ j, j < m ∧ x = nI j) ∧ (∃ j, j < n ∧ z = nI j)) → Q (some (.int (-2))) I L Z) (hSt : ∀ p c, p < m → c < n → x = nI p → z = nI c → ∀ I9 : Mi, SamH 10 I I9 → (¬ sdP I 10 q ma mb mm p ∨ I 10 2 = 999) → Q (some (.int (-3))) I9 L Z) (hFl : ∀ p c, p < m → c < n → x = nI p → z = nI c → ∀ I9 : Mi, SamH 10 I I9 → sdP I 10 q ma mb mm p → ¬ I 10 2 = 999 → r = 12 → Q (some (.int (-4))) I9 L Z) (hA : ∀ p c, p < m → c < n → x = nI p → z = nI c → sdP I 10 q ma mb mm p → ¬ I 10 2 = 999 → r < 12 → ∀ (rv : Int32) (I9 : Mi), rv = rbV I 10 q ma mb mm p c → SamH 10 (roM I 10 r p c rv) I9 → Q (some (.int rv)) I9 L Z) : AC E yX5_read cX5_read 3 (some .int) d 0 0 [.ref 0, .int x, .int z] I L Z Q := by
  refine ac_go (ls := [some (.ref 0), some (.int x), some (.int z)]) (by decide +kernel) (Nat.le_of_ble_eq_true rfl) rfl ?_
  refine aw_aload_n dX5_read_0 rfl rfl ?_
  refine aw_gr dX5_read_1 fw_X5_28 hG.1 hG.2.2.2.1 ?_
  refine aw_iload_n dX5_read_4 rfl ?_
  refine aw_V1 dX5_read_5 cw_X5_117 ⟨_, _, rfl⟩ hG.2.2.2.2.2.2.2.2.2.1.1 (by omega) ⟨Nat.le_refl _, Nat.le_refl _⟩ (by decide) (c_X0_hasReader hG.2.2.2.2.2.2.2.2.2.1 (fun c5 => ?_) (fun c5 => ?_))
  · refine aw_if_eq (tgt := 22) dX5_read_8 (by decide) (fun zz => absurd zz (by decide)) (fun _ => ?_)
    refine aw_aload_n dX5_read_11 rfl rfl ?_
    refine aw_gr dX5_read_12 fw_X5_28 hG.1 hG.2.2.2.1 ?_
    refine aw_iload_n dX5_read_15 rfl ?_
    refine aw_V1 dX5_read_16 cw_X5_120 ⟨_, _, rfl⟩ hG.2.2.2.2.2.2.2.2.2.1.1 (by omega) ⟨Nat.le_refl _, Nat.le_refl _⟩ (by decide) (c_X0_hasCup hG.2.2.2.2.2.2.2.2.2.1 (fun c16 => ?_) (fun c16 => ?_))
    · refine aw_if_ne (tgt := 25) dX5_read_19 (by decide) (fun _ => ?_) (fun zz => absurd zz (by decide))
      have hn6 := hR.2.2.2.2.1
      obtain ⟨p, hp, rfl⟩ := (ix_iff hm (by omega)).mp c5
      obtain ⟨c, hc, rfl⟩ := (ix_iff hR.2.2.2.1 (by have := hR.2.2.2.2.1; omega)).mp c16
      refine aw_aload_n dX5_read_25 rfl rfl ?_
      refine aw_gr dX5_read_26 fw_X5_28 hG.1 hG.2.2.2.1 ?_
      refine aw_iload_n dX5_read_29 rfl ?_
      refine aw_V1 dX5_read_30 cw_X5_153 ⟨_, _, rfl⟩ hG.2.2.2.2.2.2.2.2.2.1.1 (by omega) ⟨Nat.le_refl _, Nat.le_refl _⟩ (by decide) (c_X0_isSteady (by omega) hR (show p < 5 by omega) (fun I30 h30 c30 => ?_) (fun I30 h30 c30 => ?_))
      · refine aw_if_eq (tgt := 49) dX5_read_33 (by decide) (fun zz => absurd zz (by decide)) (fun _ => ?_)
        refine aw_aload_n dX5_read_36 rfl rfl ?_
        refine aw_gr dX5_read_37 fw_X5_28 hG.1 hG.2.2.2.1 ?_
        refine aw_gi dX5_read_40 fw_X5_156 hG.2.2.2.2.2.2.2.2.2.1.1 ?_
        refine aw_sipush (v := 999) dX5_read_43 (by decide) ?_
        refine aw_icmp_ne (tgt := 52) dX5_read_46 (by decide) (fun c46 => ?_) (fun c46 => ?_)
        · refine aw_aload_n dX5_read_52 rfl rfl ?_
          refine aw_gr dX5_read_53 fw_X5_28 hG.1 hG.2.2.2.1 ?_
          refine aw_gi dX5_read_56 fw_X5_104 hG.2.2.2.2.2.2.2.2.2.1.1 ?_
          refine aw_bipush (v := 12) dX5_read_59 (by decide) ?_
          have h9 : I30 10 9 = nI r := by rw [h30 10 (by decide) (by decide)]; exact hrn
          have h12 : I30 10 9 = 12 ↔ r = 12 := by rw [h9]; exact nI_eq (b := 12) (by omega) (by decide)
          refine aw_icmp_ne (tgt := 69) dX5_read_61 (by decide) (fun c61 => ?_) (fun c61 => ?_)
          · refine aw_aload_n dX5_read_69 rfl rfl ?_
            refine aw_gr dX5_read_70 fw_X5_28 hG.1 hG.2.2.2.1 ?_
            refine aw_iload_n dX5_read_73 rfl ?_
            refine aw_iload_n dX5_read_74 rfl ?_
            refine aw_V2 dX5_read_75 cw_X5_159 ⟨_, _, rfl⟩ hG.2.2.2.2.2.2.2.2.2.1.1 (by omega) ⟨Nat.le_refl _, Nat.le_refl _⟩ (by decide) (c_X0_readOut (by omega) (hR.sam h30) (show p < 5 by omega) hc h9 (by have : r ≠ 12 := fun z => c61 (h12.mpr z); omega) (fun r75 I75 e75 h75 => ?_))
            refine aw_ireturn (ty := .int) dX5_read_78 rfl rfl ?_
            rw [rbV_sam h30 (by decide) hR.q3] at e75
            exact hA p c hp hc rfl rfl c30 (by rw [h30 10 (by decide) (by decide)] at c46; exact c46) (by have : r ≠ 12 := fun z => c61 (h12.mpr z); omega) _ _ e75 ((roM_sam h30 (by decide)).tr h75)
          · refine aw_bipush (v := -4) dX5_read_64 (by decide) ?_
            refine aw_goto (tgt := 78) dX5_read_66 (by decide) ?_
            refine aw_ireturn (ty := .int) dX5_read_78 rfl rfl ?_
            exact hFl p c hp hc rfl rfl I30 h30 c30 (by rw [h30 10 (by decide) (by decide)] at c46; exact c46) (h12.mp c61)
        · refine aw_bipush (v := -3) dX5_read_49 (by decide) ?_
          refine aw_ireturn (ty := .int) dX5_read_51 rfl rfl ?_
          exact hSt p c hp hc rfl rfl I30 h30 (Or.inr (by rw [h30 10 (by decide) (by decide)] at c46; exact c46))
      · refine aw_if_eq (tgt := 49) dX5_read_33 (by decide) (fun _ => ?_) (fun zz => absurd zz (by decide))
        refine aw_bipush (v := -3) dX5_read_49 (by decide) ?_
        refine aw_ireturn (ty := .int) dX5_read_51 rfl rfl ?_
        exact hSt p c hp hc rfl rfl I30 h30 (Or.inl c30)
    · refine aw_if_ne (tgt := 25) dX5_read_19 (by decide) (fun zz => absurd zz (by decide)) (fun _ => ?_)
      refine aw_bipush (v := -2) dX5_read_22 (by decide) ?_
      refine aw_ireturn (ty := .int) dX5_read_24 rfl rfl ?_
      exact hB (fun zz => c16 ((ix_iff hR.2.2.2.1 (by have := hR.2.2.2.2.1; omega)).mpr zz.2))
  · refine aw_if_eq (tgt := 22) dX5_read_8 (by decide) (fun _ => ?_) (fun zz => absurd zz (by decide))
    refine aw_bipush (v := -2) dX5_read_22 (by decide) ?_
    refine aw_ireturn (ty := .int) dX5_read_24 rfl rfl ?_
    exact hB (fun zz => c5 ((ix_iff hm (by omega)).mpr zz.1))
