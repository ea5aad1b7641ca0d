/-! ===== a house: what is best ===== -/
abbrev clP (x : Int32) : Prop := ¬ (x &&& (x >>> (6 &&& 31))) &&& 63 = 0
def baF (F : Int32 → Int32) (sd op : Int32) : Nat → Int32 → Int32 → Int32
  | 0, _, few => few
  | n + 1, set, few => baF F sd op n ((set - op) &&& op) (if ¬ bcV few ≤ bcV (set ||| (sd &&& (op ^^^ -1))) ∧ (sd &&& (F (set ||| (sd &&& (op ^^^ -1))) ^^^ -1)) = 0 then set ||| (sd &&& (op ^^^ -1)) else few)
def pcF (F : Int32 → Int32) (sd : Int32) : Nat → Int32 → Int32 → Int32
  | 0, _, m => m
  | n + 1, set, m => pcF F sd n ((set - sd) &&& sd) (if ¬ bcV set ≤ bcV m ∧ ¬ clP set ∧ ¬ clP (F set) then set else m)
def szV (x : Int32) : Int32 := if x = -1 then -1 else bcV x
def skF (P : Int32 → Int32) : Nat → Nat → Int32 → Int32 → Int32
  | 0, _, s, _ => s
  | n + 1, i, s, m => if s = -1 ∨ ¬ szV (P (nI i)) ≤ m then skF P n (i + 1) (nI i) (szV (P (nI i))) else skF P n (i + 1) s m
def vaF (F : Int32 → Int32 → Int32) (s b : Nat → Int32) : Nat → Nat → Int32 → Int32
  | 0, _, a => a
  | n + 1, i, a => vaF F s b n (i + 1) (if F (nI i) (s i) &&& (1 <<< (b i &&& 31)) = 0 then a else a ||| (1 <<< (nI i &&& 31)))
def caF (F : Int32 → Int32) (us bit : Int32) : Nat → Int32 → Int32 → Int32
  | 0, _, few => few
  | n + 1, set, few => caF F us bit n ((set - us) &&& us) (if ¬ bcV few ≤ bcV set ∧ ¬ F set &&& bit = 0 then set else few)
theorem l_X0_base {E : Ev} {d : Nat} {I : Mi} {L : Ml} {Z : Mz} {Q : Po} {h r N : Nat} {op : Int32} (hH : HZ Z h) (hn : I h 9 = nI r) (hr : r ≤ 12) (hd : 2 ≤ d) (hN : (1 : Int32) <<< (bcV op &&& 31) = nI N) (hN4 : N ≤ 4096) : ∀ (n : Nat) (j : Nat) (few st : Int32) (o5 : Option Value), j + n = N → (∀ rv : Int32, rv = baF (foH I h r (-1)) (I h 1) op n st few → Q (some (.int rv)) I L Z) → AW E yX0_base cX0_base 6 (some .int) (rmOf d 0 0) Q 0 0 20 [some (.ref h), some (.int op), some (.int few), some (.int st), some (.int (nI j)), o5] [] I L Z := by
  intro n
  induction n with
  | zero =>
    intro j few st o5 hj hQ
    refine aw_iload dX0_base_20 rfl ?_
    refine aw_iconst (v := 1) dX0_base_22 (by decide) ?_
    refine aw_iload_n dX0_base_23 rfl ?_
    refine aw_S1 dX0_base_24 cw_X0_85 (by omega) ⟨Nat.le_refl _, Nat.le_refl _⟩ (by simp [Value.category, psh]) (c_bc (fun r24 e24 => ?_))
    refine aw_ishl dX0_base_27 ?_
    refine aw_icmp_ge (tgt := 87) dX0_base_28 (by decide) (fun c28 => ?_) (fun zz => absurd (by rw [e24, hN, show j = N by omega]; exact Int32.le_refl _) zz)
    refine aw_iload_n dX0_base_87 rfl ?_
    refine aw_ireturn (ty := .int) dX0_base_88 rfl rfl ?_
    exact hQ _ rfl
  | succ n ih =>
    intro j few st o5 hj hQ
    refine aw_iload dX0_base_20 rfl ?_
    refine aw_iconst (v := 1) dX0_base_22 (by decide) ?_
    refine aw_iload_n dX0_base_23 rfl ?_
    refine aw_S1 dX0_base_24 cw_X0_85 (by omega) ⟨Nat.le_refl _, Nat.le_refl _⟩ (by simp [Value.category, psh]) (c_bc (fun r24 e24 => ?_))
    refine aw_ishl dX0_base_27 ?_
    refine aw_icmp_ge (tgt := 87) dX0_base_28 (by decide) (fun zz => absurd zz (by rw [e24, hN]; exact nI_ge (by omega) (by omega))) (fun c28 => ?_)
    refine aw_iload_n dX0_base_31 rfl ?_
    refine aw_aload_n dX0_base_32 rfl rfl ?_
    refine aw_gi dX0_base_33 fw_X0_40 hH.1 ?_
    refine aw_iload_n dX0_base_36 rfl ?_
    refine aw_iconst (v := -1) dX0_base_37 (by decide) ?_
    refine aw_ixor dX0_base_38 ?_
    refine aw_iand dX0_base_39 ?_
    refine aw_ior dX0_base_40 ?_
    refine aw_istore (ls' := [_, _, _, _, _, _]) dX0_base_41 (by decide) rfl rfl ?_
    refine aw_iload dX0_base_43 rfl ?_
    refine aw_S1 dX0_base_45 cw_X0_85 (by omega) ⟨Nat.le_refl _, Nat.le_refl _⟩ (by decide) (c_bc (fun r45 e45 => ?_))
    refine aw_iload_n dX0_base_48 rfl ?_
    refine aw_S1 dX0_base_49 cw_X0_85 (by omega) ⟨Nat.le_refl _, Nat.le_refl _⟩ (by simp [Value.category, psh]) (c_bc (fun r49 e49 => ?_))
    refine aw_icmp_ge (tgt := 75) dX0_base_52 (by decide) (fun c52 => ?_) (fun c52 => ?_)
    · refine aw_iload_n dX0_base_75 rfl ?_
      refine aw_iload_n dX0_base_76 rfl ?_
      refine aw_S2 dX0_base_77 cw_X0_153 (by omega) ⟨Nat.le_refl _, Nat.le_refl _⟩ (by decide) (c_X0_setAfter (fun r77 e77 => ?_))
      refine aw_istore_n (ls' := [_, _, _, _, _, _]) dX0_base_80 (by decide) rfl rfl ?_
      refine aw_iinc (v := nI (j + 1)) (ls' := [_, _, _, _, _, _]) dX0_base_81 rfl (nI_1 j) (by decide) rfl rfl ?_
      refine aw_goto (tgt := 20) dX0_base_84 (by decide) ?_
      subst e24 e45 e49 e77
      refine ih (j + 1) _ _ _ (by omega) (fun rv e0 => hQ rv ?_)
      rw [e0]
      simp only [baF, c52, not_true_eq_false, not_false_eq_true, and_true, true_and, and_false, false_and, or_true, true_or, or_false, false_or, ite_true, ite_false, if_true, if_false, reduceIte, and_self, or_self]
    · refine aw_aload_n dX0_base_55 rfl rfl ?_
      refine aw_gi dX0_base_56 fw_X0_40 hH.1 ?_
      refine aw_aload_n dX0_base_59 rfl rfl ?_
      refine aw_iload dX0_base_60 rfl ?_
      refine aw_iconst (v := -1) dX0_base_62 (by decide) ?_
      refine aw_V2 dX0_base_63 cw_X0_140 ⟨_, _, rfl⟩ hH.1 (by omega) ⟨Nat.le_refl _, Nat.le_refl _⟩ (by simp [Value.category, psh]) (c_X0_following (by omega) hH hn hr (fun r63 e63 => ?_))
      refine aw_iconst (v := -1) dX0_base_66 (by decide) ?_
      refine aw_ixor dX0_base_67 ?_
      refine aw_iand dX0_base_68 ?_
      refine aw_if_ne (tgt := 75) dX0_base_69 (by decide) (fun c69 => ?_) (fun c69 => ?_)
      · refine aw_iload_n dX0_base_75 rfl ?_
        refine aw_iload_n dX0_base_76 rfl ?_
        refine aw_S2 dX0_base_77 cw_X0_153 (by omega) ⟨Nat.le_refl _, Nat.le_refl _⟩ (by decide) (c_X0_setAfter (fun r77 e77 => ?_))
        refine aw_istore_n (ls' := [_, _, _, _, _, _]) dX0_base_80 (by decide) rfl rfl ?_
        refine aw_iinc (v := nI (j + 1)) (ls' := [_, _, _, _, _, _]) dX0_base_81 rfl (nI_1 j) (by decide) rfl rfl ?_
        refine aw_goto (tgt := 20) dX0_base_84 (by decide) ?_
        subst e24 e45 e49 e63 e77
        refine ih (j + 1) _ _ _ (by omega) (fun rv e0 => hQ rv ?_)
        rw [e0]
        simp only [baF, c52, c69, not_true_eq_false, not_false_eq_true, and_true, true_and, and_false, false_and, or_true, true_or, or_false, false_or, ite_true, ite_false, if_true, if_false, reduceIte, and_self, or_self]
      · refine aw_iload dX0_base_72 rfl ?_
        refine aw_istore_n (ls' := [_, _, _, _, _, _]) dX0_base_74 (by decide) rfl rfl ?_
        refine aw_iload_n dX0_base_75 rfl ?_
        refine aw_iload_n dX0_base_76 rfl ?_
        refine aw_S2 dX0_base_77 cw_X0_153 (by omega) ⟨Nat.le_refl _, Nat.le_refl _⟩ (by decide) (c_X0_setAfter (fun r77 e77 => ?_))
        refine aw_istore_n (ls' := [_, _, _, _, _, _]) dX0_base_80 (by decide) rfl rfl ?_
        refine aw_iinc (v := nI (j + 1)) (ls' := [_, _, _, _, _, _]) dX0_base_81 rfl (nI_1 j) (by decide) rfl rfl ?_
        refine aw_goto (tgt := 20) dX0_base_84 (by decide) ?_
        subst e24 e45 e49 e63 e77
        refine ih (j + 1) _ _ _ (by omega) (fun rv e0 => hQ rv ?_)
        rw [e0]
        simp only [baF, c52, c69, not_true_eq_false, not_false_eq_true, and_true, true_and, and_false, false_and, or_true, true_or, or_false, false_or, ite_true, ite_false, if_true, if_false, reduceIte, and_self, or_self]
theorem c_X0_base {E : Ev} {d : Nat} {I : Mi} {L : Ml} {Z : Mz} {Q : Po} {h : Nat} {r N : Nat} (hd : 2 ≤ d) (hH : HZ Z h) (hn : I h 9 = nI r) (hr : r ≤ 12) (hN : (1 : Int32) <<< (bcV (I h 1 &&& orF (I (h + 4)) r 0 0) &&& 31) = nI N) (hN4 : N ≤ 4096) (hQ : ∀ rv : Int32, rv = (baF (foH I h r (-1)) (I h 1) (I h 1 &&& orF (I (h + 4)) r 0 0) N 0 (I h 1)) → Q (some (.int rv)) I L Z) : AC E yX0_base cX0_base 6 (some .int) d 0 0 [.ref h] I L Z Q := by
  refine ac_go (ls := [some (.ref h), none, none, none, none, none]) (by decide +kernel) (Nat.le_of_ble_eq_true rfl) rfl ?_
  refine aw_aload_n dX0_base_0 rfl rfl ?_
  refine aw_gi dX0_base_1 fw_X0_40 hH.1 ?_
  refine aw_aload_n dX0_base_4 rfl rfl ?_
  refine aw_V0 dX0_base_5 cw_X0_150 ⟨_, _, rfl⟩ hH.1 (by omega) ⟨Nat.le_refl _, Nat.le_refl _⟩ (by simp [Value.category, psh]) (c_X0_borneByReasons hH hn hr (fun r5 e5 => ?_))
  refine aw_iand dX0_base_8 ?_
  refine aw_istore_n (ls' := [_, _, _, _, _, _]) dX0_base_9 (by decide) rfl rfl ?_
  refine aw_aload_n dX0_base_10 rfl rfl ?_
  refine aw_gi dX0_base_11 fw_X0_40 hH.1 ?_
  refine aw_istore_n (ls' := [_, _, _, _, _, _]) dX0_base_14 (by decide) rfl rfl ?_
  refine aw_iconst (v := 0) dX0_base_15 (by decide) ?_
  refine aw_istore_n (ls' := [_, _, _, _, _, _]) dX0_base_16 (by decide) rfl rfl ?_
  refine aw_iconst (v := 0) dX0_base_17 (by decide) ?_
  refine aw_istore (ls' := [_, _, _, _, _, _]) dX0_base_18 (by decide) rfl rfl ?_
  subst e5
  exact l_X0_base hH hn hr hd hN hN4 N 0 _ _ _ (by omega) hQ
theorem l_X0_peace {E : Ev} {d : Nat} {I : Mi} {L : Ml} {Z : Mz} {Q : Po} {h r N : Nat} {lo : Int32} (hH : HZ Z h) (hn : I h 9 = nI r) (hr : r ≤ 12) (hd : 2 ≤ d) (hN : (1 : Int32) <<< (bcV (I h 1) &&& 31) = nI N) (hN4 : N ≤ 4096) : ∀ (n : Nat) (j : Nat) (m st : Int32), j + n = N → (∀ rv : Int32, rv = pcF (foH I h r lo) (I h 1) n st m → Q (some (.int rv)) I L Z) → AW E yX0_peace cX0_peace 5 (some .int) (rmOf d 0 0) Q 0 0 21 [some (.ref h), some (.int lo), some (.int m), some (.int st), some (.int (nI j))] [] I L Z := by
  intro n
  induction n with
  | zero =>
    intro j m st hj hQ
    refine aw_iload dX0_peace_21 rfl ?_
    refine aw_iconst (v := 1) dX0_peace_23 (by decide) ?_
    refine aw_aload_n dX0_peace_24 rfl rfl ?_
    refine aw_gi dX0_peace_25 fw_X0_40 hH.1 ?_
    refine aw_S1 dX0_peace_28 cw_X0_85 (by omega) ⟨Nat.le_refl _, Nat.le_refl _⟩ (by simp [Value.category, psh]) (c_bc (fun r28 e28 => ?_))
    refine aw_ishl dX0_peace_31 ?_
    refine aw_icmp_ge (tgt := 82) dX0_peace_32 (by decide) (fun c32 => ?_) (fun zz => absurd (by rw [e28, hN, show j = N by omega]; exact Int32.le_refl _) zz)
    refine aw_iload_n dX0_peace_82 rfl ?_
    refine aw_ireturn (ty := .int) dX0_peace_83 rfl rfl ?_
    exact hQ _ rfl
  | succ n ih =>
    intro j m st hj hQ
    refine aw_iload dX0_peace_21 rfl ?_
    refine aw_iconst (v := 1) dX0_peace_23 (by decide) ?_
    refine aw_aload_n dX0_peace_24 rfl rfl ?_
    refine aw_gi dX0_peace_25 fw_X0_40 hH.1 ?_
    refine aw_S1 dX0_peace_28 cw_X0_85 (by omega) ⟨Nat.le_refl _, Nat.le_refl _⟩ (by simp [Value.category, psh]) (c_bc (fun r28 e28 => ?_))
    refine aw_ishl dX0_peace_31 ?_
    refine aw_icmp_ge (tgt := 82) dX0_peace_32 (by decide) (fun zz => absurd zz (by rw [e28, hN]; exact nI_ge (by omega) (by omega))) (fun c32 => ?_)
    refine aw_iload_n dX0_peace_35 rfl ?_
    refine aw_S1 dX0_peace_36 cw_X0_85 (by omega) ⟨Nat.le_refl _, Nat.le_refl _⟩ (by decide) (c_bc (fun r36 e36 => ?_))
    refine aw_iload_n dX0_peace_39 rfl ?_
    refine aw_S1 dX0_peace_40 cw_X0_85 (by omega) ⟨Nat.le_refl _, Nat.le_refl _⟩ (by simp [Value.category, psh]) (c_bc (fun r40 e40 => ?_))
    refine aw_icmp_le (tgt := 67) dX0_peace_43 (by decide) (fun c43 => ?_) (fun c43 => ?_)
    · refine aw_iload_n dX0_peace_67 rfl ?_
      refine aw_aload_n dX0_peace_68 rfl rfl ?_
      refine aw_gi dX0_peace_69 fw_X0_40 hH.1 ?_
      refine aw_S2 dX0_peace_72 cw_X0_153 (by omega) ⟨Nat.le_refl _, Nat.le_refl _⟩ (by decide) (c_X0_setAfter (fun r72 e72 => ?_))
      refine aw_istore_n (ls' := [_, _, _, _, _]) dX0_peace_75 (by decide) rfl rfl ?_
      refine aw_iinc (v := nI (j + 1)) (ls' := [_, _, _, _, _]) dX0_peace_76 rfl (nI_1 j) (by decide) rfl rfl ?_
      refine aw_goto (tgt := 21) dX0_peace_79 (by decide) ?_
      subst e28 e36 e40 e72
      refine ih (j + 1) _ _ (by omega) (fun rv e0 => hQ rv ?_)
      rw [e0]
      simp only [pcF, clP, c43, not_true_eq_false, not_false_eq_true, and_true, true_and, and_false, false_and, or_true, true_or, or_false, false_or, ite_true, ite_false, if_true, if_false, reduceIte, and_self, or_self]
    · refine aw_iload_n dX0_peace_46 rfl ?_
      refine aw_S1 dX0_peace_47 cw_X0_156 (by omega) ⟨Nat.le_refl _, Nat.le_refl _⟩ (by decide) (c_X5_isClash (fun c47 => ?_) (fun c47 => ?_))
      · refine aw_if_ne (tgt := 67) dX0_peace_50 (by decide) (fun _ => ?_) (fun zz => absurd zz (by decide))
        refine aw_iload_n dX0_peace_67 rfl ?_
        refine aw_aload_n dX0_peace_68 rfl rfl ?_
        refine aw_gi dX0_peace_69 fw_X0_40 hH.1 ?_
        refine aw_S2 dX0_peace_72 cw_X0_153 (by omega) ⟨Nat.le_refl _, Nat.le_refl _⟩ (by decide) (c_X0_setAfter (fun r72 e72 => ?_))
        refine aw_istore_n (ls' := [_, _, _, _, _]) dX0_peace_75 (by decide) rfl rfl ?_
        refine aw_iinc (v := nI (j + 1)) (ls' := [_, _, _, _, _]) dX0_peace_76 rfl (nI_1 j) (by decide) rfl rfl ?_
        refine aw_goto (tgt := 21) dX0_peace_79 (by decide) ?_
        subst e28 e36 e40 e72
        refine ih (j + 1) _ _ (by omega) (fun rv e0 => hQ rv ?_)
        rw [e0]
        simp only [pcF, clP, c43, c47, not_true_eq_false, not_false_eq_true, and_true, true_and, and_false, false_and, or_true, true_or, or_false, false_or, ite_true, ite_false, if_true, if_false, reduceIte, and_self, or_self]
      · refine aw_if_ne (tgt := 67) dX0_peace_50 (by decide) (fun zz => absurd zz (by decide)) (fun _ => ?_)
        refine aw_aload_n dX0_peace_53 rfl rfl ?_
        refine aw_iload_n dX0_peace_54 rfl ?_
        refine aw_iload_n dX0_peace_55 rfl ?_
        refine aw_V2 dX0_peace_56 cw_X0_140 ⟨_, _, rfl⟩ hH.1 (by omega) ⟨Nat.le_refl _, Nat.le_refl _⟩ (by decide) (c_X0_following (by omega) hH hn hr (fun r56 e56 => ?_))
        refine aw_S1 dX0_peace_59 cw_X0_156 (by omega) ⟨Nat.le_refl _, Nat.le_refl _⟩ (by decide) (c_X5_isClash (fun c59 => ?_) (fun c59 => ?_))
        · refine aw_if_ne (tgt := 67) dX0_peace_62 (by decide) (fun _ => ?_) (fun zz => absurd zz (by decide))
          refine aw_iload_n dX0_peace_67 rfl ?_
          refine aw_aload_n dX0_peace_68 rfl rfl ?_
          refine aw_gi dX0_peace_69 fw_X0_40 hH.1 ?_
          refine aw_S2 dX0_peace_72 cw_X0_153 (by omega) ⟨Nat.le_refl _, Nat.le_refl _⟩ (by decide) (c_X0_setAfter (fun r72 e72 => ?_))
          refine aw_istore_n (ls' := [_, _, _, _, _]) dX0_peace_75 (by decide) rfl rfl ?_
          refine aw_iinc (v := nI (j + 1)) (ls' := [_, _, _, _, _]) dX0_peace_76 rfl (nI_1 j) (by decide) rfl rfl ?_
          refine aw_goto (tgt := 21) dX0_peace_79 (by decide) ?_
          subst e28 e36 e40 e56 e72
          refine ih (j + 1) _ _ (by omega) (fun rv e0 => hQ rv ?_)
          rw [e0]
          simp only [pcF, clP, c43, c47, c59, not_true_eq_false, not_false_eq_true, and_true, true_and, and_false, false_and, or_true, true_or, or_false, false_or, ite_true, ite_false, if_true, if_false, reduceIte, and_self, or_self]
        · refine aw_if_ne (tgt := 67) dX0_peace_62 (by decide) (fun zz => absurd zz (by decide)) (fun _ => ?_)
          refine aw_iload_n dX0_peace_65 rfl ?_
          refine aw_istore_n (ls' := [_, _, _, _, _]) dX0_peace_66 (by decide) rfl rfl ?_
          refine aw_iload_n dX0_peace_67 rfl ?_
          refine aw_aload_n dX0_peace_68 rfl rfl ?_
          refine aw_gi dX0_peace_69 fw_X0_40 hH.1 ?_
          refine aw_S2 dX0_peace_72 cw_X0_153 (by omega) ⟨Nat.le_refl _, Nat.le_refl _⟩ (by decide) (c_X0_setAfter (fun r72 e72 => ?_))
          refine aw_istore_n (ls' := [_, _, _, _, _]) dX0_peace_75 (by decide) rfl rfl ?_
          refine aw_iinc (v := nI (j + 1)) (ls' := [_, _, _, _, _]) dX0_peace_76 rfl (nI_1 j) (by decide) rfl rfl ?_
          refine aw_goto (tgt := 21) dX0_peace_79 (by decide) ?_
          subst e28 e36 e40 e56 e72
          refine ih (j + 1) _ _ (by omega) (fun rv e0 => hQ rv ?_)
          rw [e0]
          simp only [pcF, clP, c43, c47, c59, not_true_eq_false, not_false_eq_true, and_true, true_and, and_false, false_and, or_true, true_or, or_false, false_or, ite_true, ite_false, if_true, if_false, reduceIte, and_self, or_self]
theorem c_X0_peace {E : Ev} {d : Nat} {I : Mi} {L : Ml} {Z : Mz} {Q : Po} {h : Nat} {lo : Int32} {r N : Nat} (hd : 2 ≤ d) (hH : HZ Z h) (hn : I h 9 = nI r) (hr : r ≤ 12) (hN : (1 : Int32) <<< (bcV (I h 1) &&& 31) = nI N) (hN4 : N ≤ 4096) (hQ : ∀ rv : Int32, rv = (if clP (foH I h r lo 0) then -1 else pcF (foH I h r lo) (I h 1) N 0 0) → Q (some (.int rv)) I L Z) : AC E yX0_peace cX0_peace 5 (some .int) d 0 0 [.ref h, .int lo] I L Z Q := by
  refine ac_go (ls := [some (.ref h), some (.int lo), none, none, none]) (by decide +kernel) (Nat.le_of_ble_eq_true rfl) rfl ?_
  refine aw_aload_n dX0_peace_0 rfl rfl ?_
  refine aw_iconst (v := 0) dX0_peace_1 (by decide) ?_
  refine aw_iload_n dX0_peace_2 rfl ?_
  refine aw_V2 dX0_peace_3 cw_X0_140 ⟨_, _, rfl⟩ hH.1 (by omega) ⟨Nat.le_refl _, Nat.le_refl _⟩ (by decide) (c_X0_following (by omega) hH hn hr (fun r3 e3 => ?_))
  refine aw_S1 dX0_peace_6 cw_X0_156 (by omega) ⟨Nat.le_refl _, Nat.le_refl _⟩ (by decide) (c_X5_isClash (fun c6 => ?_) (fun c6 => ?_))
  · refine aw_if_eq (tgt := 14) dX0_peace_9 (by decide) (fun zz => absurd zz (by decide)) (fun _ => ?_)
    refine aw_iconst (v := -1) dX0_peace_12 (by decide) ?_
    refine aw_ireturn (ty := .int) dX0_peace_13 rfl rfl ?_
    exact hQ _ (by subst e3; rw [if_pos c6])
  · refine aw_if_eq (tgt := 14) dX0_peace_9 (by decide) (fun _ => ?_) (fun zz => absurd zz (by decide))
    refine aw_iconst (v := 0) dX0_peace_14 (by decide) ?_
    refine aw_istore_n (ls' := [_, _, _, _, _]) dX0_peace_15 (by decide) rfl rfl ?_
    refine aw_iconst (v := 0) dX0_peace_16 (by decide) ?_
    refine aw_istore_n (ls' := [_, _, _, _, _]) dX0_peace_17 (by decide) rfl rfl ?_
    refine aw_iconst (v := 0) dX0_peace_18 (by decide) ?_
    refine aw_istore (ls' := [_, _, _, _, _]) dX0_peace_19 (by decide) rfl rfl ?_
    refine l_X0_peace hH hn hr hd hN hN4 N 0 _ _ (by omega) (fun rv e0 => hQ rv ?_)
    subst e3
    rw [if_neg c6]
    exact e0
def peH (I : Mi) (h r N : Nat) (lo : Int32) : Int32 := if clP (foH I h r lo 0) then -1 else pcF (foH I h r lo) (I h 1) N 0 0
theorem l_X0_strike {E : Ev} {d : Nat} {I : Mi} {L : Ml} {Z : Mz} {Q : Po} {h r N : Nat} (hH : HZ Z h) (hn : I h 9 = nI r) (hr : r ≤ 12) (hd : 3 ≤ d) (hN : (1 : Int32) <<< (bcV (I h 1) &&& 31) = nI N) (hN4 : N ≤ 4096) : ∀ (n : Nat) (j : Nat) (s0 m : Int32) (o5 : Option Value), j + n = r → (∀ rv : Int32, rv = skF (peH I h r N) n j s0 m → Q (some (.int rv)) I L Z) → AW E yX0_strike cX0_strike 5 (some .int) (rmOf d 0 0) Q 0 0 6 [some (.ref h), some (.int s0), some (.int m), some (.int (nI j)), o5] [] I L Z := by
  intro n
  induction n with
  | zero =>
    intro j s0 m o5 hj hQ
    refine aw_iload_n dX0_strike_6 rfl ?_
    refine aw_aload_n dX0_strike_7 rfl rfl ?_
    refine aw_gi dX0_strike_8 fw_X0_53 hH.1 ?_
    refine aw_icmp_ge (tgt := 46) dX0_strike_11 (by decide) (fun c11 => ?_) (fun zz => absurd (by rw [hn, show j = r by omega]; exact Int32.le_refl _) zz)
    refine aw_iload_n dX0_strike_46 rfl ?_
    refine aw_ireturn (ty := .int) dX0_strike_47 rfl rfl ?_
    exact hQ _ rfl
  | succ n ih =>
    intro j s0 m o5 hj hQ
    refine aw_iload_n dX0_strike_6 rfl ?_
    refine aw_aload_n dX0_strike_7 rfl rfl ?_
    refine aw_gi dX0_strike_8 fw_X0_53 hH.1 ?_
    refine aw_icmp_ge (tgt := 46) dX0_strike_11 (by decide) (fun zz => absurd zz (by rw [hn]; exact nI_ge (by omega) (by omega))) (fun c11 => ?_)
    refine aw_aload_n dX0_strike_14 rfl rfl ?_
    refine aw_iload_n dX0_strike_15 rfl ?_
    refine aw_V1 dX0_strike_16 cw_X0_159 ⟨_, _, rfl⟩ hH.1 (by omega) ⟨Nat.le_refl _, Nat.le_refl _⟩ (by decide) (c_X0_peace (by omega) hH hn hr hN hN4 (fun r16 e16 => ?_))
    refine aw_S1 dX0_strike_19 cw_X0_162 (by omega) ⟨Nat.le_refl _, Nat.le_refl _⟩ (by decide) (c_X5_sizeOf (by omega) (fun r19 e19 => ?_))
    refine aw_istore (ls' := [_, _, _, _, _]) dX0_strike_22 (by decide) rfl rfl ?_
    refine aw_iload_n dX0_strike_24 rfl ?_
    refine aw_iconst (v := -1) dX0_strike_25 (by decide) ?_
    refine aw_icmp_eq (tgt := 35) dX0_strike_26 (by decide) (fun c26 => ?_) (fun c26 => ?_)
    · refine aw_iload_n dX0_strike_35 rfl ?_
      refine aw_istore_n (ls' := [_, _, _, _, _]) dX0_strike_36 (by decide) rfl rfl ?_
      refine aw_iload dX0_strike_37 rfl ?_
      refine aw_istore_n (ls' := [_, _, _, _, _]) dX0_strike_39 (by decide) rfl rfl ?_
      refine aw_iinc (v := nI (j + 1)) (ls' := [_, _, _, _, _]) dX0_strike_40 rfl (nI_1 j) (by decide) rfl rfl ?_
      refine aw_goto (tgt := 6) dX0_strike_43 (by decide) ?_
      refine ih (j + 1) _ _ _ (by omega) (fun rv e0 => hQ rv ?_)
      rw [e0]
      simp only [skF]
      have e19' : r19 = szV (peH I h r N (nI j)) := by rw [e19, e16]; rfl
      subst e19'
      simp only [c26, not_true_eq_false, not_false_eq_true, and_true, true_and, and_false, false_and, or_true, true_or, or_false, false_or, ite_true, ite_false, if_true, if_false, reduceIte, and_self, or_self]
    · refine aw_iload dX0_strike_29 rfl ?_
      refine aw_iload_n dX0_strike_31 rfl ?_
      refine aw_icmp_le (tgt := 40) dX0_strike_32 (by decide) (fun c32 => ?_) (fun c32 => ?_)
      · refine aw_iinc (v := nI (j + 1)) (ls' := [_, _, _, _, _]) dX0_strike_40 rfl (nI_1 j) (by decide) rfl rfl ?_
        refine aw_goto (tgt := 6) dX0_strike_43 (by decide) ?_
        refine ih (j + 1) _ _ _ (by omega) (fun rv e0 => hQ rv ?_)
        rw [e0]
        simp only [skF]
        have e19' : r19 = szV (peH I h r N (nI j)) := by rw [e19, e16]; rfl
        subst e19'
        simp only [c26, c32, not_true_eq_false, not_false_eq_true, and_true, true_and, and_false, false_and, or_true, true_or, or_false, false_or, ite_true, ite_false, if_true, if_false, reduceIte, and_self, or_self]
      · refine aw_iload_n dX0_strike_35 rfl ?_
        refine aw_istore_n (ls' := [_, _, _, _, _]) dX0_strike_36 (by decide) rfl rfl ?_
        refine aw_iload dX0_strike_37 rfl ?_
        refine aw_istore_n (ls' := [_, _, _, _, _]) dX0_strike_39 (by decide) rfl rfl ?_
        refine aw_iinc (v := nI (j + 1)) (ls' := [_, _, _, _, _]) dX0_strike_40 rfl (nI_1 j) (by decide) rfl rfl ?_
        refine aw_goto (tgt := 6) dX0_strike_43 (by decide) ?_
        refine ih (j + 1) _ _ _ (by omega) (fun rv e0 => hQ rv ?_)
        rw [e0]
        simp only [skF]
        have e19' : r19 = szV (peH I h r N (nI j)) := by rw [e19, e16]; rfl
        subst e19'
        simp only [c26, c32, not_true_eq_false, not_false_eq_true, and_true, true_and, and_false, false_and, or_true, true_or, or_false, false_or, ite_true, ite_false, if_true, if_false, reduceIte, and_self, or_self]
theorem c_X0_strike {E : Ev} {d : Nat} {I : Mi} {L : Ml} {Z : Mz} {Q : Po} {h : Nat} {r N : Nat} (hd : 3 ≤ d) (hH : HZ Z h) (hn : I h 9 = nI r) (hr : r ≤ 12) (hN : (1 : Int32) <<< (bcV (I h 1) &&& 31) = nI N) (hN4 : N ≤ 4096) (hQ : ∀ rv : Int32, rv = (skF (peH I h r N) r 0 (-1) (-1)) → Q (some (.int rv)) I L Z) : AC E yX0_strike cX0_strike 5 (some .int) d 0 0 [.ref h] I L Z Q := by
  refine ac_go (ls := [some (.ref h), none, none, none, none]) (by decide +kernel) (Nat.le_of_ble_eq_true rfl) rfl ?_
  refine aw_iconst (v := -1) dX0_strike_0 (by decide) ?_
  refine aw_istore_n (ls' := [_, _, _, _, _]) dX0_strike_1 (by decide) rfl rfl ?_
  refine aw_iconst (v := -1) dX0_strike_2 (by decide) ?_
  refine aw_istore_n (ls' := [_, _, _, _, _]) dX0_strike_3 (by decide) rfl rfl ?_
  refine aw_iconst (v := 0) dX0_strike_4 (by decide) ?_
  refine aw_istore_n (ls' := [_, _, _, _, _]) dX0_strike_5 (by decide) rfl rfl ?_
  exact l_X0_strike hH hn hr hd hN hN4 r 0 _ _ _ (by omega) hQ
theorem l_X0_vain {E : Ev} {d : Nat} {I : Mi} {L : Ml} {Z : Mz} {Q : Po} {h r : Nat} (hH : HZ Z h) (hn : I h 9 = nI r) (hr : r ≤ 12) (hd : 2 ≤ d) : ∀ (n : Nat) (j : Nat) (a : Int32), j + n = r → (∀ rv : Int32, rv = vaF (foH I h r) (I (h + 3)) (I (h + 4)) n j a → Q (some (.int rv)) I L Z) → AW E yX0_vain cX0_vain 3 (some .int) (rmOf d 0 0) Q 0 0 4 [some (.ref h), some (.int a), some (.int (nI j))] [] I L Z := by
  intro n
  induction n with
  | zero =>
    intro j a hj hQ
    refine aw_iload_n dX0_vain_4 rfl ?_
    refine aw_aload_n dX0_vain_5 rfl rfl ?_
    refine aw_gi dX0_vain_6 fw_X0_53 hH.1 ?_
    refine aw_icmp_ge (tgt := 47) dX0_vain_9 (by decide) (fun c9 => ?_) (fun zz => absurd (by rw [hn, show j = r by omega]; exact Int32.le_refl _) zz)
    refine aw_iload_n dX0_vain_47 rfl ?_
    refine aw_ireturn (ty := .int) dX0_vain_48 rfl rfl ?_
    exact hQ _ rfl
  | succ n ih =>
    intro j a hj hQ
    refine aw_iload_n dX0_vain_4 rfl ?_
    refine aw_aload_n dX0_vain_5 rfl rfl ?_
    refine aw_gi dX0_vain_6 fw_X0_53 hH.1 ?_
    refine aw_icmp_ge (tgt := 47) dX0_vain_9 (by decide) (fun zz => absurd zz (by rw [hn]; exact nI_ge (by omega) (by omega))) (fun c9 => ?_)
    refine aw_aload_n dX0_vain_12 rfl rfl ?_
    refine aw_aload_n dX0_vain_13 rfl rfl ?_
    refine aw_gr dX0_vain_14 fw_X0_18 hH.1 hH.2.2.2.2.1 ?_
    refine aw_iload_n dX0_vain_17 rfl ?_
    refine aw_ia j dX0_vain_18 hH.2.2.2.2.2.2.2.2.2.2.2.2.1 rfl (by omega) (by decide) ?_
    refine aw_iload_n dX0_vain_19 rfl ?_
    refine aw_V2 dX0_vain_20 cw_X0_140 ⟨_, _, rfl⟩ hH.1 (by omega) ⟨Nat.le_refl _, Nat.le_refl _⟩ (by decide) (c_X0_following (by omega) hH hn hr (fun r20 e20 => ?_))
    refine aw_iconst (v := 1) dX0_vain_23 (by decide) ?_
    refine aw_aload_n dX0_vain_24 rfl rfl ?_
    refine aw_gr dX0_vain_25 fw_X0_21 hH.1 hH.2.2.2.2.2.1 ?_
    refine aw_iload_n dX0_vain_28 rfl ?_
    refine aw_ia j dX0_vain_29 hH.2.2.2.2.2.2.2.2.2.2.2.2.2.1 rfl (by omega) (by decide) ?_
    refine aw_ishl dX0_vain_30 ?_
    refine aw_iand dX0_vain_31 ?_
    refine aw_if_eq (tgt := 41) dX0_vain_32 (by decide) (fun c32 => ?_) (fun c32 => ?_)
    · refine aw_iinc (v := nI (j + 1)) (ls' := [_, _, _]) dX0_vain_41 rfl (nI_1 j) (by decide) rfl rfl ?_
      refine aw_goto (tgt := 4) dX0_vain_44 (by decide) ?_
      subst e20
      refine ih (j + 1) _ (by omega) (fun rv e0 => hQ rv ?_)
      rw [e0]
      simp only [vaF, c32, not_true_eq_false, not_false_eq_true, and_true, true_and, and_false, false_and, or_true, true_or, or_false, false_or, ite_true, ite_false, if_true, if_false, reduceIte, and_self, or_self]
    · refine aw_iload_n dX0_vain_35 rfl ?_
      refine aw_iconst (v := 1) dX0_vain_36 (by decide) ?_
      refine aw_iload_n dX0_vain_37 rfl ?_
      refine aw_ishl dX0_vain_38 ?_
      refine aw_ior dX0_vain_39 ?_
      refine aw_istore_n (ls' := [_, _, _]) dX0_vain_40 (by decide) rfl rfl ?_
      refine aw_iinc (v := nI (j + 1)) (ls' := [_, _, _]) dX0_vain_41 rfl (nI_1 j) (by decide) rfl rfl ?_
      refine aw_goto (tgt := 4) dX0_vain_44 (by decide) ?_
      subst e20
      refine ih (j + 1) _ (by omega) (fun rv e0 => hQ rv ?_)
      rw [e0]
      simp only [vaF, c32, not_true_eq_false, not_false_eq_true, and_true, true_and, and_false, false_and, or_true, true_or, or_false, false_or, ite_true, ite_false, if_true, if_false, reduceIte, and_self, or_self]
theorem c_X0_vain {E : Ev} {d : Nat} {I : Mi} {L : Ml} {Z : Mz} {Q : Po} {h : Nat} {r : Nat} (hd : 2 ≤ d) (hH : HZ Z h) (hn : I h 9 = nI r) (hr : r ≤ 12) (hQ : ∀ rv : Int32, rv = (vaF (foH I h r) (I (h + 3)) (I (h + 4)) r 0 0) → Q (some (.int rv)) I L Z) : AC E yX0_vain cX0_vain 3 (some .int) d 0 0 [.ref h] I L Z Q := by
  refine ac_go (ls := [some (.ref h), none, none]) (by decide +kernel) (Nat.le_of_ble_eq_true rfl) rfl ?_
  refine aw_iconst (v := 0) dX0_vain_0 (by decide) ?_
  refine aw_istore_n (ls' := [_, _, _]) dX0_vain_1 (by decide) rfl rfl ?_
  refine aw_iconst (v := 0) dX0_vain_2 (by decide) ?_
  refine aw_istore_n (ls' := [_, _, _]) dX0_vain_3 (by decide) rfl rfl ?_
  exact l_X0_vain hH hn hr hd r 0 _ (by omega) hQ
theorem l_X0_causeOf {E : Ev} {d : Nat} {I : Mi} {L : Ml} {Z : Mz} {Q : Po} {h r N : Nat} {x us : Int32} (hH : HZ Z h) (hn : I h 9 = nI r) (hr : r ≤ 12) (hd : 2 ≤ d) (hN : (1 : Int32) <<< (bcV us &&& 31) = nI N) (hN4 : N ≤ 4096) : ∀ (n : Nat) (j : Nat) (few st : Int32), j + n = N → (∀ rv : Int32, rv = caF (foH I h r (-1)) us (1 <<< (x &&& 31)) n st few → Q (some (.int rv)) I L Z) → AW E yX0_causeOf cX0_causeOf 6 (some .int) (rmOf d 0 0) Q 0 0 32 [some (.ref h), some (.int x), some (.int us), some (.int few), some (.int st), some (.int (nI j))] [] I L Z := by
  intro n
  induction n with
  | zero =>
    intro j few st hj hQ
    refine aw_iload dX0_causeOf_32 rfl ?_
    refine aw_iconst (v := 1) dX0_causeOf_34 (by decide) ?_
    refine aw_iload_n dX0_causeOf_35 rfl ?_
    refine aw_S1 dX0_causeOf_36 cw_X0_85 (by omega) ⟨Nat.le_refl _, Nat.le_refl _⟩ (by simp [Value.category, psh]) (c_bc (fun r36 e36 => ?_))
    refine aw_ishl dX0_causeOf_39 ?_
    refine aw_icmp_ge (tgt := 86) dX0_causeOf_40 (by decide) (fun c40 => ?_) (fun zz => absurd (by rw [e36, hN, show j = N by omega]; exact Int32.le_refl _) zz)
    refine aw_iload_n dX0_causeOf_86 rfl ?_
    refine aw_ireturn (ty := .int) dX0_causeOf_87 rfl rfl ?_
    exact hQ _ rfl
  | succ n ih =>
    intro j few st hj hQ
    refine aw_iload dX0_causeOf_32 rfl ?_
    refine aw_iconst (v := 1) dX0_causeOf_34 (by decide) ?_
    refine aw_iload_n dX0_causeOf_35 rfl ?_
    refine aw_S1 dX0_causeOf_36 cw_X0_85 (by omega) ⟨Nat.le_refl _, Nat.le_refl _⟩ (by simp [Value.category, psh]) (c_bc (fun r36 e36 => ?_))
    refine aw_ishl dX0_causeOf_39 ?_
    refine aw_icmp_ge (tgt := 86) dX0_causeOf_40 (by decide) (fun zz => absurd zz (by rw [e36, hN]; exact nI_ge (by omega) (by omega))) (fun c40 => ?_)
    refine aw_iload dX0_causeOf_43 rfl ?_
    refine aw_S1 dX0_causeOf_45 cw_X0_85 (by omega) ⟨Nat.le_refl _, Nat.le_refl _⟩ (by decide) (c_bc (fun r45 e45 => ?_))
    refine aw_iload_n dX0_causeOf_48 rfl ?_
    refine aw_S1 dX0_causeOf_49 cw_X0_85 (by omega) ⟨Nat.le_refl _, Nat.le_refl _⟩ (by simp [Value.category, psh]) (c_bc (fun r49 e49 => ?_))
    refine aw_icmp_ge (tgt := 72) dX0_causeOf_52 (by decide) (fun c52 => ?_) (fun c52 => ?_)
    · refine aw_iload dX0_causeOf_72 rfl ?_
      refine aw_iload_n dX0_causeOf_74 rfl ?_
      refine aw_S2 dX0_causeOf_75 cw_X0_153 (by omega) ⟨Nat.le_refl _, Nat.le_refl _⟩ (by decide) (c_X0_setAfter (fun r75 e75 => ?_))
      refine aw_istore (ls' := [_, _, _, _, _, _]) dX0_causeOf_78 (by decide) rfl rfl ?_
      refine aw_iinc (v := nI (j + 1)) (ls' := [_, _, _, _, _, _]) dX0_causeOf_80 rfl (nI_1 j) (by decide) rfl rfl ?_
      refine aw_goto (tgt := 32) dX0_causeOf_83 (by decide) ?_
      subst e36 e45 e49 e75
      refine ih (j + 1) _ _ (by omega) (fun rv e0 => hQ rv ?_)
      rw [e0]
      simp only [caF, c52, not_true_eq_false, not_false_eq_true, and_true, true_and, and_false, false_and, or_true, true_or, or_false, false_or, ite_true, ite_false, if_true, if_false, reduceIte, and_self, or_self]
    · refine aw_aload_n dX0_causeOf_55 rfl rfl ?_
      refine aw_iload dX0_causeOf_56 rfl ?_
      refine aw_iconst (v := -1) dX0_causeOf_58 (by decide) ?_
      refine aw_V2 dX0_causeOf_59 cw_X0_140 ⟨_, _, rfl⟩ hH.1 (by omega) ⟨Nat.le_refl _, Nat.le_refl _⟩ (by decide) (c_X0_following (by omega) hH hn hr (fun r59 e59 => ?_))
      refine aw_iconst (v := 1) dX0_causeOf_62 (by decide) ?_
      refine aw_iload_n dX0_causeOf_63 rfl ?_
      refine aw_ishl dX0_causeOf_64 ?_
      refine aw_iand dX0_causeOf_65 ?_
      refine aw_if_eq (tgt := 72) dX0_causeOf_66 (by decide) (fun c66 => ?_) (fun c66 => ?_)
      · refine aw_iload dX0_causeOf_72 rfl ?_
        refine aw_iload_n dX0_causeOf_74 rfl ?_
        refine aw_S2 dX0_causeOf_75 cw_X0_153 (by omega) ⟨Nat.le_refl _, Nat.le_refl _⟩ (by decide) (c_X0_setAfter (fun r75 e75 => ?_))
        refine aw_istore (ls' := [_, _, _, _, _, _]) dX0_causeOf_78 (by decide) rfl rfl ?_
        refine aw_iinc (v := nI (j + 1)) (ls' := [_, _, _, _, _, _]) dX0_causeOf_80 rfl (nI_1 j) (by decide) rfl rfl ?_
        refine aw_goto (tgt := 32) dX0_causeOf_83 (by decide) ?_
        subst e36 e45 e49 e59 e75
        refine ih (j + 1) _ _ (by omega) (fun rv e0 => hQ rv ?_)
        rw [e0]
        simp only [caF, c52, c66, not_true_eq_false, not_false_eq_true, and_true, true_and, and_false, false_and, or_true, true_or, or_false, false_or, ite_true, ite_false, if_true, if_false, reduceIte, and_self, or_self]
      · refine aw_iload dX0_causeOf_69 rfl ?_
        refine aw_istore_n (ls' := [_, _, _, _, _, _]) dX0_causeOf_71 (by decide) rfl rfl ?_
        refine aw_iload dX0_causeOf_72 rfl ?_
        refine aw_iload_n dX0_causeOf_74 rfl ?_
        refine aw_S2 dX0_causeOf_75 cw_X0_153 (by omega) ⟨Nat.le_refl _, Nat.le_refl _⟩ (by decide) (c_X0_setAfter (fun r75 e75 => ?_))
        refine aw_istore (ls' := [_, _, _, _, _, _]) dX0_causeOf_78 (by decide) rfl rfl ?_
        refine aw_iinc (v := nI (j + 1)) (ls' := [_, _, _, _, _, _]) dX0_causeOf_80 rfl (nI_1 j) (by decide) rfl rfl ?_
        refine aw_goto (tgt := 32) dX0_causeOf_83 (by decide) ?_
        subst e36 e45 e49 e59 e75
        refine ih (j + 1) _ _ (by omega) (fun rv e0 => hQ rv ?_)
        rw [e0]
        simp only [caF, c52, c66, not_true_eq_false, not_false_eq_true, and_true, true_and, and_false, false_and, or_true, true_or, or_false, false_or, ite_true, ite_false, if_true, if_false, reduceIte, and_self, or_self]
theorem c_X0_causeOf {E : Ev} {d : Nat} {I : Mi} {L : Ml} {Z : Mz} {Q : Po} {h : Nat} {x : Int32} {r N : Nat} (hd : 2 ≤ d) (hH : HZ Z h) (hn : I h 9 = nI r) (hr : r ≤ 12) (hN : (1 : Int32) <<< (bcV (unF (I (h + 3)) r 0 0 &&& ((1 <<< (x &&& 31)) ^^^ -1)) &&& 31) = nI N) (hN4 : N ≤ 4096) (hQ : ∀ rv : Int32, rv = (if orF (I (h + 4)) r 0 0 &&& (1 <<< (x &&& 31)) = 0 then -1 else caF (foH I h r (-1)) (unF (I (h + 3)) r 0 0 &&& ((1 <<< (x &&& 31)) ^^^ -1)) (1 <<< (x &&& 31)) N 0 (unF (I (h + 3)) r 0 0 &&& ((1 <<< (x &&& 31)) ^^^ -1))) → Q (some (.int rv)) I L Z) : AC E yX0_causeOf cX0_causeOf 6 (some .int) d 0 0 [.ref h, .int x] I L Z Q := by
  refine ac_go (ls := [some (.ref h), some (.int x), none, none, none, none]) (by decide +kernel) (Nat.le_of_ble_eq_true rfl) rfl ?_
  refine aw_aload_n dX0_causeOf_0 rfl rfl ?_
  refine aw_V0 dX0_causeOf_1 cw_X0_150 ⟨_, _, rfl⟩ hH.1 (by omega) ⟨Nat.le_refl _, Nat.le_refl _⟩ (by decide) (c_X0_borneByReasons hH hn hr (fun r1 e1 => ?_))
  refine aw_iconst (v := 1) dX0_causeOf_4 (by decide) ?_
  refine aw_iload_n dX0_causeOf_5 rfl ?_
  refine aw_ishl dX0_causeOf_6 ?_
  refine aw_iand dX0_causeOf_7 ?_
  refine aw_if_ne (tgt := 13) dX0_causeOf_8 (by decide) (fun c8 => ?_) (fun c8 => ?_)
  · refine aw_aload_n dX0_causeOf_13 rfl rfl ?_
    refine aw_V0 dX0_causeOf_14 cw_X0_165 ⟨_, _, rfl⟩ hH.1 (by omega) ⟨Nat.le_refl _, Nat.le_refl _⟩ (by decide) (c_X0_usedByReasons hH hn hr (fun r14 e14 => ?_))
    refine aw_iconst (v := 1) dX0_causeOf_17 (by decide) ?_
    refine aw_iload_n dX0_causeOf_18 rfl ?_
    refine aw_ishl dX0_causeOf_19 ?_
    refine aw_iconst (v := -1) dX0_causeOf_20 (by decide) ?_
    refine aw_ixor dX0_causeOf_21 ?_
    refine aw_iand dX0_causeOf_22 ?_
    refine aw_istore_n (ls' := [_, _, _, _, _, _]) dX0_causeOf_23 (by decide) rfl rfl ?_
    refine aw_iload_n dX0_causeOf_24 rfl ?_
    refine aw_istore_n (ls' := [_, _, _, _, _, _]) dX0_causeOf_25 (by decide) rfl rfl ?_
    refine aw_iconst (v := 0) dX0_causeOf_26 (by decide) ?_
    refine aw_istore (ls' := [_, _, _, _, _, _]) dX0_causeOf_27 (by decide) rfl rfl ?_
    refine aw_iconst (v := 0) dX0_causeOf_29 (by decide) ?_
    refine aw_istore (ls' := [_, _, _, _, _, _]) dX0_causeOf_30 (by decide) rfl rfl ?_
    subst e1 e14
    refine l_X0_causeOf hH hn hr hd hN hN4 N 0 _ _ (by omega) (fun rv e0 => hQ rv ?_)
    rw [if_neg c8]
    exact e0
  · refine aw_iconst (v := -1) dX0_causeOf_11 (by decide) ?_
    refine aw_ireturn (ty := .int) dX0_causeOf_12 rfl rfl ?_
    exact hQ _ (by subst e1; rw [if_pos c8])
