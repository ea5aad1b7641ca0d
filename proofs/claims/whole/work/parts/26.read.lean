def seV (k nu x v : Int32) : Int32 := if k = 0 then tuV x (fmV v 12) else if k = 1 then miF (tuV x (fmV v 12)) 12 0 0 else if k = 2 then tuV x (fmV v 12) ^^^ (1 <<< (nu &&& 31)) else if k = 3 then miF (tuV (x &&& (x - 1)) (fmV v 12)) 12 0 0 else if k = 4 then tuV (4095 &&& (x ^^^ -1)) (fmV v 12) ^^^ (1 <<< (nu &&& 31)) else x
def msV (v : Int32) : Int32 := 1 <<< (fmV v 12 &&& 31)
def ovV (k nu ho v : Int32) : Int32 := if k = 0 then msV v else if k = 2 then 4095 &&& -msV v else if k = 3 then 1 <<< (nu &&& 31) else if k = 4 then (if ho - ho / 2 * 2 = 1 then 4095 &&& -msV v else 0) else 0
theorem c_X0_seen {E : Ev} {d : Nat} {I : Mi} {L : Ml} {Z : Mz} {Q : Po} {h : Nat} {x : Int32} {v : Int32} {p : Nat} (hd : 2 ≤ d) (hH : HZ Z h) (hp : p < 5) (hQ : ∀ rv : Int32, rv = (seV (I (h + 5) p) (I (h + 6) p) x v) → Q (some (.int rv)) I L Z) : AC E yX0_seen cX0_seen 4 (some .int) d 0 0 [.ref h, .int (nI p), .int x, .int v] I L Z Q := by
  refine ac_go (ls := [some (.ref h), some (.int (nI p)), some (.int x), some (.int v)]) (by decide +kernel) (Nat.le_of_ble_eq_true rfl) rfl ?_
  refine aw_aload_n dX0_seen_0 rfl rfl ?_
  refine aw_gr dX0_seen_1 fw_X0_24 hH.1 hH.2.2.2.2.2.2.1 ?_
  refine aw_iload_n dX0_seen_4 rfl ?_
  refine aw_ia p dX0_seen_5 hH.2.2.2.2.2.2.2.2.2.2.2.2.2.2.1 rfl (by omega) (by decide) ?_
  by_cases t6 : (I (h + 5) p).toInt < 0 ∨ 4 < (I (h + 5) p).toInt
  · refine aw_tableOut (tgt := 103) dX0_seen_6 t6 (by decide) ?_
    refine aw_iload_n dX0_seen_103 rfl ?_
    refine aw_ireturn (ty := .int) dX0_seen_104 rfl rfl ?_
    exact hQ _ (by simp (decide := true) only [seV, ne_out t6 0 (by decide) (by decide), ne_out t6 1 (by decide) (by decide), ne_out t6 2 (by decide) (by decide), ne_out t6 3 (by decide) (by decide), ne_out t6 4 (by decide) (by decide), not_true_eq_false, not_false_eq_true, and_true, true_and, and_false, false_and, or_true, true_or, or_false, false_or, ite_true, ite_false, if_true, if_false, reduceIte, and_self, or_self])
  · obtain ⟨g1_6, g2_6⟩ := not_or.mp t6
    rcases (show (I (h + 5) p) = 0 ∨ (I (h + 5) p) = 1 ∨ (I (h + 5) p) = 2 ∨ (I (h + 5) p) = 3 ∨ (I (h + 5) p) = 4 from sw_5_0 g1_6 g2_6) with q6 | q6 | q6 | q6 | q6
    · refine aw_tableIn (off := 34) (tgt := 40) dX0_seen_6 g1_6 g2_6 (by rw [q6]; rfl) (by decide) ?_
      refine aw_iload_n dX0_seen_40 rfl ?_
      refine aw_iload_n dX0_seen_41 rfl ?_
      refine aw_S2 dX0_seen_42 cw_X0_113 (by omega) ⟨Nat.le_refl _, Nat.le_refl _⟩ (by decide) (c_X0_turned (by omega) (fun r42 e42 => ?_))
      refine aw_ireturn (ty := .int) dX0_seen_45 rfl rfl ?_
      exact hQ _ (by subst e42; simp (decide := true) only [seV, q6, not_true_eq_false, not_false_eq_true, and_true, true_and, and_false, false_and, or_true, true_or, or_false, false_or, ite_true, ite_false, if_true, if_false, reduceIte, and_self, or_self])
    · refine aw_tableIn (off := 40) (tgt := 46) dX0_seen_6 g1_6 g2_6 (by rw [q6]; rfl) (by decide) ?_
      refine aw_iload_n dX0_seen_46 rfl ?_
      refine aw_iload_n dX0_seen_47 rfl ?_
      refine aw_S2 dX0_seen_48 cw_X0_113 (by omega) ⟨Nat.le_refl _, Nat.le_refl _⟩ (by decide) (c_X0_turned (by omega) (fun r48 e48 => ?_))
      refine aw_S1 dX0_seen_51 cw_X0_116 (by omega) ⟨Nat.le_refl _, Nat.le_refl _⟩ (by decide) (c_X0_mirrored (fun r51 e51 => ?_))
      refine aw_ireturn (ty := .int) dX0_seen_54 rfl rfl ?_
      exact hQ _ (by subst e48 e51; simp (decide := true) only [seV, q6, not_true_eq_false, not_false_eq_true, and_true, true_and, and_false, false_and, or_true, true_or, or_false, false_or, ite_true, ite_false, if_true, if_false, reduceIte, and_self, or_self])
    · refine aw_tableIn (off := 49) (tgt := 55) dX0_seen_6 g1_6 g2_6 (by rw [q6]; rfl) (by decide) ?_
      refine aw_iload_n dX0_seen_55 rfl ?_
      refine aw_iload_n dX0_seen_56 rfl ?_
      refine aw_S2 dX0_seen_57 cw_X0_113 (by omega) ⟨Nat.le_refl _, Nat.le_refl _⟩ (by decide) (c_X0_turned (by omega) (fun r57 e57 => ?_))
      refine aw_iconst (v := 1) dX0_seen_60 (by decide) ?_
      refine aw_aload_n dX0_seen_61 rfl rfl ?_
      refine aw_gr dX0_seen_62 fw_X0_27 hH.1 hH.2.2.2.2.2.2.2.1 ?_
      refine aw_iload_n dX0_seen_65 rfl ?_
      refine aw_ia p dX0_seen_66 hH.2.2.2.2.2.2.2.2.2.2.2.2.2.2.2.1 rfl (by omega) (by decide) ?_
      refine aw_ishl dX0_seen_67 ?_
      refine aw_ixor dX0_seen_68 ?_
      refine aw_ireturn (ty := .int) dX0_seen_69 rfl rfl ?_
      exact hQ _ (by subst e57; simp (decide := true) only [seV, q6, not_true_eq_false, not_false_eq_true, and_true, true_and, and_false, false_and, or_true, true_or, or_false, false_or, ite_true, ite_false, if_true, if_false, reduceIte, and_self, or_self])
    · refine aw_tableIn (off := 64) (tgt := 70) dX0_seen_6 g1_6 g2_6 (by rw [q6]; rfl) (by decide) ?_
      refine aw_iload_n dX0_seen_70 rfl ?_
      refine aw_S1 dX0_seen_71 cw_X0_119 (by omega) ⟨Nat.le_refl _, Nat.le_refl _⟩ (by decide) (c_X0_withoutLeast (fun r71 e71 => ?_))
      refine aw_iload_n dX0_seen_74 rfl ?_
      refine aw_S2 dX0_seen_75 cw_X0_113 (by omega) ⟨Nat.le_refl _, Nat.le_refl _⟩ (by decide) (c_X0_turned (by omega) (fun r75 e75 => ?_))
      refine aw_S1 dX0_seen_78 cw_X0_116 (by omega) ⟨Nat.le_refl _, Nat.le_refl _⟩ (by decide) (c_X0_mirrored (fun r78 e78 => ?_))
      refine aw_ireturn (ty := .int) dX0_seen_81 rfl rfl ?_
      exact hQ _ (by subst e71 e75 e78; simp (decide := true) only [seV, q6, not_true_eq_false, not_false_eq_true, and_true, true_and, and_false, false_and, or_true, true_or, or_false, false_or, ite_true, ite_false, if_true, if_false, reduceIte, and_self, or_self])
    · refine aw_tableIn (off := 76) (tgt := 82) dX0_seen_6 g1_6 g2_6 (by rw [q6]; rfl) (by decide) ?_
      refine aw_sipush (v := 4095) dX0_seen_82 (by decide) ?_
      refine aw_iload_n dX0_seen_85 rfl ?_
      refine aw_iconst (v := -1) dX0_seen_86 (by decide) ?_
      refine aw_ixor dX0_seen_87 ?_
      refine aw_iand dX0_seen_88 ?_
      refine aw_iload_n dX0_seen_89 rfl ?_
      refine aw_S2 dX0_seen_90 cw_X0_113 (by omega) ⟨Nat.le_refl _, Nat.le_refl _⟩ (by decide) (c_X0_turned (by omega) (fun r90 e90 => ?_))
      refine aw_iconst (v := 1) dX0_seen_93 (by decide) ?_
      refine aw_aload_n dX0_seen_94 rfl rfl ?_
      refine aw_gr dX0_seen_95 fw_X0_27 hH.1 hH.2.2.2.2.2.2.2.1 ?_
      refine aw_iload_n dX0_seen_98 rfl ?_
      refine aw_ia p dX0_seen_99 hH.2.2.2.2.2.2.2.2.2.2.2.2.2.2.2.1 rfl (by omega) (by decide) ?_
      refine aw_ishl dX0_seen_100 ?_
      refine aw_ixor dX0_seen_101 ?_
      refine aw_ireturn (ty := .int) dX0_seen_102 rfl rfl ?_
      exact hQ _ (by subst e90; simp (decide := true) only [seV, q6, not_true_eq_false, not_false_eq_true, and_true, true_and, and_false, false_and, or_true, true_or, or_false, false_or, ite_true, ite_false, if_true, if_false, reduceIte, and_self, or_self])
theorem c_X0_overlooked {E : Ev} {d : Nat} {I : Mi} {L : Ml} {Z : Mz} {Q : Po} {h : Nat} {v : Int32} {p : Nat} (hd : 1 ≤ d) (hH : HZ Z h) (hp : p < 5) (hQ : ∀ rv : Int32, rv = (ovV (I (h + 5) p) (I (h + 6) p) (I h 2) v) → Q (some (.int rv)) I L Z) : AC E yX0_overlooked cX0_overlooked 5 (some .int) d 0 0 [.ref h, .int (nI p), .int v] I L Z Q := by
  refine ac_go (ls := [some (.ref h), some (.int (nI p)), some (.int v), none, none]) (by decide +kernel) (Nat.le_of_ble_eq_true rfl) rfl ?_
  refine aw_iconst (v := 1) dX0_overlooked_0 (by decide) ?_
  refine aw_iload_n dX0_overlooked_1 rfl ?_
  refine aw_bipush (v := 12) dX0_overlooked_2 (by decide) ?_
  refine aw_S2 dX0_overlooked_4 cw_X0_122 (by omega) ⟨Nat.le_refl _, Nat.le_refl _⟩ (by simp [Value.category, psh]) (c_fm (by decide) (fun r4 e4 => ?_))
  refine aw_ishl dX0_overlooked_7 ?_
  refine aw_istore_n (ls' := [_, _, _, _, _]) dX0_overlooked_8 (by decide) rfl rfl ?_
  refine aw_sipush (v := 4095) dX0_overlooked_9 (by decide) ?_
  refine aw_iload_n dX0_overlooked_12 rfl ?_
  refine aw_ineg dX0_overlooked_13 ?_
  refine aw_iand dX0_overlooked_14 ?_
  refine aw_istore (ls' := [_, _, _, _, _]) dX0_overlooked_15 (by decide) rfl rfl ?_
  refine aw_aload_n dX0_overlooked_17 rfl rfl ?_
  refine aw_gr dX0_overlooked_18 fw_X0_24 hH.1 hH.2.2.2.2.2.2.1 ?_
  refine aw_iload_n dX0_overlooked_21 rfl ?_
  refine aw_ia p dX0_overlooked_22 hH.2.2.2.2.2.2.2.2.2.2.2.2.2.2.1 rfl (by omega) (by decide) ?_
  by_cases t23 : (I (h + 5) p).toInt < 0 ∨ 4 < (I (h + 5) p).toInt
  · refine aw_tableOut (tgt := 87) dX0_overlooked_23 t23 (by decide) ?_
    refine aw_iconst (v := 0) dX0_overlooked_87 (by decide) ?_
    refine aw_ireturn (ty := .int) dX0_overlooked_88 rfl rfl ?_
    exact hQ _ (by subst e4; simp (decide := true) only [ovV, msV, ne_out t23 0 (by decide) (by decide), ne_out t23 1 (by decide) (by decide), ne_out t23 2 (by decide) (by decide), ne_out t23 3 (by decide) (by decide), ne_out t23 4 (by decide) (by decide), not_true_eq_false, not_false_eq_true, and_true, true_and, and_false, false_and, or_true, true_or, or_false, false_or, ite_true, ite_false, if_true, if_false, reduceIte, and_self, or_self])
  · obtain ⟨g1_23, g2_23⟩ := not_or.mp t23
    rcases (show (I (h + 5) p) = 0 ∨ (I (h + 5) p) = 1 ∨ (I (h + 5) p) = 2 ∨ (I (h + 5) p) = 3 ∨ (I (h + 5) p) = 4 from sw_5_0 g1_23 g2_23) with q23 | q23 | q23 | q23 | q23
    · refine aw_tableIn (off := 33) (tgt := 56) dX0_overlooked_23 g1_23 g2_23 (by rw [q23]; rfl) (by decide) ?_
      refine aw_iload_n dX0_overlooked_56 rfl ?_
      refine aw_ireturn (ty := .int) dX0_overlooked_57 rfl rfl ?_
      exact hQ _ (by subst e4; simp (decide := true) only [ovV, msV, q23, not_true_eq_false, not_false_eq_true, and_true, true_and, and_false, false_and, or_true, true_or, or_false, false_or, ite_true, ite_false, if_true, if_false, reduceIte, and_self, or_self])
    · refine aw_tableIn (off := 64) (tgt := 87) dX0_overlooked_23 g1_23 g2_23 (by rw [q23]; rfl) (by decide) ?_
      refine aw_iconst (v := 0) dX0_overlooked_87 (by decide) ?_
      refine aw_ireturn (ty := .int) dX0_overlooked_88 rfl rfl ?_
      exact hQ _ (by subst e4; simp (decide := true) only [ovV, msV, q23, not_true_eq_false, not_false_eq_true, and_true, true_and, and_false, false_and, or_true, true_or, or_false, false_or, ite_true, ite_false, if_true, if_false, reduceIte, and_self, or_self])
    · refine aw_tableIn (off := 35) (tgt := 58) dX0_overlooked_23 g1_23 g2_23 (by rw [q23]; rfl) (by decide) ?_
      refine aw_iload dX0_overlooked_58 rfl ?_
      refine aw_ireturn (ty := .int) dX0_overlooked_60 rfl rfl ?_
      exact hQ _ (by subst e4; simp (decide := true) only [ovV, msV, q23, not_true_eq_false, not_false_eq_true, and_true, true_and, and_false, false_and, or_true, true_or, or_false, false_or, ite_true, ite_false, if_true, if_false, reduceIte, and_self, or_self])
    · refine aw_tableIn (off := 38) (tgt := 61) dX0_overlooked_23 g1_23 g2_23 (by rw [q23]; rfl) (by decide) ?_
      refine aw_iconst (v := 1) dX0_overlooked_61 (by decide) ?_
      refine aw_aload_n dX0_overlooked_62 rfl rfl ?_
      refine aw_gr dX0_overlooked_63 fw_X0_27 hH.1 hH.2.2.2.2.2.2.2.1 ?_
      refine aw_iload_n dX0_overlooked_66 rfl ?_
      refine aw_ia _ dX0_overlooked_67 hH.2.2.2.2.2.2.2.2.2.2.2.2.2.2.2.1 rfl (by omega) (by decide) ?_
      refine aw_ishl dX0_overlooked_68 ?_
      refine aw_ireturn (ty := .int) dX0_overlooked_69 rfl rfl ?_
      exact hQ _ (by subst e4; simp (decide := true) only [ovV, msV, q23, not_true_eq_false, not_false_eq_true, and_true, true_and, and_false, false_and, or_true, true_or, or_false, false_or, ite_true, ite_false, if_true, if_false, reduceIte, and_self, or_self])
    · refine aw_tableIn (off := 47) (tgt := 70) dX0_overlooked_23 g1_23 g2_23 (by rw [q23]; rfl) (by decide) ?_
      refine aw_aload_n dX0_overlooked_70 rfl rfl ?_
      refine aw_gi dX0_overlooked_71 fw_X0_44 hH.1 ?_
      refine aw_iconst (v := 2) dX0_overlooked_74 (by decide) ?_
      refine aw_irem dX0_overlooked_75 (by decide) ?_
      refine aw_iconst (v := 1) dX0_overlooked_76 (by decide) ?_
      refine aw_icmp_ne (tgt := 85) dX0_overlooked_77 (by decide) (fun c77 => ?_) (fun c77 => ?_)
      · refine aw_iconst (v := 0) dX0_overlooked_85 (by decide) ?_
        refine aw_ireturn (ty := .int) dX0_overlooked_86 rfl rfl ?_
        exact hQ _ (by subst e4; simp (decide := true) only [ovV, msV, q23, c77, not_true_eq_false, not_false_eq_true, and_true, true_and, and_false, false_and, or_true, true_or, or_false, false_or, ite_true, ite_false, if_true, if_false, reduceIte, and_self, or_self])
      · refine aw_iload dX0_overlooked_80 rfl ?_
        refine aw_goto (tgt := 86) dX0_overlooked_82 (by decide) ?_
        refine aw_ireturn (ty := .int) dX0_overlooked_86 rfl rfl ?_
        exact hQ _ (by subst e4; simp (decide := true) only [ovV, msV, q23, c77, not_true_eq_false, not_false_eq_true, and_true, true_and, and_false, false_and, or_true, true_or, or_false, false_or, ite_true, ite_false, if_true, if_false, reduceIte, and_self, or_self])
/-- what reading needs of a house -/
def RD (I : Mi) (Z : Mz) (h ru t q mm ma mb n : Nat) : Prop := HZ Z h ∧ ShZ Z ∧ RuP I Z h ru t q mm ma mb ∧ I h 6 = nI n ∧ n ≤ 6 ∧ 3 < h
theorem RD.sam {I I' : Mi} {Z : Mz} {h ru t q mm ma mb n : Nat} (s : SamH h I I') (r : RD I Z h ru t q mm ma mb n) : RD I' Z h ru t q mm ma mb n := by
  obtain ⟨h1, h2, h3, h4, h5, h6⟩ := r
  obtain ⟨g1, g2, g3, g4, g5, g6, g7, g8, g9, ga, gb, gc, gd⟩ := h3
  refine ⟨h1, h2, ⟨?_, g2, g3, g4, g5, ?_, ?_, g8, g9, ga, gb, gc, gd⟩, ?_, h5, h6⟩
  · rw [s h (by omega) (by omega)]; exact g1
  · rw [s t gc gd]; exact g6
  · rw [s t gc gd]; exact g7
  · rw [s h (by omega) (by omega)]; exact h4
theorem RD.h3 {I : Mi} {Z : Mz} {h ru t q mm ma mb n : Nat} (r : RD I Z h ru t q mm ma mb n) : 3 < h := r.2.2.2.2.2
theorem RD.q3 {I : Mi} {Z : Mz} {h ru t q mm ma mb n : Nat} (r : RD I Z h ru t q mm ma mb n) : q ≠ 3 ∧ q ≠ h + 8 := ⟨r.2.2.1.2.2.2.2.2.2.2.2.2.1, r.2.2.1.2.2.2.2.2.2.2.2.2.2.1⟩
theorem rlC_sam {I I' : Mi} {h q ma mb mm p one cup : Nat} (s : SamH h I I') (h3 : 3 < h) (hq : q ≠ 3 ∧ q ≠ h + 8) : rlC I' h q ma mb mm p one cup = rlC I h q ma mb mm p one cup := by
  simp only [rlC, s q hq.1 hq.2, s (h + 1) (by omega) (by omega), s (h + 2) (by omega) (by omega), s (h + 6) (by omega) (by omega), s (h + 7) (by omega) (by omega), s h (by omega) (by omega)]
theorem rlN_sam {I I' : Mi} {h q ma mb mm p one : Nat} (s : SamH h I I') (h3 : 3 < h) (hq : q ≠ 3 ∧ q ≠ h + 8) : rlN I' h q ma mb mm p one = rlN I h q ma mb mm p one := by
  simp only [rlN, s q hq.1 hq.2, s (h + 6) (by omega) (by omega), s (h + 7) (by omega) (by omega), s h (by omega) (by omega)]
/-- what one reads of a cup -/
def rbV (I : Mi) (h q ma mb mm p c : Nat) : Int32 := seV (I (h + 5) p) (I (h + 6) p) (I (h + 1) c) (rlC I h q ma mb mm 0 p c) &&& (ovV (I (h + 5) p) (I (h + 6) p) (I h 2) (rlC I h q ma mb mm 1 p c) ^^^ -1) &&& (((1 : Int32) <<< (I (h + 2) c &&& 31)) ^^^ -1)
theorem rbV_sam {I I' : Mi} {h q ma mb mm p c : Nat} (s : SamH h I I') (h3 : 3 < h) (hq : q ≠ 3 ∧ q ≠ h + 8) : rbV I' h q ma mb mm p c = rbV I h q ma mb mm p c := by
  simp only [rbV, rlC_sam s h3 hq, s (h + 5) (by omega) (by omega), s (h + 1) (by omega) (by omega), s (h + 2) (by omega) (by omega), s (h + 6) (by omega) (by omega), s h (by omega) (by omega)]
theorem c_X0_readBy {E : Ev} {d : Nat} {I : Mi} {L : Ml} {Z : Mz} {Q : Po} {h : Nat} {p c : Nat} {ru t q mm ma mb n : Nat} (hd : 3 ≤ d) (hR : RD I Z h ru t q mm ma mb n) (hp : p < 5) (hc : c < n) (hQ : ∀ (rv : Int32) (I9 : Mi), SamH h I I9 → rv = rbV I h q ma mb mm p c → Q (some (.int rv)) I9 L Z) : AC E yX0_readBy cX0_readBy 4 (some .int) d 0 0 [.ref h, .int (nI p), .int (nI c)] I L Z Q := by
  refine ac_go (ls := [some (.ref h), some (.int (nI p)), some (.int (nI c)), none]) (by decide +kernel) (Nat.le_of_ble_eq_true rfl) rfl ?_
  have hn6 := hR.2.2.2.2.1
  have h3 := hR.h3
  refine aw_aload_n dX0_readBy_0 rfl rfl ?_
  refine aw_iload_n dX0_readBy_1 rfl ?_
  refine aw_aload_n dX0_readBy_2 rfl rfl ?_
  refine aw_gr dX0_readBy_3 fw_X0_9 hR.1.1 hR.1.2.2.1 ?_
  refine aw_iload_n dX0_readBy_6 rfl ?_
  refine aw_ia c dX0_readBy_7 hR.1.2.2.2.2.2.2.2.2.2.2.1 rfl (by omega) (by decide) ?_
  refine aw_aload_n dX0_readBy_8 rfl rfl ?_
  refine aw_iconst (v := 0) dX0_readBy_9 (by decide) ?_
  refine aw_iload_n dX0_readBy_10 rfl ?_
  refine aw_iload_n dX0_readBy_11 rfl ?_
  refine aw_V3 dX0_readBy_12 cw_X0_109 ⟨_, _, rfl⟩ hR.1.1 (by omega) ⟨Nat.le_refl _, Nat.le_refl _⟩ (by simp [Value.category, psh]) (c_X0_ruled0 (by omega) hR.1 hR.2.1 hR.2.2.1 hp hR.2.2.2.1 hR.2.2.2.2.1 hc (by have := hR.h3; omega) (fun r12 I12 h12 e12 => ?_))
  refine aw_V3 dX0_readBy_15 cw_X0_125 ⟨_, _, rfl⟩ hR.1.1 (by omega) ⟨Nat.le_refl _, Nat.le_refl _⟩ (by decide) (c_X0_seen (by omega) hR.1 hp (fun r15 e15 => ?_))
  refine aw_istore_n (ls' := [_, _, _, _]) dX0_readBy_18 (by decide) rfl rfl ?_
  refine aw_iload_n dX0_readBy_19 rfl ?_
  refine aw_aload_n dX0_readBy_20 rfl rfl ?_
  refine aw_iload_n dX0_readBy_21 rfl ?_
  refine aw_aload_n dX0_readBy_22 rfl rfl ?_
  refine aw_iconst (v := 1) dX0_readBy_23 (by decide) ?_
  refine aw_iload_n dX0_readBy_24 rfl ?_
  refine aw_iload_n dX0_readBy_25 rfl ?_
  refine aw_V3 dX0_readBy_26 cw_X0_109 ⟨_, _, rfl⟩ hR.1.1 (by omega) ⟨Nat.le_refl _, Nat.le_refl _⟩ (by simp [Value.category, psh]) (c_X0_ruled1 (by omega) (hR.sam h12).1 (hR.sam h12).2.1 (hR.sam h12).2.2.1 hp (hR.sam h12).2.2.2.1 (hR.sam h12).2.2.2.2.1 hc (by have := (hR.sam h12).h3; omega) (fun r26 I26 h26 e26 => ?_))
  refine aw_V2 dX0_readBy_29 cw_X0_128 ⟨_, _, rfl⟩ hR.1.1 (by omega) ⟨Nat.le_refl _, Nat.le_refl _⟩ (by simp [Value.category, psh]) (c_X0_overlooked (by omega) hR.1 hp (fun r29 e29 => ?_))
  refine aw_iconst (v := -1) dX0_readBy_32 (by decide) ?_
  refine aw_ixor dX0_readBy_33 ?_
  refine aw_iand dX0_readBy_34 ?_
  refine aw_iconst (v := 1) dX0_readBy_35 (by decide) ?_
  refine aw_aload_n dX0_readBy_36 rfl rfl ?_
  refine aw_gr dX0_readBy_37 fw_X0_15 hR.1.1 hR.1.2.2.2.1 ?_
  refine aw_iload_n dX0_readBy_40 rfl ?_
  refine aw_ia c dX0_readBy_41 hR.1.2.2.2.2.2.2.2.2.2.2.2.1 rfl (by omega) (by decide) ?_
  refine aw_ishl dX0_readBy_42 ?_
  refine aw_iconst (v := -1) dX0_readBy_43 (by decide) ?_
  refine aw_ixor dX0_readBy_44 ?_
  refine aw_iand dX0_readBy_45 ?_
  refine aw_ireturn (ty := .int) dX0_readBy_46 rfl rfl ?_
  have s26 := h12.tr h26
  refine hQ _ _ s26 ?_
  rw [e29, e15, e26, e12, rlC_sam h12 h3 hR.q3, s26 (h + 5) (by omega) (by omega), s26 (h + 6) (by omega) (by omega), s26 h (by omega) (by omega), s26 (h + 2) (by omega) (by omega), h12 (h + 5) (by omega) (by omega), h12 (h + 6) (by omega) (by omega)]
  rfl
/-- whether one is steady -/
abbrev sdP (I : Mi) (h q ma mb mm p : Nat) : Prop := if I (h + 5) p = 0 ∨ I (h + 5) p = 2 then ¬ rlN I h q ma mb mm 2 p ≤ I (h + 7) p else if I (h + 5) p = 4 then ¬ 2 * rlN I h q ma mb mm 2 p ≤ I (h + 7) p else True
theorem c_X0_isSteady {E : Ev} {d : Nat} {I : Mi} {L : Ml} {Z : Mz} {Q : Po} {h : Nat} {p : Nat} {ru t q mm ma mb n : Nat} (hd : 3 ≤ d) (hR : RD I Z h ru t q mm ma mb n) (hp : p < 5) (hT : ∀ I9 : Mi, SamH h I I9 → sdP I h q ma mb mm p → Q (some (.int 1)) I9 L Z) (hF : ∀ I9 : Mi, SamH h I I9 → ¬ sdP I h q ma mb mm p → Q (some (.int 0)) I9 L Z) : AC E yX0_isSteady cX0_isSteady 2 (some .boolean) d 0 0 [.ref h, .int (nI p)] I L Z Q := by
  refine ac_go (ls := [some (.ref h), some (.int (nI p))]) (by decide +kernel) (Nat.le_of_ble_eq_true rfl) rfl ?_
  refine aw_aload_n dX0_isSteady_0 rfl rfl ?_
  refine aw_gr dX0_isSteady_1 fw_X0_24 hR.1.1 hR.1.2.2.2.2.2.2.1 ?_
  refine aw_iload_n dX0_isSteady_4 rfl ?_
  refine aw_ia p dX0_isSteady_5 hR.1.2.2.2.2.2.2.2.2.2.2.2.2.2.2.1 rfl (by omega) (by decide) ?_
  by_cases t6 : (I (h + 5) p).toInt < 0 ∨ 4 < (I (h + 5) p).toInt
  · refine aw_tableOut (tgt := 86) dX0_isSteady_6 t6 (by decide) ?_
    refine aw_iconst (v := 1) dX0_isSteady_86 (by decide) ?_
    refine aw_ireturn (ty := .boolean) dX0_isSteady_87 rfl (by decide) ?_
    exact hT _ SamH.rf (by simp (decide := true) only [sdP, ne_out t6 0 (by decide) (by decide), ne_out t6 1 (by decide) (by decide), ne_out t6 2 (by decide) (by decide), ne_out t6 3 (by decide) (by decide), ne_out t6 4 (by decide) (by decide), not_true_eq_false, not_false_eq_true, and_true, true_and, and_false, false_and, or_true, true_or, or_false, false_or, ite_true, ite_false, if_true, if_false, reduceIte, and_self, or_self])
  · obtain ⟨g1_6, g2_6⟩ := not_or.mp t6
    rcases (show (I (h + 5) p) = 0 ∨ (I (h + 5) p) = 1 ∨ (I (h + 5) p) = 2 ∨ (I (h + 5) p) = 3 ∨ (I (h + 5) p) = 4 from sw_5_0 g1_6 g2_6) with q6 | q6 | q6 | q6 | q6
    · refine aw_tableIn (off := 34) (tgt := 40) dX0_isSteady_6 g1_6 g2_6 (by rw [q6]; rfl) (by decide) ?_
      refine aw_aload_n dX0_isSteady_40 rfl rfl ?_
      refine aw_gr dX0_isSteady_41 fw_X0_30 hR.1.1 hR.1.2.2.2.2.2.2.2.2.1 ?_
      refine aw_iload_n dX0_isSteady_44 rfl ?_
      refine aw_ia p dX0_isSteady_45 hR.1.2.2.2.2.2.2.2.2.2.2.2.2.2.2.2.2.1 rfl (by omega) (by decide) ?_
      refine aw_aload_n dX0_isSteady_46 rfl rfl ?_
      refine aw_iconst (v := 2) dX0_isSteady_47 (by decide) ?_
      refine aw_iload_n dX0_isSteady_48 rfl ?_
      refine aw_iconst (v := -1) dX0_isSteady_49 (by decide) ?_
      refine aw_V3 dX0_isSteady_50 cw_X0_109 ⟨_, _, rfl⟩ hR.1.1 (by omega) ⟨Nat.le_refl _, Nat.le_refl _⟩ (by simp [Value.category, psh]) (c_X0_ruled2 (by omega) hR.1 hR.2.1 hR.2.2.1 hp (by have := hR.h3; omega) (fun r50 I50 h50 e50 => ?_))
      refine aw_icmp_ge (tgt := 60) dX0_isSteady_53 (by decide) (fun c53 => ?_) (fun c53 => ?_)
      · refine aw_iconst (v := 0) dX0_isSteady_60 (by decide) ?_
        refine aw_ireturn (ty := .boolean) dX0_isSteady_61 rfl (by decide) ?_
        exact hF _ h50 (by subst e50; simp (decide := true) only [sdP, q6, c53, not_true_eq_false, not_false_eq_true, and_true, true_and, and_false, false_and, or_true, true_or, or_false, false_or, ite_true, ite_false, if_true, if_false, reduceIte, and_self, or_self])
      · refine aw_iconst (v := 1) dX0_isSteady_56 (by decide) ?_
        refine aw_goto (tgt := 61) dX0_isSteady_57 (by decide) ?_
        refine aw_ireturn (ty := .boolean) dX0_isSteady_61 rfl (by decide) ?_
        exact hT _ h50 (by subst e50; simp (decide := true) only [sdP, q6, c53, not_true_eq_false, not_false_eq_true, and_true, true_and, and_false, false_and, or_true, true_or, or_false, false_or, ite_true, ite_false, if_true, if_false, reduceIte, and_self, or_self])
    · refine aw_tableIn (off := 80) (tgt := 86) dX0_isSteady_6 g1_6 g2_6 (by rw [q6]; rfl) (by decide) ?_
      refine aw_iconst (v := 1) dX0_isSteady_86 (by decide) ?_
      refine aw_ireturn (ty := .boolean) dX0_isSteady_87 rfl (by decide) ?_
      exact hT _ SamH.rf (by simp (decide := true) only [sdP, q6, not_true_eq_false, not_false_eq_true, and_true, true_and, and_false, false_and, or_true, true_or, or_false, false_or, ite_true, ite_false, if_true, if_false, reduceIte, and_self, or_self])
    · refine aw_tableIn (off := 34) (tgt := 40) dX0_isSteady_6 g1_6 g2_6 (by rw [q6]; rfl) (by decide) ?_
      refine aw_aload_n dX0_isSteady_40 rfl rfl ?_
      refine aw_gr dX0_isSteady_41 fw_X0_30 hR.1.1 hR.1.2.2.2.2.2.2.2.2.1 ?_
      refine aw_iload_n dX0_isSteady_44 rfl ?_
      refine aw_ia p dX0_isSteady_45 hR.1.2.2.2.2.2.2.2.2.2.2.2.2.2.2.2.2.1 rfl (by omega) (by decide) ?_
      refine aw_aload_n dX0_isSteady_46 rfl rfl ?_
      refine aw_iconst (v := 2) dX0_isSteady_47 (by decide) ?_
      refine aw_iload_n dX0_isSteady_48 rfl ?_
      refine aw_iconst (v := -1) dX0_isSteady_49 (by decide) ?_
      refine aw_V3 dX0_isSteady_50 cw_X0_109 ⟨_, _, rfl⟩ hR.1.1 (by omega) ⟨Nat.le_refl _, Nat.le_refl _⟩ (by simp [Value.category, psh]) (c_X0_ruled2 (by omega) hR.1 hR.2.1 hR.2.2.1 hp (by have := hR.h3; omega) (fun r50 I50 h50 e50 => ?_))
      refine aw_icmp_ge (tgt := 60) dX0_isSteady_53 (by decide) (fun c53 => ?_) (fun c53 => ?_)
      · refine aw_iconst (v := 0) dX0_isSteady_60 (by decide) ?_
        refine aw_ireturn (ty := .boolean) dX0_isSteady_61 rfl (by decide) ?_
        exact hF _ h50 (by subst e50; simp (decide := true) only [sdP, q6, c53, not_true_eq_false, not_false_eq_true, and_true, true_and, and_false, false_and, or_true, true_or, or_false, false_or, ite_true, ite_false, if_true, if_false, reduceIte, and_self, or_self])
      · refine aw_iconst (v := 1) dX0_isSteady_56 (by decide) ?_
        refine aw_goto (tgt := 61) dX0_isSteady_57 (by decide) ?_
        refine aw_ireturn (ty := .boolean) dX0_isSteady_61 rfl (by decide) ?_
        exact hT _ h50 (by subst e50; simp (decide := true) only [sdP, q6, c53, not_true_eq_false, not_false_eq_true, and_true, true_and, and_false, false_and, or_true, true_or, or_false, false_or, ite_true, ite_false, if_true, if_false, reduceIte, and_self, or_self])
    · refine aw_tableIn (off := 80) (tgt := 86) dX0_isSteady_6 g1_6 g2_6 (by rw [q6]; rfl) (by decide) ?_
      refine aw_iconst (v := 1) dX0_isSteady_86 (by decide) ?_
      refine aw_ireturn (ty := .boolean) dX0_isSteady_87 rfl (by decide) ?_
      exact hT _ SamH.rf (by simp (decide := true) only [sdP, q6, not_true_eq_false, not_false_eq_true, and_true, true_and, and_false, false_and, or_true, true_or, or_false, false_or, ite_true, ite_false, if_true, if_false, reduceIte, and_self, or_self])
    · refine aw_tableIn (off := 56) (tgt := 62) dX0_isSteady_6 g1_6 g2_6 (by rw [q6]; rfl) (by decide) ?_
      refine aw_aload_n dX0_isSteady_62 rfl rfl ?_
      refine aw_gr dX0_isSteady_63 fw_X0_30 hR.1.1 hR.1.2.2.2.2.2.2.2.2.1 ?_
      refine aw_iload_n dX0_isSteady_66 rfl ?_
      refine aw_ia p dX0_isSteady_67 hR.1.2.2.2.2.2.2.2.2.2.2.2.2.2.2.2.2.1 rfl (by omega) (by decide) ?_
      refine aw_iconst (v := 2) dX0_isSteady_68 (by decide) ?_
      refine aw_aload_n dX0_isSteady_69 rfl rfl ?_
      refine aw_iconst (v := 2) dX0_isSteady_70 (by decide) ?_
      refine aw_iload_n dX0_isSteady_71 rfl ?_
      refine aw_iconst (v := -1) dX0_isSteady_72 (by decide) ?_
      refine aw_V3 dX0_isSteady_73 cw_X0_109 ⟨_, _, rfl⟩ hR.1.1 (by omega) ⟨Nat.le_refl _, Nat.le_refl _⟩ (by simp [Value.category, psh]) (c_X0_ruled2 (by omega) hR.1 hR.2.1 hR.2.2.1 hp (by have := hR.h3; omega) (fun r73 I73 h73 e73 => ?_))
      refine aw_imul dX0_isSteady_76 ?_
      refine aw_icmp_ge (tgt := 84) dX0_isSteady_77 (by decide) (fun c77 => ?_) (fun c77 => ?_)
      · refine aw_iconst (v := 0) dX0_isSteady_84 (by decide) ?_
        refine aw_ireturn (ty := .boolean) dX0_isSteady_85 rfl (by decide) ?_
        exact hF _ h73 (by subst e73; simp (decide := true) only [sdP, q6, c77, not_true_eq_false, not_false_eq_true, and_true, true_and, and_false, false_and, or_true, true_or, or_false, false_or, ite_true, ite_false, if_true, if_false, reduceIte, and_self, or_self])
      · refine aw_iconst (v := 1) dX0_isSteady_80 (by decide) ?_
        refine aw_goto (tgt := 85) dX0_isSteady_81 (by decide) ?_
        refine aw_ireturn (ty := .boolean) dX0_isSteady_85 rfl (by decide) ?_
        exact hT _ h73 (by subst e73; simp (decide := true) only [sdP, q6, c77, not_true_eq_false, not_false_eq_true, and_true, true_and, and_false, false_and, or_true, true_or, or_false, false_or, ite_true, ite_false, if_true, if_false, reduceIte, and_self, or_self])
