/-! ===== the class: the reading of tokens ===== -/
def SaP (I J : Mi) : Prop := ∀ a j, ¬ (a = 4 ∧ (j = 6 ∨ j = 8)) → a ≠ 9 → J a j = I a j
theorem SaP.rf {I : Mi} : SaP I I := fun _ _ _ _ => rfl
theorem SaP.tr {I J K : Mi} (s : SaP I J) (t : SaP J K) : SaP I K := fun a j h g => (t a j h g).trans (s a j h g)
theorem SaP.u6 {I J : Mi} (s : SaP I J) (x : Int32) : SaP I (iU J 4 6 x) := by
  intro a j h g
  rw [iU_at (by omega)]
  exact s a j h g
theorem SaP.u8 {I J : Mi} (s : SaP I J) (m : Nat) (y x : Int32) : SaP I (iU (iU J 9 m y) 4 8 x) := by
  intro a j h g
  rw [iU_at (by omega), iU_at (by omega)]
  exact s a j h g
def TkP (I : Mi) (S V : Nat → Nat) (T : Nat) : Prop := (∀ j, j < T → I 6 j = nI (S j) ∧ I 7 j = nI (V j)) ∧ I 6 T = nI (S T) ∧ T ≤ 160 ∧ VOK S V T
theorem TkP.sam {I J : Mi} {S V : Nat → Nat} {T : Nat} (h : TkP I S V T) (s : SaP I J) : TkP J S V T := by
  obtain ⟨h1, h2, h3⟩ := h
  refine ⟨fun j hj => ⟨?_, ?_⟩, ?_, h3⟩
  · rw [s 6 j (by omega) (by omega)]; exact (h1 j hj).1
  · rw [s 7 j (by omega) (by omega)]; exact (h1 j hj).2
  · rw [s 6 T (by omega) (by omega)]; exact h2
theorem TkP.s6 {I : Mi} {S V : Nat → Nat} {T k : Nat} (h : TkP I S V T) (hk : k ≤ T) : I 6 k = nI (S k) := by
  rcases Nat.lt_or_ge k T with g | g
  · exact (h.1 k g).1
  · have e : k = T := by omega
    subst e; exact h.2.1
def PS (I : Mi) (k : Nat) (c : List Int32) : Prop := I 4 6 = nI k ∧ I 4 8 = nI c.length ∧ AtS (I 9) 0 c
theorem PS.u6 {I : Mi} {k : Nat} {c : List Int32} (h : PS I k c) (k2 : Nat) : PS (iU I 4 6 (nI k2)) k2 c := by
  refine ⟨iU_same, by rw [iU_at (by omega)]; exact h.2.1, ?_⟩
  rw [show iU I 4 6 (nI k2) 9 = I 9 from funext fun j => iU_at (by omega)]
  exact h.2.2
theorem PS.u8 {I : Mi} {k : Nat} {c : List Int32} (h : PS I k c) (x : Int32) : PS (iU (iU I 9 c.length x) 4 8 (nI (c.length + 1))) k (c ++ [x]) := by
  refine ⟨by rw [iU_at (by omega), iU_at (by omega)]; exact h.1, by rw [iU_same, List.length_append]; rfl, ?_⟩
  rw [AtS_app]
  refine ⟨AtS_con c 0 (fun i _ hi => ?_) h.2.2, ?_, trivial⟩
  · rw [iU_at (by omega), iU_at (by omega)]
  · rw [Nat.zero_add, iU_at (by omega), iU_same]
theorem PS.sam {I J : Mi} {k : Nat} {c : List Int32} (h : PS I k c) (e6 : J 4 6 = nI k) (e8 : J 4 8 = I 4 8) (e9 : J 9 = I 9) : PS J k c := ⟨e6, by rw [e8]; exact h.2.1, by rw [e9]; exact h.2.2⟩
abbrev KK (I : Mi) (L : Ml) (Z : Mz) (Q : Po) (c : List Int32) (T : Nat) (r : Res) : Prop := (∀ k' c' v', r = (k', some (c', v')) → ∀ J : Mi, SaP I J → PS J k' (c ++ c') → Q (some (.int 1)) J L Z) ∧ (∀ k', r = (k', none) → ∀ J : Mi, SaP I J → J 4 6 = nI k' → Q (some (.int 0)) J L Z)
def PhC (E : Ev) (D : Nat) (lev : Int32) (o : Nat) (p : Rd) (S V : Nat → Nat) (T : Nat) : Prop := ∀ (d : Nat) (I : Mi) (L : Ml) (Z : Mz) (Q : Po) (k : Nat) (c : List Int32), D ≤ d → ScZ Z → TkP I S V T → PS I k c → c.length ≤ k → k ≤ T → KK I L Z Q c T (p k) → AC E yX1_phrase cX1_phrase 6 (some .boolean) d 0 0 [.ref 4, .int lev, .int (nI o)] I L Z Q
def OnC (E : Ev) (D : Nat) (o : Nat) (p : Rd) (S V : Nat → Nat) (T : Nat) : Prop := ∀ (d : Nat) (I : Mi) (L : Ml) (Z : Mz) (Q : Po) (k : Nat) (c : List Int32), D ≤ d → ScZ Z → TkP I S V T → PS I k c → c.length ≤ k → k ≤ T → KK I L Z Q c T (p k) → AC E yX1_one cX1_one 3 (some .boolean) d 0 0 [.ref 4, .int (nI o)] I L Z Q
theorem c_X1_accept {E : Ev} {d : Nat} {I : Mi} {L : Ml} {Z : Mz} {Q : Po}  {S V : Nat → Nat} {T : Nat} {k s : Nat} (hC : ScZ Z) (hT : TkP I S V T) (h6 : I 4 6 = nI k) (hk : k ≤ T) (hs : s < 64) (hY : S k = s → Q (some (.int 1)) (iU I 4 6 (nI (k + 1))) L Z) (hN : ¬ S k = s → Q (some (.int 0)) I L Z) : AC E yX1_accept cX1_accept 2 (some .boolean) d 0 0 [.ref 4, .int (nI s)] I L Z Q := by
  refine ac_go (ls := [some (.ref 4), some (.int (nI s))]) (by decide +kernel) (Nat.le_of_ble_eq_true rfl) rfl ?_
  have hT6 := hT.2.2.1
  have hSk := (hT.2.2.2.2 k).2.2
  have hiff : nI (S k) = nI s ↔ S k = s := nI_eq (by omega) (by omega)
  refine aw_aload_n dX1_accept_0 rfl rfl ?_
  refine aw_gr dX1_accept_1 fw_X1_15 hC.1 hC.2.2.1 ?_
  refine aw_aload_n dX1_accept_4 rfl rfl ?_
  refine aw_gi dX1_accept_5 fw_X1_34 hC.1 ?_
  refine aw_ia k dX1_accept_8 hC.2.2.2.2.2.2.2.1 h6 (by omega) (by decide) ?_
  rw [hT.s6 hk]
  refine aw_iload_n dX1_accept_9 rfl ?_
  refine aw_icmp_eq (tgt := 15) dX1_accept_10 (by decide) (fun c10 => ?_) (fun c10 => ?_)
  · refine aw_aload_n dX1_accept_15 rfl rfl ?_
    refine aw_dup dX1_accept_16 rfl ?_
    refine aw_gi dX1_accept_17 fw_X1_34 hC.1 ?_
    refine aw_iconst (v := 1) dX1_accept_20 (by decide) ?_
    refine aw_iadd dX1_accept_21 ?_
    rw [h6, nI_1]
    refine aw_pi dX1_accept_22 fw_X1_34 (ww_X1_34 _) hC.1 rfl ?_
    refine aw_iconst (v := 1) dX1_accept_25 (by decide) ?_
    refine aw_ireturn (ty := .boolean) dX1_accept_26 rfl (by decide) ?_
    exact hY (hiff.mp c10)
  · refine aw_iconst (v := 0) dX1_accept_13 (by decide) ?_
    refine aw_ireturn (ty := .boolean) dX1_accept_14 rfl (by decide) ?_
    exact hN (fun w => c10 (hiff.mpr w))
theorem c_X1_make {E : Ev} {d : Nat} {I : Mi} {L : Ml} {Z : Mz} {Q : Po} {x : Int32} {z : Int32} {w : Nat} (hC : ScZ Z) (h8 : I 4 8 = nI w) (hw : w < 160) (hQ : Q none (iU (iU I 9 w ((x <<< (16 &&& 31)) ||| z)) 4 8 (nI (w + 1))) L Z) : AC E yX1_make cX1_make 3 none d 0 0 [.ref 4, .int x, .int z] I L Z Q := by
  refine ac_go (ls := [some (.ref 4), some (.int x), some (.int z)]) (by decide +kernel) (Nat.le_of_ble_eq_true rfl) rfl ?_
  refine aw_aload_n dX1_make_0 rfl rfl ?_
  refine aw_gi dX1_make_1 fw_X1_37 hC.1 ?_
  refine aw_sipush (v := 160) dX1_make_4 (by decide) ?_
  refine aw_icmp_ge (tgt := 35) dX1_make_7 (by decide) (fun zz => absurd zz (by rw [h8]; exact nI_ge (b := 160) hw (by decide))) (fun c7 => ?_)
  refine aw_aload_n dX1_make_10 rfl rfl ?_
  refine aw_gr dX1_make_11 fw_X1_24 hC.1 hC.2.2.2.2.2.1 ?_
  refine aw_aload_n dX1_make_14 rfl rfl ?_
  refine aw_gi dX1_make_15 fw_X1_37 hC.1 ?_
  refine aw_iload_n dX1_make_18 rfl ?_
  refine aw_bipush (v := 16) dX1_make_19 (by decide) ?_
  refine aw_ishl dX1_make_21 ?_
  refine aw_iload_n dX1_make_22 rfl ?_
  refine aw_ior dX1_make_23 ?_
  refine aw_is w dX1_make_24 hC.2.2.2.2.2.2.2.2.2.2 h8 hw (by decide) ?_
  refine aw_aload_n dX1_make_25 rfl rfl ?_
  refine aw_dup dX1_make_26 rfl ?_
  refine aw_gi dX1_make_27 fw_X1_37 hC.1 ?_
  refine aw_iconst (v := 1) dX1_make_30 (by decide) ?_
  refine aw_iadd dX1_make_31 ?_
  rw [iU_at (by omega), h8, nI_1]
  refine aw_pi dX1_make_32 fw_X1_37 (ww_X1_37 _) hC.1 rfl ?_
  refine aw_return dX1_make_35 rfl ?_
  exact hQ
theorem c_X1_joins0 {E : Ev} {d : Nat} {I : Mi} {L : Ml} {Z : Mz} {Q : Po}  {s : Nat} (hs : s < 64) (hT : (jO s = true) → Q (some (.int 1)) I L Z) (hF : ¬ (jO s = true) → Q (some (.int 0)) I L Z) : AC E yX1_joins cX1_joins 2 (some .boolean) d 0 0 [.int 0, .int (nI s)] I L Z Q := by
  refine ac_go (ls := [some (.int 0), some (.int (nI s))]) (by decide +kernel) (Nat.le_of_ble_eq_true rfl) rfl ?_
  have h7 : nI s = 7 ↔ s = 7 := nI_eq (b := 7) (by omega) (by decide)
  refine aw_iload_n dX1_joins_0 rfl ?_
  refine aw_tableIn (off := 35) (tgt := 36) dX1_joins_1 (by decide) (by decide) (by rfl) (by decide) ?_
  refine aw_iload_n dX1_joins_36 rfl ?_
  refine aw_bipush (v := 7) dX1_joins_37 (by decide) ?_
  refine aw_icmp_ne (tgt := 46) dX1_joins_39 (by decide) (fun c39 => ?_) (fun c39 => ?_)
  · refine aw_iconst (v := 0) dX1_joins_46 (by decide) ?_
    refine aw_ireturn (ty := .boolean) dX1_joins_47 rfl (by decide) ?_
    exact hF (by simp only [jO, Bool.or_eq_true, beq_iff_eq]; exact fun w => c39 (h7.mpr w))
  · refine aw_iconst (v := 1) dX1_joins_42 (by decide) ?_
    refine aw_goto (tgt := 47) dX1_joins_43 (by decide) ?_
    refine aw_ireturn (ty := .boolean) dX1_joins_47 rfl (by decide) ?_
    exact hT (by simp [jO, h7.mp c39])
theorem c_X1_joins1 {E : Ev} {d : Nat} {I : Mi} {L : Ml} {Z : Mz} {Q : Po}  {s : Nat} (hs : s < 64) (hT : (jA s = true) → Q (some (.int 1)) I L Z) (hF : ¬ (jA s = true) → Q (some (.int 0)) I L Z) : AC E yX1_joins cX1_joins 2 (some .boolean) d 0 0 [.int 1, .int (nI s)] I L Z Q := by
  refine ac_go (ls := [some (.int 1), some (.int (nI s))]) (by decide +kernel) (Nat.le_of_ble_eq_true rfl) rfl ?_
  have h8 : nI s = 8 ↔ s = 8 := nI_eq (b := 8) (by omega) (by decide)
  refine aw_iload_n dX1_joins_0 rfl ?_
  refine aw_tableIn (off := 47) (tgt := 48) dX1_joins_1 (by decide) (by decide) (by rfl) (by decide) ?_
  refine aw_iload_n dX1_joins_48 rfl ?_
  refine aw_bipush (v := 8) dX1_joins_49 (by decide) ?_
  refine aw_icmp_ne (tgt := 58) dX1_joins_51 (by decide) (fun c51 => ?_) (fun c51 => ?_)
  · refine aw_iconst (v := 0) dX1_joins_58 (by decide) ?_
    refine aw_ireturn (ty := .boolean) dX1_joins_59 rfl (by decide) ?_
    exact hF (by simp only [jA, Bool.or_eq_true, beq_iff_eq]; exact fun w => c51 (h8.mpr w))
  · refine aw_iconst (v := 1) dX1_joins_54 (by decide) ?_
    refine aw_goto (tgt := 59) dX1_joins_55 (by decide) ?_
    refine aw_ireturn (ty := .boolean) dX1_joins_59 rfl (by decide) ?_
    exact hT (by simp [jA, h8.mp c51])
theorem c_X1_joins2 {E : Ev} {d : Nat} {I : Mi} {L : Ml} {Z : Mz} {Q : Po}  {s : Nat} (hs : s < 64) (hT : (jN s = true) → Q (some (.int 1)) I L Z) (hF : ¬ (jN s = true) → Q (some (.int 0)) I L Z) : AC E yX1_joins cX1_joins 2 (some .boolean) d 0 0 [.int 2, .int (nI s)] I L Z Q := by
  refine ac_go (ls := [some (.int 2), some (.int (nI s))]) (by decide +kernel) (Nat.le_of_ble_eq_true rfl) rfl ?_
  have h16 : nI s = 16 ↔ s = 16 := nI_eq (b := 16) (by omega) (by decide)
  have h17 : nI s = 17 ↔ s = 17 := nI_eq (b := 17) (by omega) (by decide)
  refine aw_iload_n dX1_joins_0 rfl ?_
  refine aw_tableIn (off := 59) (tgt := 60) dX1_joins_1 (by decide) (by decide) (by rfl) (by decide) ?_
  refine aw_iload_n dX1_joins_60 rfl ?_
  refine aw_bipush (v := 16) dX1_joins_61 (by decide) ?_
  refine aw_icmp_eq (tgt := 72) dX1_joins_63 (by decide) (fun c63 => ?_) (fun c63 => ?_)
  · refine aw_iconst (v := 1) dX1_joins_72 (by decide) ?_
    refine aw_goto (tgt := 77) dX1_joins_73 (by decide) ?_
    refine aw_ireturn (ty := .boolean) dX1_joins_77 rfl (by decide) ?_
    exact hT (by simp [jN, h16.mp c63])
  · refine aw_iload_n dX1_joins_66 rfl ?_
    refine aw_bipush (v := 17) dX1_joins_67 (by decide) ?_
    refine aw_icmp_ne (tgt := 76) dX1_joins_69 (by decide) (fun c69 => ?_) (fun c69 => ?_)
    · refine aw_iconst (v := 0) dX1_joins_76 (by decide) ?_
      refine aw_ireturn (ty := .boolean) dX1_joins_77 rfl (by decide) ?_
      exact hF (by simp only [jN, Bool.or_eq_true, beq_iff_eq]; exact not_or.mpr ⟨fun w => c63 (h16.mpr w), fun w => c69 (h17.mpr w)⟩)
    · refine aw_iconst (v := 1) dX1_joins_72 (by decide) ?_
      refine aw_goto (tgt := 77) dX1_joins_73 (by decide) ?_
      refine aw_ireturn (ty := .boolean) dX1_joins_77 rfl (by decide) ?_
      exact hT (by simp [jN, h17.mp c69])
theorem c_X1_joins3 {E : Ev} {d : Nat} {I : Mi} {L : Ml} {Z : Mz} {Q : Po}  {s : Nat} (hs : s < 64) (hT : (jS s = true) → Q (some (.int 1)) I L Z) (hF : ¬ (jS s = true) → Q (some (.int 0)) I L Z) : AC E yX1_joins cX1_joins 2 (some .boolean) d 0 0 [.int 3, .int (nI s)] I L Z Q := by
  refine ac_go (ls := [some (.int 3), some (.int (nI s))]) (by decide +kernel) (Nat.le_of_ble_eq_true rfl) rfl ?_
  have h13 : nI s = 13 ↔ s = 13 := nI_eq (b := 13) (by omega) (by decide)
  have h14 : nI s = 14 ↔ s = 14 := nI_eq (b := 14) (by omega) (by decide)
  refine aw_iload_n dX1_joins_0 rfl ?_
  refine aw_tableIn (off := 77) (tgt := 78) dX1_joins_1 (by decide) (by decide) (by rfl) (by decide) ?_
  refine aw_iload_n dX1_joins_78 rfl ?_
  refine aw_bipush (v := 13) dX1_joins_79 (by decide) ?_
  refine aw_icmp_eq (tgt := 90) dX1_joins_81 (by decide) (fun c81 => ?_) (fun c81 => ?_)
  · refine aw_iconst (v := 1) dX1_joins_90 (by decide) ?_
    refine aw_goto (tgt := 95) dX1_joins_91 (by decide) ?_
    refine aw_ireturn (ty := .boolean) dX1_joins_95 rfl (by decide) ?_
    exact hT (by simp [jS, h13.mp c81])
  · refine aw_iload_n dX1_joins_84 rfl ?_
    refine aw_bipush (v := 14) dX1_joins_85 (by decide) ?_
    refine aw_icmp_ne (tgt := 94) dX1_joins_87 (by decide) (fun c87 => ?_) (fun c87 => ?_)
    · refine aw_iconst (v := 0) dX1_joins_94 (by decide) ?_
      refine aw_ireturn (ty := .boolean) dX1_joins_95 rfl (by decide) ?_
      exact hF (by simp only [jS, Bool.or_eq_true, beq_iff_eq]; exact not_or.mpr ⟨fun w => c81 (h13.mpr w), fun w => c87 (h14.mpr w)⟩)
    · refine aw_iconst (v := 1) dX1_joins_90 (by decide) ?_
      refine aw_goto (tgt := 95) dX1_joins_91 (by decide) ?_
      refine aw_ireturn (ty := .boolean) dX1_joins_95 rfl (by decide) ?_
      exact hT (by simp [jS, h14.mp c87])
theorem c_X1_joins4 {E : Ev} {d : Nat} {I : Mi} {L : Ml} {Z : Mz} {Q : Po}  {s : Nat} (hs : s < 64) (hT : (jT s = true) → Q (some (.int 1)) I L Z) (hF : ¬ (jT s = true) → Q (some (.int 0)) I L Z) : AC E yX1_joins cX1_joins 2 (some .boolean) d 0 0 [.int 4, .int (nI s)] I L Z Q := by
  refine ac_go (ls := [some (.int 4), some (.int (nI s))]) (by decide +kernel) (Nat.le_of_ble_eq_true rfl) rfl ?_
  have h15 : nI s = 15 ↔ s = 15 := nI_eq (b := 15) (by omega) (by decide)
  refine aw_iload_n dX1_joins_0 rfl ?_
  refine aw_tableIn (off := 95) (tgt := 96) dX1_joins_1 (by decide) (by decide) (by rfl) (by decide) ?_
  refine aw_iload_n dX1_joins_96 rfl ?_
  refine aw_bipush (v := 15) dX1_joins_97 (by decide) ?_
  refine aw_icmp_ne (tgt := 106) dX1_joins_99 (by decide) (fun c99 => ?_) (fun c99 => ?_)
  · refine aw_iconst (v := 0) dX1_joins_106 (by decide) ?_
    refine aw_ireturn (ty := .boolean) dX1_joins_107 rfl (by decide) ?_
    exact hF (by simp only [jT, Bool.or_eq_true, beq_iff_eq]; exact fun w => c99 (h15.mpr w))
  · refine aw_iconst (v := 1) dX1_joins_102 (by decide) ?_
    refine aw_goto (tgt := 107) dX1_joins_103 (by decide) ?_
    refine aw_ireturn (ty := .boolean) dX1_joins_107 rfl (by decide) ?_
    exact hT (by simp [jT, h15.mp c99])
theorem one_end {E : Ev} {S V : Nat → Nat} {T : Nat} : OnC E 2 5 (oneR S V none) S V T := by
  intro d I L Z Q k c hd hC hT hP hck hk hKK
  have hT6 := hT.2.2.1
  have hSk := (hT.2.2.2.2 k).2.2
  have h6 := hT.s6 hk
  have hne : S k ≠ 0 → k < T := fun w => lt_of_S hT.2.2.2.1 hk w
  have ho : ¬ nI 5 < (5 : Int32) := by decide
  generalize h5 : (5 : Nat) = o at ho ⊢
  refine ac_go (ls := [some (.ref 4), some (.int (nI o)), none]) (by decide +kernel) (Nat.le_of_ble_eq_true rfl) rfl ?_
  by_cases h2 : S k = 2
  · have hkT := hne (by omega)
    refine aw_aload_n dX1_one_0 rfl rfl ?_
    refine aw_gr dX1_one_1 fw_X1_15 hC.1 hC.2.2.1 ?_
    refine aw_aload_n dX1_one_4 rfl rfl ?_
    refine aw_gi dX1_one_5 fw_X1_34 hC.1 ?_
    refine aw_ia k dX1_one_8 hC.2.2.2.2.2.2.2.1 hP.1 (by omega) (by decide) ?_
    rw [h6]
    refine aw_istore_n (ls' := [_, _, _]) dX1_one_9 (by decide) rfl rfl ?_
    refine aw_iload_n dX1_one_10 rfl ?_
    refine aw_iconst (v := 2) dX1_one_11 (by decide) ?_
    refine aw_icmp_eq (tgt := 20) dX1_one_12 (by decide) (fun c12 => ?_) (fun zz => absurd (by rw [h2]; rfl) zz)
    refine aw_aload_n dX1_one_20 rfl rfl ?_
    refine aw_iload_n dX1_one_21 rfl ?_
    refine aw_aload_n dX1_one_22 rfl rfl ?_
    refine aw_gr dX1_one_23 fw_X1_18 hC.1 hC.2.2.2.1 ?_
    refine aw_aload_n dX1_one_26 rfl rfl ?_
    refine aw_gi dX1_one_27 fw_X1_34 hC.1 ?_
    refine aw_ia k dX1_one_30 hC.2.2.2.2.2.2.2.2.1 hP.1 (by omega) (by decide) ?_
    rw [(hT.1 k hkT).2]
    refine aw_V2 dX1_one_31 cw_X1_144 ⟨_, _, rfl⟩ hC.1 (by omega) ⟨Nat.le_refl _, Nat.le_refl _⟩ (by decide) (c_X1_make (w := c.length) hC hP.2.1 (by omega) ?_)
    refine aw_aload_n dX1_one_34 rfl rfl ?_
    refine aw_dup dX1_one_35 rfl ?_
    refine aw_gi dX1_one_36 fw_X1_34 hC.1 ?_
    refine aw_iconst (v := 1) dX1_one_39 (by decide) ?_
    refine aw_iadd dX1_one_40 ?_
    rw [iU_at (by omega), iU_at (by omega), hP.1, nI_1]
    refine aw_pi dX1_one_41 fw_X1_34 (ww_X1_34 _) hC.1 rfl ?_
    refine aw_iconst (v := 1) dX1_one_44 (by decide) ?_
    refine aw_ireturn (ty := .boolean) dX1_one_45 rfl (by decide) ?_
    refine hKK.1 (k + 1) [stI (S k) (V k)] (fun _ => nI (V k)) (by simp only [oneR, h2, if_true]) _ ((SaP.rf.u8 _ _ _).u6 _) ?_
    exact (hP.u8 _).u6 (k + 1)
  by_cases h3 : S k = 3
  · have hkT := hne (by omega)
    refine aw_aload_n dX1_one_0 rfl rfl ?_
    refine aw_gr dX1_one_1 fw_X1_15 hC.1 hC.2.2.1 ?_
    refine aw_aload_n dX1_one_4 rfl rfl ?_
    refine aw_gi dX1_one_5 fw_X1_34 hC.1 ?_
    refine aw_ia k dX1_one_8 hC.2.2.2.2.2.2.2.1 hP.1 (by omega) (by decide) ?_
    rw [h6]
    refine aw_istore_n (ls' := [_, _, _]) dX1_one_9 (by decide) rfl rfl ?_
    refine aw_iload_n dX1_one_10 rfl ?_
    refine aw_iconst (v := 2) dX1_one_11 (by decide) ?_
    refine aw_icmp_eq (tgt := 20) dX1_one_12 (by decide) (fun zz => absurd zz (fun w => h2 ((nI_eq (b := 2) (by omega) (by decide)).mp w))) (fun c12 => ?_)
    refine aw_iload_n dX1_one_15 rfl ?_
    refine aw_iconst (v := 3) dX1_one_16 (by decide) ?_
    refine aw_icmp_ne (tgt := 46) dX1_one_17 (by decide) (fun zz => absurd (by rw [h3]; rfl) zz) (fun c17 => ?_)
    refine aw_aload_n dX1_one_20 rfl rfl ?_
    refine aw_iload_n dX1_one_21 rfl ?_
    refine aw_aload_n dX1_one_22 rfl rfl ?_
    refine aw_gr dX1_one_23 fw_X1_18 hC.1 hC.2.2.2.1 ?_
    refine aw_aload_n dX1_one_26 rfl rfl ?_
    refine aw_gi dX1_one_27 fw_X1_34 hC.1 ?_
    refine aw_ia k dX1_one_30 hC.2.2.2.2.2.2.2.2.1 hP.1 (by omega) (by decide) ?_
    rw [(hT.1 k hkT).2]
    refine aw_V2 dX1_one_31 cw_X1_144 ⟨_, _, rfl⟩ hC.1 (by omega) ⟨Nat.le_refl _, Nat.le_refl _⟩ (by decide) (c_X1_make (w := c.length) hC hP.2.1 (by omega) ?_)
    refine aw_aload_n dX1_one_34 rfl rfl ?_
    refine aw_dup dX1_one_35 rfl ?_
    refine aw_gi dX1_one_36 fw_X1_34 hC.1 ?_
    refine aw_iconst (v := 1) dX1_one_39 (by decide) ?_
    refine aw_iadd dX1_one_40 ?_
    rw [iU_at (by omega), iU_at (by omega), hP.1, nI_1]
    refine aw_pi dX1_one_41 fw_X1_34 (ww_X1_34 _) hC.1 rfl ?_
    refine aw_iconst (v := 1) dX1_one_44 (by decide) ?_
    refine aw_ireturn (ty := .boolean) dX1_one_45 rfl (by decide) ?_
    refine hKK.1 (k + 1) [stI (S k) (V k)] (fun nm => nm (V k)) (by simp only [oneR, h3, h2, if_true, if_false, Nat.reduceEqDiff]) _ ((SaP.rf.u8 _ _ _).u6 _) ?_
    exact (hP.u8 _).u6 (k + 1)
  refine aw_aload_n dX1_one_0 rfl rfl ?_
  refine aw_gr dX1_one_1 fw_X1_15 hC.1 hC.2.2.1 ?_
  refine aw_aload_n dX1_one_4 rfl rfl ?_
  refine aw_gi dX1_one_5 fw_X1_34 hC.1 ?_
  refine aw_ia k dX1_one_8 hC.2.2.2.2.2.2.2.1 hP.1 (by omega) (by decide) ?_
  rw [h6]
  refine aw_istore_n (ls' := [_, _, _]) dX1_one_9 (by decide) rfl rfl ?_
  refine aw_iload_n dX1_one_10 rfl ?_
  refine aw_iconst (v := 2) dX1_one_11 (by decide) ?_
  refine aw_icmp_eq (tgt := 20) dX1_one_12 (by decide) (fun zz => absurd zz (fun w => h2 ((nI_eq (b := 2) (by omega) (by decide)).mp w))) (fun c12 => ?_)
  refine aw_iload_n dX1_one_15 rfl ?_
  refine aw_iconst (v := 3) dX1_one_16 (by decide) ?_
  refine aw_icmp_ne (tgt := 46) dX1_one_17 (by decide) (fun c17 => ?_) (fun zz => absurd zz (fun w => h3 ((nI_eq (b := 3) (by omega) (by decide)).mp w)))
  refine aw_iload_n dX1_one_46 rfl ?_
  refine aw_iconst (v := 5) dX1_one_47 (by decide) ?_
  refine aw_icmp_lt (tgt := 53) dX1_one_48 (by decide) (fun zz => absurd zz ho) (fun c48 => ?_)
  refine aw_iconst (v := 0) dX1_one_51 (by decide) ?_
  refine aw_ireturn (ty := .boolean) dX1_one_52 rfl (by decide) ?_
  exact hKK.2 k (by simp only [oneR, h2, h3, if_false]) I SaP.rf hP.1
theorem gd_some {T : Nat} {p : Rd} (h : GdR T p) : ∀ (k1 : Nat) (c1 : List Int32) (v1 : Vl) (k : Nat), k ≤ T → p k = (k1, some (c1, v1)) → k1 ≤ T ∧ k < k1 ∧ c1.length ≤ k1 - k := by
  intro k1 c1 v1 k hk e
  obtain ⟨g1, g2, g3⟩ := h k hk
  rw [e] at g1 g2 g3
  obtain ⟨a1, a2, -, -⟩ := g3 c1 v1 rfl
  exact ⟨g2, a1, a2⟩
theorem one_step {E : Ev} {S V : Nat → Nat} {T : Nat} {D o : Nat} {po pn pe : Rd} (hg : ∀ (k1 : Nat) (c1 : List Int32) (v1 : Vl) (k : Nat), k ≤ T → pe k = (k1, some (c1, v1)) → k1 ≤ T ∧ k < k1 ∧ c1.length ≤ k1 - k) (hg2 : ∀ (k1 : Nat) (c1 : List Int32) (v1 : Vl) (k : Nat), k ≤ T → po k = (k1, some (c1, v1)) → k1 ≤ T ∧ k < k1 ∧ c1.length ≤ k1 - k) (ho : o < 5) (IHe : PhC E D 0 (o + 1) pe S V T) (IHo : OnC E D (o + 1) po S V T) : OnC E (D + 2) o (oneR S V (some (po, pn, pe))) S V T := by
  intro d I L Z Q k c hd hC hT hP hck hk hKK
  have hT6 := hT.2.2.1
  have hSk := (hT.2.2.2.2 k).2.2
  have h6 := hT.s6 hk
  have hne : S k ≠ 0 → k < T := fun w => lt_of_S hT.2.2.2.1 hk w
  refine ac_go (ls := [some (.ref 4), some (.int (nI o)), none]) (by decide +kernel) (Nat.le_of_ble_eq_true rfl) rfl ?_
  by_cases h2 : S k = 2
  · have hkT := hne (by omega)
    refine aw_aload_n dX1_one_0 rfl rfl ?_
    refine aw_gr dX1_one_1 fw_X1_15 hC.1 hC.2.2.1 ?_
    refine aw_aload_n dX1_one_4 rfl rfl ?_
    refine aw_gi dX1_one_5 fw_X1_34 hC.1 ?_
    refine aw_ia k dX1_one_8 hC.2.2.2.2.2.2.2.1 hP.1 (by omega) (by decide) ?_
    rw [h6]
    refine aw_istore_n (ls' := [_, _, _]) dX1_one_9 (by decide) rfl rfl ?_
    refine aw_iload_n dX1_one_10 rfl ?_
    refine aw_iconst (v := 2) dX1_one_11 (by decide) ?_
    refine aw_icmp_eq (tgt := 20) dX1_one_12 (by decide) (fun c12 => ?_) (fun zz => absurd (by rw [h2]; rfl) zz)
    refine aw_aload_n dX1_one_20 rfl rfl ?_
    refine aw_iload_n dX1_one_21 rfl ?_
    refine aw_aload_n dX1_one_22 rfl rfl ?_
    refine aw_gr dX1_one_23 fw_X1_18 hC.1 hC.2.2.2.1 ?_
    refine aw_aload_n dX1_one_26 rfl rfl ?_
    refine aw_gi dX1_one_27 fw_X1_34 hC.1 ?_
    refine aw_ia k dX1_one_30 hC.2.2.2.2.2.2.2.2.1 hP.1 (by omega) (by decide) ?_
    rw [(hT.1 k hkT).2]
    refine aw_V2 dX1_one_31 cw_X1_144 ⟨_, _, rfl⟩ hC.1 (by omega) ⟨Nat.le_refl _, Nat.le_refl _⟩ (by decide) (c_X1_make (w := c.length) hC hP.2.1 (by omega) ?_)
    refine aw_aload_n dX1_one_34 rfl rfl ?_
    refine aw_dup dX1_one_35 rfl ?_
    refine aw_gi dX1_one_36 fw_X1_34 hC.1 ?_
    refine aw_iconst (v := 1) dX1_one_39 (by decide) ?_
    refine aw_iadd dX1_one_40 ?_
    rw [iU_at (by omega), iU_at (by omega), hP.1, nI_1]
    refine aw_pi dX1_one_41 fw_X1_34 (ww_X1_34 _) hC.1 rfl ?_
    refine aw_iconst (v := 1) dX1_one_44 (by decide) ?_
    refine aw_ireturn (ty := .boolean) dX1_one_45 rfl (by decide) ?_
    refine hKK.1 (k + 1) [stI (S k) (V k)] (fun _ => nI (V k)) (by simp only [oneR, h2, if_true]) _ ((SaP.rf.u8 _ _ _).u6 _) ?_
    exact (hP.u8 _).u6 (k + 1)
  by_cases h3 : S k = 3
  · have hkT := hne (by omega)
    refine aw_aload_n dX1_one_0 rfl rfl ?_
    refine aw_gr dX1_one_1 fw_X1_15 hC.1 hC.2.2.1 ?_
    refine aw_aload_n dX1_one_4 rfl rfl ?_
    refine aw_gi dX1_one_5 fw_X1_34 hC.1 ?_
    refine aw_ia k dX1_one_8 hC.2.2.2.2.2.2.2.1 hP.1 (by omega) (by decide) ?_
    rw [h6]
    refine aw_istore_n (ls' := [_, _, _]) dX1_one_9 (by decide) rfl rfl ?_
    refine aw_iload_n dX1_one_10 rfl ?_
    refine aw_iconst (v := 2) dX1_one_11 (by decide) ?_
    refine aw_icmp_eq (tgt := 20) dX1_one_12 (by decide) (fun zz => absurd zz (fun w => h2 ((nI_eq (b := 2) (by omega) (by decide)).mp w))) (fun c12 => ?_)
    refine aw_iload_n dX1_one_15 rfl ?_
    refine aw_iconst (v := 3) dX1_one_16 (by decide) ?_
    refine aw_icmp_ne (tgt := 46) dX1_one_17 (by decide) (fun zz => absurd (by rw [h3]; rfl) zz) (fun c17 => ?_)
    refine aw_aload_n dX1_one_20 rfl rfl ?_
    refine aw_iload_n dX1_one_21 rfl ?_
    refine aw_aload_n dX1_one_22 rfl rfl ?_
    refine aw_gr dX1_one_23 fw_X1_18 hC.1 hC.2.2.2.1 ?_
    refine aw_aload_n dX1_one_26 rfl rfl ?_
    refine aw_gi dX1_one_27 fw_X1_34 hC.1 ?_
    refine aw_ia k dX1_one_30 hC.2.2.2.2.2.2.2.2.1 hP.1 (by omega) (by decide) ?_
    rw [(hT.1 k hkT).2]
    refine aw_V2 dX1_one_31 cw_X1_144 ⟨_, _, rfl⟩ hC.1 (by omega) ⟨Nat.le_refl _, Nat.le_refl _⟩ (by decide) (c_X1_make (w := c.length) hC hP.2.1 (by omega) ?_)
    refine aw_aload_n dX1_one_34 rfl rfl ?_
    refine aw_dup dX1_one_35 rfl ?_
    refine aw_gi dX1_one_36 fw_X1_34 hC.1 ?_
    refine aw_iconst (v := 1) dX1_one_39 (by decide) ?_
    refine aw_iadd dX1_one_40 ?_
    rw [iU_at (by omega), iU_at (by omega), hP.1, nI_1]
    refine aw_pi dX1_one_41 fw_X1_34 (ww_X1_34 _) hC.1 rfl ?_
    refine aw_iconst (v := 1) dX1_one_44 (by decide) ?_
    refine aw_ireturn (ty := .boolean) dX1_one_45 rfl (by decide) ?_
    refine hKK.1 (k + 1) [stI (S k) (V k)] (fun nm => nm (V k)) (by simp only [oneR, h3, h2, if_true, if_false, Nat.reduceEqDiff]) _ ((SaP.rf.u8 _ _ _).u6 _) ?_
    exact (hP.u8 _).u6 (k + 1)
  by_cases h10 : S k = 10
  · have hkT := hne (by omega)
    refine aw_aload_n dX1_one_0 rfl rfl ?_
    refine aw_gr dX1_one_1 fw_X1_15 hC.1 hC.2.2.1 ?_
    refine aw_aload_n dX1_one_4 rfl rfl ?_
    refine aw_gi dX1_one_5 fw_X1_34 hC.1 ?_
    refine aw_ia k dX1_one_8 hC.2.2.2.2.2.2.2.1 hP.1 (by omega) (by decide) ?_
    rw [h6]
    refine aw_istore_n (ls' := [_, _, _]) dX1_one_9 (by decide) rfl rfl ?_
    refine aw_iload_n dX1_one_10 rfl ?_
    refine aw_iconst (v := 2) dX1_one_11 (by decide) ?_
    refine aw_icmp_eq (tgt := 20) dX1_one_12 (by decide) (fun zz => absurd zz (fun w => h2 ((nI_eq (b := 2) (by omega) (by decide)).mp w))) (fun c12 => ?_)
    refine aw_iload_n dX1_one_15 rfl ?_
    refine aw_iconst (v := 3) dX1_one_16 (by decide) ?_
    refine aw_icmp_ne (tgt := 46) dX1_one_17 (by decide) (fun c17 => ?_) (fun zz => absurd zz (fun w => h3 ((nI_eq (b := 3) (by omega) (by decide)).mp w)))
    refine aw_iload_n dX1_one_46 rfl ?_
    refine aw_iconst (v := 5) dX1_one_47 (by decide) ?_
    refine aw_icmp_lt (tgt := 53) dX1_one_48 (by decide) (fun c48 => ?_) (fun zz => absurd (nI_lt (b := 5) ho (by decide)) zz)
    refine aw_iload_n dX1_one_53 rfl ?_
    refine aw_bipush (v := 10) dX1_one_54 (by decide) ?_
    refine aw_icmp_ne (tgt := 95) dX1_one_56 (by decide) (fun zz => absurd (by rw [h10]; rfl) zz) (fun c56 => ?_)
    refine aw_aload_n dX1_one_59 rfl rfl ?_
    refine aw_dup dX1_one_60 rfl ?_
    refine aw_gi dX1_one_61 fw_X1_34 hC.1 ?_
    refine aw_iconst (v := 1) dX1_one_64 (by decide) ?_
    refine aw_iadd dX1_one_65 ?_
    rw [hP.1, nI_1]
    refine aw_pi dX1_one_66 fw_X1_34 (ww_X1_34 _) hC.1 rfl ?_
    refine aw_aload_n dX1_one_69 rfl rfl ?_
    refine aw_iconst (v := 0) dX1_one_70 (by decide) ?_
    refine aw_iload_n dX1_one_71 rfl ?_
    refine aw_iconst (v := 1) dX1_one_72 (by decide) ?_
    refine aw_iadd dX1_one_73 ?_
    rw [nI_1]
    refine aw_V2 dX1_one_74 cw_X1_131 ⟨_, _, rfl⟩ hC.1 (by omega) ⟨Nat.le_refl _, Nat.le_refl _⟩ (by decide) (IHe (d - 1) _ _ _ _ (k + 1) c (by omega) hC (hT.sam (SaP.rf.u6 _)) (hP.u6 (k + 1)) (by omega) (by omega) ⟨fun k1 c1 v1 e1 J1 s1 p1 => ?_, fun k1 e1 J1 s1 p1 => ?_⟩)
    · have gg := (hg k1 c1 v1 (k + 1) (by omega) e1)
      refine aw_if_eq (tgt := 93) dX1_one_77 (by decide) (fun zz => absurd zz (by decide)) (fun _ => ?_)
      refine aw_aload_n dX1_one_80 rfl rfl ?_
      refine aw_bipush (v := 11) dX1_one_81 (by decide) ?_
      refine aw_V1 dX1_one_83 cw_X1_128 ⟨_, _, rfl⟩ hC.1 (by omega) ⟨Nat.le_refl _, Nat.le_refl _⟩ (by decide) (c_X1_accept (s := 11) hC (hT.sam ((SaP.rf.u6 _).tr s1)) p1.1 gg.1 (by decide) (fun c83 => ?_) (fun c83 => ?_))
      · refine aw_if_eq (tgt := 93) dX1_one_86 (by decide) (fun zz => absurd zz (by decide)) (fun _ => ?_)
        refine aw_iconst (v := 1) dX1_one_89 (by decide) ?_
        refine aw_goto (tgt := 94) dX1_one_90 (by decide) ?_
        refine aw_ireturn (ty := .boolean) dX1_one_94 rfl (by decide) ?_
        refine hKK.1 (k1 + 1) c1 v1 (by simp only [oneR, h10, e1, c83, if_true, if_false, Nat.reduceEqDiff]) _ (((SaP.rf.u6 _).tr s1).u6 _) (p1.u6 (k1 + 1))
      · refine aw_if_eq (tgt := 93) dX1_one_86 (by decide) (fun _ => ?_) (fun zz => absurd zz (by decide))
        refine aw_iconst (v := 0) dX1_one_93 (by decide) ?_
        refine aw_ireturn (ty := .boolean) dX1_one_94 rfl (by decide) ?_
        exact hKK.2 k1 (by simp only [oneR, h10, e1, c83, if_true, if_false, Nat.reduceEqDiff]) _ ((SaP.rf.u6 _).tr s1) p1.1
    · refine aw_if_eq (tgt := 93) dX1_one_77 (by decide) (fun _ => ?_) (fun zz => absurd zz (by decide))
      refine aw_iconst (v := 0) dX1_one_93 (by decide) ?_
      refine aw_ireturn (ty := .boolean) dX1_one_94 rfl (by decide) ?_
      exact hKK.2 k1 (by simp only [oneR, h10, e1, if_true, if_false, Nat.reduceEqDiff]) _ ((SaP.rf.u6 _).tr s1) p1
  by_cases h14 : S k = 14
  · have hkT := hne (by omega)
    refine aw_aload_n dX1_one_0 rfl rfl ?_
    refine aw_gr dX1_one_1 fw_X1_15 hC.1 hC.2.2.1 ?_
    refine aw_aload_n dX1_one_4 rfl rfl ?_
    refine aw_gi dX1_one_5 fw_X1_34 hC.1 ?_
    refine aw_ia k dX1_one_8 hC.2.2.2.2.2.2.2.1 hP.1 (by omega) (by decide) ?_
    rw [h6]
    refine aw_istore_n (ls' := [_, _, _]) dX1_one_9 (by decide) rfl rfl ?_
    refine aw_iload_n dX1_one_10 rfl ?_
    refine aw_iconst (v := 2) dX1_one_11 (by decide) ?_
    refine aw_icmp_eq (tgt := 20) dX1_one_12 (by decide) (fun zz => absurd zz (fun w => h2 ((nI_eq (b := 2) (by omega) (by decide)).mp w))) (fun c12 => ?_)
    refine aw_iload_n dX1_one_15 rfl ?_
    refine aw_iconst (v := 3) dX1_one_16 (by decide) ?_
    refine aw_icmp_ne (tgt := 46) dX1_one_17 (by decide) (fun c17 => ?_) (fun zz => absurd zz (fun w => h3 ((nI_eq (b := 3) (by omega) (by decide)).mp w)))
    refine aw_iload_n dX1_one_46 rfl ?_
    refine aw_iconst (v := 5) dX1_one_47 (by decide) ?_
    refine aw_icmp_lt (tgt := 53) dX1_one_48 (by decide) (fun c48 => ?_) (fun zz => absurd (nI_lt (b := 5) ho (by decide)) zz)
    refine aw_iload_n dX1_one_53 rfl ?_
    refine aw_bipush (v := 10) dX1_one_54 (by decide) ?_
    refine aw_icmp_ne (tgt := 95) dX1_one_56 (by decide) (fun c56 => ?_) (fun zz => absurd zz (fun w => h10 ((nI_eq (b := 10) (by omega) (by decide)).mp w)))
    refine aw_iload_n dX1_one_95 rfl ?_
    refine aw_bipush (v := 14) dX1_one_96 (by decide) ?_
    refine aw_icmp_eq (tgt := 103) dX1_one_98 (by decide) (fun c98 => ?_) (fun zz => absurd (by rw [h14]; rfl) zz)
    refine aw_aload_n dX1_one_103 rfl rfl ?_
    refine aw_dup dX1_one_104 rfl ?_
    refine aw_gi dX1_one_105 fw_X1_34 hC.1 ?_
    refine aw_iconst (v := 1) dX1_one_108 (by decide) ?_
    refine aw_iadd dX1_one_109 ?_
    rw [hP.1, nI_1]
    refine aw_pi dX1_one_110 fw_X1_34 (ww_X1_34 _) hC.1 rfl ?_
    refine aw_aload_n dX1_one_113 rfl rfl ?_
    refine aw_iload_n dX1_one_114 rfl ?_
    refine aw_iconst (v := 1) dX1_one_115 (by decide) ?_
    refine aw_iadd dX1_one_116 ?_
    rw [nI_1]
    refine aw_V1 dX1_one_117 cw_X1_135 ⟨_, _, rfl⟩ hC.1 (by omega) ⟨Nat.le_refl _, Nat.le_refl _⟩ (by decide) (IHo (d - 1) _ _ _ _ (k + 1) c (by omega) hC (hT.sam (SaP.rf.u6 _)) (hP.u6 (k + 1)) (by omega) (by omega) ⟨fun k1 c1 v1 e1 J1 s1 p1 => ?_, fun k1 e1 J1 s1 p1 => ?_⟩)
    · have gg := (hg2 k1 c1 v1 (k + 1) (by omega) e1)
      refine aw_if_ne (tgt := 125) dX1_one_120 (by decide) (fun _ => ?_) (fun zz => absurd zz (by decide))
      refine aw_aload_n dX1_one_125 rfl rfl ?_
      refine aw_bipush (v := 18) dX1_one_126 (by decide) ?_
      refine aw_iconst (v := 0) dX1_one_128 (by decide) ?_
      refine aw_V2 dX1_one_129 cw_X1_144 ⟨_, _, rfl⟩ hC.1 (by omega) ⟨Nat.le_refl _, Nat.le_refl _⟩ (by decide) (c_X1_make (w := (c ++ c1).length) hC p1.2.1 (by rw [List.length_append]; omega) ?_)
      refine aw_iconst (v := 1) dX1_one_132 (by decide) ?_
      refine aw_ireturn (ty := .boolean) dX1_one_133 rfl (by decide) ?_
      refine hKK.1 k1 (c1 ++ [stI 18 0]) (fun nm => -(v1 nm)) (by simp only [oneR, h14, e1, if_true, if_false, Nat.reduceEqDiff]) _ (((SaP.rf.u6 _).tr s1).u8 _ _ _) ?_
      rw [← List.append_assoc]
      exact p1.u8 _
    · refine aw_if_ne (tgt := 125) dX1_one_120 (by decide) (fun zz => absurd zz (by decide)) (fun _ => ?_)
      refine aw_iconst (v := 0) dX1_one_123 (by decide) ?_
      refine aw_ireturn (ty := .boolean) dX1_one_124 rfl (by decide) ?_
      exact hKK.2 k1 (by simp only [oneR, h14, e1, if_true, if_false, Nat.reduceEqDiff]) _ ((SaP.rf.u6 _).tr s1) p1
  refine aw_aload_n dX1_one_0 rfl rfl ?_
  refine aw_gr dX1_one_1 fw_X1_15 hC.1 hC.2.2.1 ?_
  refine aw_aload_n dX1_one_4 rfl rfl ?_
  refine aw_gi dX1_one_5 fw_X1_34 hC.1 ?_
  refine aw_ia k dX1_one_8 hC.2.2.2.2.2.2.2.1 hP.1 (by omega) (by decide) ?_
  rw [h6]
  refine aw_istore_n (ls' := [_, _, _]) dX1_one_9 (by decide) rfl rfl ?_
  refine aw_iload_n dX1_one_10 rfl ?_
  refine aw_iconst (v := 2) dX1_one_11 (by decide) ?_
  refine aw_icmp_eq (tgt := 20) dX1_one_12 (by decide) (fun zz => absurd zz (fun w => h2 ((nI_eq (b := 2) (by omega) (by decide)).mp w))) (fun c12 => ?_)
  refine aw_iload_n dX1_one_15 rfl ?_
  refine aw_iconst (v := 3) dX1_one_16 (by decide) ?_
  refine aw_icmp_ne (tgt := 46) dX1_one_17 (by decide) (fun c17 => ?_) (fun zz => absurd zz (fun w => h3 ((nI_eq (b := 3) (by omega) (by decide)).mp w)))
  refine aw_iload_n dX1_one_46 rfl ?_
  refine aw_iconst (v := 5) dX1_one_47 (by decide) ?_
  refine aw_icmp_lt (tgt := 53) dX1_one_48 (by decide) (fun c48 => ?_) (fun zz => absurd (nI_lt (b := 5) ho (by decide)) zz)
  refine aw_iload_n dX1_one_53 rfl ?_
  refine aw_bipush (v := 10) dX1_one_54 (by decide) ?_
  refine aw_icmp_ne (tgt := 95) dX1_one_56 (by decide) (fun c56 => ?_) (fun zz => absurd zz (fun w => h10 ((nI_eq (b := 10) (by omega) (by decide)).mp w)))
  refine aw_iload_n dX1_one_95 rfl ?_
  refine aw_bipush (v := 14) dX1_one_96 (by decide) ?_
  refine aw_icmp_eq (tgt := 103) dX1_one_98 (by decide) (fun zz => absurd zz (fun w => h14 ((nI_eq (b := 14) (by omega) (by decide)).mp w))) (fun c98 => ?_)
  refine aw_iconst (v := 0) dX1_one_101 (by decide) ?_
  refine aw_ireturn (ty := .boolean) dX1_one_102 rfl (by decide) ?_
  exact hKK.2 k (by simp only [oneR, h2, h3, h10, h14, if_false]) I SaP.rf hP.1
def NgC (E : Ev) (D : Nat) (o : Nat) (p : Rd) (S V : Nat → Nat) (T : Nat) : Prop := ∀ (d : Nat) (I : Mi) (L : Ml) (Z : Mz) (Q : Po) (k : Nat) (c : List Int32), D ≤ d → ScZ Z → TkP I S V T → PS I k c → c.length ≤ k → k ≤ T → S k = 9 → KK I L Z Q c T (p k) → AC E yX1_negated cX1_negated 2 (some .boolean) d 0 0 [.ref 4, .int (nI o)] I L Z Q
theorem neg_end {E : Ev} {S V : Nat → Nat} {T : Nat} : NgC E 0 5 (notR S V none) S V T := by
  intro d I L Z Q k c hd hC hT hP hck hk h9 hKK
  have hT6 := hT.2.2.1
  have hSk := (hT.2.2.2.2 k).2.2
  have h6 := hT.s6 hk
  have hne : S k ≠ 0 → k < T := fun w => lt_of_S hT.2.2.2.1 hk w
  have ho : ¬ nI 5 < (5 : Int32) := by decide
  generalize h5 : (5 : Nat) = o at ho ⊢
  refine ac_go (ls := [some (.ref 4), some (.int (nI o))]) (by decide +kernel) (Nat.le_of_ble_eq_true rfl) rfl ?_
  refine aw_iload_n dX1_negated_0 rfl ?_
  refine aw_iconst (v := 5) dX1_negated_1 (by decide) ?_
  refine aw_icmp_lt (tgt := 7) dX1_negated_2 (by decide) (fun zz => absurd zz ho) (fun c2 => ?_)
  refine aw_iconst (v := 0) dX1_negated_5 (by decide) ?_
  refine aw_ireturn (ty := .boolean) dX1_negated_6 rfl (by decide) ?_
  exact hKK.2 k (by simp only [notR, h9, if_true]) I SaP.rf hP.1
theorem neg_step {E : Ev} {S V : Nat → Nat} {T : Nat} {D o : Nat} {po pn pe : Rd} (hg : ∀ (k1 : Nat) (c1 : List Int32) (v1 : Vl) (k : Nat), k ≤ T → pn k = (k1, some (c1, v1)) → k1 ≤ T ∧ k < k1 ∧ c1.length ≤ k1 - k) (ho : o < 5) (IHn : PhC E D 2 (o + 1) pn S V T) : NgC E (D + 2) o (notR S V (some (po, pn, pe))) S V T := by
  intro d I L Z Q k c hd hC hT hP hck hk h9 hKK
  have hT6 := hT.2.2.1
  have hSk := (hT.2.2.2.2 k).2.2
  have h6 := hT.s6 hk
  have hne : S k ≠ 0 → k < T := fun w => lt_of_S hT.2.2.2.1 hk w
  refine ac_go (ls := [some (.ref 4), some (.int (nI o))]) (by decide +kernel) (Nat.le_of_ble_eq_true rfl) rfl ?_
  have hkT := hne (by omega)
  refine aw_iload_n dX1_negated_0 rfl ?_
  refine aw_iconst (v := 5) dX1_negated_1 (by decide) ?_
  refine aw_icmp_lt (tgt := 7) dX1_negated_2 (by decide) (fun c2 => ?_) (fun zz => absurd (nI_lt (b := 5) ho (by decide)) zz)
  refine aw_aload_n dX1_negated_7 rfl rfl ?_
  refine aw_dup dX1_negated_8 rfl ?_
  refine aw_gi dX1_negated_9 fw_X1_34 hC.1 ?_
  refine aw_iconst (v := 1) dX1_negated_12 (by decide) ?_
  refine aw_iadd dX1_negated_13 ?_
  rw [hP.1, nI_1]
  refine aw_pi dX1_negated_14 fw_X1_34 (ww_X1_34 _) hC.1 rfl ?_
  refine aw_aload_n dX1_negated_17 rfl rfl ?_
  refine aw_iconst (v := 2) dX1_negated_18 (by decide) ?_
  refine aw_iload_n dX1_negated_19 rfl ?_
  refine aw_iconst (v := 1) dX1_negated_20 (by decide) ?_
  refine aw_iadd dX1_negated_21 ?_
  rw [nI_1]
  refine aw_V2 dX1_negated_22 cw_X1_131 ⟨_, _, rfl⟩ hC.1 (by omega) ⟨Nat.le_refl _, Nat.le_refl _⟩ (by decide) (IHn (d - 1) _ _ _ _ (k + 1) c (by omega) hC (hT.sam (SaP.rf.u6 _)) (hP.u6 (k + 1)) (by omega) (by omega) ⟨fun k1 c1 v1 e1 J1 s1 p1 => ?_, fun k1 e1 J1 s1 p1 => ?_⟩)
  · have gg := (hg k1 c1 v1 (k + 1) (by omega) e1)
    refine aw_if_ne (tgt := 30) dX1_negated_25 (by decide) (fun _ => ?_) (fun zz => absurd zz (by decide))
    refine aw_aload_n dX1_negated_30 rfl rfl ?_
    refine aw_bipush (v := 9) dX1_negated_31 (by decide) ?_
    refine aw_iconst (v := 0) dX1_negated_33 (by decide) ?_
    refine aw_V2 dX1_negated_34 cw_X1_144 ⟨_, _, rfl⟩ hC.1 (by omega) ⟨Nat.le_refl _, Nat.le_refl _⟩ (by decide) (c_X1_make (w := (c ++ c1).length) hC p1.2.1 (by rw [List.length_append]; omega) ?_)
    refine aw_iconst (v := 1) dX1_negated_37 (by decide) ?_
    refine aw_ireturn (ty := .boolean) dX1_negated_38 rfl (by decide) ?_
    refine hKK.1 k1 (c1 ++ [stI 9 0]) (fun nm => if v1 nm = 0 then 1 else 0) (by simp only [notR, h9, e1, if_true]) _ (((SaP.rf.u6 _).tr s1).u8 _ _ _) ?_
    rw [← List.append_assoc]
    exact p1.u8 _
  · refine aw_if_ne (tgt := 30) dX1_negated_25 (by decide) (fun zz => absurd zz (by decide)) (fun _ => ?_)
    refine aw_iconst (v := 0) dX1_negated_28 (by decide) ?_
    refine aw_ireturn (ty := .boolean) dX1_negated_29 rfl (by decide) ?_
    exact hKK.2 k1 (by simp only [notR, h9, e1, if_true]) _ ((SaP.rf.u6 _).tr s1) p1
theorem ph5 {E : Ev} {S V : Nat → Nat} {T : Nat} {D o : Nat} {p : Rd} (IH : OnC E D o p S V T) : PhC E (D + 1) 5 o p S V T := by
  intro d I L Z Q k c hd hC hT hP hck hk hKK
  refine ac_go (ls := [some (.ref 4), some (.int 5), some (.int (nI o)), none, none, none]) (by decide +kernel) (Nat.le_of_ble_eq_true rfl) rfl ?_
  refine aw_iload_n dX1_phrase_0 rfl ?_
  refine aw_iconst (v := 5) dX1_phrase_1 (by decide) ?_
  refine aw_icmp_lt (tgt := 11) dX1_phrase_2 (by decide) (fun zz => absurd zz (by decide)) (fun _ => ?_)
  refine aw_aload_n dX1_phrase_5 rfl rfl ?_
  refine aw_iload_n dX1_phrase_6 rfl ?_
  refine aw_V1 dX1_phrase_7 cw_X1_135 ⟨_, _, rfl⟩ hC.1 (by omega) ⟨Nat.le_refl _, Nat.le_refl _⟩ (by decide) (IH (d - 1) _ _ _ _ k c (by omega) hC hT hP hck hk ⟨fun k1 c1 v1 e1 J1 s1 p1 => ?_, fun k1 e1 J1 s1 p1 => ?_⟩)
  · refine aw_ireturn (ty := .boolean) dX1_phrase_10 rfl (by decide) ?_
    exact hKK.1 k1 c1 v1 e1 J1 s1 p1
  · refine aw_ireturn (ty := .boolean) dX1_phrase_10 rfl (by decide) ?_
    exact hKK.2 k1 e1 J1 s1 p1
theorem l_ph4 {E : Ev} {d : Nat} {I : Mi} {L : Ml} {Z : Mz} {Q : Po} {S V : Nat → Nat} {T : Nat} {D o : Nat} {p : Rd} {c0 : List Int32} (hg : ∀ (k1 : Nat) (c1 : List Int32) (v1 : Vl) (k : Nat), k ≤ T → p k = (k1, some (c1, v1)) → k1 ≤ T ∧ k < k1 ∧ c1.length ≤ k1 - k) (IH : PhC E D 5 o p S V T) (hd : D + 1 ≤ d) (hC : ScZ Z) (hT : TkP I S V T) : ∀ (q i k : Nat) (c : List Int32) (v : Vl) (M : Mi) (o5 : Option Value), i + q = 160 → SaP I M → PS M k (c0 ++ c) → (c0 ++ c).length ≤ k → k ≤ T → KK I L Z Q c0 T (lpR S p jT q k c v) → AW E yX1_phrase cX1_phrase 6 (some .boolean) (rmOf d 0 0) Q 0 0 65 [some (.ref 4), some (.int 4), some (.int (nI o)), some (.int 160), some (.int (nI i)), o5] [] M L Z := by
  intro q
  induction q with
  | zero =>
    intro i k c v M o5 hq sM hP hck hk hKK
    have ei : i = 160 := by omega
    subst ei
    refine aw_iload dX1_phrase_65 rfl ?_
    refine aw_iload_n dX1_phrase_67 rfl ?_
    refine aw_icmp_ge (tgt := 134) dX1_phrase_68 (by decide) (fun c68 => ?_) (fun zz => absurd (by decide) zz)
    refine aw_iconst (v := 1) dX1_phrase_134 (by decide) ?_
    refine aw_ireturn (ty := .boolean) dX1_phrase_135 rfl (by decide) ?_
    exact hKK.1 k c v rfl M sM hP
  | succ q ih =>
    intro i k c v M o5 hq sM hP hck hk hKK
    have hT6 := hT.2.2.1
    have hSk := (hT.2.2.2.2 k).2.2
    have h6 := (hT.sam sM).s6 hk
    refine aw_iload dX1_phrase_65 rfl ?_
    refine aw_iload_n dX1_phrase_67 rfl ?_
    refine aw_icmp_ge (tgt := 134) dX1_phrase_68 (by decide) (fun zz => absurd zz (nI_ge (b := 160) (by omega) (by decide))) (fun c68 => ?_)
    refine aw_iload_n dX1_phrase_71 rfl ?_
    refine aw_aload_n dX1_phrase_72 rfl rfl ?_
    refine aw_gr dX1_phrase_73 fw_X1_15 hC.1 hC.2.2.1 ?_
    refine aw_aload_n dX1_phrase_76 rfl rfl ?_
    refine aw_gi dX1_phrase_77 fw_X1_34 hC.1 ?_
    refine aw_ia k dX1_phrase_80 hC.2.2.2.2.2.2.2.1 hP.1 (by omega) (by decide) ?_
    rw [h6]
    refine aw_S2 dX1_phrase_81 cw_X1_141 (by omega) ⟨Nat.le_refl _, Nat.le_refl _⟩ (by decide) (c_X1_joins4 (by omega) (fun c81 => ?_) (fun c81 => ?_))
    · have hkT : k < T := lt_of_S hT.2.2.2.1 hk (by intro w; rw [w] at c81; exact absurd c81 (by decide))
      refine aw_if_eq (tgt := 134) dX1_phrase_84 (by decide) (fun zz => absurd zz (by decide)) (fun _ => ?_)
      refine aw_aload_n dX1_phrase_87 rfl rfl ?_
      refine aw_gr dX1_phrase_88 fw_X1_15 hC.1 hC.2.2.1 ?_
      refine aw_aload_n dX1_phrase_91 rfl rfl ?_
      refine aw_gi dX1_phrase_92 fw_X1_34 hC.1 ?_
      refine aw_ia k dX1_phrase_95 hC.2.2.2.2.2.2.2.1 hP.1 (by omega) (by decide) ?_
      rw [h6]
      refine aw_istore (ls' := [_, _, _, _, _, _]) dX1_phrase_96 (by decide) rfl rfl ?_
      refine aw_aload_n dX1_phrase_98 rfl rfl ?_
      refine aw_dup dX1_phrase_99 rfl ?_
      refine aw_gi dX1_phrase_100 fw_X1_34 hC.1 ?_
      refine aw_iconst (v := 1) dX1_phrase_103 (by decide) ?_
      refine aw_iadd dX1_phrase_104 ?_
      rw [hP.1, nI_1]
      refine aw_pi dX1_phrase_105 fw_X1_34 (ww_X1_34 _) hC.1 rfl ?_
      refine aw_aload_n dX1_phrase_108 rfl rfl ?_
      refine aw_iload_n dX1_phrase_109 rfl ?_
      refine aw_iconst (v := 1) dX1_phrase_110 (by decide) ?_
      refine aw_iadd dX1_phrase_111 ?_
      refine aw_iload_n dX1_phrase_112 rfl ?_
      rw [show (4 : Int32) + 1 = 5 from rfl]
      refine aw_V2 dX1_phrase_113 cw_X1_131 ⟨_, _, rfl⟩ hC.1 (by omega) ⟨Nat.le_refl _, Nat.le_refl _⟩ (by decide) (IH (d - 1) _ _ _ _ (k + 1) (c0 ++ c) (by omega) hC ((hT.sam sM).sam (SaP.rf.u6 _)) (hP.u6 (k + 1)) (by omega) (by omega) ⟨fun k1 c1 v1 e1 J1 s1 p1 => ?_, fun k1 e1 J1 s1 p1 => ?_⟩)
      · have gg := hg k1 c1 v1 (k + 1) (by omega) e1
        refine aw_if_ne (tgt := 121) dX1_phrase_116 (by decide) (fun _ => ?_) (fun zz => absurd zz (by decide))
        refine aw_aload_n dX1_phrase_121 rfl rfl ?_
        refine aw_iload dX1_phrase_122 rfl ?_
        refine aw_iconst (v := 0) dX1_phrase_124 (by decide) ?_
        refine aw_V2 dX1_phrase_125 cw_X1_144 ⟨_, _, rfl⟩ hC.1 (by omega) ⟨Nat.le_refl _, Nat.le_refl _⟩ (by decide) (c_X1_make (w := (c0 ++ c ++ c1).length) hC p1.2.1 (by rw [List.length_append]; omega) ?_)
        refine aw_iinc (v := (nI (i + 1))) (ls' := [_, _, _, _, _, _]) dX1_phrase_128 rfl (nI_1 i) (by decide) rfl rfl ?_
        refine aw_goto (tgt := 65) dX1_phrase_131 (by decide) ?_
        refine ih (i + 1) k1 (c ++ c1 ++ [stI (S k) 0]) (fun nm => joV (nI (S k)) (v nm) (v1 nm)) _ _ (by omega) ((sM.u6 _).tr s1 |>.u8 _ _ _) ?_ ?_ (by omega) ⟨fun k2 c2 v2 e2 => ?_, fun k2 e2 => ?_⟩
        · have := p1.u8 ((nI (S k) <<< (16 &&& 31)) ||| 0)
          rw [show c0 ++ (c ++ c1 ++ [stI (S k) 0]) = c0 ++ c ++ c1 ++ [stI (S k) 0] by simp only [List.append_assoc]]
          exact this
        · simp only [List.length_append, List.length_cons, List.length_nil] at hck ⊢
          omega
        · exact hKK.1 k2 c2 v2 (by simp only [lpR, if_pos c81, e1]; exact e2)
        · exact hKK.2 k2 (by simp only [lpR, if_pos c81, e1]; exact e2)
      · refine aw_if_ne (tgt := 121) dX1_phrase_116 (by decide) (fun zz => absurd zz (by decide)) (fun _ => ?_)
        refine aw_iconst (v := 0) dX1_phrase_119 (by decide) ?_
        refine aw_ireturn (ty := .boolean) dX1_phrase_120 rfl (by decide) ?_
        exact hKK.2 k1 (by simp only [lpR, if_pos c81, e1]) J1 ((sM.u6 _).tr s1) p1
    · refine aw_if_eq (tgt := 134) dX1_phrase_84 (by decide) (fun _ => ?_) (fun zz => absurd zz (by decide))
      refine aw_iconst (v := 1) dX1_phrase_134 (by decide) ?_
      refine aw_ireturn (ty := .boolean) dX1_phrase_135 rfl (by decide) ?_
      exact hKK.1 k c v (by simp only [lpR, if_neg c81]) M sM hP
theorem ph4 {E : Ev} {S V : Nat → Nat} {T : Nat} {D o : Nat} {p : Rd} (hg : ∀ (k1 : Nat) (c1 : List Int32) (v1 : Vl) (k : Nat), k ≤ T → p k = (k1, some (c1, v1)) → k1 ≤ T ∧ k < k1 ∧ c1.length ≤ k1 - k) (IH : PhC E D 5 o p S V T) : PhC E (D + 1) 4 o (bnR S p jT 160) S V T := by
  intro d I L Z Q k c hd hC hT hP hck hk hKK
  refine ac_go (ls := [some (.ref 4), some (.int 4), some (.int (nI o)), none, none, none]) (by decide +kernel) (Nat.le_of_ble_eq_true rfl) rfl ?_
  refine aw_iload_n dX1_phrase_0 rfl ?_
  refine aw_iconst (v := 5) dX1_phrase_1 (by decide) ?_
  refine aw_icmp_lt (tgt := 11) dX1_phrase_2 (by decide) (fun _ => ?_) (fun zz => absurd zz (by decide))
  refine aw_iload_n dX1_phrase_11 rfl ?_
  refine aw_iconst (v := 2) dX1_phrase_12 (by decide) ?_
  refine aw_icmp_ne (tgt := 36) dX1_phrase_13 (by decide) (fun _ => ?_) (fun zz => absurd zz (by decide))
  refine aw_aload_n dX1_phrase_36 rfl rfl ?_
  refine aw_iload_n dX1_phrase_37 rfl ?_
  refine aw_iconst (v := 1) dX1_phrase_38 (by decide) ?_
  refine aw_iadd dX1_phrase_39 ?_
  refine aw_iload_n dX1_phrase_40 rfl ?_
  rw [show (4 : Int32) + 1 = 5 from rfl]
  refine aw_V2 dX1_phrase_41 cw_X1_131 ⟨_, _, rfl⟩ hC.1 (by omega) ⟨Nat.le_refl _, Nat.le_refl _⟩ (by decide) (IH (d - 1) _ _ _ _ k c (by omega) hC hT hP hck hk ⟨fun k1 c1 v1 e1 J1 s1 p1 => ?_, fun k1 e1 J1 s1 p1 => ?_⟩)
  · refine aw_if_ne (tgt := 49) dX1_phrase_44 (by decide) (fun _ => ?_) (fun zz => absurd zz (by decide))
    refine aw_iload_n dX1_phrase_49 rfl ?_
    refine aw_iconst (v := 2) dX1_phrase_50 (by decide) ?_
    refine aw_icmp_ne (tgt := 58) dX1_phrase_51 (by decide) (fun _ => ?_) (fun zz => absurd zz (by decide))
    refine aw_sipush (v := 160) dX1_phrase_58 (by decide) ?_
    refine aw_istore_n (ls' := [_, _, _, _, _, _]) dX1_phrase_61 (by decide) rfl rfl ?_
    refine aw_iconst (v := 0) dX1_phrase_62 (by decide) ?_
    refine aw_istore (ls' := [_, _, _, _, _, _]) dX1_phrase_63 (by decide) rfl rfl ?_
    have gg := hg k1 c1 v1 k hk e1
    refine l_ph4 (c0 := c) hg IH hd hC hT 160 0 k1 c1 v1 J1 none rfl s1 p1 (by rw [List.length_append]; omega) gg.1 ⟨fun k2 c2 v2 e2 => hKK.1 k2 c2 v2 ?_, fun k2 e2 => hKK.2 k2 ?_⟩
    · simp only [bnR, e1]; exact e2
    · simp only [bnR, e1]; exact e2
  · refine aw_if_ne (tgt := 49) dX1_phrase_44 (by decide) (fun zz => absurd zz (by decide)) (fun _ => ?_)
    refine aw_iconst (v := 0) dX1_phrase_47 (by decide) ?_
    refine aw_ireturn (ty := .boolean) dX1_phrase_48 rfl (by decide) ?_
    exact hKK.2 k1 (by simp only [bnR, e1]) J1 s1 p1
theorem l_ph3 {E : Ev} {d : Nat} {I : Mi} {L : Ml} {Z : Mz} {Q : Po} {S V : Nat → Nat} {T : Nat} {D o : Nat} {p : Rd} {c0 : List Int32} (hg : ∀ (k1 : Nat) (c1 : List Int32) (v1 : Vl) (k : Nat), k ≤ T → p k = (k1, some (c1, v1)) → k1 ≤ T ∧ k < k1 ∧ c1.length ≤ k1 - k) (IH : PhC E D 4 o p S V T) (hd : D + 1 ≤ d) (hC : ScZ Z) (hT : TkP I S V T) : ∀ (q i k : Nat) (c : List Int32) (v : Vl) (M : Mi) (o5 : Option Value), i + q = 160 → SaP I M → PS M k (c0 ++ c) → (c0 ++ c).length ≤ k → k ≤ T → KK I L Z Q c0 T (lpR S p jS q k c v) → AW E yX1_phrase cX1_phrase 6 (some .boolean) (rmOf d 0 0) Q 0 0 65 [some (.ref 4), some (.int 3), some (.int (nI o)), some (.int 160), some (.int (nI i)), o5] [] M L Z := by
  intro q
  induction q with
  | zero =>
    intro i k c v M o5 hq sM hP hck hk hKK
    have ei : i = 160 := by omega
    subst ei
    refine aw_iload dX1_phrase_65 rfl ?_
    refine aw_iload_n dX1_phrase_67 rfl ?_
    refine aw_icmp_ge (tgt := 134) dX1_phrase_68 (by decide) (fun c68 => ?_) (fun zz => absurd (by decide) zz)
    refine aw_iconst (v := 1) dX1_phrase_134 (by decide) ?_
    refine aw_ireturn (ty := .boolean) dX1_phrase_135 rfl (by decide) ?_
    exact hKK.1 k c v rfl M sM hP
  | succ q ih =>
    intro i k c v M o5 hq sM hP hck hk hKK
    have hT6 := hT.2.2.1
    have hSk := (hT.2.2.2.2 k).2.2
    have h6 := (hT.sam sM).s6 hk
    refine aw_iload dX1_phrase_65 rfl ?_
    refine aw_iload_n dX1_phrase_67 rfl ?_
    refine aw_icmp_ge (tgt := 134) dX1_phrase_68 (by decide) (fun zz => absurd zz (nI_ge (b := 160) (by omega) (by decide))) (fun c68 => ?_)
    refine aw_iload_n dX1_phrase_71 rfl ?_
    refine aw_aload_n dX1_phrase_72 rfl rfl ?_
    refine aw_gr dX1_phrase_73 fw_X1_15 hC.1 hC.2.2.1 ?_
    refine aw_aload_n dX1_phrase_76 rfl rfl ?_
    refine aw_gi dX1_phrase_77 fw_X1_34 hC.1 ?_
    refine aw_ia k dX1_phrase_80 hC.2.2.2.2.2.2.2.1 hP.1 (by omega) (by decide) ?_
    rw [h6]
    refine aw_S2 dX1_phrase_81 cw_X1_141 (by omega) ⟨Nat.le_refl _, Nat.le_refl _⟩ (by decide) (c_X1_joins3 (by omega) (fun c81 => ?_) (fun c81 => ?_))
    · have hkT : k < T := lt_of_S hT.2.2.2.1 hk (by intro w; rw [w] at c81; exact absurd c81 (by decide))
      refine aw_if_eq (tgt := 134) dX1_phrase_84 (by decide) (fun zz => absurd zz (by decide)) (fun _ => ?_)
      refine aw_aload_n dX1_phrase_87 rfl rfl ?_
      refine aw_gr dX1_phrase_88 fw_X1_15 hC.1 hC.2.2.1 ?_
      refine aw_aload_n dX1_phrase_91 rfl rfl ?_
      refine aw_gi dX1_phrase_92 fw_X1_34 hC.1 ?_
      refine aw_ia k dX1_phrase_95 hC.2.2.2.2.2.2.2.1 hP.1 (by omega) (by decide) ?_
      rw [h6]
      refine aw_istore (ls' := [_, _, _, _, _, _]) dX1_phrase_96 (by decide) rfl rfl ?_
      refine aw_aload_n dX1_phrase_98 rfl rfl ?_
      refine aw_dup dX1_phrase_99 rfl ?_
      refine aw_gi dX1_phrase_100 fw_X1_34 hC.1 ?_
      refine aw_iconst (v := 1) dX1_phrase_103 (by decide) ?_
      refine aw_iadd dX1_phrase_104 ?_
      rw [hP.1, nI_1]
      refine aw_pi dX1_phrase_105 fw_X1_34 (ww_X1_34 _) hC.1 rfl ?_
      refine aw_aload_n dX1_phrase_108 rfl rfl ?_
      refine aw_iload_n dX1_phrase_109 rfl ?_
      refine aw_iconst (v := 1) dX1_phrase_110 (by decide) ?_
      refine aw_iadd dX1_phrase_111 ?_
      refine aw_iload_n dX1_phrase_112 rfl ?_
      rw [show (3 : Int32) + 1 = 4 from rfl]
      refine aw_V2 dX1_phrase_113 cw_X1_131 ⟨_, _, rfl⟩ hC.1 (by omega) ⟨Nat.le_refl _, Nat.le_refl _⟩ (by decide) (IH (d - 1) _ _ _ _ (k + 1) (c0 ++ c) (by omega) hC ((hT.sam sM).sam (SaP.rf.u6 _)) (hP.u6 (k + 1)) (by omega) (by omega) ⟨fun k1 c1 v1 e1 J1 s1 p1 => ?_, fun k1 e1 J1 s1 p1 => ?_⟩)
      · have gg := hg k1 c1 v1 (k + 1) (by omega) e1
        refine aw_if_ne (tgt := 121) dX1_phrase_116 (by decide) (fun _ => ?_) (fun zz => absurd zz (by decide))
        refine aw_aload_n dX1_phrase_121 rfl rfl ?_
        refine aw_iload dX1_phrase_122 rfl ?_
        refine aw_iconst (v := 0) dX1_phrase_124 (by decide) ?_
        refine aw_V2 dX1_phrase_125 cw_X1_144 ⟨_, _, rfl⟩ hC.1 (by omega) ⟨Nat.le_refl _, Nat.le_refl _⟩ (by decide) (c_X1_make (w := (c0 ++ c ++ c1).length) hC p1.2.1 (by rw [List.length_append]; omega) ?_)
        refine aw_iinc (v := (nI (i + 1))) (ls' := [_, _, _, _, _, _]) dX1_phrase_128 rfl (nI_1 i) (by decide) rfl rfl ?_
        refine aw_goto (tgt := 65) dX1_phrase_131 (by decide) ?_
        refine ih (i + 1) k1 (c ++ c1 ++ [stI (S k) 0]) (fun nm => joV (nI (S k)) (v nm) (v1 nm)) _ _ (by omega) ((sM.u6 _).tr s1 |>.u8 _ _ _) ?_ ?_ (by omega) ⟨fun k2 c2 v2 e2 => ?_, fun k2 e2 => ?_⟩
        · have := p1.u8 ((nI (S k) <<< (16 &&& 31)) ||| 0)
          rw [show c0 ++ (c ++ c1 ++ [stI (S k) 0]) = c0 ++ c ++ c1 ++ [stI (S k) 0] by simp only [List.append_assoc]]
          exact this
        · simp only [List.length_append, List.length_cons, List.length_nil] at hck ⊢
          omega
        · exact hKK.1 k2 c2 v2 (by simp only [lpR, if_pos c81, e1]; exact e2)
        · exact hKK.2 k2 (by simp only [lpR, if_pos c81, e1]; exact e2)
      · refine aw_if_ne (tgt := 121) dX1_phrase_116 (by decide) (fun zz => absurd zz (by decide)) (fun _ => ?_)
        refine aw_iconst (v := 0) dX1_phrase_119 (by decide) ?_
        refine aw_ireturn (ty := .boolean) dX1_phrase_120 rfl (by decide) ?_
        exact hKK.2 k1 (by simp only [lpR, if_pos c81, e1]) J1 ((sM.u6 _).tr s1) p1
    · refine aw_if_eq (tgt := 134) dX1_phrase_84 (by decide) (fun _ => ?_) (fun zz => absurd zz (by decide))
      refine aw_iconst (v := 1) dX1_phrase_134 (by decide) ?_
      refine aw_ireturn (ty := .boolean) dX1_phrase_135 rfl (by decide) ?_
      exact hKK.1 k c v (by simp only [lpR, if_neg c81]) M sM hP
theorem ph3 {E : Ev} {S V : Nat → Nat} {T : Nat} {D o : Nat} {p : Rd} (hg : ∀ (k1 : Nat) (c1 : List Int32) (v1 : Vl) (k : Nat), k ≤ T → p k = (k1, some (c1, v1)) → k1 ≤ T ∧ k < k1 ∧ c1.length ≤ k1 - k) (IH : PhC E D 4 o p S V T) : PhC E (D + 1) 3 o (bnR S p jS 160) S V T := by
  intro d I L Z Q k c hd hC hT hP hck hk hKK
  refine ac_go (ls := [some (.ref 4), some (.int 3), some (.int (nI o)), none, none, none]) (by decide +kernel) (Nat.le_of_ble_eq_true rfl) rfl ?_
  refine aw_iload_n dX1_phrase_0 rfl ?_
  refine aw_iconst (v := 5) dX1_phrase_1 (by decide) ?_
  refine aw_icmp_lt (tgt := 11) dX1_phrase_2 (by decide) (fun _ => ?_) (fun zz => absurd zz (by decide))
  refine aw_iload_n dX1_phrase_11 rfl ?_
  refine aw_iconst (v := 2) dX1_phrase_12 (by decide) ?_
  refine aw_icmp_ne (tgt := 36) dX1_phrase_13 (by decide) (fun _ => ?_) (fun zz => absurd zz (by decide))
  refine aw_aload_n dX1_phrase_36 rfl rfl ?_
  refine aw_iload_n dX1_phrase_37 rfl ?_
  refine aw_iconst (v := 1) dX1_phrase_38 (by decide) ?_
  refine aw_iadd dX1_phrase_39 ?_
  refine aw_iload_n dX1_phrase_40 rfl ?_
  rw [show (3 : Int32) + 1 = 4 from rfl]
  refine aw_V2 dX1_phrase_41 cw_X1_131 ⟨_, _, rfl⟩ hC.1 (by omega) ⟨Nat.le_refl _, Nat.le_refl _⟩ (by decide) (IH (d - 1) _ _ _ _ k c (by omega) hC hT hP hck hk ⟨fun k1 c1 v1 e1 J1 s1 p1 => ?_, fun k1 e1 J1 s1 p1 => ?_⟩)
  · refine aw_if_ne (tgt := 49) dX1_phrase_44 (by decide) (fun _ => ?_) (fun zz => absurd zz (by decide))
    refine aw_iload_n dX1_phrase_49 rfl ?_
    refine aw_iconst (v := 2) dX1_phrase_50 (by decide) ?_
    refine aw_icmp_ne (tgt := 58) dX1_phrase_51 (by decide) (fun _ => ?_) (fun zz => absurd zz (by decide))
    refine aw_sipush (v := 160) dX1_phrase_58 (by decide) ?_
    refine aw_istore_n (ls' := [_, _, _, _, _, _]) dX1_phrase_61 (by decide) rfl rfl ?_
    refine aw_iconst (v := 0) dX1_phrase_62 (by decide) ?_
    refine aw_istore (ls' := [_, _, _, _, _, _]) dX1_phrase_63 (by decide) rfl rfl ?_
    have gg := hg k1 c1 v1 k hk e1
    refine l_ph3 (c0 := c) hg IH hd hC hT 160 0 k1 c1 v1 J1 none rfl s1 p1 (by rw [List.length_append]; omega) gg.1 ⟨fun k2 c2 v2 e2 => hKK.1 k2 c2 v2 ?_, fun k2 e2 => hKK.2 k2 ?_⟩
    · simp only [bnR, e1]; exact e2
    · simp only [bnR, e1]; exact e2
  · refine aw_if_ne (tgt := 49) dX1_phrase_44 (by decide) (fun zz => absurd zz (by decide)) (fun _ => ?_)
    refine aw_iconst (v := 0) dX1_phrase_47 (by decide) ?_
    refine aw_ireturn (ty := .boolean) dX1_phrase_48 rfl (by decide) ?_
    exact hKK.2 k1 (by simp only [bnR, e1]) J1 s1 p1
theorem l_ph2 {E : Ev} {d : Nat} {I : Mi} {L : Ml} {Z : Mz} {Q : Po} {S V : Nat → Nat} {T : Nat} {D o : Nat} {p : Rd} {c0 : List Int32} (hg : ∀ (k1 : Nat) (c1 : List Int32) (v1 : Vl) (k : Nat), k ≤ T → p k = (k1, some (c1, v1)) → k1 ≤ T ∧ k < k1 ∧ c1.length ≤ k1 - k) (IH : PhC E D 3 o p S V T) (hd : D + 1 ≤ d) (hC : ScZ Z) (hT : TkP I S V T) : ∀ (q i k : Nat) (c : List Int32) (v : Vl) (M : Mi) (o5 : Option Value), i + q = 1 → SaP I M → PS M k (c0 ++ c) → (c0 ++ c).length ≤ k → k ≤ T → KK I L Z Q c0 T (lpR S p jN q k c v) → AW E yX1_phrase cX1_phrase 6 (some .boolean) (rmOf d 0 0) Q 0 0 65 [some (.ref 4), some (.int 2), some (.int (nI o)), some (.int 1), some (.int (nI i)), o5] [] M L Z := by
  intro q
  induction q with
  | zero =>
    intro i k c v M o5 hq sM hP hck hk hKK
    have ei : i = 1 := by omega
    subst ei
    refine aw_iload dX1_phrase_65 rfl ?_
    refine aw_iload_n dX1_phrase_67 rfl ?_
    refine aw_icmp_ge (tgt := 134) dX1_phrase_68 (by decide) (fun c68 => ?_) (fun zz => absurd (by decide) zz)
    refine aw_iconst (v := 1) dX1_phrase_134 (by decide) ?_
    refine aw_ireturn (ty := .boolean) dX1_phrase_135 rfl (by decide) ?_
    exact hKK.1 k c v rfl M sM hP
  | succ q ih =>
    intro i k c v M o5 hq sM hP hck hk hKK
    have hT6 := hT.2.2.1
    have hSk := (hT.2.2.2.2 k).2.2
    have h6 := (hT.sam sM).s6 hk
    refine aw_iload dX1_phrase_65 rfl ?_
    refine aw_iload_n dX1_phrase_67 rfl ?_
    refine aw_icmp_ge (tgt := 134) dX1_phrase_68 (by decide) (fun zz => absurd zz (nI_ge (b := 1) (by omega) (by decide))) (fun c68 => ?_)
    refine aw_iload_n dX1_phrase_71 rfl ?_
    refine aw_aload_n dX1_phrase_72 rfl rfl ?_
    refine aw_gr dX1_phrase_73 fw_X1_15 hC.1 hC.2.2.1 ?_
    refine aw_aload_n dX1_phrase_76 rfl rfl ?_
    refine aw_gi dX1_phrase_77 fw_X1_34 hC.1 ?_
    refine aw_ia k dX1_phrase_80 hC.2.2.2.2.2.2.2.1 hP.1 (by omega) (by decide) ?_
    rw [h6]
    refine aw_S2 dX1_phrase_81 cw_X1_141 (by omega) ⟨Nat.le_refl _, Nat.le_refl _⟩ (by decide) (c_X1_joins2 (by omega) (fun c81 => ?_) (fun c81 => ?_))
    · have hkT : k < T := lt_of_S hT.2.2.2.1 hk (by intro w; rw [w] at c81; exact absurd c81 (by decide))
      refine aw_if_eq (tgt := 134) dX1_phrase_84 (by decide) (fun zz => absurd zz (by decide)) (fun _ => ?_)
      refine aw_aload_n dX1_phrase_87 rfl rfl ?_
      refine aw_gr dX1_phrase_88 fw_X1_15 hC.1 hC.2.2.1 ?_
      refine aw_aload_n dX1_phrase_91 rfl rfl ?_
      refine aw_gi dX1_phrase_92 fw_X1_34 hC.1 ?_
      refine aw_ia k dX1_phrase_95 hC.2.2.2.2.2.2.2.1 hP.1 (by omega) (by decide) ?_
      rw [h6]
      refine aw_istore (ls' := [_, _, _, _, _, _]) dX1_phrase_96 (by decide) rfl rfl ?_
      refine aw_aload_n dX1_phrase_98 rfl rfl ?_
      refine aw_dup dX1_phrase_99 rfl ?_
      refine aw_gi dX1_phrase_100 fw_X1_34 hC.1 ?_
      refine aw_iconst (v := 1) dX1_phrase_103 (by decide) ?_
      refine aw_iadd dX1_phrase_104 ?_
      rw [hP.1, nI_1]
      refine aw_pi dX1_phrase_105 fw_X1_34 (ww_X1_34 _) hC.1 rfl ?_
      refine aw_aload_n dX1_phrase_108 rfl rfl ?_
      refine aw_iload_n dX1_phrase_109 rfl ?_
      refine aw_iconst (v := 1) dX1_phrase_110 (by decide) ?_
      refine aw_iadd dX1_phrase_111 ?_
      refine aw_iload_n dX1_phrase_112 rfl ?_
      rw [show (2 : Int32) + 1 = 3 from rfl]
      refine aw_V2 dX1_phrase_113 cw_X1_131 ⟨_, _, rfl⟩ hC.1 (by omega) ⟨Nat.le_refl _, Nat.le_refl _⟩ (by decide) (IH (d - 1) _ _ _ _ (k + 1) (c0 ++ c) (by omega) hC ((hT.sam sM).sam (SaP.rf.u6 _)) (hP.u6 (k + 1)) (by omega) (by omega) ⟨fun k1 c1 v1 e1 J1 s1 p1 => ?_, fun k1 e1 J1 s1 p1 => ?_⟩)
      · have gg := hg k1 c1 v1 (k + 1) (by omega) e1
        refine aw_if_ne (tgt := 121) dX1_phrase_116 (by decide) (fun _ => ?_) (fun zz => absurd zz (by decide))
        refine aw_aload_n dX1_phrase_121 rfl rfl ?_
        refine aw_iload dX1_phrase_122 rfl ?_
        refine aw_iconst (v := 0) dX1_phrase_124 (by decide) ?_
        refine aw_V2 dX1_phrase_125 cw_X1_144 ⟨_, _, rfl⟩ hC.1 (by omega) ⟨Nat.le_refl _, Nat.le_refl _⟩ (by decide) (c_X1_make (w := (c0 ++ c ++ c1).length) hC p1.2.1 (by rw [List.length_append]; omega) ?_)
        refine aw_iinc (v := (nI (i + 1))) (ls' := [_, _, _, _, _, _]) dX1_phrase_128 rfl (nI_1 i) (by decide) rfl rfl ?_
        refine aw_goto (tgt := 65) dX1_phrase_131 (by decide) ?_
        refine ih (i + 1) k1 (c ++ c1 ++ [stI (S k) 0]) (fun nm => joV (nI (S k)) (v nm) (v1 nm)) _ _ (by omega) ((sM.u6 _).tr s1 |>.u8 _ _ _) ?_ ?_ (by omega) ⟨fun k2 c2 v2 e2 => ?_, fun k2 e2 => ?_⟩
        · have := p1.u8 ((nI (S k) <<< (16 &&& 31)) ||| 0)
          rw [show c0 ++ (c ++ c1 ++ [stI (S k) 0]) = c0 ++ c ++ c1 ++ [stI (S k) 0] by simp only [List.append_assoc]]
          exact this
        · simp only [List.length_append, List.length_cons, List.length_nil] at hck ⊢
          omega
        · exact hKK.1 k2 c2 v2 (by simp only [lpR, if_pos c81, e1]; exact e2)
        · exact hKK.2 k2 (by simp only [lpR, if_pos c81, e1]; exact e2)
      · refine aw_if_ne (tgt := 121) dX1_phrase_116 (by decide) (fun zz => absurd zz (by decide)) (fun _ => ?_)
        refine aw_iconst (v := 0) dX1_phrase_119 (by decide) ?_
        refine aw_ireturn (ty := .boolean) dX1_phrase_120 rfl (by decide) ?_
        exact hKK.2 k1 (by simp only [lpR, if_pos c81, e1]) J1 ((sM.u6 _).tr s1) p1
    · refine aw_if_eq (tgt := 134) dX1_phrase_84 (by decide) (fun _ => ?_) (fun zz => absurd zz (by decide))
      refine aw_iconst (v := 1) dX1_phrase_134 (by decide) ?_
      refine aw_ireturn (ty := .boolean) dX1_phrase_135 rfl (by decide) ?_
      exact hKK.1 k c v (by simp only [lpR, if_neg c81]) M sM hP
theorem ph2 {E : Ev} {S V : Nat → Nat} {T : Nat} {D o : Nat} {lo : Option (Rd × Rd × Rd)} (hg : ∀ (k1 : Nat) (c1 : List Int32) (v1 : Vl) (k : Nat), k ≤ T → sumR S V lo k = (k1, some (c1, v1)) → k1 ≤ T ∧ k < k1 ∧ c1.length ≤ k1 - k) (IH : PhC E D 3 o (sumR S V lo) S V T) (IHn : NgC E D o (notR S V lo) S V T) : PhC E (D + 1) 2 o (notR S V lo) S V T := by
  intro d I L Z Q k c hd hC hT hP hck hk hKK
  have hT6 := hT.2.2.1
  have hSk := (hT.2.2.2.2 k).2.2
  have h6 := hT.s6 hk
  refine ac_go (ls := [some (.ref 4), some (.int 2), some (.int (nI o)), none, none, none]) (by decide +kernel) (Nat.le_of_ble_eq_true rfl) rfl ?_
  by_cases h9 : S k = 9
  · refine aw_iload_n dX1_phrase_0 rfl ?_
    refine aw_iconst (v := 5) dX1_phrase_1 (by decide) ?_
    refine aw_icmp_lt (tgt := 11) dX1_phrase_2 (by decide) (fun _ => ?_) (fun zz => absurd zz (by decide))
    refine aw_iload_n dX1_phrase_11 rfl ?_
    refine aw_iconst (v := 2) dX1_phrase_12 (by decide) ?_
    refine aw_icmp_ne (tgt := 36) dX1_phrase_13 (by decide) (fun zz => absurd zz (by decide)) (fun _ => ?_)
    refine aw_aload_n dX1_phrase_16 rfl rfl ?_
    refine aw_gr dX1_phrase_17 fw_X1_15 hC.1 hC.2.2.1 ?_
    refine aw_aload_n dX1_phrase_20 rfl rfl ?_
    refine aw_gi dX1_phrase_21 fw_X1_34 hC.1 ?_
    refine aw_ia k dX1_phrase_24 hC.2.2.2.2.2.2.2.1 hP.1 (by omega) (by decide) ?_
    rw [h6]
    refine aw_bipush (v := 9) dX1_phrase_25 (by decide) ?_
    refine aw_icmp_ne (tgt := 36) dX1_phrase_27 (by decide) (fun zz => absurd (by rw [h9]; rfl) zz) (fun c27 => ?_)
    refine aw_aload_n dX1_phrase_30 rfl rfl ?_
    refine aw_iload_n dX1_phrase_31 rfl ?_
    refine aw_V1 dX1_phrase_32 cw_X1_138 ⟨_, _, rfl⟩ hC.1 (by omega) ⟨Nat.le_refl _, Nat.le_refl _⟩ (by decide) (IHn (d - 1) _ _ _ _ k c (by omega) hC hT hP hck hk h9 ⟨fun k1 c1 v1 e1 J1 s1 p1 => ?_, fun k1 e1 J1 s1 p1 => ?_⟩)
    · refine aw_ireturn (ty := .boolean) dX1_phrase_35 rfl (by decide) ?_
      exact hKK.1 k1 c1 v1 e1 J1 s1 p1
    · refine aw_ireturn (ty := .boolean) dX1_phrase_35 rfl (by decide) ?_
      exact hKK.2 k1 e1 J1 s1 p1
  · have enR : notR S V lo k = bnR S (sumR S V lo) jN 1 k := by simp only [notR, if_neg h9]
    rw [enR] at hKK
    refine aw_iload_n dX1_phrase_0 rfl ?_
    refine aw_iconst (v := 5) dX1_phrase_1 (by decide) ?_
    refine aw_icmp_lt (tgt := 11) dX1_phrase_2 (by decide) (fun _ => ?_) (fun zz => absurd zz (by decide))
    refine aw_iload_n dX1_phrase_11 rfl ?_
    refine aw_iconst (v := 2) dX1_phrase_12 (by decide) ?_
    refine aw_icmp_ne (tgt := 36) dX1_phrase_13 (by decide) (fun zz => absurd zz (by decide)) (fun _ => ?_)
    refine aw_aload_n dX1_phrase_16 rfl rfl ?_
    refine aw_gr dX1_phrase_17 fw_X1_15 hC.1 hC.2.2.1 ?_
    refine aw_aload_n dX1_phrase_20 rfl rfl ?_
    refine aw_gi dX1_phrase_21 fw_X1_34 hC.1 ?_
    refine aw_ia k dX1_phrase_24 hC.2.2.2.2.2.2.2.1 hP.1 (by omega) (by decide) ?_
    rw [h6]
    refine aw_bipush (v := 9) dX1_phrase_25 (by decide) ?_
    refine aw_icmp_ne (tgt := 36) dX1_phrase_27 (by decide) (fun c27 => ?_) (fun zz => absurd zz (fun w => h9 ((nI_eq (b := 9) (by omega) (by decide)).mp w)))
    refine aw_aload_n dX1_phrase_36 rfl rfl ?_
    refine aw_iload_n dX1_phrase_37 rfl ?_
    refine aw_iconst (v := 1) dX1_phrase_38 (by decide) ?_
    refine aw_iadd dX1_phrase_39 ?_
    refine aw_iload_n dX1_phrase_40 rfl ?_
    rw [show (2 : Int32) + 1 = 3 from rfl]
    refine aw_V2 dX1_phrase_41 cw_X1_131 ⟨_, _, rfl⟩ hC.1 (by omega) ⟨Nat.le_refl _, Nat.le_refl _⟩ (by decide) (IH (d - 1) _ _ _ _ k c (by omega) hC hT hP hck hk ⟨fun k1 c1 v1 e1 J1 s1 p1 => ?_, fun k1 e1 J1 s1 p1 => ?_⟩)
    · refine aw_if_ne (tgt := 49) dX1_phrase_44 (by decide) (fun _ => ?_) (fun zz => absurd zz (by decide))
      refine aw_iload_n dX1_phrase_49 rfl ?_
      refine aw_iconst (v := 2) dX1_phrase_50 (by decide) ?_
      refine aw_icmp_ne (tgt := 58) dX1_phrase_51 (by decide) (fun zz => absurd zz (by decide)) (fun _ => ?_)
      refine aw_iconst (v := 1) dX1_phrase_54 (by decide) ?_
      refine aw_goto (tgt := 61) dX1_phrase_55 (by decide) ?_
      refine aw_istore_n (ls' := [_, _, _, _, _, _]) dX1_phrase_61 (by decide) rfl rfl ?_
      refine aw_iconst (v := 0) dX1_phrase_62 (by decide) ?_
      refine aw_istore (ls' := [_, _, _, _, _, _]) dX1_phrase_63 (by decide) rfl rfl ?_
      have gg := hg k1 c1 v1 k hk e1
      refine l_ph2 (c0 := c) hg IH hd hC hT 1 0 k1 c1 v1 J1 none rfl s1 p1 (by rw [List.length_append]; omega) gg.1 ⟨fun k2 c2 v2 e2 => hKK.1 k2 c2 v2 ?_, fun k2 e2 => hKK.2 k2 ?_⟩
      · simp only [bnR, e1]; exact e2
      · simp only [bnR, e1]; exact e2
    · refine aw_if_ne (tgt := 49) dX1_phrase_44 (by decide) (fun zz => absurd zz (by decide)) (fun _ => ?_)
      refine aw_iconst (v := 0) dX1_phrase_47 (by decide) ?_
      refine aw_ireturn (ty := .boolean) dX1_phrase_48 rfl (by decide) ?_
      exact hKK.2 k1 (by simp only [bnR, e1]) J1 s1 p1
theorem l_ph1 {E : Ev} {d : Nat} {I : Mi} {L : Ml} {Z : Mz} {Q : Po} {S V : Nat → Nat} {T : Nat} {D o : Nat} {p : Rd} {c0 : List Int32} (hg : ∀ (k1 : Nat) (c1 : List Int32) (v1 : Vl) (k : Nat), k ≤ T → p k = (k1, some (c1, v1)) → k1 ≤ T ∧ k < k1 ∧ c1.length ≤ k1 - k) (IH : PhC E D 2 o p S V T) (hd : D + 1 ≤ d) (hC : ScZ Z) (hT : TkP I S V T) : ∀ (q i k : Nat) (c : List Int32) (v : Vl) (M : Mi) (o5 : Option Value), i + q = 160 → SaP I M → PS M k (c0 ++ c) → (c0 ++ c).length ≤ k → k ≤ T → KK I L Z Q c0 T (lpR S p jA q k c v) → AW E yX1_phrase cX1_phrase 6 (some .boolean) (rmOf d 0 0) Q 0 0 65 [some (.ref 4), some (.int 1), some (.int (nI o)), some (.int 160), some (.int (nI i)), o5] [] M L Z := by
  intro q
  induction q with
  | zero =>
    intro i k c v M o5 hq sM hP hck hk hKK
    have ei : i = 160 := by omega
    subst ei
    refine aw_iload dX1_phrase_65 rfl ?_
    refine aw_iload_n dX1_phrase_67 rfl ?_
    refine aw_icmp_ge (tgt := 134) dX1_phrase_68 (by decide) (fun c68 => ?_) (fun zz => absurd (by decide) zz)
    refine aw_iconst (v := 1) dX1_phrase_134 (by decide) ?_
    refine aw_ireturn (ty := .boolean) dX1_phrase_135 rfl (by decide) ?_
    exact hKK.1 k c v rfl M sM hP
  | succ q ih =>
    intro i k c v M o5 hq sM hP hck hk hKK
    have hT6 := hT.2.2.1
    have hSk := (hT.2.2.2.2 k).2.2
    have h6 := (hT.sam sM).s6 hk
    refine aw_iload dX1_phrase_65 rfl ?_
    refine aw_iload_n dX1_phrase_67 rfl ?_
    refine aw_icmp_ge (tgt := 134) dX1_phrase_68 (by decide) (fun zz => absurd zz (nI_ge (b := 160) (by omega) (by decide))) (fun c68 => ?_)
    refine aw_iload_n dX1_phrase_71 rfl ?_
    refine aw_aload_n dX1_phrase_72 rfl rfl ?_
    refine aw_gr dX1_phrase_73 fw_X1_15 hC.1 hC.2.2.1 ?_
    refine aw_aload_n dX1_phrase_76 rfl rfl ?_
    refine aw_gi dX1_phrase_77 fw_X1_34 hC.1 ?_
    refine aw_ia k dX1_phrase_80 hC.2.2.2.2.2.2.2.1 hP.1 (by omega) (by decide) ?_
    rw [h6]
    refine aw_S2 dX1_phrase_81 cw_X1_141 (by omega) ⟨Nat.le_refl _, Nat.le_refl _⟩ (by decide) (c_X1_joins1 (by omega) (fun c81 => ?_) (fun c81 => ?_))
    · have hkT : k < T := lt_of_S hT.2.2.2.1 hk (by intro w; rw [w] at c81; exact absurd c81 (by decide))
      refine aw_if_eq (tgt := 134) dX1_phrase_84 (by decide) (fun zz => absurd zz (by decide)) (fun _ => ?_)
      refine aw_aload_n dX1_phrase_87 rfl rfl ?_
      refine aw_gr dX1_phrase_88 fw_X1_15 hC.1 hC.2.2.1 ?_
      refine aw_aload_n dX1_phrase_91 rfl rfl ?_
      refine aw_gi dX1_phrase_92 fw_X1_34 hC.1 ?_
      refine aw_ia k dX1_phrase_95 hC.2.2.2.2.2.2.2.1 hP.1 (by omega) (by decide) ?_
      rw [h6]
      refine aw_istore (ls' := [_, _, _, _, _, _]) dX1_phrase_96 (by decide) rfl rfl ?_
      refine aw_aload_n dX1_phrase_98 rfl rfl ?_
      refine aw_dup dX1_phrase_99 rfl ?_
      refine aw_gi dX1_phrase_100 fw_X1_34 hC.1 ?_
      refine aw_iconst (v := 1) dX1_phrase_103 (by decide) ?_
      refine aw_iadd dX1_phrase_104 ?_
      rw [hP.1, nI_1]
      refine aw_pi dX1_phrase_105 fw_X1_34 (ww_X1_34 _) hC.1 rfl ?_
      refine aw_aload_n dX1_phrase_108 rfl rfl ?_
      refine aw_iload_n dX1_phrase_109 rfl ?_
      refine aw_iconst (v := 1) dX1_phrase_110 (by decide) ?_
      refine aw_iadd dX1_phrase_111 ?_
      refine aw_iload_n dX1_phrase_112 rfl ?_
      rw [show (1 : Int32) + 1 = 2 from rfl]
      refine aw_V2 dX1_phrase_113 cw_X1_131 ⟨_, _, rfl⟩ hC.1 (by omega) ⟨Nat.le_refl _, Nat.le_refl _⟩ (by decide) (IH (d - 1) _ _ _ _ (k + 1) (c0 ++ c) (by omega) hC ((hT.sam sM).sam (SaP.rf.u6 _)) (hP.u6 (k + 1)) (by omega) (by omega) ⟨fun k1 c1 v1 e1 J1 s1 p1 => ?_, fun k1 e1 J1 s1 p1 => ?_⟩)
      · have gg := hg k1 c1 v1 (k + 1) (by omega) e1
        refine aw_if_ne (tgt := 121) dX1_phrase_116 (by decide) (fun _ => ?_) (fun zz => absurd zz (by decide))
        refine aw_aload_n dX1_phrase_121 rfl rfl ?_
        refine aw_iload dX1_phrase_122 rfl ?_
        refine aw_iconst (v := 0) dX1_phrase_124 (by decide) ?_
        refine aw_V2 dX1_phrase_125 cw_X1_144 ⟨_, _, rfl⟩ hC.1 (by omega) ⟨Nat.le_refl _, Nat.le_refl _⟩ (by decide) (c_X1_make (w := (c0 ++ c ++ c1).length) hC p1.2.1 (by rw [List.length_append]; omega) ?_)
        refine aw_iinc (v := (nI (i + 1))) (ls' := [_, _, _, _, _, _]) dX1_phrase_128 rfl (nI_1 i) (by decide) rfl rfl ?_
        refine aw_goto (tgt := 65) dX1_phrase_131 (by decide) ?_
        refine ih (i + 1) k1 (c ++ c1 ++ [stI (S k) 0]) (fun nm => joV (nI (S k)) (v nm) (v1 nm)) _ _ (by omega) ((sM.u6 _).tr s1 |>.u8 _ _ _) ?_ ?_ (by omega) ⟨fun k2 c2 v2 e2 => ?_, fun k2 e2 => ?_⟩
        · have := p1.u8 ((nI (S k) <<< (16 &&& 31)) ||| 0)
          rw [show c0 ++ (c ++ c1 ++ [stI (S k) 0]) = c0 ++ c ++ c1 ++ [stI (S k) 0] by simp only [List.append_assoc]]
          exact this
        · simp only [List.length_append, List.length_cons, List.length_nil] at hck ⊢
          omega
        · exact hKK.1 k2 c2 v2 (by simp only [lpR, if_pos c81, e1]; exact e2)
        · exact hKK.2 k2 (by simp only [lpR, if_pos c81, e1]; exact e2)
      · refine aw_if_ne (tgt := 121) dX1_phrase_116 (by decide) (fun zz => absurd zz (by decide)) (fun _ => ?_)
        refine aw_iconst (v := 0) dX1_phrase_119 (by decide) ?_
        refine aw_ireturn (ty := .boolean) dX1_phrase_120 rfl (by decide) ?_
        exact hKK.2 k1 (by simp only [lpR, if_pos c81, e1]) J1 ((sM.u6 _).tr s1) p1
    · refine aw_if_eq (tgt := 134) dX1_phrase_84 (by decide) (fun _ => ?_) (fun zz => absurd zz (by decide))
      refine aw_iconst (v := 1) dX1_phrase_134 (by decide) ?_
      refine aw_ireturn (ty := .boolean) dX1_phrase_135 rfl (by decide) ?_
      exact hKK.1 k c v (by simp only [lpR, if_neg c81]) M sM hP
theorem ph1 {E : Ev} {S V : Nat → Nat} {T : Nat} {D o : Nat} {p : Rd} (hg : ∀ (k1 : Nat) (c1 : List Int32) (v1 : Vl) (k : Nat), k ≤ T → p k = (k1, some (c1, v1)) → k1 ≤ T ∧ k < k1 ∧ c1.length ≤ k1 - k) (IH : PhC E D 2 o p S V T) : PhC E (D + 1) 1 o (bnR S p jA 160) S V T := by
  intro d I L Z Q k c hd hC hT hP hck hk hKK
  refine ac_go (ls := [some (.ref 4), some (.int 1), some (.int (nI o)), none, none, none]) (by decide +kernel) (Nat.le_of_ble_eq_true rfl) rfl ?_
  refine aw_iload_n dX1_phrase_0 rfl ?_
  refine aw_iconst (v := 5) dX1_phrase_1 (by decide) ?_
  refine aw_icmp_lt (tgt := 11) dX1_phrase_2 (by decide) (fun _ => ?_) (fun zz => absurd zz (by decide))
  refine aw_iload_n dX1_phrase_11 rfl ?_
  refine aw_iconst (v := 2) dX1_phrase_12 (by decide) ?_
  refine aw_icmp_ne (tgt := 36) dX1_phrase_13 (by decide) (fun _ => ?_) (fun zz => absurd zz (by decide))
  refine aw_aload_n dX1_phrase_36 rfl rfl ?_
  refine aw_iload_n dX1_phrase_37 rfl ?_
  refine aw_iconst (v := 1) dX1_phrase_38 (by decide) ?_
  refine aw_iadd dX1_phrase_39 ?_
  refine aw_iload_n dX1_phrase_40 rfl ?_
  rw [show (1 : Int32) + 1 = 2 from rfl]
  refine aw_V2 dX1_phrase_41 cw_X1_131 ⟨_, _, rfl⟩ hC.1 (by omega) ⟨Nat.le_refl _, Nat.le_refl _⟩ (by decide) (IH (d - 1) _ _ _ _ k c (by omega) hC hT hP hck hk ⟨fun k1 c1 v1 e1 J1 s1 p1 => ?_, fun k1 e1 J1 s1 p1 => ?_⟩)
  · refine aw_if_ne (tgt := 49) dX1_phrase_44 (by decide) (fun _ => ?_) (fun zz => absurd zz (by decide))
    refine aw_iload_n dX1_phrase_49 rfl ?_
    refine aw_iconst (v := 2) dX1_phrase_50 (by decide) ?_
    refine aw_icmp_ne (tgt := 58) dX1_phrase_51 (by decide) (fun _ => ?_) (fun zz => absurd zz (by decide))
    refine aw_sipush (v := 160) dX1_phrase_58 (by decide) ?_
    refine aw_istore_n (ls' := [_, _, _, _, _, _]) dX1_phrase_61 (by decide) rfl rfl ?_
    refine aw_iconst (v := 0) dX1_phrase_62 (by decide) ?_
    refine aw_istore (ls' := [_, _, _, _, _, _]) dX1_phrase_63 (by decide) rfl rfl ?_
    have gg := hg k1 c1 v1 k hk e1
    refine l_ph1 (c0 := c) hg IH hd hC hT 160 0 k1 c1 v1 J1 none rfl s1 p1 (by rw [List.length_append]; omega) gg.1 ⟨fun k2 c2 v2 e2 => hKK.1 k2 c2 v2 ?_, fun k2 e2 => hKK.2 k2 ?_⟩
    · simp only [bnR, e1]; exact e2
    · simp only [bnR, e1]; exact e2
  · refine aw_if_ne (tgt := 49) dX1_phrase_44 (by decide) (fun zz => absurd zz (by decide)) (fun _ => ?_)
    refine aw_iconst (v := 0) dX1_phrase_47 (by decide) ?_
    refine aw_ireturn (ty := .boolean) dX1_phrase_48 rfl (by decide) ?_
    exact hKK.2 k1 (by simp only [bnR, e1]) J1 s1 p1
theorem l_ph0 {E : Ev} {d : Nat} {I : Mi} {L : Ml} {Z : Mz} {Q : Po} {S V : Nat → Nat} {T : Nat} {D o : Nat} {p : Rd} {c0 : List Int32} (hg : ∀ (k1 : Nat) (c1 : List Int32) (v1 : Vl) (k : Nat), k ≤ T → p k = (k1, some (c1, v1)) → k1 ≤ T ∧ k < k1 ∧ c1.length ≤ k1 - k) (IH : PhC E D 1 o p S V T) (hd : D + 1 ≤ d) (hC : ScZ Z) (hT : TkP I S V T) : ∀ (q i k : Nat) (c : List Int32) (v : Vl) (M : Mi) (o5 : Option Value), i + q = 160 → SaP I M → PS M k (c0 ++ c) → (c0 ++ c).length ≤ k → k ≤ T → KK I L Z Q c0 T (lpR S p jO q k c v) → AW E yX1_phrase cX1_phrase 6 (some .boolean) (rmOf d 0 0) Q 0 0 65 [some (.ref 4), some (.int 0), some (.int (nI o)), some (.int 160), some (.int (nI i)), o5] [] M L Z := by
  intro q
  induction q with
  | zero =>
    intro i k c v M o5 hq sM hP hck hk hKK
    have ei : i = 160 := by omega
    subst ei
    refine aw_iload dX1_phrase_65 rfl ?_
    refine aw_iload_n dX1_phrase_67 rfl ?_
    refine aw_icmp_ge (tgt := 134) dX1_phrase_68 (by decide) (fun c68 => ?_) (fun zz => absurd (by decide) zz)
    refine aw_iconst (v := 1) dX1_phrase_134 (by decide) ?_
    refine aw_ireturn (ty := .boolean) dX1_phrase_135 rfl (by decide) ?_
    exact hKK.1 k c v rfl M sM hP
  | succ q ih =>
    intro i k c v M o5 hq sM hP hck hk hKK
    have hT6 := hT.2.2.1
    have hSk := (hT.2.2.2.2 k).2.2
    have h6 := (hT.sam sM).s6 hk
    refine aw_iload dX1_phrase_65 rfl ?_
    refine aw_iload_n dX1_phrase_67 rfl ?_
    refine aw_icmp_ge (tgt := 134) dX1_phrase_68 (by decide) (fun zz => absurd zz (nI_ge (b := 160) (by omega) (by decide))) (fun c68 => ?_)
    refine aw_iload_n dX1_phrase_71 rfl ?_
    refine aw_aload_n dX1_phrase_72 rfl rfl ?_
    refine aw_gr dX1_phrase_73 fw_X1_15 hC.1 hC.2.2.1 ?_
    refine aw_aload_n dX1_phrase_76 rfl rfl ?_
    refine aw_gi dX1_phrase_77 fw_X1_34 hC.1 ?_
    refine aw_ia k dX1_phrase_80 hC.2.2.2.2.2.2.2.1 hP.1 (by omega) (by decide) ?_
    rw [h6]
    refine aw_S2 dX1_phrase_81 cw_X1_141 (by omega) ⟨Nat.le_refl _, Nat.le_refl _⟩ (by decide) (c_X1_joins0 (by omega) (fun c81 => ?_) (fun c81 => ?_))
    · have hkT : k < T := lt_of_S hT.2.2.2.1 hk (by intro w; rw [w] at c81; exact absurd c81 (by decide))
      refine aw_if_eq (tgt := 134) dX1_phrase_84 (by decide) (fun zz => absurd zz (by decide)) (fun _ => ?_)
      refine aw_aload_n dX1_phrase_87 rfl rfl ?_
      refine aw_gr dX1_phrase_88 fw_X1_15 hC.1 hC.2.2.1 ?_
      refine aw_aload_n dX1_phrase_91 rfl rfl ?_
      refine aw_gi dX1_phrase_92 fw_X1_34 hC.1 ?_
      refine aw_ia k dX1_phrase_95 hC.2.2.2.2.2.2.2.1 hP.1 (by omega) (by decide) ?_
      rw [h6]
      refine aw_istore (ls' := [_, _, _, _, _, _]) dX1_phrase_96 (by decide) rfl rfl ?_
      refine aw_aload_n dX1_phrase_98 rfl rfl ?_
      refine aw_dup dX1_phrase_99 rfl ?_
      refine aw_gi dX1_phrase_100 fw_X1_34 hC.1 ?_
      refine aw_iconst (v := 1) dX1_phrase_103 (by decide) ?_
      refine aw_iadd dX1_phrase_104 ?_
      rw [hP.1, nI_1]
      refine aw_pi dX1_phrase_105 fw_X1_34 (ww_X1_34 _) hC.1 rfl ?_
      refine aw_aload_n dX1_phrase_108 rfl rfl ?_
      refine aw_iload_n dX1_phrase_109 rfl ?_
      refine aw_iconst (v := 1) dX1_phrase_110 (by decide) ?_
      refine aw_iadd dX1_phrase_111 ?_
      refine aw_iload_n dX1_phrase_112 rfl ?_
      rw [show (0 : Int32) + 1 = 1 from rfl]
      refine aw_V2 dX1_phrase_113 cw_X1_131 ⟨_, _, rfl⟩ hC.1 (by omega) ⟨Nat.le_refl _, Nat.le_refl _⟩ (by decide) (IH (d - 1) _ _ _ _ (k + 1) (c0 ++ c) (by omega) hC ((hT.sam sM).sam (SaP.rf.u6 _)) (hP.u6 (k + 1)) (by omega) (by omega) ⟨fun k1 c1 v1 e1 J1 s1 p1 => ?_, fun k1 e1 J1 s1 p1 => ?_⟩)
      · have gg := hg k1 c1 v1 (k + 1) (by omega) e1
        refine aw_if_ne (tgt := 121) dX1_phrase_116 (by decide) (fun _ => ?_) (fun zz => absurd zz (by decide))
        refine aw_aload_n dX1_phrase_121 rfl rfl ?_
        refine aw_iload dX1_phrase_122 rfl ?_
        refine aw_iconst (v := 0) dX1_phrase_124 (by decide) ?_
        refine aw_V2 dX1_phrase_125 cw_X1_144 ⟨_, _, rfl⟩ hC.1 (by omega) ⟨Nat.le_refl _, Nat.le_refl _⟩ (by decide) (c_X1_make (w := (c0 ++ c ++ c1).length) hC p1.2.1 (by rw [List.length_append]; omega) ?_)
        refine aw_iinc (v := (nI (i + 1))) (ls' := [_, _, _, _, _, _]) dX1_phrase_128 rfl (nI_1 i) (by decide) rfl rfl ?_
        refine aw_goto (tgt := 65) dX1_phrase_131 (by decide) ?_
        refine ih (i + 1) k1 (c ++ c1 ++ [stI (S k) 0]) (fun nm => joV (nI (S k)) (v nm) (v1 nm)) _ _ (by omega) ((sM.u6 _).tr s1 |>.u8 _ _ _) ?_ ?_ (by omega) ⟨fun k2 c2 v2 e2 => ?_, fun k2 e2 => ?_⟩
        · have := p1.u8 ((nI (S k) <<< (16 &&& 31)) ||| 0)
          rw [show c0 ++ (c ++ c1 ++ [stI (S k) 0]) = c0 ++ c ++ c1 ++ [stI (S k) 0] by simp only [List.append_assoc]]
          exact this
        · simp only [List.length_append, List.length_cons, List.length_nil] at hck ⊢
          omega
        · exact hKK.1 k2 c2 v2 (by simp only [lpR, if_pos c81, e1]; exact e2)
        · exact hKK.2 k2 (by simp only [lpR, if_pos c81, e1]; exact e2)
      · refine aw_if_ne (tgt := 121) dX1_phrase_116 (by decide) (fun zz => absurd zz (by decide)) (fun _ => ?_)
        refine aw_iconst (v := 0) dX1_phrase_119 (by decide) ?_
        refine aw_ireturn (ty := .boolean) dX1_phrase_120 rfl (by decide) ?_
        exact hKK.2 k1 (by simp only [lpR, if_pos c81, e1]) J1 ((sM.u6 _).tr s1) p1
    · refine aw_if_eq (tgt := 134) dX1_phrase_84 (by decide) (fun _ => ?_) (fun zz => absurd zz (by decide))
      refine aw_iconst (v := 1) dX1_phrase_134 (by decide) ?_
      refine aw_ireturn (ty := .boolean) dX1_phrase_135 rfl (by decide) ?_
      exact hKK.1 k c v (by simp only [lpR, if_neg c81]) M sM hP
theorem ph0 {E : Ev} {S V : Nat → Nat} {T : Nat} {D o : Nat} {p : Rd} (hg : ∀ (k1 : Nat) (c1 : List Int32) (v1 : Vl) (k : Nat), k ≤ T → p k = (k1, some (c1, v1)) → k1 ≤ T ∧ k < k1 ∧ c1.length ≤ k1 - k) (IH : PhC E D 1 o p S V T) : PhC E (D + 1) 0 o (bnR S p jO 160) S V T := by
  intro d I L Z Q k c hd hC hT hP hck hk hKK
  refine ac_go (ls := [some (.ref 4), some (.int 0), some (.int (nI o)), none, none, none]) (by decide +kernel) (Nat.le_of_ble_eq_true rfl) rfl ?_
  refine aw_iload_n dX1_phrase_0 rfl ?_
  refine aw_iconst (v := 5) dX1_phrase_1 (by decide) ?_
  refine aw_icmp_lt (tgt := 11) dX1_phrase_2 (by decide) (fun _ => ?_) (fun zz => absurd zz (by decide))
  refine aw_iload_n dX1_phrase_11 rfl ?_
  refine aw_iconst (v := 2) dX1_phrase_12 (by decide) ?_
  refine aw_icmp_ne (tgt := 36) dX1_phrase_13 (by decide) (fun _ => ?_) (fun zz => absurd zz (by decide))
  refine aw_aload_n dX1_phrase_36 rfl rfl ?_
  refine aw_iload_n dX1_phrase_37 rfl ?_
  refine aw_iconst (v := 1) dX1_phrase_38 (by decide) ?_
  refine aw_iadd dX1_phrase_39 ?_
  refine aw_iload_n dX1_phrase_40 rfl ?_
  rw [show (0 : Int32) + 1 = 1 from rfl]
  refine aw_V2 dX1_phrase_41 cw_X1_131 ⟨_, _, rfl⟩ hC.1 (by omega) ⟨Nat.le_refl _, Nat.le_refl _⟩ (by decide) (IH (d - 1) _ _ _ _ k c (by omega) hC hT hP hck hk ⟨fun k1 c1 v1 e1 J1 s1 p1 => ?_, fun k1 e1 J1 s1 p1 => ?_⟩)
  · refine aw_if_ne (tgt := 49) dX1_phrase_44 (by decide) (fun _ => ?_) (fun zz => absurd zz (by decide))
    refine aw_iload_n dX1_phrase_49 rfl ?_
    refine aw_iconst (v := 2) dX1_phrase_50 (by decide) ?_
    refine aw_icmp_ne (tgt := 58) dX1_phrase_51 (by decide) (fun _ => ?_) (fun zz => absurd zz (by decide))
    refine aw_sipush (v := 160) dX1_phrase_58 (by decide) ?_
    refine aw_istore_n (ls' := [_, _, _, _, _, _]) dX1_phrase_61 (by decide) rfl rfl ?_
    refine aw_iconst (v := 0) dX1_phrase_62 (by decide) ?_
    refine aw_istore (ls' := [_, _, _, _, _, _]) dX1_phrase_63 (by decide) rfl rfl ?_
    have gg := hg k1 c1 v1 k hk e1
    refine l_ph0 (c0 := c) hg IH hd hC hT 160 0 k1 c1 v1 J1 none rfl s1 p1 (by rw [List.length_append]; omega) gg.1 ⟨fun k2 c2 v2 e2 => hKK.1 k2 c2 v2 ?_, fun k2 e2 => hKK.2 k2 ?_⟩
    · simp only [bnR, e1]; exact e2
    · simp only [bnR, e1]; exact e2
  · refine aw_if_ne (tgt := 49) dX1_phrase_44 (by decide) (fun zz => absurd zz (by decide)) (fun _ => ?_)
    refine aw_iconst (v := 0) dX1_phrase_47 (by decide) ?_
    refine aw_ireturn (ty := .boolean) dX1_phrase_48 rfl (by decide) ?_
    exact hKK.2 k1 (by simp only [bnR, e1]) J1 s1 p1
theorem ph_all {E : Ev} {S V : Nat → Nat} {T : Nat} {D o : Nat} {lo : Option (Rd × Rd × Rd)} (hV : VOK S V T) (hl : GdL T lo) (h1 : OnC E D o (oneR S V lo) S V T) (hn : NgC E (D + 3) o (notR S V lo) S V T) : PhC E (D + 6) 0 o (eitR S V lo) S V T ∧ PhC E (D + 6) 2 o (notR S V lo) S V T := by
  obtain ⟨g1, g2, g3, g4, g5, g6⟩ := all_ok hV hl
  have a5 := ph5 h1
  have a4 := ph4 (gd_some g1) a5
  have a3 := ph3 (gd_some g2) a4
  have a2 := ph2 (gd_some g3) a3 hn
  have a1 := ph1 (gd_some g4) a2
  have a0 := ph0 (gd_some g5) a1
  exact ⟨fun d I L Z Q k c hd => a0 d I L Z Q k c (by omega), fun d I L Z Q k c hd => a2 d I L Z Q k c (by omega)⟩
theorem par_all {E : Ev} {S V : Nat → Nat} {T : Nat} (hV : VOK S V T) : ∀ r, r ≤ 5 → OnC E (8 * r + 2) (5 - r) (oneR S V (lvR S V r)) S V T ∧ PhC E (8 * r + 8) 0 (5 - r) (eitR S V (lvR S V r)) S V T ∧ PhC E (8 * r + 8) 2 (5 - r) (notR S V (lvR S V r)) S V T := by
  intro r
  induction r with
  | zero =>
    intro _
    have h1 : OnC E 2 5 (oneR S V (lvR S V 0)) S V T := one_end
    have hn : NgC E 5 5 (notR S V (lvR S V 0)) S V T := fun d I L Z Q k c hd => neg_end d I L Z Q k c (Nat.zero_le _)
    exact ⟨h1, ph_all hV (lv_ok hV 0) h1 hn⟩
  | succ r ih =>
    intro hr
    obtain ⟨i1, i2, i3⟩ := ih (by omega)
    obtain ⟨g1, g2, g3, g4, g5, g6⟩ := all_ok hV (lv_ok hV r)
    have eo : 5 - r = (5 - (r + 1)) + 1 := by omega
    rw [eo] at i1 i2 i3
    have h1 : OnC E (8 * r + 8 + 2) (5 - (r + 1)) (oneR S V (lvR S V (r + 1))) S V T := one_step (gd_some g6) (gd_some g1) (by omega) i2 (fun d I L Z Q k c hd => i1 d I L Z Q k c (by omega))
    have hn : NgC E (8 * r + 8 + 2) (5 - (r + 1)) (notR S V (lvR S V (r + 1))) S V T := neg_step (gd_some g4) (by omega) i3
    have h1' : OnC E (8 * (r + 1) + 2) (5 - (r + 1)) (oneR S V (lvR S V (r + 1))) S V T := fun d I L Z Q k c hd => h1 d I L Z Q k c (by omega)
    exact ⟨h1', ph_all hV (lv_ok hV (r + 1)) h1' (fun d I L Z Q k c hd => hn d I L Z Q k c (by omega))⟩
theorem c_X1_clause {E : Ev} {S V : Nat → Nat} {T : Nat} {key : Nat} (hkey : key < 18) (hk0 : key ≠ 0) : ∀ (d : Nat) (I : Mi) (L : Ml) (Z : Mz) (Q : Po) (k : Nat) (c : List Int32), 49 ≤ d → ScZ Z → TkP I S V T → PS I k c → c.length ≤ k → k ≤ T → KK I L Z Q c T (clR S V key k) → AC E yX1_clause cX1_clause 2 (some .boolean) d 0 0 [.ref 4, .int (nI key)] I L Z Q := by
  intro d I L Z Q k c hd hC hT hP hck hk hKK
  have hV := hT.2.2.2
  have IH := (par_all (E := E) hV 5 (by omega)).2.1
  have hg := gd_some (all_ok hV (lv_ok hV 5)).2.2.2.2.2
  refine ac_go (ls := [some (.ref 4), some (.int (nI key))]) (by decide +kernel) (Nat.le_of_ble_eq_true rfl) rfl ?_
  refine aw_aload_n dX1_clause_0 rfl rfl ?_
  refine aw_iload_n dX1_clause_1 rfl ?_
  refine aw_V1 dX1_clause_2 cw_X1_128 ⟨_, _, rfl⟩ hC.1 (by omega) ⟨Nat.le_refl _, Nat.le_refl _⟩ (by decide) (c_X1_accept (s := key) hC hT hP.1 hk (by omega) (fun c2 => ?_) (fun c2 => ?_))
  · have hkT : k < T := lt_of_S hV.1 hk (by omega)
    refine aw_if_eq (tgt := 30) dX1_clause_5 (by decide) (fun zz => absurd zz (by decide)) (fun _ => ?_)
    refine aw_aload_n dX1_clause_8 rfl rfl ?_
    refine aw_iconst (v := 0) dX1_clause_9 (by decide) ?_
    refine aw_iconst (v := 0) dX1_clause_10 (by decide) ?_
    refine aw_V2 dX1_clause_11 cw_X1_131 ⟨_, _, rfl⟩ hC.1 (by omega) ⟨Nat.le_refl _, Nat.le_refl _⟩ (by decide) (IH (d - 1) _ _ _ _ (k + 1) c (by omega) hC (hT.sam (SaP.rf.u6 _)) (hP.u6 (k + 1)) (by omega) (by omega) ⟨fun k1 c1 v1 e1 J1 s1 p1 => ?_, fun k1 e1 J1 s1 p1 => ?_⟩)
    · have gg := hg k1 c1 v1 (k + 1) (by omega) e1
      refine aw_if_eq (tgt := 30) dX1_clause_14 (by decide) (fun zz => absurd zz (by decide)) (fun _ => ?_)
      refine aw_aload_n dX1_clause_17 rfl rfl ?_
      refine aw_bipush (v := 12) dX1_clause_18 (by decide) ?_
      refine aw_V1 dX1_clause_20 cw_X1_128 ⟨_, _, rfl⟩ hC.1 (by omega) ⟨Nat.le_refl _, Nat.le_refl _⟩ (by decide) (c_X1_accept (s := 12) hC (hT.sam ((SaP.rf.u6 _).tr s1)) p1.1 gg.1 (by decide) (fun c20 => ?_) (fun c20 => ?_))
      · refine aw_if_eq (tgt := 30) dX1_clause_23 (by decide) (fun zz => absurd zz (by decide)) (fun _ => ?_)
        refine aw_iconst (v := 1) dX1_clause_26 (by decide) ?_
        refine aw_goto (tgt := 31) dX1_clause_27 (by decide) ?_
        refine aw_ireturn (ty := .boolean) dX1_clause_31 rfl (by decide) ?_
        exact hKK.1 (k1 + 1) c1 v1 (by simp only [clR, c2, e1, c20, if_true]) _ (((SaP.rf.u6 _).tr s1).u6 _) (p1.u6 (k1 + 1))
      · refine aw_if_eq (tgt := 30) dX1_clause_23 (by decide) (fun _ => ?_) (fun zz => absurd zz (by decide))
        refine aw_iconst (v := 0) dX1_clause_30 (by decide) ?_
        refine aw_ireturn (ty := .boolean) dX1_clause_31 rfl (by decide) ?_
        exact hKK.2 k1 (by simp only [clR, c2, e1, c20, if_true, if_false]) _ ((SaP.rf.u6 _).tr s1) p1.1
    · refine aw_if_eq (tgt := 30) dX1_clause_14 (by decide) (fun _ => ?_) (fun zz => absurd zz (by decide))
      refine aw_iconst (v := 0) dX1_clause_30 (by decide) ?_
      refine aw_ireturn (ty := .boolean) dX1_clause_31 rfl (by decide) ?_
      exact hKK.2 k1 (by simp only [clR, c2, e1, if_true]) _ ((SaP.rf.u6 _).tr s1) p1
  · refine aw_if_eq (tgt := 30) dX1_clause_5 (by decide) (fun _ => ?_) (fun zz => absurd zz (by decide))
    refine aw_iconst (v := 0) dX1_clause_30 (by decide) ?_
    refine aw_ireturn (ty := .boolean) dX1_clause_31 rfl (by decide) ?_
    exact hKK.2 k (by simp only [clR, c2, if_false]) I SaP.rf hP.1
