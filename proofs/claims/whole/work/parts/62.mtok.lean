/-! ===== the reference: its tokens ===== -/
def SaN (I I' : Mi) : Prop := ∀ a j, ¬ (a = 48 ∧ 24 ≤ j ∧ j ≤ 26) → I' a j = I a j
def SaQ (I I' : Mi) : Prop := ∀ a j, ¬ (a = 48 ∧ 24 ≤ j ∧ j ≤ 30) → I' a j = I a j
theorem SaN.q {I I' : Mi} (h : SaN I I') : SaQ I I' := fun a j g => h a j (by omega)
theorem SaN.rf {I : Mi} : SaN I I := fun _ _ _ => rfl
theorem SaQ.rf {I : Mi} : SaQ I I := fun _ _ _ => rfl
theorem SaN.tr {I J K : Mi} (h : SaN I J) (g : SaN J K) : SaN I K := fun a j x => (g a j x).trans (h a j x)
theorem SaQ.tr {I J K : Mi} (h : SaQ I J) (g : SaQ J K) : SaQ I K := fun a j x => (g a j x).trans (h a j x)
theorem SaN.put {I J : Mi} {k : Nat} {x : Int32} (h : SaN I J) (hk : 24 ≤ k ∧ k ≤ 26) : SaN I (iU J 48 k x) := fun a j g => by rw [iU_at (by omega)]; exact h a j g
theorem SaQ.put {I J : Mi} {k : Nat} {x : Int32} (h : SaQ I J) (hk : 24 ≤ k ∧ k ≤ 30) : SaQ I (iU J 48 k x) := fun a j g => by rw [iU_at (by omega)]; exact h a j g
def TxM (I : Mi) (B : Nat → Int32) (n t : Nat) : Prop := I 48 22 = nI (160 * t) ∧ t < 6 ∧ I 48 23 = nI n ∧ n ≤ 160 ∧ ∀ i, i < n → I 49 (160 * t + i) = B i ∧ ¬ B i < 0
theorem TxM.sq {I J : Mi} {B : Nat → Int32} {n t : Nat} (h : TxM I B n t) (s : SaQ I J) : TxM J B n t := by
  refine ⟨by rw [s _ _ (by omega)]; exact h.1, h.2.1, by rw [s _ _ (by omega)]; exact h.2.2.1, h.2.2.2.1, fun i hi => ?_⟩
  rw [s _ _ (by omega)]
  exact h.2.2.2.2 i hi
theorem TxM.sn {I J : Mi} {B : Nat → Int32} {n t : Nat} (h : TxM I B n t) (s : SaN I J) : TxM J B n t := h.sq s.q
def TkM (I : Mi) (L : Ml) (B : Nat → Int32) (n p : Nat) : Prop := I 48 26 = nI p ∧ I 48 25 = nI (mkF B n p) ∧ (mkF B n p = 1 ∨ mkF B n p = 2 ∨ mkF B n p = 3 → I 48 24 = nI (enT B n p)) ∧ (mkF B n p = 2 → L 48 27 = lN (vdF B (enT B n p - p) p 0)) ∧ (mkF B n p = 3 → L 48 27 = (B p).toInt64)
def byV (B : Nat → Int32) (n i : Nat) : Int32 := if i < n then B i else -1
theorem c_X6_byteAt {E : Ev} {d : Nat} {I : Mi} {L : Ml} {Z : Mz} {Q : Po}  {B : Nat → Int32} {n t : Nat} {i : Nat} (hM : MZ Z) (hT : TxM I B n t) (hi : i < 2 ^ 31) (hQ : ∀ rv : Int32, rv = (byV B n i) → Q (some (.int rv)) I L Z) : AC E yX6_byteAt cX6_byteAt 2 (some .int) d 0 0 [.ref 48, .int (nI i)] I L Z Q := by
  refine ac_go (ls := [some (.ref 48), some (.int (nI i))]) (by decide +kernel) (Nat.le_of_ble_eq_true rfl) rfl ?_
  have hle : I 48 23 ≤ nI i ↔ n ≤ i := by rw [hT.2.2.1]; exact nI_leI (by have := hT.2.2.2.1; omega) hi
  refine aw_iload_n dX6_byteAt_0 rfl ?_
  refine aw_aload_n dX6_byteAt_1 rfl rfl ?_
  refine aw_gi dX6_byteAt_2 fw_X6_138 hM.1 ?_
  refine aw_icmp_ge (tgt := 22) dX6_byteAt_5 (by decide) (fun c5 => ?_) (fun c5 => ?_)
  · refine aw_iconst (v := -1) dX6_byteAt_22 (by decide) ?_
    refine aw_ireturn (ty := .int) dX6_byteAt_23 rfl rfl ?_
    first
      | exact hQ _ (by unfold byV; rw [if_neg (Nat.not_lt.mpr (hle.mp c5))])
      | (have hlt : i < n := Nat.not_le.mp (fun w => c5 (hle.mpr w))
         exact hQ _ (by unfold byV; rw [if_pos hlt]; exact (hT.2.2.2.2 i hlt).1))
  · refine aw_aload_n dX6_byteAt_8 rfl rfl ?_
    refine aw_gr dX6_byteAt_9 fw_X6_13 hM.1 hM.2.1 ?_
    refine aw_aload_n dX6_byteAt_12 rfl rfl ?_
    refine aw_gi dX6_byteAt_13 fw_X6_141 hM.1 ?_
    refine aw_iload_n dX6_byteAt_16 rfl ?_
    refine aw_iadd dX6_byteAt_17 ?_
    refine aw_ia (160 * t + i) dX6_byteAt_18 hM.2.2.1 (by rw [hT.1, nI_add]) (by have := hT.2.1; have := hT.2.2.2.1; have := Nat.not_le.mp (fun w => c5 (hle.mpr w)); omega) (by decide) ?_
    refine aw_goto (tgt := 23) dX6_byteAt_19 (by decide) ?_
    refine aw_ireturn (ty := .int) dX6_byteAt_23 rfl rfl ?_
    first
      | exact hQ _ (by unfold byV; rw [if_neg (Nat.not_lt.mpr (hle.mp c5))])
      | (have hlt : i < n := Nat.not_le.mp (fun w => c5 (hle.mpr w))
         exact hQ _ (by unfold byV; rw [if_pos hlt]; exact (hT.2.2.2.2 i hlt).1))
theorem by_n (B : Nat → Int32) (n : Nat) : byV B n n = -1 := by unfold byV; rw [if_neg (Nat.lt_irrefl n)]
theorem by_i {B : Nat → Int32} {n i : Nat} (h : i < n) : byV B n i = B i := by unfold byV; rw [if_pos h]
theorem l_X6_nt0 {E : Ev} {d : Nat} {L : Ml} {Z : Mz} {Q : Po} {B : Nat → Int32} {n t : Nat} {M : Mi} (hM : MZ Z) (hT : TxM M B n t) (hd : 1 ≤ d) : ∀ (n0 : Nat) (h : Nat), h + n0 = n → AW E yX6_nextToken cX6_nextToken 3 none (rmOf d 0 0) Q 0 0 39 [some (.ref 48), none, none] [] (iU M 48 24 (nI (rnN (fun x => decide (blP x)) B n0 h))) L Z → AW E yX6_nextToken cX6_nextToken 3 none (rmOf d 0 0) Q 0 0 0 [some (.ref 48), none, none] [] (iU M 48 24 (nI h)) L Z := by
  intro n0
  induction n0 with
  | zero =>
    intro h hh hQ
    refine aw_aload_n dX6_nextToken_0 rfl rfl ?_
    
    refine aw_aload_n dX6_nextToken_1 rfl rfl ?_
    refine aw_gi dX6_nextToken_2 fw_X6_144 hM.1 ?_
    rw [show iU M 48 24 (nI h) 48 24 = nI h from iU_same]
    refine aw_V1 dX6_nextToken_5 cw_X6_147 ⟨_, _, rfl⟩ hM.1 (by omega) ⟨Nat.le_refl _, Nat.le_refl _⟩ (by decide) (c_X6_byteAt (i := h) hM (hT.sn (SaN.rf.put (by omega))) (by have := hT.2.2.2.1; omega) (fun r5 e5 => ?_))
    obtain rfl : h = n := by omega
    rw [by_n] at e5
    refine aw_bipush (v := 32) dX6_nextToken_8 (by decide) ?_
    refine aw_icmp_eq (tgt := 26) dX6_nextToken_10 (by decide) (fun zz => absurd zz (by rw [e5]; decide)) (fun c10 => ?_)
    refine aw_aload_n dX6_nextToken_13 rfl rfl ?_
    refine aw_aload_n dX6_nextToken_14 rfl rfl ?_
    refine aw_gi dX6_nextToken_15 fw_X6_144 hM.1 ?_
    rw [show iU M 48 24 (nI h) 48 24 = nI h from iU_same]
    refine aw_V1 dX6_nextToken_18 cw_X6_147 ⟨_, _, rfl⟩ hM.1 (by omega) ⟨Nat.le_refl _, Nat.le_refl _⟩ (by decide) (c_X6_byteAt (i := h) hM (hT.sn (SaN.rf.put (by omega))) (by have := hT.2.2.2.1; omega) (fun r18 e18 => ?_))
    rw [by_n] at e18
    refine aw_bipush (v := 10) dX6_nextToken_21 (by decide) ?_
    refine aw_icmp_ne (tgt := 39) dX6_nextToken_23 (by decide) (fun c23 => ?_) (fun zz => absurd zz (by rw [e18]; decide))
    exact hQ
  | succ n0 ih =>
    intro h hh hQ
    refine aw_aload_n dX6_nextToken_0 rfl rfl ?_
    refine aw_aload_n dX6_nextToken_1 rfl rfl ?_
    refine aw_gi dX6_nextToken_2 fw_X6_144 hM.1 ?_
    rw [show iU M 48 24 (nI h) 48 24 = nI h from iU_same]
    refine aw_V1 dX6_nextToken_5 cw_X6_147 ⟨_, _, rfl⟩ hM.1 (by omega) ⟨Nat.le_refl _, Nat.le_refl _⟩ (by decide) (c_X6_byteAt (i := h) hM (hT.sn (SaN.rf.put (by omega))) (by have := hT.2.2.2.1; omega) (fun r5 e5 => ?_))
    rw [by_i (by omega)] at e5
    refine aw_bipush (v := 32) dX6_nextToken_8 (by decide) ?_
    refine aw_icmp_eq (tgt := 26) dX6_nextToken_10 (by decide) (fun c10 => ?_) (fun c10 => ?_)
    · refine aw_aload_n dX6_nextToken_26 rfl rfl ?_
      refine aw_dup dX6_nextToken_27 rfl ?_
      refine aw_gi dX6_nextToken_28 fw_X6_144 hM.1 ?_
      refine aw_iconst (v := 1) dX6_nextToken_31 (by decide) ?_
      refine aw_iadd dX6_nextToken_32 ?_
      refine aw_pi dX6_nextToken_33 fw_X6_144 (ww_X6_144 _) hM.1 rfl ?_
      refine aw_goto (tgt := 0) dX6_nextToken_36 (by decide) ?_
      have hn : blP (B h) := Or.inl (by rw [← e5]; exact c10)
      simp only [rnN, decide_eq_true_eq, if_pos hn] at hQ
      rw [iU_same, iU_two, nI_1]
      exact ih (h + 1) (by omega) hQ
    · refine aw_aload_n dX6_nextToken_13 rfl rfl ?_
      refine aw_aload_n dX6_nextToken_14 rfl rfl ?_
      refine aw_gi dX6_nextToken_15 fw_X6_144 hM.1 ?_
      rw [show iU M 48 24 (nI h) 48 24 = nI h from iU_same]
      refine aw_V1 dX6_nextToken_18 cw_X6_147 ⟨_, _, rfl⟩ hM.1 (by omega) ⟨Nat.le_refl _, Nat.le_refl _⟩ (by decide) (c_X6_byteAt (i := h) hM (hT.sn (SaN.rf.put (by omega))) (by have := hT.2.2.2.1; omega) (fun r18 e18 => ?_))
      rw [by_i (by omega)] at e18
      refine aw_bipush (v := 10) dX6_nextToken_21 (by decide) ?_
      refine aw_icmp_ne (tgt := 39) dX6_nextToken_23 (by decide) (fun c23 => ?_) (fun c23 => ?_)
      · have hn : ¬ blP (B h) := by rw [← e5]; exact fun w => w.elim c10 (by rw [e5, ← e18]; exact c23)
        simp only [rnN, decide_eq_true_eq, if_neg hn] at hQ
        exact hQ
      · refine aw_aload_n dX6_nextToken_26 rfl rfl ?_
        refine aw_dup dX6_nextToken_27 rfl ?_
        refine aw_gi dX6_nextToken_28 fw_X6_144 hM.1 ?_
        refine aw_iconst (v := 1) dX6_nextToken_31 (by decide) ?_
        refine aw_iadd dX6_nextToken_32 ?_
        refine aw_pi dX6_nextToken_33 fw_X6_144 (ww_X6_144 _) hM.1 rfl ?_
        refine aw_goto (tgt := 0) dX6_nextToken_36 (by decide) ?_
        have hn : blP (B h) := Or.inr (by rw [← e18]; exact c23)
        simp only [rnN, decide_eq_true_eq, if_pos hn] at hQ
        rw [iU_same, iU_two, nI_1]
        exact ih (h + 1) (by omega) hQ
theorem l_X6_nt1 {E : Ev} {d : Nat} {L : Ml} {Z : Mz} {Q : Po} {B : Nat → Int32} {n t : Nat} {M : Mi} {b : Int32} (hM : MZ Z) (hT : TxM M B n t) (hd : 1 ≤ d) : ∀ (n0 : Nat) (h : Nat), h + n0 = n → AW E yX6_nextToken cX6_nextToken 3 none (rmOf d 0 0) Q 0 0 321 [some (.ref 48), some (.int b), none] [] (iU M 48 24 (nI (rnN (fun x => decide (leP x)) B n0 h))) L Z → AW E yX6_nextToken cX6_nextToken 3 none (rmOf d 0 0) Q 0 0 100 [some (.ref 48), some (.int b), none] [] (iU M 48 24 (nI h)) L Z := by
  intro n0
  induction n0 with
  | zero =>
    intro h hh hQ
    refine aw_aload_n dX6_nextToken_100 rfl rfl ?_
    refine aw_aload_n dX6_nextToken_101 rfl rfl ?_
    refine aw_gi dX6_nextToken_102 fw_X6_144 hM.1 ?_
    rw [show iU M 48 24 (nI h) 48 24 = nI h from iU_same]
    refine aw_V1 dX6_nextToken_105 cw_X6_147 ⟨_, _, rfl⟩ hM.1 (by omega) ⟨Nat.le_refl _, Nat.le_refl _⟩ (by decide) (c_X6_byteAt (i := h) hM (hT.sn (SaN.rf.put (by omega))) (by have := hT.2.2.2.1; omega) (fun r105 e105 => ?_))
    obtain rfl : h = n := by omega
    rw [by_n] at e105
    subst e105
    refine aw_i2l dX6_nextToken_108 ?_
    refine aw_ldc2 dX6_nextToken_109 kw_X6_156 ?_
    refine aw_ldc2 dX6_nextToken_112 kw_X6_158 ?_
    refine aw_S3 dX6_nextToken_115 cw_X6_73 (by omega) ⟨Nat.le_refl _, Nat.le_refl _⟩ (by decide) (c_X6_in (x := -1) (a := 97) (b := 122) rfl (by decide) (by decide) (fun zz => absurd zz (by decide)) (fun c115 => ?_))
    refine aw_if_eq (tgt := 321) dX6_nextToken_118 (by decide) (fun _ => ?_) (fun zz => absurd zz (by decide))
    exact hQ
  | succ n0 ih =>
    intro h hh hQ
    refine aw_aload_n dX6_nextToken_100 rfl rfl ?_
    refine aw_aload_n dX6_nextToken_101 rfl rfl ?_
    refine aw_gi dX6_nextToken_102 fw_X6_144 hM.1 ?_
    rw [show iU M 48 24 (nI h) 48 24 = nI h from iU_same]
    refine aw_V1 dX6_nextToken_105 cw_X6_147 ⟨_, _, rfl⟩ hM.1 (by omega) ⟨Nat.le_refl _, Nat.le_refl _⟩ (by decide) (c_X6_byteAt (i := h) hM (hT.sn (SaN.rf.put (by omega))) (by have := hT.2.2.2.1; omega) (fun r105 e105 => ?_))
    rw [by_i (by omega)] at e105
    subst e105
    refine aw_i2l dX6_nextToken_108 ?_
    refine aw_ldc2 dX6_nextToken_109 kw_X6_156 ?_
    refine aw_ldc2 dX6_nextToken_112 kw_X6_158 ?_
    refine aw_S3 dX6_nextToken_115 cw_X6_73 (by omega) ⟨Nat.le_refl _, Nat.le_refl _⟩ (by decide) (c_X6_in (x := B h) (a := 97) (b := 122) rfl (by decide) (by decide) (fun c115 => ?_) (fun c115 => ?_))
    · refine aw_if_eq (tgt := 321) dX6_nextToken_118 (by decide) (fun zz => absurd zz (by decide)) (fun _ => ?_)
      refine aw_aload_n dX6_nextToken_121 rfl rfl ?_
      refine aw_dup dX6_nextToken_122 rfl ?_
      refine aw_gi dX6_nextToken_123 fw_X6_144 hM.1 ?_
      refine aw_iconst (v := 1) dX6_nextToken_126 (by decide) ?_
      refine aw_iadd dX6_nextToken_127 ?_
      refine aw_pi dX6_nextToken_128 fw_X6_144 (ww_X6_144 _) hM.1 rfl ?_
      refine aw_goto (tgt := 100) dX6_nextToken_131 (by decide) ?_
      have hn : leP (B h) := c115
      simp only [rnN, decide_eq_true_eq, if_pos hn] at hQ
      rw [iU_same, iU_two, nI_1]
      exact ih (h + 1) (by omega) hQ
    · refine aw_if_eq (tgt := 321) dX6_nextToken_118 (by decide) (fun _ => ?_) (fun zz => absurd zz (by decide))
      have hn : ¬ leP (B h) := c115
      simp only [rnN, decide_eq_true_eq, if_neg hn] at hQ
      exact hQ
theorem dg_add {a : Nat} {x : Int32} (h : diP x) : (10 : Int64) * lN a + x.toInt64 - 48 = lN (10 * a + (x.toNatClampNeg - 48)) := by
  obtain ⟨v, hv, rfl⟩ := nI_of2 (M := 57) (n := 57) (by decide) (fun w => h.1 (Int32.lt_trans w (by decide))) (Int32.not_lt.mp h.2)
  have h48 : 48 ≤ v := Nat.not_lt.mp fun w => h.1 (nI_lt (b := 48) w (by decide))
  rw [i2l_nI (by omega), nI_clamp (by omega)]
  show lN 10 * lN a + lN v - lN 48 = _
  rw [lN_mul, lN_add, lN_sub (by omega)]
  congr 1
  omega
theorem l_X6_nt2 {E : Ev} {d : Nat}  {Z : Mz} {Q : Po} {B : Nat → Int32} {n t : Nat} {M : Mi} {b : Int32} (hM : MZ Z) (hT : TxM M B n t) (hd : 1 ≤ d) : ∀ (n0 : Nat) (h c a : Nat) (L : Ml), h + n0 = n → (c ≤ 4 → L 48 27 = lN a) → c ≤ h → (∀ L9 : Ml, (c + (rnN (fun x => decide (diP x)) B n0 h - h) ≤ 4 → L9 48 27 = lN (vdF B (rnN (fun x => decide (diP x)) B n0 h - h) h a)) → AW E yX6_nextToken cX6_nextToken 3 none (rmOf d 0 0) Q 0 0 235 [some (.ref 48), some (.int b), some (.int (nI (c + (rnN (fun x => decide (diP x)) B n0 h - h))))] [] (iU M 48 24 (nI (rnN (fun x => decide (diP x)) B n0 h))) L9 Z) → AW E yX6_nextToken cX6_nextToken 3 none (rmOf d 0 0) Q 0 0 160 [some (.ref 48), some (.int b), some (.int (nI c))] [] (iU M 48 24 (nI h)) L Z := by
  intro n0
  induction n0 with
  | zero =>
    intro h c a L hh hL hc hQ
    refine aw_aload_n dX6_nextToken_160 rfl rfl ?_
    refine aw_aload_n dX6_nextToken_161 rfl rfl ?_
    refine aw_gi dX6_nextToken_162 fw_X6_144 hM.1 ?_
    rw [show iU M 48 24 (nI h) 48 24 = nI h from iU_same]
    refine aw_V1 dX6_nextToken_165 cw_X6_147 ⟨_, _, rfl⟩ hM.1 (by omega) ⟨Nat.le_refl _, Nat.le_refl _⟩ (by decide) (c_X6_byteAt (i := h) hM (hT.sn (SaN.rf.put (by omega))) (by have := hT.2.2.2.1; omega) (fun r165 e165 => ?_))
    obtain rfl : h = n := by omega
    rw [by_n] at e165
    subst e165
    refine aw_i2l dX6_nextToken_168 ?_
    refine aw_ldc2 dX6_nextToken_169 kw_X6_160 ?_
    refine aw_ldc2 dX6_nextToken_172 kw_X6_162 ?_
    refine aw_S3 dX6_nextToken_175 cw_X6_73 (by omega) ⟨Nat.le_refl _, Nat.le_refl _⟩ (by decide) (c_X6_in (x := -1) (a := 48) (b := 57) rfl (by decide) (by decide) (fun zz => absurd zz (by decide)) (fun c175 => ?_))
    refine aw_if_eq (tgt := 235) dX6_nextToken_178 (by decide) (fun _ => ?_) (fun zz => absurd zz (by decide))
    have hq := hQ L (fun g => by simp only [rnN, Nat.sub_self, vdF] at g ⊢; exact hL (by omega))
    simp only [rnN, Nat.sub_self, Nat.add_zero] at hq
    exact hq
  | succ n0 ih =>
    intro h c a L hh hL hc hQ
    refine aw_aload_n dX6_nextToken_160 rfl rfl ?_
    refine aw_aload_n dX6_nextToken_161 rfl rfl ?_
    refine aw_gi dX6_nextToken_162 fw_X6_144 hM.1 ?_
    rw [show iU M 48 24 (nI h) 48 24 = nI h from iU_same]
    refine aw_V1 dX6_nextToken_165 cw_X6_147 ⟨_, _, rfl⟩ hM.1 (by omega) ⟨Nat.le_refl _, Nat.le_refl _⟩ (by decide) (c_X6_byteAt (i := h) hM (hT.sn (SaN.rf.put (by omega))) (by have := hT.2.2.2.1; omega) (fun r165 e165 => ?_))
    rw [by_i (by omega)] at e165
    subst e165
    refine aw_i2l dX6_nextToken_168 ?_
    refine aw_ldc2 dX6_nextToken_169 kw_X6_160 ?_
    refine aw_ldc2 dX6_nextToken_172 kw_X6_162 ?_
    refine aw_S3 dX6_nextToken_175 cw_X6_73 (by omega) ⟨Nat.le_refl _, Nat.le_refl _⟩ (by decide) (c_X6_in (x := B h) (a := 48) (b := 57) rfl (by decide) (by decide) (fun c175 => ?_) (fun c175 => ?_))
    · refine aw_if_eq (tgt := 235) dX6_nextToken_178 (by decide) (fun zz => absurd zz (by decide)) (fun _ => ?_)
      refine aw_aload_n dX6_nextToken_181 rfl rfl ?_
      refine aw_iload_n dX6_nextToken_182 rfl ?_
      refine aw_iconst (v := 4) dX6_nextToken_183 (by decide) ?_
      have h4 : (4 : Int32) ≤ nI c ↔ 4 ≤ c := nI_leI (a := 4) (by decide) (by have := hT.2.2.2.1; omega)
      refine aw_icmp_ge (tgt := 212) dX6_nextToken_184 (by decide) (fun c184 => ?_) (fun c184 => ?_)
      · refine aw_aload_n dX6_nextToken_212 rfl rfl ?_
        refine aw_gl dX6_nextToken_213 fw_X6_164 hM.1 ?_
        refine aw_pl dX6_nextToken_216 fw_X6_164 (ww_X6_164 _) hM.1 ?_
        refine aw_iinc (v := nI (c + 1)) (ls' := [_, _, _]) dX6_nextToken_219 rfl (nI_1 c) (by decide) rfl rfl ?_
        refine aw_aload_n dX6_nextToken_222 rfl rfl ?_
        refine aw_dup dX6_nextToken_223 rfl ?_
        refine aw_gi dX6_nextToken_224 fw_X6_144 hM.1 ?_
        refine aw_iconst (v := 1) dX6_nextToken_227 (by decide) ?_
        refine aw_iadd dX6_nextToken_228 ?_
        refine aw_pi dX6_nextToken_229 fw_X6_144 (ww_X6_144 _) hM.1 rfl ?_
        refine aw_goto (tgt := 160) dX6_nextToken_232 (by decide) ?_
        have hn : diP (B h) := c175
        have hr := (rn_ge (fun x => decide (diP x)) B n0 (h + 1)).1
        have eR : rnN (fun x => decide (diP x)) B (n0 + 1) h = rnN (fun x => decide (diP x)) B n0 (h + 1) := by
          show (if decide (diP (B h)) = true then _ else _) = _
          rw [if_pos (decide_eq_true hn)]
        rw [iU_same, iU_two, nI_1]
        rw [eR] at hQ
        have hc4 : ¬ c < 4 := by have := h4.mp c184; omega
        refine ih (h + 1) (c + 1) a _ (by omega) (fun g => absurd g (by omega)) (by omega) (fun L9 g => ?_)
        have hq := hQ L9 (fun g2 => absurd g2 (by omega))
        rw [show c + (rnN (fun x => decide (diP x)) B n0 (h + 1) - h) = c + 1 + (rnN (fun x => decide (diP x)) B n0 (h + 1) - (h + 1)) by omega] at hq
        exact hq
      · refine aw_ldc2 dX6_nextToken_187 kw_X6_168 ?_
        refine aw_aload_n dX6_nextToken_190 rfl rfl ?_
        refine aw_gl dX6_nextToken_191 fw_X6_164 hM.1 ?_
        refine aw_lmul dX6_nextToken_194 ?_
        refine aw_aload_n dX6_nextToken_195 rfl rfl ?_
        refine aw_aload_n dX6_nextToken_196 rfl rfl ?_
        refine aw_gi dX6_nextToken_197 fw_X6_144 hM.1 ?_
        rw [show iU M 48 24 (nI h) 48 24 = nI h from iU_same]
        refine aw_V1 dX6_nextToken_200 cw_X6_147 ⟨_, _, rfl⟩ hM.1 (by omega) ⟨Nat.le_refl _, Nat.le_refl _⟩ (by simp [Value.category, psh]) (c_X6_byteAt (i := h) hM (hT.sn (SaN.rf.put (by omega))) (by have := hT.2.2.2.1; omega) (fun r200 e200 => ?_))
        rw [by_i (by omega)] at e200
        subst e200
        refine aw_i2l dX6_nextToken_203 ?_
        refine aw_ladd dX6_nextToken_204 ?_
        refine aw_ldc2 dX6_nextToken_205 kw_X6_160 ?_
        refine aw_lsub dX6_nextToken_208 ?_
        refine aw_goto (tgt := 216) dX6_nextToken_209 (by decide) ?_
        refine aw_pl dX6_nextToken_216 fw_X6_164 (ww_X6_164 _) hM.1 ?_
        refine aw_iinc (v := nI (c + 1)) (ls' := [_, _, _]) dX6_nextToken_219 rfl (nI_1 c) (by decide) rfl rfl ?_
        refine aw_aload_n dX6_nextToken_222 rfl rfl ?_
        refine aw_dup dX6_nextToken_223 rfl ?_
        refine aw_gi dX6_nextToken_224 fw_X6_144 hM.1 ?_
        refine aw_iconst (v := 1) dX6_nextToken_227 (by decide) ?_
        refine aw_iadd dX6_nextToken_228 ?_
        refine aw_pi dX6_nextToken_229 fw_X6_144 (ww_X6_144 _) hM.1 rfl ?_
        refine aw_goto (tgt := 160) dX6_nextToken_232 (by decide) ?_
        have hn : diP (B h) := c175
        have hr := (rn_ge (fun x => decide (diP x)) B n0 (h + 1)).1
        have eR : rnN (fun x => decide (diP x)) B (n0 + 1) h = rnN (fun x => decide (diP x)) B n0 (h + 1) := by
          show (if decide (diP (B h)) = true then _ else _) = _
          rw [if_pos (decide_eq_true hn)]
        rw [iU_same, iU_two, nI_1]
        rw [eR] at hQ
        have hc4 : c < 4 := Nat.not_le.mp (fun w => c184 (h4.mpr w))
        rw [hL (by omega), dg_add hn]
        refine ih (h + 1) (c + 1) (10 * a + ((B h).toNatClampNeg - 48)) _ (by omega) (fun g => ?_) (by omega) (fun L9 g => ?_)
        · exact if_pos ⟨rfl, rfl⟩
        have hq := hQ L9 (fun g2 => ?_)
        · rw [show c + (rnN (fun x => decide (diP x)) B n0 (h + 1) - h) = c + 1 + (rnN (fun x => decide (diP x)) B n0 (h + 1) - (h + 1)) by omega] at hq
          exact hq
        · rw [show rnN (fun x => decide (diP x)) B n0 (h + 1) - h = (rnN (fun x => decide (diP x)) B n0 (h + 1) - (h + 1)) + 1 by omega]
          simp only [vdF]
          exact g (by omega)
    · refine aw_if_eq (tgt := 235) dX6_nextToken_178 (by decide) (fun _ => ?_) (fun zz => absurd zz (by decide))
      have hn : ¬ diP (B h) := c175
      have eR : rnN (fun x => decide (diP x)) B (n0 + 1) h = h := by
        show (if decide (diP (B h)) = true then _ else _) = _
        rw [if_neg (fun w => hn (of_decide_eq_true w))]
      rw [eR] at hQ
      have hq := hQ L (fun g => by simp only [Nat.sub_self, vdF] at g ⊢; exact hL (by omega))
      simp only [Nat.sub_self, Nat.add_zero] at hq
      exact hq
theorem c_X6_nextToken {E : Ev} {d : Nat} {I : Mi} {L : Ml} {Z : Mz} {Q : Po}  {B : Nat → Int32} {n t : Nat} {h : Nat} (hd : 1 ≤ d) (hM : MZ Z) (hT : TxM I B n t) (hh : I 48 24 = nI h) (hn : h ≤ n) (hQ : ∀ (I9 : Mi) (L9 : Ml), SaN I I9 → TkM I9 L9 B n (bkE B n h) → Q none I9 L9 Z) : AC E yX6_nextToken cX6_nextToken 3 none d 0 0 [.ref 48] I L Z Q := by
  refine ac_go (ls := [some (.ref 48), none, none]) (by decide +kernel) (Nat.le_of_ble_eq_true rfl) rfl ?_
  have hn6 := hT.2.2.2.1
  have ez : iU I 48 24 (nI h) = I := by rw [← hh]; exact iU_slf
  refine ez ▸ l_X6_nt0 hM hT (by omega) (n - h) h (by omega) ?_
  obtain ⟨p, hpe⟩ : ∃ p, p = bkE B n h := ⟨_, rfl⟩
  rw [show rnN (fun x => decide (blP x)) B (n - h) h = p from hpe.symm]
  rw [← hpe] at hQ
  have hpn : p ≤ n := by rw [hpe]; exact (bk_bd hn).1
  refine aw_aload_n dX6_nextToken_39 rfl rfl ?_
  refine aw_aload_n dX6_nextToken_40 rfl rfl ?_
  refine aw_gi dX6_nextToken_41 fw_X6_144 hM.1 ?_
  rw [show iU I 48 24 (nI p) 48 24 = nI p from iU_same]
  refine aw_pi dX6_nextToken_44 fw_X6_150 (ww_X6_150 _) hM.1 rfl ?_
  refine aw_aload_n dX6_nextToken_47 rfl rfl ?_
  refine aw_aload_n dX6_nextToken_48 rfl rfl ?_
  refine aw_gi dX6_nextToken_49 fw_X6_144 hM.1 ?_
  rw [show iU (iU I 48 24 (nI p)) 48 26 (nI p) 48 24 = nI p from (by rw [iU_at (by omega), iU_same])]
  refine aw_V1 dX6_nextToken_52 cw_X6_147 ⟨_, _, rfl⟩ hM.1 (by omega) ⟨Nat.le_refl _, Nat.le_refl _⟩ (by decide) (c_X6_byteAt (i := p) hM (hT.sn (SaN.rf.put (by omega)|>.put (by omega))) (by omega) (fun r52 e52 => ?_))
  refine aw_istore_n (ls' := [_, _, _]) dX6_nextToken_55 (by decide) rfl rfl ?_
  refine aw_aload_n dX6_nextToken_56 rfl rfl ?_
  refine aw_iconst (v := 4) dX6_nextToken_57 (by decide) ?_
  refine aw_pi dX6_nextToken_58 fw_X6_153 (ww_X6_153 _) hM.1 rfl ?_
  refine aw_iload_n dX6_nextToken_61 rfl ?_
  refine aw_if_ge (tgt := 81) dX6_nextToken_62 (by decide) (fun c62 => ?_) (fun c62 => ?_)
  · have hp : p < n := Nat.not_le.mp (fun w => by
      rw [show byV B n p = -1 by unfold byV; rw [if_neg (Nat.not_lt.mpr w)]] at e52
      exact absurd c62 (by rw [e52]; decide))
    rw [by_i hp] at e52
    subst e52
    refine aw_iload_n dX6_nextToken_81 rfl ?_
    refine aw_i2l dX6_nextToken_82 ?_
    refine aw_ldc2 dX6_nextToken_83 kw_X6_156 ?_
    refine aw_ldc2 dX6_nextToken_86 kw_X6_158 ?_
    refine aw_S3 dX6_nextToken_89 cw_X6_73 (by omega) ⟨Nat.le_refl _, Nat.le_refl _⟩ (by decide) (c_X6_in (x := B p) (a := 97) (b := 122) rfl (by decide) (by decide) (fun c89 => ?_) (fun c89 => ?_))
    · refine aw_if_eq (tgt := 134) dX6_nextToken_92 (by decide) (fun zz => absurd zz (by decide)) (fun _ => ?_)
      refine aw_aload_n dX6_nextToken_95 rfl rfl ?_
      refine aw_iconst (v := 1) dX6_nextToken_96 (by decide) ?_
      refine aw_pi dX6_nextToken_97 fw_X6_153 (ww_X6_153 _) hM.1 rfl ?_
      generalize hG : (iU (iU (iU (iU I 48 24 (nI p)) 48 26 (nI p)) 48 25 4) 48 25 1) = M3
      have e24 : M3 48 24 = nI p := by rw [← hG]; exact (by rw [iU_at (by omega), iU_at (by omega), iU_at (by omega), iU_same])
      have ez : iU M3 48 24 (nI p) = M3 := by rw [← e24]; exact iU_slf
      refine ez ▸ l_X6_nt1 hM (hT.sn (by rw [← hG]; exact ((((SaN.rf.put (by omega)).put (by omega)).put (by omega)).put (by omega)))) (by omega) (n - p) p (by omega) ?_
      subst hG
      refine aw_return dX6_nextToken_321 rfl ?_
      have hmk : mkF B n p = 1 := by unfold mkF; rw [if_pos hp, if_pos c89]
      have een : enT B n p = rnN (fun x => decide (leP x)) B (n - p) p := by unfold enT; rw [if_pos hp, if_pos c89]
      rw [← een]
      refine hQ _ _ ((((((SaN.rf.put (by omega)).put (by omega)).put (by omega)).put (by omega)).put (by omega))) ?_
      exact ⟨(by rw [iU_at (by omega), iU_at (by omega), iU_at (by omega), iU_same]), (by rw [hmk]; exact (by rw [iU_at (by omega), iU_same]; rfl)), fun _ => (by rw [iU_same]), (fun w => absurd (hmk.symm.trans w) (by decide)), (fun w => absurd (hmk.symm.trans w) (by decide))⟩
    · refine aw_if_eq (tgt := 134) dX6_nextToken_92 (by decide) (fun _ => ?_) (fun zz => absurd zz (by decide))
      refine aw_iload_n dX6_nextToken_134 rfl ?_
      refine aw_i2l dX6_nextToken_135 ?_
      refine aw_ldc2 dX6_nextToken_136 kw_X6_160 ?_
      refine aw_ldc2 dX6_nextToken_139 kw_X6_162 ?_
      refine aw_S3 dX6_nextToken_142 cw_X6_73 (by omega) ⟨Nat.le_refl _, Nat.le_refl _⟩ (by decide) (c_X6_in (x := B p) (a := 48) (b := 57) rfl (by decide) (by decide) (fun c142 => ?_) (fun c142 => ?_))
      · refine aw_if_eq (tgt := 252) dX6_nextToken_145 (by decide) (fun zz => absurd zz (by decide)) (fun _ => ?_)
        refine aw_aload_n dX6_nextToken_148 rfl rfl ?_
        refine aw_iconst (v := 2) dX6_nextToken_149 (by decide) ?_
        refine aw_pi dX6_nextToken_150 fw_X6_153 (ww_X6_153 _) hM.1 rfl ?_
        refine aw_aload_n dX6_nextToken_153 rfl rfl ?_
        refine aw_lconst (v := 0) dX6_nextToken_154 (by decide) ?_
        refine aw_pl dX6_nextToken_155 fw_X6_164 (ww_X6_164 _) hM.1 ?_
        refine aw_iconst (v := 0) dX6_nextToken_158 (by decide) ?_
        refine aw_istore_n (ls' := [_, _, _]) dX6_nextToken_159 (by decide) rfl rfl ?_
        generalize hG : (iU (iU (iU (iU I 48 24 (nI p)) 48 26 (nI p)) 48 25 4) 48 25 2) = M3
        have e24 : M3 48 24 = nI p := by rw [← hG]; exact (by rw [iU_at (by omega), iU_at (by omega), iU_at (by omega), iU_same])
        have ez : iU M3 48 24 (nI p) = M3 := by rw [← e24]; exact iU_slf
        have een : enT B n p = rnN (fun x => decide (diP x)) B (n - p) p := by unfold enT; rw [if_pos hp, if_neg c89, if_pos c142]
        have hbd := rn_ge (fun x => decide (diP x)) B (n - p) p
        refine ez ▸ l_X6_nt2 hM (hT.sn (by rw [← hG]; exact ((((SaN.rf.put (by omega)).put (by omega)).put (by omega)).put (by omega)))) (by omega) (n - p) p 0 0 _ (by omega) (fun _ => if_pos ⟨rfl, rfl⟩) (Nat.zero_le _) (fun L9 g9 => ?_)
        subst hG
        refine aw_aload_n dX6_nextToken_235 rfl rfl ?_
        refine aw_iload_n dX6_nextToken_236 rfl ?_
        refine aw_iconst (v := 4) dX6_nextToken_237 (by decide) ?_
        have h4 : nI (0 + (rnN (fun x => decide (diP x)) B (n - p) p - p)) ≤ 4 ↔ 0 + (rnN (fun x => decide (diP x)) B (n - p) p - p) ≤ 4 := nI_leI (b := 4) (by omega) (by decide)
        refine aw_icmp_le (tgt := 245) dX6_nextToken_238 (by decide) (fun c238 => ?_) (fun c238 => ?_)
        · refine aw_iconst (v := 2) dX6_nextToken_245 (by decide) ?_
          refine aw_pi dX6_nextToken_246 fw_X6_153 (ww_X6_153 _) hM.1 rfl ?_
          refine aw_goto (tgt := 321) dX6_nextToken_249 (by decide) ?_
          refine aw_return dX6_nextToken_321 rfl ?_
          first
            | (have h5 := h4.mp c238
               have hmk : mkF B n p = 2 := by unfold mkF; rw [if_pos hp, if_neg c89, if_pos c142, if_neg (by rw [een]; omega)]
               have hL9 := g9 h5
               rw [← een] at hL9
               rw [← een]
               refine hQ _ _ (((((((SaN.rf.put (by omega)).put (by omega)).put (by omega)).put (by omega)).put (by omega)).put (by omega))) ?_
               exact ⟨(by rw [iU_at (by omega), iU_at (by omega), iU_at (by omega), iU_at (by omega), iU_same]), (by rw [hmk]; exact (by rw [iU_same]; rfl)), fun _ => (by rw [iU_at (by omega), iU_same]), fun _ => hL9, (fun w => absurd (hmk.symm.trans w) (by decide))⟩)
            | (have h5 := Nat.not_le.mp (fun w => c238 (h4.mpr w))
               have hmk : mkF B n p = 4 := by unfold mkF; rw [if_pos hp, if_neg c89, if_pos c142, if_pos (by rw [een]; omega)]
               refine hQ _ _ (((((((SaN.rf.put (by omega)).put (by omega)).put (by omega)).put (by omega)).put (by omega)).put (by omega))) ?_
               exact ⟨(by rw [iU_at (by omega), iU_at (by omega), iU_at (by omega), iU_at (by omega), iU_same]), (by rw [hmk]; exact (by rw [iU_same]; rfl)), (fun w => absurd w (by rw [hmk]; decide)), (fun w => absurd (hmk.symm.trans w) (by decide)), (fun w => absurd (hmk.symm.trans w) (by decide))⟩)
        · refine aw_iconst (v := 4) dX6_nextToken_241 (by decide) ?_
          refine aw_goto (tgt := 246) dX6_nextToken_242 (by decide) ?_
          refine aw_pi dX6_nextToken_246 fw_X6_153 (ww_X6_153 _) hM.1 rfl ?_
          refine aw_goto (tgt := 321) dX6_nextToken_249 (by decide) ?_
          refine aw_return dX6_nextToken_321 rfl ?_
          first
            | (have h5 := h4.mp c238
               have hmk : mkF B n p = 2 := by unfold mkF; rw [if_pos hp, if_neg c89, if_pos c142, if_neg (by rw [een]; omega)]
               have hL9 := g9 h5
               rw [← een] at hL9
               rw [← een]
               refine hQ _ _ (((((((SaN.rf.put (by omega)).put (by omega)).put (by omega)).put (by omega)).put (by omega)).put (by omega))) ?_
               exact ⟨(by rw [iU_at (by omega), iU_at (by omega), iU_at (by omega), iU_at (by omega), iU_same]), (by rw [hmk]; exact (by rw [iU_same]; rfl)), fun _ => (by rw [iU_at (by omega), iU_same]), fun _ => hL9, (fun w => absurd (hmk.symm.trans w) (by decide))⟩)
            | (have h5 := Nat.not_le.mp (fun w => c238 (h4.mpr w))
               have hmk : mkF B n p = 4 := by unfold mkF; rw [if_pos hp, if_neg c89, if_pos c142, if_pos (by rw [een]; omega)]
               refine hQ _ _ (((((((SaN.rf.put (by omega)).put (by omega)).put (by omega)).put (by omega)).put (by omega)).put (by omega))) ?_
               exact ⟨(by rw [iU_at (by omega), iU_at (by omega), iU_at (by omega), iU_at (by omega), iU_same]), (by rw [hmk]; exact (by rw [iU_same]; rfl)), (fun w => absurd w (by rw [hmk]; decide)), (fun w => absurd (hmk.symm.trans w) (by decide)), (fun w => absurd (hmk.symm.trans w) (by decide))⟩)
      · refine aw_if_eq (tgt := 252) dX6_nextToken_145 (by decide) (fun _ => ?_) (fun zz => absurd zz (by decide))
        refine aw_iload_n dX6_nextToken_252 rfl ?_
        refine aw_bipush (v := 40) dX6_nextToken_253 (by decide) ?_
        refine aw_icmp_eq (tgt := 300) dX6_nextToken_255 (by decide) (fun c255 => ?_) (fun c255 => ?_)
        · refine aw_aload_n dX6_nextToken_300 rfl rfl ?_
          refine aw_iconst (v := 3) dX6_nextToken_301 (by decide) ?_
          refine aw_pi dX6_nextToken_302 fw_X6_153 (ww_X6_153 _) hM.1 rfl ?_
          refine aw_aload_n dX6_nextToken_305 rfl rfl ?_
          refine aw_iload_n dX6_nextToken_306 rfl ?_
          refine aw_i2l dX6_nextToken_307 ?_
          refine aw_pl dX6_nextToken_308 fw_X6_164 (ww_X6_164 _) hM.1 ?_
          refine aw_aload_n dX6_nextToken_311 rfl rfl ?_
          refine aw_dup dX6_nextToken_312 rfl ?_
          refine aw_gi dX6_nextToken_313 fw_X6_144 hM.1 ?_
          refine aw_iconst (v := 1) dX6_nextToken_316 (by decide) ?_
          refine aw_iadd dX6_nextToken_317 ?_
          refine aw_pi dX6_nextToken_318 fw_X6_144 (ww_X6_144 _) hM.1 rfl ?_
          refine aw_return dX6_nextToken_321 rfl ?_
          have hsg := (sg_10 (B p)).mpr c255
          have hmk : mkF B n p = 3 := by unfold mkF; rw [if_pos hp, if_neg c89, if_neg c142, if_neg (by omega)]
          have een : enT B n p = p + 1 := by unfold enT; rw [if_pos hp, if_neg c89, if_neg c142]
          rw [show (iU (iU (iU (iU I 48 24 (nI p)) 48 26 (nI p)) 48 25 4) 48 25 3) 48 24 = nI p from (by rw [iU_at (by omega), iU_at (by omega), iU_at (by omega), iU_same]), nI_1, ← een]
          refine hQ _ _ ((((((SaN.rf.put (by omega)).put (by omega)).put (by omega)).put (by omega)).put (by omega))) ?_
          exact ⟨(by rw [iU_at (by omega), iU_at (by omega), iU_at (by omega), iU_same]), (by rw [hmk]; exact (by rw [iU_at (by omega), iU_same]; rfl)), fun _ => (by rw [iU_same]), (fun w => absurd (hmk.symm.trans w) (by decide)), fun _ => if_pos ⟨rfl, rfl⟩⟩
        · refine aw_iload_n dX6_nextToken_258 rfl ?_
          refine aw_bipush (v := 41) dX6_nextToken_259 (by decide) ?_
          refine aw_icmp_eq (tgt := 300) dX6_nextToken_261 (by decide) (fun c261 => ?_) (fun c261 => ?_)
          · refine aw_aload_n dX6_nextToken_300 rfl rfl ?_
            refine aw_iconst (v := 3) dX6_nextToken_301 (by decide) ?_
            refine aw_pi dX6_nextToken_302 fw_X6_153 (ww_X6_153 _) hM.1 rfl ?_
            refine aw_aload_n dX6_nextToken_305 rfl rfl ?_
            refine aw_iload_n dX6_nextToken_306 rfl ?_
            refine aw_i2l dX6_nextToken_307 ?_
            refine aw_pl dX6_nextToken_308 fw_X6_164 (ww_X6_164 _) hM.1 ?_
            refine aw_aload_n dX6_nextToken_311 rfl rfl ?_
            refine aw_dup dX6_nextToken_312 rfl ?_
            refine aw_gi dX6_nextToken_313 fw_X6_144 hM.1 ?_
            refine aw_iconst (v := 1) dX6_nextToken_316 (by decide) ?_
            refine aw_iadd dX6_nextToken_317 ?_
            refine aw_pi dX6_nextToken_318 fw_X6_144 (ww_X6_144 _) hM.1 rfl ?_
            refine aw_return dX6_nextToken_321 rfl ?_
            have hsg := (sg_11 (B p)).mpr c261
            have hmk : mkF B n p = 3 := by unfold mkF; rw [if_pos hp, if_neg c89, if_neg c142, if_neg (by omega)]
            have een : enT B n p = p + 1 := by unfold enT; rw [if_pos hp, if_neg c89, if_neg c142]
            rw [show (iU (iU (iU (iU I 48 24 (nI p)) 48 26 (nI p)) 48 25 4) 48 25 3) 48 24 = nI p from (by rw [iU_at (by omega), iU_at (by omega), iU_at (by omega), iU_same]), nI_1, ← een]
            refine hQ _ _ ((((((SaN.rf.put (by omega)).put (by omega)).put (by omega)).put (by omega)).put (by omega))) ?_
            exact ⟨(by rw [iU_at (by omega), iU_at (by omega), iU_at (by omega), iU_same]), (by rw [hmk]; exact (by rw [iU_at (by omega), iU_same]; rfl)), fun _ => (by rw [iU_same]), (fun w => absurd (hmk.symm.trans w) (by decide)), fun _ => if_pos ⟨rfl, rfl⟩⟩
          · refine aw_iload_n dX6_nextToken_264 rfl ?_
            refine aw_bipush (v := 59) dX6_nextToken_265 (by decide) ?_
            refine aw_icmp_eq (tgt := 300) dX6_nextToken_267 (by decide) (fun c267 => ?_) (fun c267 => ?_)
            · refine aw_aload_n dX6_nextToken_300 rfl rfl ?_
              refine aw_iconst (v := 3) dX6_nextToken_301 (by decide) ?_
              refine aw_pi dX6_nextToken_302 fw_X6_153 (ww_X6_153 _) hM.1 rfl ?_
              refine aw_aload_n dX6_nextToken_305 rfl rfl ?_
              refine aw_iload_n dX6_nextToken_306 rfl ?_
              refine aw_i2l dX6_nextToken_307 ?_
              refine aw_pl dX6_nextToken_308 fw_X6_164 (ww_X6_164 _) hM.1 ?_
              refine aw_aload_n dX6_nextToken_311 rfl rfl ?_
              refine aw_dup dX6_nextToken_312 rfl ?_
              refine aw_gi dX6_nextToken_313 fw_X6_144 hM.1 ?_
              refine aw_iconst (v := 1) dX6_nextToken_316 (by decide) ?_
              refine aw_iadd dX6_nextToken_317 ?_
              refine aw_pi dX6_nextToken_318 fw_X6_144 (ww_X6_144 _) hM.1 rfl ?_
              refine aw_return dX6_nextToken_321 rfl ?_
              have hsg := (sg_12 (B p)).mpr c267
              have hmk : mkF B n p = 3 := by unfold mkF; rw [if_pos hp, if_neg c89, if_neg c142, if_neg (by omega)]
              have een : enT B n p = p + 1 := by unfold enT; rw [if_pos hp, if_neg c89, if_neg c142]
              rw [show (iU (iU (iU (iU I 48 24 (nI p)) 48 26 (nI p)) 48 25 4) 48 25 3) 48 24 = nI p from (by rw [iU_at (by omega), iU_at (by omega), iU_at (by omega), iU_same]), nI_1, ← een]
              refine hQ _ _ ((((((SaN.rf.put (by omega)).put (by omega)).put (by omega)).put (by omega)).put (by omega))) ?_
              exact ⟨(by rw [iU_at (by omega), iU_at (by omega), iU_at (by omega), iU_same]), (by rw [hmk]; exact (by rw [iU_at (by omega), iU_same]; rfl)), fun _ => (by rw [iU_same]), (fun w => absurd (hmk.symm.trans w) (by decide)), fun _ => if_pos ⟨rfl, rfl⟩⟩
            · refine aw_iload_n dX6_nextToken_270 rfl ?_
              refine aw_bipush (v := 43) dX6_nextToken_271 (by decide) ?_
              refine aw_icmp_eq (tgt := 300) dX6_nextToken_273 (by decide) (fun c273 => ?_) (fun c273 => ?_)
              · refine aw_aload_n dX6_nextToken_300 rfl rfl ?_
                refine aw_iconst (v := 3) dX6_nextToken_301 (by decide) ?_
                refine aw_pi dX6_nextToken_302 fw_X6_153 (ww_X6_153 _) hM.1 rfl ?_
                refine aw_aload_n dX6_nextToken_305 rfl rfl ?_
                refine aw_iload_n dX6_nextToken_306 rfl ?_
                refine aw_i2l dX6_nextToken_307 ?_
                refine aw_pl dX6_nextToken_308 fw_X6_164 (ww_X6_164 _) hM.1 ?_
                refine aw_aload_n dX6_nextToken_311 rfl rfl ?_
                refine aw_dup dX6_nextToken_312 rfl ?_
                refine aw_gi dX6_nextToken_313 fw_X6_144 hM.1 ?_
                refine aw_iconst (v := 1) dX6_nextToken_316 (by decide) ?_
                refine aw_iadd dX6_nextToken_317 ?_
                refine aw_pi dX6_nextToken_318 fw_X6_144 (ww_X6_144 _) hM.1 rfl ?_
                refine aw_return dX6_nextToken_321 rfl ?_
                have hsg := (sg_13 (B p)).mpr c273
                have hmk : mkF B n p = 3 := by unfold mkF; rw [if_pos hp, if_neg c89, if_neg c142, if_neg (by omega)]
                have een : enT B n p = p + 1 := by unfold enT; rw [if_pos hp, if_neg c89, if_neg c142]
                rw [show (iU (iU (iU (iU I 48 24 (nI p)) 48 26 (nI p)) 48 25 4) 48 25 3) 48 24 = nI p from (by rw [iU_at (by omega), iU_at (by omega), iU_at (by omega), iU_same]), nI_1, ← een]
                refine hQ _ _ ((((((SaN.rf.put (by omega)).put (by omega)).put (by omega)).put (by omega)).put (by omega))) ?_
                exact ⟨(by rw [iU_at (by omega), iU_at (by omega), iU_at (by omega), iU_same]), (by rw [hmk]; exact (by rw [iU_at (by omega), iU_same]; rfl)), fun _ => (by rw [iU_same]), (fun w => absurd (hmk.symm.trans w) (by decide)), fun _ => if_pos ⟨rfl, rfl⟩⟩
              · refine aw_iload_n dX6_nextToken_276 rfl ?_
                refine aw_bipush (v := 45) dX6_nextToken_277 (by decide) ?_
                refine aw_icmp_eq (tgt := 300) dX6_nextToken_279 (by decide) (fun c279 => ?_) (fun c279 => ?_)
                · refine aw_aload_n dX6_nextToken_300 rfl rfl ?_
                  refine aw_iconst (v := 3) dX6_nextToken_301 (by decide) ?_
                  refine aw_pi dX6_nextToken_302 fw_X6_153 (ww_X6_153 _) hM.1 rfl ?_
                  refine aw_aload_n dX6_nextToken_305 rfl rfl ?_
                  refine aw_iload_n dX6_nextToken_306 rfl ?_
                  refine aw_i2l dX6_nextToken_307 ?_
                  refine aw_pl dX6_nextToken_308 fw_X6_164 (ww_X6_164 _) hM.1 ?_
                  refine aw_aload_n dX6_nextToken_311 rfl rfl ?_
                  refine aw_dup dX6_nextToken_312 rfl ?_
                  refine aw_gi dX6_nextToken_313 fw_X6_144 hM.1 ?_
                  refine aw_iconst (v := 1) dX6_nextToken_316 (by decide) ?_
                  refine aw_iadd dX6_nextToken_317 ?_
                  refine aw_pi dX6_nextToken_318 fw_X6_144 (ww_X6_144 _) hM.1 rfl ?_
                  refine aw_return dX6_nextToken_321 rfl ?_
                  have hsg := (sg_14 (B p)).mpr c279
                  have hmk : mkF B n p = 3 := by unfold mkF; rw [if_pos hp, if_neg c89, if_neg c142, if_neg (by omega)]
                  have een : enT B n p = p + 1 := by unfold enT; rw [if_pos hp, if_neg c89, if_neg c142]
                  rw [show (iU (iU (iU (iU I 48 24 (nI p)) 48 26 (nI p)) 48 25 4) 48 25 3) 48 24 = nI p from (by rw [iU_at (by omega), iU_at (by omega), iU_at (by omega), iU_same]), nI_1, ← een]
                  refine hQ _ _ ((((((SaN.rf.put (by omega)).put (by omega)).put (by omega)).put (by omega)).put (by omega))) ?_
                  exact ⟨(by rw [iU_at (by omega), iU_at (by omega), iU_at (by omega), iU_same]), (by rw [hmk]; exact (by rw [iU_at (by omega), iU_same]; rfl)), fun _ => (by rw [iU_same]), (fun w => absurd (hmk.symm.trans w) (by decide)), fun _ => if_pos ⟨rfl, rfl⟩⟩
                · refine aw_iload_n dX6_nextToken_282 rfl ?_
                  refine aw_bipush (v := 42) dX6_nextToken_283 (by decide) ?_
                  refine aw_icmp_eq (tgt := 300) dX6_nextToken_285 (by decide) (fun c285 => ?_) (fun c285 => ?_)
                  · refine aw_aload_n dX6_nextToken_300 rfl rfl ?_
                    refine aw_iconst (v := 3) dX6_nextToken_301 (by decide) ?_
                    refine aw_pi dX6_nextToken_302 fw_X6_153 (ww_X6_153 _) hM.1 rfl ?_
                    refine aw_aload_n dX6_nextToken_305 rfl rfl ?_
                    refine aw_iload_n dX6_nextToken_306 rfl ?_
                    refine aw_i2l dX6_nextToken_307 ?_
                    refine aw_pl dX6_nextToken_308 fw_X6_164 (ww_X6_164 _) hM.1 ?_
                    refine aw_aload_n dX6_nextToken_311 rfl rfl ?_
                    refine aw_dup dX6_nextToken_312 rfl ?_
                    refine aw_gi dX6_nextToken_313 fw_X6_144 hM.1 ?_
                    refine aw_iconst (v := 1) dX6_nextToken_316 (by decide) ?_
                    refine aw_iadd dX6_nextToken_317 ?_
                    refine aw_pi dX6_nextToken_318 fw_X6_144 (ww_X6_144 _) hM.1 rfl ?_
                    refine aw_return dX6_nextToken_321 rfl ?_
                    have hsg := (sg_15 (B p)).mpr c285
                    have hmk : mkF B n p = 3 := by unfold mkF; rw [if_pos hp, if_neg c89, if_neg c142, if_neg (by omega)]
                    have een : enT B n p = p + 1 := by unfold enT; rw [if_pos hp, if_neg c89, if_neg c142]
                    rw [show (iU (iU (iU (iU I 48 24 (nI p)) 48 26 (nI p)) 48 25 4) 48 25 3) 48 24 = nI p from (by rw [iU_at (by omega), iU_at (by omega), iU_at (by omega), iU_same]), nI_1, ← een]
                    refine hQ _ _ ((((((SaN.rf.put (by omega)).put (by omega)).put (by omega)).put (by omega)).put (by omega))) ?_
                    exact ⟨(by rw [iU_at (by omega), iU_at (by omega), iU_at (by omega), iU_same]), (by rw [hmk]; exact (by rw [iU_at (by omega), iU_same]; rfl)), fun _ => (by rw [iU_same]), (fun w => absurd (hmk.symm.trans w) (by decide)), fun _ => if_pos ⟨rfl, rfl⟩⟩
                  · refine aw_iload_n dX6_nextToken_288 rfl ?_
                    refine aw_bipush (v := 60) dX6_nextToken_289 (by decide) ?_
                    refine aw_icmp_eq (tgt := 300) dX6_nextToken_291 (by decide) (fun c291 => ?_) (fun c291 => ?_)
                    · refine aw_aload_n dX6_nextToken_300 rfl rfl ?_
                      refine aw_iconst (v := 3) dX6_nextToken_301 (by decide) ?_
                      refine aw_pi dX6_nextToken_302 fw_X6_153 (ww_X6_153 _) hM.1 rfl ?_
                      refine aw_aload_n dX6_nextToken_305 rfl rfl ?_
                      refine aw_iload_n dX6_nextToken_306 rfl ?_
                      refine aw_i2l dX6_nextToken_307 ?_
                      refine aw_pl dX6_nextToken_308 fw_X6_164 (ww_X6_164 _) hM.1 ?_
                      refine aw_aload_n dX6_nextToken_311 rfl rfl ?_
                      refine aw_dup dX6_nextToken_312 rfl ?_
                      refine aw_gi dX6_nextToken_313 fw_X6_144 hM.1 ?_
                      refine aw_iconst (v := 1) dX6_nextToken_316 (by decide) ?_
                      refine aw_iadd dX6_nextToken_317 ?_
                      refine aw_pi dX6_nextToken_318 fw_X6_144 (ww_X6_144 _) hM.1 rfl ?_
                      refine aw_return dX6_nextToken_321 rfl ?_
                      have hsg := (sg_16 (B p)).mpr c291
                      have hmk : mkF B n p = 3 := by unfold mkF; rw [if_pos hp, if_neg c89, if_neg c142, if_neg (by omega)]
                      have een : enT B n p = p + 1 := by unfold enT; rw [if_pos hp, if_neg c89, if_neg c142]
                      rw [show (iU (iU (iU (iU I 48 24 (nI p)) 48 26 (nI p)) 48 25 4) 48 25 3) 48 24 = nI p from (by rw [iU_at (by omega), iU_at (by omega), iU_at (by omega), iU_same]), nI_1, ← een]
                      refine hQ _ _ ((((((SaN.rf.put (by omega)).put (by omega)).put (by omega)).put (by omega)).put (by omega))) ?_
                      exact ⟨(by rw [iU_at (by omega), iU_at (by omega), iU_at (by omega), iU_same]), (by rw [hmk]; exact (by rw [iU_at (by omega), iU_same]; rfl)), fun _ => (by rw [iU_same]), (fun w => absurd (hmk.symm.trans w) (by decide)), fun _ => if_pos ⟨rfl, rfl⟩⟩
                    · refine aw_iload_n dX6_nextToken_294 rfl ?_
                      refine aw_bipush (v := 61) dX6_nextToken_295 (by decide) ?_
                      refine aw_icmp_ne (tgt := 321) dX6_nextToken_297 (by decide) (fun c297 => ?_) (fun c297 => ?_)
                      · refine aw_return dX6_nextToken_321 rfl ?_
                        first
                          | (have hsg := (sg_17 (B p)).mpr c297
                             have hmk : mkF B n p = 3 := by unfold mkF; rw [if_pos hp, if_neg c89, if_neg c142, if_neg (by omega)]
                             have een : enT B n p = p + 1 := by unfold enT; rw [if_pos hp, if_neg c89, if_neg c142]
                             rw [show (iU (iU (iU (iU I 48 24 (nI p)) 48 26 (nI p)) 48 25 4) 48 25 3) 48 24 = nI p from (by rw [iU_at (by omega), iU_at (by omega), iU_at (by omega), iU_same]), nI_1, ← een]
                             refine hQ _ _ ((((((SaN.rf.put (by omega)).put (by omega)).put (by omega)).put (by omega)).put (by omega))) ?_
                             exact ⟨(by rw [iU_at (by omega), iU_at (by omega), iU_at (by omega), iU_same]), (by rw [hmk]; exact (by rw [iU_at (by omega), iU_same]; rfl)), fun _ => (by rw [iU_same]), (fun w => absurd (hmk.symm.trans w) (by decide)), fun _ => if_pos ⟨rfl, rfl⟩⟩)
                          | (have hsg : sgF (B p) = 1 := by simp only [sgF, c255, c261, c267, c273, c279, c285, c291, c297, if_false]
                             have hmk : mkF B n p = 4 := by unfold mkF; rw [if_pos hp, if_neg c89, if_neg c142, if_pos hsg]
                             refine hQ _ _ ((((SaN.rf.put (by omega)).put (by omega)).put (by omega))) ?_
                             exact ⟨(by rw [iU_at (by omega), iU_same]), (by rw [hmk]; exact (by rw [iU_same]; rfl)), (fun w => absurd w (by rw [hmk]; decide)), (fun w => absurd (hmk.symm.trans w) (by decide)), (fun w => absurd (hmk.symm.trans w) (by decide))⟩)
                      · refine aw_aload_n dX6_nextToken_300 rfl rfl ?_
                        refine aw_iconst (v := 3) dX6_nextToken_301 (by decide) ?_
                        refine aw_pi dX6_nextToken_302 fw_X6_153 (ww_X6_153 _) hM.1 rfl ?_
                        refine aw_aload_n dX6_nextToken_305 rfl rfl ?_
                        refine aw_iload_n dX6_nextToken_306 rfl ?_
                        refine aw_i2l dX6_nextToken_307 ?_
                        refine aw_pl dX6_nextToken_308 fw_X6_164 (ww_X6_164 _) hM.1 ?_
                        refine aw_aload_n dX6_nextToken_311 rfl rfl ?_
                        refine aw_dup dX6_nextToken_312 rfl ?_
                        refine aw_gi dX6_nextToken_313 fw_X6_144 hM.1 ?_
                        refine aw_iconst (v := 1) dX6_nextToken_316 (by decide) ?_
                        refine aw_iadd dX6_nextToken_317 ?_
                        refine aw_pi dX6_nextToken_318 fw_X6_144 (ww_X6_144 _) hM.1 rfl ?_
                        refine aw_return dX6_nextToken_321 rfl ?_
                        first
                          | (have hsg := (sg_17 (B p)).mpr c297
                             have hmk : mkF B n p = 3 := by unfold mkF; rw [if_pos hp, if_neg c89, if_neg c142, if_neg (by omega)]
                             have een : enT B n p = p + 1 := by unfold enT; rw [if_pos hp, if_neg c89, if_neg c142]
                             rw [show (iU (iU (iU (iU I 48 24 (nI p)) 48 26 (nI p)) 48 25 4) 48 25 3) 48 24 = nI p from (by rw [iU_at (by omega), iU_at (by omega), iU_at (by omega), iU_same]), nI_1, ← een]
                             refine hQ _ _ ((((((SaN.rf.put (by omega)).put (by omega)).put (by omega)).put (by omega)).put (by omega))) ?_
                             exact ⟨(by rw [iU_at (by omega), iU_at (by omega), iU_at (by omega), iU_same]), (by rw [hmk]; exact (by rw [iU_at (by omega), iU_same]; rfl)), fun _ => (by rw [iU_same]), (fun w => absurd (hmk.symm.trans w) (by decide)), fun _ => if_pos ⟨rfl, rfl⟩⟩)
                          | (have hsg : sgF (B p) = 1 := by simp only [sgF, c255, c261, c267, c273, c279, c285, c291, c297, if_false]
                             have hmk : mkF B n p = 4 := by unfold mkF; rw [if_pos hp, if_neg c89, if_neg c142, if_pos hsg]
                             refine hQ _ _ ((((SaN.rf.put (by omega)).put (by omega)).put (by omega))) ?_
                             exact ⟨(by rw [iU_at (by omega), iU_same]), (by rw [hmk]; exact (by rw [iU_same]; rfl)), (fun w => absurd w (by rw [hmk]; decide)), (fun w => absurd (hmk.symm.trans w) (by decide)), (fun w => absurd (hmk.symm.trans w) (by decide))⟩)
  · refine aw_aload_n dX6_nextToken_65 rfl rfl ?_
    refine aw_iconst (v := 0) dX6_nextToken_66 (by decide) ?_
    refine aw_pi dX6_nextToken_67 fw_X6_153 (ww_X6_153 _) hM.1 rfl ?_
    
    refine aw_aload_n dX6_nextToken_70 rfl rfl ?_
    refine aw_aload_n dX6_nextToken_71 rfl rfl ?_
    refine aw_gi dX6_nextToken_72 fw_X6_138 hM.1 ?_
    rw [show (iU (iU (iU (iU I 48 24 (nI p)) 48 26 (nI p)) 48 25 4) 48 25 0) 48 23 = nI n from (by rw [iU_at (by omega), iU_at (by omega), iU_at (by omega), iU_at (by omega)]; exact hT.2.2.1)]
    refine aw_pi dX6_nextToken_75 fw_X6_150 (ww_X6_150 _) hM.1 rfl ?_
    refine aw_goto (tgt := 321) dX6_nextToken_78 (by decide) ?_
    refine aw_return dX6_nextToken_321 rfl ?_
    have hpn : p = n := by
      rcases Nat.lt_or_ge p n with w | w
      · rw [by_i w] at e52; exact absurd (by rw [e52]; exact Int32.not_lt.mp (hT.2.2.2.2 p w).2) c62
      · omega
    subst hpn
    have hmk : mkF B p p = 0 := by unfold mkF; rw [if_neg (Nat.lt_irrefl p)]
    refine hQ _ _ ((((((SaN.rf.put (by omega)).put (by omega)).put (by omega)).put (by omega)).put (by omega))) ?_
    exact ⟨(by rw [iU_same]), (by rw [hmk]; exact (by rw [iU_at (by omega), iU_same]; rfl)), (fun w => absurd w (by rw [hmk]; decide)), (fun w => absurd (hmk.symm.trans w) (by decide)), (fun w => absurd (hmk.symm.trans w) (by decide))⟩
