theorem SamH.up2 {h : Nat} {I I' : Mi} (s : SamH h I I') (a k : Nat) (x : Int32) : SamH h (iU I a k x) (iU I' a k x) := by
  intro b h3 h8
  funext j
  simp only [iU, s b h3 h8]
/-- a cup is read out -/
def roM (I : Mi) (h r p c : Nat) (v : Int32) : Mi := iU (if v = 0 then iU (iU (iU (iU I (h + 3) r v) (h + 4) r (I (h + 2) c)) h 9 (nI (r + 1))) (h + 7) p (if I (h + 7) p + 1 < 99 then I (h + 7) p + 1 else 99) else iU (iU (iU I (h + 3) r v) (h + 4) r (I (h + 2) c)) h 9 (nI (r + 1))) h 2 (I h 2 + 1)
theorem c_X0_readOut {E : Ev} {d : Nat} {I : Mi} {L : Ml} {Z : Mz} {Q : Po} {h : Nat} {p c r : Nat} {ru t q mm ma mb n : Nat} (hd : 4 ≤ d) (hR : RD I Z h ru t q mm ma mb n) (hp : p < 5) (hc : c < n) (hrn : I h 9 = nI r) (hr : r < 12) (hQ : ∀ (rv : Int32) (I9 : Mi), rv = rbV I h q ma mb mm p c → SamH h (roM I h r p c rv) I9 → Q (some (.int rv)) I9 L Z) : AC E yX0_readOut cX0_readOut 4 (some .int) d 0 0 [.ref h, .int (nI p), .int (nI c)] I L Z Q := by
  refine ac_go (ls := [some (.ref h), some (.int (nI p)), some (.int (nI c)), none]) (by decide +kernel) (Nat.le_of_ble_eq_true rfl) rfl ?_
  have hn6 := hR.2.2.2.2.1
  have h3 := hR.h3
  refine aw_aload_n dX0_readOut_0 rfl rfl ?_
  refine aw_iload_n dX0_readOut_1 rfl ?_
  refine aw_iload_n dX0_readOut_2 rfl ?_
  refine aw_V2 dX0_readOut_3 cw_X0_131 ⟨_, _, rfl⟩ hR.1.1 (by omega) ⟨Nat.le_refl _, Nat.le_refl _⟩ (by decide) (c_X0_readBy (by omega) hR hp hc (fun r3 I3 s3 e3 => ?_))
  refine aw_istore_n (ls' := [_, _, _, _]) dX0_readOut_6 (by decide) rfl rfl ?_
  refine aw_aload_n dX0_readOut_7 rfl rfl ?_
  refine aw_iload_n dX0_readOut_8 rfl ?_
  refine aw_aload_n dX0_readOut_9 rfl rfl ?_
  refine aw_gr dX0_readOut_10 fw_X0_15 hR.1.1 hR.1.2.2.2.1 ?_
  refine aw_iload_n dX0_readOut_13 rfl ?_
  refine aw_ia c dX0_readOut_14 hR.1.2.2.2.2.2.2.2.2.2.2.2.1 rfl (by omega) (by decide) ?_
  refine aw_V2 dX0_readOut_15 cw_X0_134 ⟨_, _, rfl⟩ hR.1.1 (by omega) ⟨Nat.le_refl _, Nat.le_refl _⟩ (by decide) (c_X0_addReason (n := r) hR.1 (by rw [s3 h (by omega) (by omega)]; exact hrn) (by omega) (fun z => absurd z (by omega)) (fun _ => ?_))
  refine aw_bipush (v := -4) dX0_readOut_18 (by decide) ?_
  refine aw_icmp_ne (tgt := 26) dX0_readOut_20 (by decide) (fun c20 => ?_) (fun zz => absurd zz (fun w => absurd (w ▸ nI_pos' (n := r) (by omega)) (by decide)))
  refine aw_iload_n dX0_readOut_26 rfl ?_
  refine aw_if_ne (tgt := 49) dX0_readOut_27 (by decide) (fun c27 => ?_) (fun c27 => ?_)
  · refine aw_aload_n dX0_readOut_49 rfl rfl ?_
    refine aw_dup dX0_readOut_50 rfl ?_
    refine aw_gi dX0_readOut_51 fw_X0_44 hR.1.1 ?_
    refine aw_iconst (v := 1) dX0_readOut_54 (by decide) ?_
    refine aw_iadd dX0_readOut_55 ?_
    refine aw_pi dX0_readOut_56 fw_X0_44 (ww_X0_44 _) hR.1.1 rfl ?_
    refine aw_iload_n dX0_readOut_59 rfl ?_
    refine aw_ireturn (ty := .int) dX0_readOut_60 rfl rfl ?_
    have r7 : I3 (h + 7) = I (h + 7) := s3 (h + 7) (by omega) (by omega)
    have r2 : I3 (h + 2) = I (h + 2) := s3 (h + 2) (by omega) (by omega)
    have r0 : I3 h = I h := s3 h (by omega) (by omega)
    refine hQ _ _ e3 ?_
    unfold roM
    first
      | (rw [if_pos c27, r2, iU_at (show ¬ (h + 7 = h ∧ p = 9) by omega), iU_at (show ¬ (h + 7 = h + 4 ∧ p = r) by omega), iU_at (show ¬ (h + 7 = h + 3 ∧ p = r) by omega), r7, iU_at (show ¬ (h = h + 7 ∧ 2 = p) by omega), iU_at (show ¬ (h = h ∧ 2 = 9) by omega), iU_at (show ¬ (h = h + 4 ∧ 2 = r) by omega), iU_at (show ¬ (h = h + 3 ∧ 2 = r) by omega), r0]
         exact ((((s3.up2 _ _ _).up2 _ _ _).up2 _ _ _).up2 _ _ _).up2 _ _ _)
      | (rw [if_neg c27, r2, iU_at (show ¬ (h = h ∧ 2 = 9) by omega), iU_at (show ¬ (h = h + 4 ∧ 2 = r) by omega), iU_at (show ¬ (h = h + 3 ∧ 2 = r) by omega), r0]
         exact (((s3.up2 _ _ _).up2 _ _ _).up2 _ _ _).up2 _ _ _)
  · refine aw_aload_n dX0_readOut_30 rfl rfl ?_
    refine aw_gr dX0_readOut_31 fw_X0_30 hR.1.1 hR.1.2.2.2.2.2.2.2.2.1 ?_
    refine aw_iload_n dX0_readOut_34 rfl ?_
    refine aw_bipush (v := 99) dX0_readOut_35 (by decide) ?_
    refine aw_aload_n dX0_readOut_37 rfl rfl ?_
    refine aw_gr dX0_readOut_38 fw_X0_30 hR.1.1 hR.1.2.2.2.2.2.2.2.2.1 ?_
    refine aw_iload_n dX0_readOut_41 rfl ?_
    refine aw_ia p dX0_readOut_42 hR.1.2.2.2.2.2.2.2.2.2.2.2.2.2.2.2.2.1 rfl (by omega) (by decide) ?_
    refine aw_iconst (v := 1) dX0_readOut_43 (by decide) ?_
    refine aw_iadd dX0_readOut_44 ?_
    refine aw_mmin dX0_readOut_45 ml_X0_100 (rm_ok (d' := 0) (by omega)) (by simp [Value.category, psh]) ?_
    refine aw_is p dX0_readOut_48 hR.1.2.2.2.2.2.2.2.2.2.2.2.2.2.2.2.2.1 rfl (by omega) (by decide) ?_
    refine aw_aload_n dX0_readOut_49 rfl rfl ?_
    refine aw_dup dX0_readOut_50 rfl ?_
    refine aw_gi dX0_readOut_51 fw_X0_44 hR.1.1 ?_
    refine aw_iconst (v := 1) dX0_readOut_54 (by decide) ?_
    refine aw_iadd dX0_readOut_55 ?_
    refine aw_pi dX0_readOut_56 fw_X0_44 (ww_X0_44 _) hR.1.1 rfl ?_
    refine aw_iload_n dX0_readOut_59 rfl ?_
    refine aw_ireturn (ty := .int) dX0_readOut_60 rfl rfl ?_
    have r7 : I3 (h + 7) = I (h + 7) := s3 (h + 7) (by omega) (by omega)
    have r2 : I3 (h + 2) = I (h + 2) := s3 (h + 2) (by omega) (by omega)
    have r0 : I3 h = I h := s3 h (by omega) (by omega)
    refine hQ _ _ e3 ?_
    unfold roM
    first
      | (rw [if_pos c27, r2, iU_at (show ¬ (h + 7 = h ∧ p = 9) by omega), iU_at (show ¬ (h + 7 = h + 4 ∧ p = r) by omega), iU_at (show ¬ (h + 7 = h + 3 ∧ p = r) by omega), r7, iU_at (show ¬ (h = h + 7 ∧ 2 = p) by omega), iU_at (show ¬ (h = h ∧ 2 = 9) by omega), iU_at (show ¬ (h = h + 4 ∧ 2 = r) by omega), iU_at (show ¬ (h = h + 3 ∧ 2 = r) by omega), r0]
         exact ((((s3.up2 _ _ _).up2 _ _ _).up2 _ _ _).up2 _ _ _).up2 _ _ _)
      | (rw [if_neg c27, r2, iU_at (show ¬ (h = h ∧ 2 = 9) by omega), iU_at (show ¬ (h = h + 4 ∧ 2 = r) by omega), iU_at (show ¬ (h = h + 3 ∧ 2 = r) by omega), r0]
         exact (((s3.up2 _ _ _).up2 _ _ _).up2 _ _ _).up2 _ _ _)
def dgI (f : Nat → Int32) (x : Int32) : Nat → Nat → Int32 → Int32
  | 0, _, a => a
  | n + 1, j, a => dgI f x n (j + 1) (if f j = x then a + 1 else a)
def dgO (f : Nat → Int32) (N : Nat) : Nat → Nat → Int32 → Int32
  | 0, _, a => a
  | n + 1, i, a => dgO f N n (i + 1) (dgI f (f i) (N - (i + 1)) (i + 1) a)
theorem l_X0_dogs1 {E : Ev} {d : Nat} {I0 : Mi} {L : Ml} {Z : Mz} {Q : Po} {h p i ru t q mm ma mb n : Nat} {x : Int32} (hR0 : RD I0 Z h ru t q mm ma mb n) (hd : 4 ≤ d) (hp : p < 5) : ∀ (k j : Nat) (I : Mi) (tw : Int32), j + k = n → SamH h I0 I → (∀ (I9 : Mi) (tw9 : Int32), SamH h I0 I9 → tw9 = dgI (rbV I0 h q ma mb mm p) x k j tw → AW E yX0_dogs cX0_dogs 6 (some .int) (rmOf d 0 0) Q 0 0 55 [some (.ref h), some (.int (nI p)), some (.int tw9), some (.int (nI i)), some (.int x), some (.int (nI n))] [] I9 L Z) → AW E yX0_dogs cX0_dogs 6 (some .int) (rmOf d 0 0) Q 0 0 25 [some (.ref h), some (.int (nI p)), some (.int tw), some (.int (nI i)), some (.int x), some (.int (nI j))] [] I L Z := by
  have h3 := hR0.h3
  have hn6 := hR0.2.2.2.2.1
  intro k
  induction k with
  | zero =>
    intro j I tw hj hs kont
    have hR := hR0.sam hs
    refine aw_iload dX0_dogs_25 rfl ?_
    refine aw_aload_n dX0_dogs_27 rfl rfl ?_
    refine aw_gi dX0_dogs_28 fw_X0_50 hR.1.1 ?_
    refine aw_icmp_ge (tgt := 55) dX0_dogs_31 (by decide) (fun c31 => ?_) (fun zz => absurd (by rw [hR.2.2.2.1, show j = n by omega]; exact Int32.le_refl _) zz)
    rw [show j = n by omega]
    exact kont I tw hs rfl
  | succ k ih =>
    intro j I tw hj hs kont
    have hR := hR0.sam hs
    refine aw_iload dX0_dogs_25 rfl ?_
    refine aw_aload_n dX0_dogs_27 rfl rfl ?_
    refine aw_gi dX0_dogs_28 fw_X0_50 hR.1.1 ?_
    refine aw_icmp_ge (tgt := 55) dX0_dogs_31 (by decide) (fun zz => absurd zz (by rw [hR.2.2.2.1]; exact nI_ge (by omega) (by omega))) (fun c31 => ?_)
    refine aw_aload_n dX0_dogs_34 rfl rfl ?_
    refine aw_iload_n dX0_dogs_35 rfl ?_
    refine aw_iload dX0_dogs_36 rfl ?_
    refine aw_V2 dX0_dogs_38 cw_X0_131 ⟨_, _, rfl⟩ hR.1.1 (by omega) ⟨Nat.le_refl _, Nat.le_refl _⟩ (by decide) (c_X0_readBy (by omega) hR hp (by omega) (fun r38 I38 h38 e38 => ?_))
    refine aw_iload dX0_dogs_41 rfl ?_
    refine aw_icmp_ne (tgt := 49) dX0_dogs_43 (by decide) (fun c43 => ?_) (fun c43 => ?_)
    · refine aw_iinc (v := nI (j + 1)) (ls' := [_, _, _, _, _, _]) dX0_dogs_49 rfl (nI_1 j) (by decide) rfl rfl ?_
      refine aw_goto (tgt := 25) dX0_dogs_52 (by decide) ?_
      refine ih (j + 1) I38 _ (by omega) (hs.tr h38) (fun I9 tw9 h9 e0 => kont I9 tw9 h9 ?_)
      rw [e0]
      rw [rbV_sam hs h3 hR0.q3] at e38
      subst e38
      simp only [dgI, c43, not_true_eq_false, not_false_eq_true, and_true, true_and, and_false, false_and, or_true, true_or, or_false, false_or, ite_true, ite_false, if_true, if_false, reduceIte, and_self, or_self]
    · refine aw_iinc (v := (tw + 1)) (ls' := [_, _, _, _, _, _]) dX0_dogs_46 rfl rfl (by decide) rfl rfl ?_
      refine aw_iinc (v := nI (j + 1)) (ls' := [_, _, _, _, _, _]) dX0_dogs_49 rfl (nI_1 j) (by decide) rfl rfl ?_
      refine aw_goto (tgt := 25) dX0_dogs_52 (by decide) ?_
      refine ih (j + 1) I38 _ (by omega) (hs.tr h38) (fun I9 tw9 h9 e0 => kont I9 tw9 h9 ?_)
      rw [e0]
      rw [rbV_sam hs h3 hR0.q3] at e38
      subst e38
      simp only [dgI, c43, not_true_eq_false, not_false_eq_true, and_true, true_and, and_false, false_and, or_true, true_or, or_false, false_or, ite_true, ite_false, if_true, if_false, reduceIte, and_self, or_self]
theorem l_X0_dogs0 {E : Ev} {d : Nat} {I0 : Mi} {L : Ml} {Z : Mz} {Q : Po} {h p ru t q mm ma mb n : Nat} (hR0 : RD I0 Z h ru t q mm ma mb n) (hd : 4 ≤ d) (hp : p < 5) : ∀ (k i : Nat) (I : Mi) (tw : Int32) (o4 o5 : Option Value), i + k = n → SamH h I0 I → (∀ (rv : Int32) (I9 : Mi), SamH h I0 I9 → rv = dgO (rbV I0 h q ma mb mm p) n k i tw → Q (some (.int rv)) I9 L Z) → AW E yX0_dogs cX0_dogs 6 (some .int) (rmOf d 0 0) Q 0 0 4 [some (.ref h), some (.int (nI p)), some (.int tw), some (.int (nI i)), o4, o5] [] I L Z := by
  have h3 := hR0.h3
  have hn6 := hR0.2.2.2.2.1
  intro k
  induction k with
  | zero =>
    intro i I tw o4 o5 hj hs hQ
    have hR := hR0.sam hs
    refine aw_iload_n dX0_dogs_4 rfl ?_
    refine aw_aload_n dX0_dogs_5 rfl rfl ?_
    refine aw_gi dX0_dogs_6 fw_X0_50 hR.1.1 ?_
    refine aw_icmp_ge (tgt := 61) dX0_dogs_9 (by decide) (fun c9 => ?_) (fun zz => absurd (by rw [hR.2.2.2.1, show i = n by omega]; exact Int32.le_refl _) zz)
    refine aw_iload_n dX0_dogs_61 rfl ?_
    refine aw_ireturn (ty := .int) dX0_dogs_62 rfl rfl ?_
    exact hQ _ _ hs rfl
  | succ k ih =>
    intro i I tw o4 o5 hj hs hQ
    have hR := hR0.sam hs
    refine aw_iload_n dX0_dogs_4 rfl ?_
    refine aw_aload_n dX0_dogs_5 rfl rfl ?_
    refine aw_gi dX0_dogs_6 fw_X0_50 hR.1.1 ?_
    refine aw_icmp_ge (tgt := 61) dX0_dogs_9 (by decide) (fun zz => absurd zz (by rw [hR.2.2.2.1]; exact nI_ge (by omega) (by omega))) (fun c9 => ?_)
    refine aw_aload_n dX0_dogs_12 rfl rfl ?_
    refine aw_iload_n dX0_dogs_13 rfl ?_
    refine aw_iload_n dX0_dogs_14 rfl ?_
    refine aw_V2 dX0_dogs_15 cw_X0_131 ⟨_, _, rfl⟩ hR.1.1 (by omega) ⟨Nat.le_refl _, Nat.le_refl _⟩ (by decide) (c_X0_readBy (by omega) hR hp (by omega) (fun r15 I15 h15 e15 => ?_))
    refine aw_istore (ls' := [_, _, _, _, _, _]) dX0_dogs_18 (by decide) rfl rfl ?_
    refine aw_iload_n dX0_dogs_20 rfl ?_
    refine aw_iconst (v := 1) dX0_dogs_21 (by decide) ?_
    refine aw_iadd dX0_dogs_22 ?_
    refine aw_istore (ls' := [_, _, _, _, _, _]) dX0_dogs_23 (by decide) rfl rfl ?_
    rw [nI_1 i]
    rw [rbV_sam hs h3 hR0.q3] at e15
    subst e15
    refine l_X0_dogs1 hR0 hd hp (n - (i + 1)) (i + 1) I15 _ (by omega) (hs.tr h15) (fun I9 tw9 h9 e9 => ?_)
    refine aw_iinc (v := nI (i + 1)) (ls' := [_, _, _, _, _, _]) dX0_dogs_55 rfl (nI_1 i) (by decide) rfl rfl ?_
    refine aw_goto (tgt := 4) dX0_dogs_58 (by decide) ?_
    exact ih (i + 1) I9 _ _ _ (by omega) h9 (fun rv I8 h8 e8 => hQ rv I8 h8 (by rw [e8, e9]; rfl))
theorem c_X0_dogs {E : Ev} {d : Nat} {I : Mi} {L : Ml} {Z : Mz} {Q : Po} {h : Nat} {p : Nat} {ru t q mm ma mb n : Nat} (hd : 4 ≤ d) (hR : RD I Z h ru t q mm ma mb n) (hp : p < 5) (hQ : ∀ (rv : Int32) (I9 : Mi), SamH h I I9 → rv = dgO (rbV I h q ma mb mm p) n n 0 0 → Q (some (.int rv)) I9 L Z) : AC E yX0_dogs cX0_dogs 6 (some .int) d 0 0 [.ref h, .int (nI p)] I L Z Q := by
  refine ac_go (ls := [some (.ref h), some (.int (nI p)), none, none, none, none]) (by decide +kernel) (Nat.le_of_ble_eq_true rfl) rfl ?_
  refine aw_iconst (v := 0) dX0_dogs_0 (by decide) ?_
  refine aw_istore_n (ls' := [_, _, _, _, _, _]) dX0_dogs_1 (by decide) rfl rfl ?_
  refine aw_iconst (v := 0) dX0_dogs_2 (by decide) ?_
  refine aw_istore_n (ls' := [_, _, _, _, _, _]) dX0_dogs_3 (by decide) rfl rfl ?_
  exact l_X0_dogs0 hR hd hp n 0 I 0 _ _ (by omega) SamH.rf hQ
/-- a sheet's shape -/
def StZ (Z : Mz) (a : Nat) : Prop := ObjZ Z a 2 ∧ zP Z a 0 = some (a + 1) ∧ ArrI Z (a + 1) 40
def foS (it f : Nat → Int32) : Nat → Nat → Int32
  | 0, _ => -1
  | n + 1, j => if it j = f j then foS it f n (j + 1) else nI j
theorem l_X0_firstOtherwise {E : Ev} {d : Nat} {I0 : Mi} {L : Ml} {Z : Mz} {Q : Po} {h p a z ru t q mm ma mb n : Nat} (hR0 : RD I0 Z h ru t q mm ma mb n) (hd : 4 ≤ d) (hp : p < 5) (hA : StZ Z a) (hsz0 : I0 a 2 = nI z) (hzn : z ≤ n) (ha : a ≠ 3 ∧ a ≠ h + 8 ∧ a + 1 ≠ 3 ∧ a + 1 ≠ h + 8) : ∀ (k j : Nat) (I : Mi), j + k = z → SamH h I0 I → (∀ (rv : Int32) (I9 : Mi), SamH h I0 I9 → rv = foS (I0 (a + 1)) (rbV I0 h q ma mb mm p) k j → Q (some (.int rv)) I9 L Z) → AW E yX0_firstOtherwise cX0_firstOtherwise 4 (some .int) (rmOf d 0 0) Q 0 0 2 [some (.ref h), some (.ref a), some (.int (nI p)), some (.int (nI j))] [] I L Z := by
  have h3 := hR0.h3
  have hn6 := hR0.2.2.2.2.1
  intro k
  induction k with
  | zero =>
    intro j I hj hs hQ
    have hR := hR0.sam hs
    have hsz : I a 2 = nI z := by rw [hs a ha.1 ha.2.1]; exact hsz0
    refine aw_iload_n dX0_firstOtherwise_2 rfl ?_
    refine aw_aload_n dX0_firstOtherwise_3 rfl rfl ?_
    refine aw_gi dX0_firstOtherwise_4 fw_X0_171 hA.1 ?_
    refine aw_icmp_ge (tgt := 41) dX0_firstOtherwise_7 (by decide) (fun c7 => ?_) (fun zz => absurd (by rw [hsz, show j = z by omega]; exact Int32.le_refl _) zz)
    refine aw_iconst (v := -1) dX0_firstOtherwise_41 (by decide) ?_
    refine aw_ireturn (ty := .int) dX0_firstOtherwise_42 rfl rfl ?_
    exact hQ _ _ hs rfl
  | succ k ih =>
    intro j I hj hs hQ
    have hR := hR0.sam hs
    have hsz : I a 2 = nI z := by rw [hs a ha.1 ha.2.1]; exact hsz0
    refine aw_iload_n dX0_firstOtherwise_2 rfl ?_
    refine aw_aload_n dX0_firstOtherwise_3 rfl rfl ?_
    refine aw_gi dX0_firstOtherwise_4 fw_X0_171 hA.1 ?_
    refine aw_icmp_ge (tgt := 41) dX0_firstOtherwise_7 (by decide) (fun zz => absurd zz (by rw [hsz]; exact nI_ge (by omega) (by omega))) (fun c7 => ?_)
    refine aw_iload_n dX0_firstOtherwise_10 rfl ?_
    refine aw_aload_n dX0_firstOtherwise_11 rfl rfl ?_
    refine aw_gi dX0_firstOtherwise_12 fw_X0_50 hR.1.1 ?_
    refine aw_icmp_ge (tgt := 41) dX0_firstOtherwise_15 (by decide) (fun zz => absurd zz (by rw [hR.2.2.2.1]; exact nI_ge (by omega) (by omega))) (fun c15 => ?_)
    refine aw_aload_n dX0_firstOtherwise_18 rfl rfl ?_
    refine aw_gr dX0_firstOtherwise_19 fw_X0_176 hA.1 hA.2.1 ?_
    refine aw_iload_n dX0_firstOtherwise_22 rfl ?_
    refine aw_ia j dX0_firstOtherwise_23 hA.2.2 rfl (by omega) (by decide) ?_
    refine aw_aload_n dX0_firstOtherwise_24 rfl rfl ?_
    refine aw_iload_n dX0_firstOtherwise_25 rfl ?_
    refine aw_iload_n dX0_firstOtherwise_26 rfl ?_
    refine aw_V2 dX0_firstOtherwise_27 cw_X0_131 ⟨_, _, rfl⟩ hR.1.1 (by omega) ⟨Nat.le_refl _, Nat.le_refl _⟩ (by simp [Value.category, psh]) (c_X0_readBy (by omega) hR hp (by omega) (fun r27 I27 h27 e27 => ?_))
    refine aw_icmp_eq (tgt := 35) dX0_firstOtherwise_30 (by decide) (fun c30 => ?_) (fun c30 => ?_)
    · refine aw_iinc (v := nI (j + 1)) (ls' := [_, _, _, _]) dX0_firstOtherwise_35 rfl (nI_1 j) (by decide) rfl rfl ?_
      refine aw_goto (tgt := 2) dX0_firstOtherwise_38 (by decide) ?_
      refine ih (j + 1) I27 (by omega) (hs.tr h27) (fun rv I9 h9 e0 => hQ rv I9 h9 ?_)
      rw [rbV_sam hs h3 hR0.q3] at e27
      subst e27
      rw [hs (a + 1) ha.2.2.1 ha.2.2.2] at c30
      rw [e0]
      simp only [foS, c30, not_true_eq_false, not_false_eq_true, and_true, true_and, and_false, false_and, or_true, true_or, or_false, false_or, ite_true, ite_false, if_true, if_false, reduceIte, and_self, or_self]
    · refine aw_iload_n dX0_firstOtherwise_33 rfl ?_
      refine aw_ireturn (ty := .int) dX0_firstOtherwise_34 rfl rfl ?_
      refine hQ _ _ (hs.tr h27) ?_
      rw [rbV_sam hs h3 hR0.q3] at e27
      subst e27
      rw [hs (a + 1) ha.2.2.1 ha.2.2.2] at c30
      simp only [foS, c30, not_true_eq_false, not_false_eq_true, and_true, true_and, and_false, false_and, or_true, true_or, or_false, false_or, ite_true, ite_false, if_true, if_false, reduceIte, and_self, or_self]
theorem c_X0_firstOtherwise {E : Ev} {d : Nat} {I : Mi} {L : Ml} {Z : Mz} {Q : Po} {h : Nat} {a : Nat} {p z : Nat} {ru t q mm ma mb n : Nat} (hd : 4 ≤ d) (hR : RD I Z h ru t q mm ma mb n) (hp : p < 5) (hA : StZ Z a) (hsz : I a 2 = nI z) (hzn : z ≤ n) (ha : a ≠ 3 ∧ a ≠ h + 8 ∧ a + 1 ≠ 3 ∧ a + 1 ≠ h + 8) (hQ : ∀ (rv : Int32) (I9 : Mi), SamH h I I9 → rv = foS (I (a + 1)) (rbV I h q ma mb mm p) z 0 → Q (some (.int rv)) I9 L Z) : AC E yX0_firstOtherwise cX0_firstOtherwise 4 (some .int) d 0 0 [.ref h, .ref a, .int (nI p)] I L Z Q := by
  refine ac_go (ls := [some (.ref h), some (.ref a), some (.int (nI p)), none]) (by decide +kernel) (Nat.le_of_ble_eq_true rfl) rfl ?_
  refine aw_iconst (v := 0) dX0_firstOtherwise_0 (by decide) ?_
  refine aw_istore_n (ls' := [_, _, _, _]) dX0_firstOtherwise_1 (by decide) rfl rfl ?_
  exact l_X0_firstOtherwise hR hd hp hA hsz hzn ha z 0 I (by omega) SamH.rf hQ
/-- a house becomes like another one -/
def blS (I : Mi) (h g : Nat) : Mi := iU (iU (iU (iU (iU (iU I h 1 (I g 1)) h 2 (I g 2)) h 3 (I g 3)) h 6 (I g 6)) h 9 (I g 9)) h 13 (I g 13)
def cpR (I : Mi) (g h k n : Nat) : Mi := rU I (h + k) (va_cpy (I (g + k)) (I (h + k)) 0 0 n)
def blM (I : Mi) (h g : Nat) : Mi := cpR (cpR (cpR (cpR (cpR (cpR (cpR (blS I h g) g h 1 6) g h 2 6) g h 3 12) g h 4 12) g h 5 5) g h 6 5) g h 7 5
theorem c_X0_becomeLike {E : Ev} {d : Nat} {I : Mi} {L : Ml} {Z : Mz} {Q : Po} {h : Nat} {g : Nat}  (hd : 1 ≤ d) (hH : HZ Z h) (hG : HZ Z g) (hne : g ≠ h) (hQ : Q none (blM I h g) L Z) : AC E yX0_becomeLike cX0_becomeLike 2 none d 0 0 [.ref h, .ref g] I L Z Q := by
  refine ac_go (ls := [some (.ref h), some (.ref g)]) (by decide +kernel) (Nat.le_of_ble_eq_true rfl) rfl ?_
  refine aw_aload_n dX0_becomeLike_0 rfl rfl ?_
  refine aw_aload_n dX0_becomeLike_1 rfl rfl ?_
  refine aw_gi dX0_becomeLike_2 fw_X0_40 hG.1 ?_
  refine aw_pi dX0_becomeLike_5 fw_X0_40 (ww_X0_40 _) hH.1 rfl ?_
  refine aw_aload_n dX0_becomeLike_8 rfl rfl ?_
  refine aw_aload_n dX0_becomeLike_9 rfl rfl ?_
  refine aw_gi dX0_becomeLike_10 fw_X0_44 hG.1 ?_
  refine aw_pi dX0_becomeLike_13 fw_X0_44 (ww_X0_44 _) hH.1 rfl ?_
  refine aw_aload_n dX0_becomeLike_16 rfl rfl ?_
  refine aw_aload_n dX0_becomeLike_17 rfl rfl ?_
  refine aw_gi dX0_becomeLike_18 fw_X0_47 hG.1 ?_
  refine aw_pi dX0_becomeLike_21 fw_X0_47 (ww_X0_47 _) hH.1 rfl ?_
  refine aw_aload_n dX0_becomeLike_24 rfl rfl ?_
  refine aw_aload_n dX0_becomeLike_25 rfl rfl ?_
  refine aw_gi dX0_becomeLike_26 fw_X0_50 hG.1 ?_
  refine aw_pi dX0_becomeLike_29 fw_X0_50 (ww_X0_50 _) hH.1 rfl ?_
  refine aw_aload_n dX0_becomeLike_32 rfl rfl ?_
  refine aw_aload_n dX0_becomeLike_33 rfl rfl ?_
  refine aw_gi dX0_becomeLike_34 fw_X0_53 hG.1 ?_
  refine aw_pi dX0_becomeLike_37 fw_X0_53 (ww_X0_53 _) hH.1 rfl ?_
  refine aw_aload_n dX0_becomeLike_40 rfl rfl ?_
  refine aw_aload_n dX0_becomeLike_41 rfl rfl ?_
  refine aw_gi dX0_becomeLike_42 fw_X0_56 hG.1 ?_
  refine aw_pi dX0_becomeLike_45 fw_X0_56 (ww_X0_56 _) hH.1 rfl ?_
  refine aw_aload_n dX0_becomeLike_48 rfl rfl ?_
  refine aw_gr dX0_becomeLike_49 fw_X0_9 hG.1 hG.2.2.1 ?_
  refine aw_iconst (v := 0) dX0_becomeLike_52 (by decide) ?_
  refine aw_aload_n dX0_becomeLike_53 rfl rfl ?_
  refine aw_gr dX0_becomeLike_54 fw_X0_9 hH.1 hH.2.2.1 ?_
  refine aw_iconst (v := 0) dX0_becomeLike_57 (by decide) ?_
  refine aw_bipush (v := 6) dX0_becomeLike_58 (by decide) ?_
  refine aw_copy dX0_becomeLike_60 cw_X0_59 hG.2.2.2.2.2.2.2.2.2.2.1.1 hH.2.2.2.2.2.2.2.2.2.2.1.1 hG.2.2.2.2.2.2.2.2.2.2.1.2.1 hH.2.2.2.2.2.2.2.2.2.2.1.2.1 (by decide) (by decide) (by decide) (by rw [hG.2.2.2.2.2.2.2.2.2.2.1.2.2]; decide) (by rw [hH.2.2.2.2.2.2.2.2.2.2.1.2.2]; decide) (rm_ok (d' := 0) (by omega)) (by decide) ?_
  refine aw_aload_n dX0_becomeLike_63 rfl rfl ?_
  refine aw_gr dX0_becomeLike_64 fw_X0_15 hG.1 hG.2.2.2.1 ?_
  refine aw_iconst (v := 0) dX0_becomeLike_67 (by decide) ?_
  refine aw_aload_n dX0_becomeLike_68 rfl rfl ?_
  refine aw_gr dX0_becomeLike_69 fw_X0_15 hH.1 hH.2.2.2.1 ?_
  refine aw_iconst (v := 0) dX0_becomeLike_72 (by decide) ?_
  refine aw_bipush (v := 6) dX0_becomeLike_73 (by decide) ?_
  refine aw_copy dX0_becomeLike_75 cw_X0_59 hG.2.2.2.2.2.2.2.2.2.2.2.1.1 hH.2.2.2.2.2.2.2.2.2.2.2.1.1 hG.2.2.2.2.2.2.2.2.2.2.2.1.2.1 hH.2.2.2.2.2.2.2.2.2.2.2.1.2.1 (by decide) (by decide) (by decide) (by rw [hG.2.2.2.2.2.2.2.2.2.2.2.1.2.2]; decide) (by rw [hH.2.2.2.2.2.2.2.2.2.2.2.1.2.2]; decide) (rm_ok (d' := 0) (by omega)) (by decide) ?_
  refine aw_aload_n dX0_becomeLike_78 rfl rfl ?_
  refine aw_gr dX0_becomeLike_79 fw_X0_18 hG.1 hG.2.2.2.2.1 ?_
  refine aw_iconst (v := 0) dX0_becomeLike_82 (by decide) ?_
  refine aw_aload_n dX0_becomeLike_83 rfl rfl ?_
  refine aw_gr dX0_becomeLike_84 fw_X0_18 hH.1 hH.2.2.2.2.1 ?_
  refine aw_iconst (v := 0) dX0_becomeLike_87 (by decide) ?_
  refine aw_bipush (v := 12) dX0_becomeLike_88 (by decide) ?_
  refine aw_copy dX0_becomeLike_90 cw_X0_59 hG.2.2.2.2.2.2.2.2.2.2.2.2.1.1 hH.2.2.2.2.2.2.2.2.2.2.2.2.1.1 hG.2.2.2.2.2.2.2.2.2.2.2.2.1.2.1 hH.2.2.2.2.2.2.2.2.2.2.2.2.1.2.1 (by decide) (by decide) (by decide) (by rw [hG.2.2.2.2.2.2.2.2.2.2.2.2.1.2.2]; decide) (by rw [hH.2.2.2.2.2.2.2.2.2.2.2.2.1.2.2]; decide) (rm_ok (d' := 0) (by omega)) (by decide) ?_
  refine aw_aload_n dX0_becomeLike_93 rfl rfl ?_
  refine aw_gr dX0_becomeLike_94 fw_X0_21 hG.1 hG.2.2.2.2.2.1 ?_
  refine aw_iconst (v := 0) dX0_becomeLike_97 (by decide) ?_
  refine aw_aload_n dX0_becomeLike_98 rfl rfl ?_
  refine aw_gr dX0_becomeLike_99 fw_X0_21 hH.1 hH.2.2.2.2.2.1 ?_
  refine aw_iconst (v := 0) dX0_becomeLike_102 (by decide) ?_
  refine aw_bipush (v := 12) dX0_becomeLike_103 (by decide) ?_
  refine aw_copy dX0_becomeLike_105 cw_X0_59 hG.2.2.2.2.2.2.2.2.2.2.2.2.2.1.1 hH.2.2.2.2.2.2.2.2.2.2.2.2.2.1.1 hG.2.2.2.2.2.2.2.2.2.2.2.2.2.1.2.1 hH.2.2.2.2.2.2.2.2.2.2.2.2.2.1.2.1 (by decide) (by decide) (by decide) (by rw [hG.2.2.2.2.2.2.2.2.2.2.2.2.2.1.2.2]; decide) (by rw [hH.2.2.2.2.2.2.2.2.2.2.2.2.2.1.2.2]; decide) (rm_ok (d' := 0) (by omega)) (by decide) ?_
  refine aw_aload_n dX0_becomeLike_108 rfl rfl ?_
  refine aw_gr dX0_becomeLike_109 fw_X0_24 hG.1 hG.2.2.2.2.2.2.1 ?_
  refine aw_iconst (v := 0) dX0_becomeLike_112 (by decide) ?_
  refine aw_aload_n dX0_becomeLike_113 rfl rfl ?_
  refine aw_gr dX0_becomeLike_114 fw_X0_24 hH.1 hH.2.2.2.2.2.2.1 ?_
  refine aw_iconst (v := 0) dX0_becomeLike_117 (by decide) ?_
  refine aw_iconst (v := 5) dX0_becomeLike_118 (by decide) ?_
  refine aw_copy dX0_becomeLike_119 cw_X0_59 hG.2.2.2.2.2.2.2.2.2.2.2.2.2.2.1.1 hH.2.2.2.2.2.2.2.2.2.2.2.2.2.2.1.1 hG.2.2.2.2.2.2.2.2.2.2.2.2.2.2.1.2.1 hH.2.2.2.2.2.2.2.2.2.2.2.2.2.2.1.2.1 (by decide) (by decide) (by decide) (by rw [hG.2.2.2.2.2.2.2.2.2.2.2.2.2.2.1.2.2]; decide) (by rw [hH.2.2.2.2.2.2.2.2.2.2.2.2.2.2.1.2.2]; decide) (rm_ok (d' := 0) (by omega)) (by decide) ?_
  refine aw_aload_n dX0_becomeLike_122 rfl rfl ?_
  refine aw_gr dX0_becomeLike_123 fw_X0_27 hG.1 hG.2.2.2.2.2.2.2.1 ?_
  refine aw_iconst (v := 0) dX0_becomeLike_126 (by decide) ?_
  refine aw_aload_n dX0_becomeLike_127 rfl rfl ?_
  refine aw_gr dX0_becomeLike_128 fw_X0_27 hH.1 hH.2.2.2.2.2.2.2.1 ?_
  refine aw_iconst (v := 0) dX0_becomeLike_131 (by decide) ?_
  refine aw_iconst (v := 5) dX0_becomeLike_132 (by decide) ?_
  refine aw_copy dX0_becomeLike_133 cw_X0_59 hG.2.2.2.2.2.2.2.2.2.2.2.2.2.2.2.1.1 hH.2.2.2.2.2.2.2.2.2.2.2.2.2.2.2.1.1 hG.2.2.2.2.2.2.2.2.2.2.2.2.2.2.2.1.2.1 hH.2.2.2.2.2.2.2.2.2.2.2.2.2.2.2.1.2.1 (by decide) (by decide) (by decide) (by rw [hG.2.2.2.2.2.2.2.2.2.2.2.2.2.2.2.1.2.2]; decide) (by rw [hH.2.2.2.2.2.2.2.2.2.2.2.2.2.2.2.1.2.2]; decide) (rm_ok (d' := 0) (by omega)) (by decide) ?_
  refine aw_aload_n dX0_becomeLike_136 rfl rfl ?_
  refine aw_gr dX0_becomeLike_137 fw_X0_30 hG.1 hG.2.2.2.2.2.2.2.2.1 ?_
  refine aw_iconst (v := 0) dX0_becomeLike_140 (by decide) ?_
  refine aw_aload_n dX0_becomeLike_141 rfl rfl ?_
  refine aw_gr dX0_becomeLike_142 fw_X0_30 hH.1 hH.2.2.2.2.2.2.2.2.1 ?_
  refine aw_iconst (v := 0) dX0_becomeLike_145 (by decide) ?_
  refine aw_iconst (v := 5) dX0_becomeLike_146 (by decide) ?_
  refine aw_copy dX0_becomeLike_147 cw_X0_59 hG.2.2.2.2.2.2.2.2.2.2.2.2.2.2.2.2.1.1 hH.2.2.2.2.2.2.2.2.2.2.2.2.2.2.2.2.1.1 hG.2.2.2.2.2.2.2.2.2.2.2.2.2.2.2.2.1.2.1 hH.2.2.2.2.2.2.2.2.2.2.2.2.2.2.2.2.1.2.1 (by decide) (by decide) (by decide) (by rw [hG.2.2.2.2.2.2.2.2.2.2.2.2.2.2.2.2.1.2.2]; decide) (by rw [hH.2.2.2.2.2.2.2.2.2.2.2.2.2.2.2.2.1.2.2]; decide) (rm_ok (d' := 0) (by omega)) (by decide) ?_
  refine aw_return dX0_becomeLike_150 rfl ?_
  simp only [iU_at (show ¬ (g = h ∧ _) from fun w => hne w.1)]
  exact hQ
