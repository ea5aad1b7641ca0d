/-! ===== the class: tells ===== -/
/-- rows but the stack's and a house's names', and one place -/
def SamK (A K : Nat) (M I : Mi) : Prop := ∀ b j, b ≠ 3 → b ≠ 36 → ¬ (b = A ∧ j = K) → I b j = M b j
theorem SamK.rf {A K : Nat} {M : Mi} : SamK A K M M := fun _ _ _ _ _ => rfl
theorem SamK.set {A K : Nat} {M I : Mi} (s : SamK A K M I) (x : Int32) : SamH 28 (iU M A K x) (iU I A K x) := by
  intro b h3 h8
  funext j
  by_cases h : b = A ∧ j = K
  · obtain ⟨rfl, rfl⟩ := h; rw [iU_same, iU_same]
  · rw [iU_at h, iU_at h]; exact s b j h3 h8 h
theorem SamH.toK {A K : Nat} {M I : Mi} {x : Int32} (s : SamH 28 (iU M A K x) I) : SamK A K M I := by
  intro b j h3 h8 h
  rw [s b h3 h8, iU_at h]
def ThX (I I' : Mi) : Prop := ∀ b, b ≠ 3 → b ≠ 18 → (b < 28 ∨ 36 < b) → I' b = I b
theorem ThX.rf {I : Mi} : ThX I I := fun _ _ _ _ => rfl
def btF (f : Nat → Int32) : Nat → Nat → Int32 → Int32
  | 0, _, a => a
  | n + 1, v, a => btF f n (v + 1) (if f v = -1 then a ||| (1 <<< (nI v &&& 31)) else a)
def hcF (f : Nat → Int32) : Nat → Nat → Int32 → Int32
  | 0, _, a => a
  | n + 1, v, a => hcF f n (v + 1) (if f v = -1 then a + 1 else a)
def hlF (f : Nat → Int32) : Nat → Nat → Int32
  | 0, _ => -1
  | n + 1, v => if f v = -1 then nI v else hlF f n (v + 1)
theorem l_X5_bitsOf4 {E : Ev} {d : Nat} {M : Mi} {L : Ml} {Z : Mz} {Q : Po} {s p z n N : Nat} {rA tA qA mA aA bA : Nat → Nat} (hG : GZ Z) (hs : s < 4) (hp : p < 5) (hd : 6 ≤ d) (hN : N ≤ 1000) (hR : ∀ v, v < N → RD (iU M 34 p (nI v)) Z 28 (rA v) (tA v) (qA v) (mA v) (aA v) (bA v) n) (hsz : M (38 + 2 * s) 2 = nI z) (hzn : z ≤ n) : ∀ (k j : Nat) (a : Int32) (I : Mi), j + k = N → SamK 34 p M I → (∀ (rv : Int32) (I9 : Mi), SamK 34 p M I9 → rv = btF (fun v => foS (M (38 + 2 * s + 1)) (rbV (iU M 34 p (nI v)) 28 (qA v) (aA v) (bA v) (mA v) p) z 0) k j a → Q (some (.int rv)) I9 L Z) → AW E yX5_bitsOf cX5_bitsOf 7 (some .int) (rmOf d 0 0) Q 0 0 17 [some (.ref 0), some (.ref (38 + 2 * s)), some (.int (nI p)), some (.int 4), some (.int (nI N)), some (.int a), some (.int (nI j))] [] I L Z := by
  intro k
  induction k with
  | zero =>
    intro j a I hj hk hQ
    refine aw_iload dX5_bitsOf_17 rfl ?_
    refine aw_iload dX5_bitsOf_19 rfl ?_
    refine aw_icmp_ge (tgt := 63) dX5_bitsOf_21 (by decide) (fun c21 => ?_) (fun zz => absurd (by rw [show j = N by omega]; exact Int32.le_refl _) zz)
    refine aw_iload dX5_bitsOf_63 rfl ?_
    refine aw_ireturn (ty := .int) dX5_bitsOf_65 rfl rfl ?_
    exact hQ _ _ hk rfl
  | succ k ih =>
    intro j a I hj hk hQ
    have hRj := hR j (by omega)
    refine aw_iload dX5_bitsOf_17 rfl ?_
    refine aw_iload dX5_bitsOf_19 rfl ?_
    refine aw_icmp_ge (tgt := 63) dX5_bitsOf_21 (by decide) (fun zz => absurd zz (nI_ge (by omega) (by omega))) (fun c21 => ?_)
    refine aw_aload_n dX5_bitsOf_24 rfl rfl ?_
    refine aw_gr dX5_bitsOf_25 fw_X5_35 hG.1 hG.2.2.2.2.2.1 ?_
    refine aw_iload_n dX5_bitsOf_28 rfl ?_
    refine aw_iload_n dX5_bitsOf_29 rfl ?_
    refine aw_iload dX5_bitsOf_30 rfl ?_
    refine aw_V3 dX5_bitsOf_32 cw_X5_87 ⟨_, _, rfl⟩ hG.2.2.2.2.2.2.2.2.2.2.2.1.1 (by omega) ⟨Nat.le_refl _, Nat.le_refl _⟩ (by decide) (c_X0_note4 hG.2.2.2.2.2.2.2.2.2.2.2.1 hp ?_)
    have hU := hk.set (nI j)
    have hRU := hRj.sam hU
    refine aw_aload_n dX5_bitsOf_35 rfl rfl ?_
    refine aw_gr dX5_bitsOf_36 fw_X5_35 hG.1 hG.2.2.2.2.2.1 ?_
    refine aw_aload_n dX5_bitsOf_39 rfl rfl ?_
    refine aw_iload_n dX5_bitsOf_40 rfl ?_
    refine aw_V2 dX5_bitsOf_41 cw_X5_223 ⟨_, _, rfl⟩ hG.2.2.2.2.2.2.2.2.2.2.2.1.1 (by omega) ⟨Nat.le_refl _, Nat.le_refl _⟩ (by decide) (c_X0_firstOtherwise (by omega) hRU hp (hG.2.2.2.2.2.2.2.2.1 s hs).2 (z := z) (by rw [hU _ (by omega) (by omega), iU_at (by omega)]; exact hsz) hzn (by omega) (fun r41 I41 h41 e41 => ?_))
    have hU1 := hU.tr h41
    have ef : r41 = (fun v => foS (M (38 + 2 * s + 1)) (rbV (iU M 34 p (nI v)) 28 (qA v) (aA v) (bA v) (mA v) p) z 0) j := by
      rw [e41, hU _ (by omega) (by omega)]
      have ei : (iU M 34 p (nI j)) (38 + 2 * s + 1) = M (38 + 2 * s + 1) := by funext i; exact iU_at (by omega)
      rw [ei]
      show foS _ _ z 0 = foS _ _ z 0
      rw [show rbV (iU I 34 p (nI j)) 28 (qA j) (aA j) (bA j) (mA j) p = rbV (iU M 34 p (nI j)) 28 (qA j) (aA j) (bA j) (mA j) p from funext fun c => rbV_sam hU (by decide) hRj.q3]
    refine aw_iconst (v := -1) dX5_bitsOf_44 (by decide) ?_
    refine aw_icmp_ne (tgt := 57) dX5_bitsOf_45 (by decide) (fun c45 => ?_) (fun c45 => ?_)
    · refine aw_iinc (v := nI (j + 1)) (ls' := [_, _, _, _, _, _, _]) dX5_bitsOf_57 rfl (nI_1 j) (by decide) rfl rfl ?_
      refine aw_goto (tgt := 17) dX5_bitsOf_60 (by decide) ?_
      refine ih (j + 1) _ I41 (by omega) hU1.toK (fun rv I9 h9 e0 => hQ rv I9 h9 ?_)
      rw [e0]
      rw [ef] at c45
      simp only [btF]
      simp only [c45, not_true_eq_false, not_false_eq_true, and_true, true_and, and_false, false_and, or_true, true_or, or_false, false_or, ite_true, ite_false, if_true, if_false, reduceIte, and_self, or_self]
    · refine aw_iload dX5_bitsOf_48 rfl ?_
      refine aw_iconst (v := 1) dX5_bitsOf_50 (by decide) ?_
      refine aw_iload dX5_bitsOf_51 rfl ?_
      refine aw_ishl dX5_bitsOf_53 ?_
      refine aw_ior dX5_bitsOf_54 ?_
      refine aw_istore (ls' := [_, _, _, _, _, _, _]) dX5_bitsOf_55 (by decide) rfl rfl ?_
      refine aw_iinc (v := nI (j + 1)) (ls' := [_, _, _, _, _, _, _]) dX5_bitsOf_57 rfl (nI_1 j) (by decide) rfl rfl ?_
      refine aw_goto (tgt := 17) dX5_bitsOf_60 (by decide) ?_
      refine ih (j + 1) _ I41 (by omega) hU1.toK (fun rv I9 h9 e0 => hQ rv I9 h9 ?_)
      rw [e0]
      rw [ef] at c45
      simp only [btF]
      simp only [c45, not_true_eq_false, not_false_eq_true, and_true, true_and, and_false, false_and, or_true, true_or, or_false, false_or, ite_true, ite_false, if_true, if_false, reduceIte, and_self, or_self]
theorem l_X5_bitsOf6 {E : Ev} {d : Nat} {M : Mi} {L : Ml} {Z : Mz} {Q : Po} {s p z n N : Nat} {rA tA qA mA aA bA : Nat → Nat} (hG : GZ Z) (hs : s < 4) (hp : p < 5) (hd : 6 ≤ d) (hN : N ≤ 1000) (hR : ∀ v, v < N → RD (iU M 33 p (nI v)) Z 28 (rA v) (tA v) (qA v) (mA v) (aA v) (bA v) n) (hsz : M (38 + 2 * s) 2 = nI z) (hzn : z ≤ n) : ∀ (k j : Nat) (a : Int32) (I : Mi), j + k = N → SamK 33 p M I → (∀ (rv : Int32) (I9 : Mi), SamK 33 p M I9 → rv = btF (fun v => foS (M (38 + 2 * s + 1)) (rbV (iU M 33 p (nI v)) 28 (qA v) (aA v) (bA v) (mA v) p) z 0) k j a → Q (some (.int rv)) I9 L Z) → AW E yX5_bitsOf cX5_bitsOf 7 (some .int) (rmOf d 0 0) Q 0 0 17 [some (.ref 0), some (.ref (38 + 2 * s)), some (.int (nI p)), some (.int 6), some (.int (nI N)), some (.int a), some (.int (nI j))] [] I L Z := by
  intro k
  induction k with
  | zero =>
    intro j a I hj hk hQ
    refine aw_iload dX5_bitsOf_17 rfl ?_
    refine aw_iload dX5_bitsOf_19 rfl ?_
    refine aw_icmp_ge (tgt := 63) dX5_bitsOf_21 (by decide) (fun c21 => ?_) (fun zz => absurd (by rw [show j = N by omega]; exact Int32.le_refl _) zz)
    refine aw_iload dX5_bitsOf_63 rfl ?_
    refine aw_ireturn (ty := .int) dX5_bitsOf_65 rfl rfl ?_
    exact hQ _ _ hk rfl
  | succ k ih =>
    intro j a I hj hk hQ
    have hRj := hR j (by omega)
    refine aw_iload dX5_bitsOf_17 rfl ?_
    refine aw_iload dX5_bitsOf_19 rfl ?_
    refine aw_icmp_ge (tgt := 63) dX5_bitsOf_21 (by decide) (fun zz => absurd zz (nI_ge (by omega) (by omega))) (fun c21 => ?_)
    refine aw_aload_n dX5_bitsOf_24 rfl rfl ?_
    refine aw_gr dX5_bitsOf_25 fw_X5_35 hG.1 hG.2.2.2.2.2.1 ?_
    refine aw_iload_n dX5_bitsOf_28 rfl ?_
    refine aw_iload_n dX5_bitsOf_29 rfl ?_
    refine aw_iload dX5_bitsOf_30 rfl ?_
    refine aw_V3 dX5_bitsOf_32 cw_X5_87 ⟨_, _, rfl⟩ hG.2.2.2.2.2.2.2.2.2.2.2.1.1 (by omega) ⟨Nat.le_refl _, Nat.le_refl _⟩ (by decide) (c_X0_note6 hG.2.2.2.2.2.2.2.2.2.2.2.1 hp ?_)
    have hU := hk.set (nI j)
    have hRU := hRj.sam hU
    refine aw_aload_n dX5_bitsOf_35 rfl rfl ?_
    refine aw_gr dX5_bitsOf_36 fw_X5_35 hG.1 hG.2.2.2.2.2.1 ?_
    refine aw_aload_n dX5_bitsOf_39 rfl rfl ?_
    refine aw_iload_n dX5_bitsOf_40 rfl ?_
    refine aw_V2 dX5_bitsOf_41 cw_X5_223 ⟨_, _, rfl⟩ hG.2.2.2.2.2.2.2.2.2.2.2.1.1 (by omega) ⟨Nat.le_refl _, Nat.le_refl _⟩ (by decide) (c_X0_firstOtherwise (by omega) hRU hp (hG.2.2.2.2.2.2.2.2.1 s hs).2 (z := z) (by rw [hU _ (by omega) (by omega), iU_at (by omega)]; exact hsz) hzn (by omega) (fun r41 I41 h41 e41 => ?_))
    have hU1 := hU.tr h41
    have ef : r41 = (fun v => foS (M (38 + 2 * s + 1)) (rbV (iU M 33 p (nI v)) 28 (qA v) (aA v) (bA v) (mA v) p) z 0) j := by
      rw [e41, hU _ (by omega) (by omega)]
      have ei : (iU M 33 p (nI j)) (38 + 2 * s + 1) = M (38 + 2 * s + 1) := by funext i; exact iU_at (by omega)
      rw [ei]
      show foS _ _ z 0 = foS _ _ z 0
      rw [show rbV (iU I 33 p (nI j)) 28 (qA j) (aA j) (bA j) (mA j) p = rbV (iU M 33 p (nI j)) 28 (qA j) (aA j) (bA j) (mA j) p from funext fun c => rbV_sam hU (by decide) hRj.q3]
    refine aw_iconst (v := -1) dX5_bitsOf_44 (by decide) ?_
    refine aw_icmp_ne (tgt := 57) dX5_bitsOf_45 (by decide) (fun c45 => ?_) (fun c45 => ?_)
    · refine aw_iinc (v := nI (j + 1)) (ls' := [_, _, _, _, _, _, _]) dX5_bitsOf_57 rfl (nI_1 j) (by decide) rfl rfl ?_
      refine aw_goto (tgt := 17) dX5_bitsOf_60 (by decide) ?_
      refine ih (j + 1) _ I41 (by omega) hU1.toK (fun rv I9 h9 e0 => hQ rv I9 h9 ?_)
      rw [e0]
      rw [ef] at c45
      simp only [btF]
      simp only [c45, not_true_eq_false, not_false_eq_true, and_true, true_and, and_false, false_and, or_true, true_or, or_false, false_or, ite_true, ite_false, if_true, if_false, reduceIte, and_self, or_self]
    · refine aw_iload dX5_bitsOf_48 rfl ?_
      refine aw_iconst (v := 1) dX5_bitsOf_50 (by decide) ?_
      refine aw_iload dX5_bitsOf_51 rfl ?_
      refine aw_ishl dX5_bitsOf_53 ?_
      refine aw_ior dX5_bitsOf_54 ?_
      refine aw_istore (ls' := [_, _, _, _, _, _, _]) dX5_bitsOf_55 (by decide) rfl rfl ?_
      refine aw_iinc (v := nI (j + 1)) (ls' := [_, _, _, _, _, _, _]) dX5_bitsOf_57 rfl (nI_1 j) (by decide) rfl rfl ?_
      refine aw_goto (tgt := 17) dX5_bitsOf_60 (by decide) ?_
      refine ih (j + 1) _ I41 (by omega) hU1.toK (fun rv I9 h9 e0 => hQ rv I9 h9 ?_)
      rw [e0]
      rw [ef] at c45
      simp only [btF]
      simp only [c45, not_true_eq_false, not_false_eq_true, and_true, true_and, and_false, false_and, or_true, true_or, or_false, false_or, ite_true, ite_false, if_true, if_false, reduceIte, and_self, or_self]
theorem l_X5_bitsOf10 {E : Ev} {d : Nat} {M : Mi} {L : Ml} {Z : Mz} {Q : Po} {s p z n N : Nat} {rA tA qA mA aA bA : Nat → Nat} (hG : GZ Z) (hs : s < 4) (hp : p < 5) (hd : 6 ≤ d) (hN : N ≤ 1000) (hR : ∀ v, v < N → RD (iU M 28 3 (nI v)) Z 28 (rA v) (tA v) (qA v) (mA v) (aA v) (bA v) n) (hsz : M (38 + 2 * s) 2 = nI z) (hzn : z ≤ n) : ∀ (k j : Nat) (a : Int32) (I : Mi), j + k = N → SamK 28 3 M I → (∀ (rv : Int32) (I9 : Mi), SamK 28 3 M I9 → rv = btF (fun v => foS (M (38 + 2 * s + 1)) (rbV (iU M 28 3 (nI v)) 28 (qA v) (aA v) (bA v) (mA v) p) z 0) k j a → Q (some (.int rv)) I9 L Z) → AW E yX5_bitsOf cX5_bitsOf 7 (some .int) (rmOf d 0 0) Q 0 0 17 [some (.ref 0), some (.ref (38 + 2 * s)), some (.int (nI p)), some (.int 10), some (.int (nI N)), some (.int a), some (.int (nI j))] [] I L Z := by
  intro k
  induction k with
  | zero =>
    intro j a I hj hk hQ
    refine aw_iload dX5_bitsOf_17 rfl ?_
    refine aw_iload dX5_bitsOf_19 rfl ?_
    refine aw_icmp_ge (tgt := 63) dX5_bitsOf_21 (by decide) (fun c21 => ?_) (fun zz => absurd (by rw [show j = N by omega]; exact Int32.le_refl _) zz)
    refine aw_iload dX5_bitsOf_63 rfl ?_
    refine aw_ireturn (ty := .int) dX5_bitsOf_65 rfl rfl ?_
    exact hQ _ _ hk rfl
  | succ k ih =>
    intro j a I hj hk hQ
    have hRj := hR j (by omega)
    refine aw_iload dX5_bitsOf_17 rfl ?_
    refine aw_iload dX5_bitsOf_19 rfl ?_
    refine aw_icmp_ge (tgt := 63) dX5_bitsOf_21 (by decide) (fun zz => absurd zz (nI_ge (by omega) (by omega))) (fun c21 => ?_)
    refine aw_aload_n dX5_bitsOf_24 rfl rfl ?_
    refine aw_gr dX5_bitsOf_25 fw_X5_35 hG.1 hG.2.2.2.2.2.1 ?_
    refine aw_iload_n dX5_bitsOf_28 rfl ?_
    refine aw_iload_n dX5_bitsOf_29 rfl ?_
    refine aw_iload dX5_bitsOf_30 rfl ?_
    refine aw_V3 dX5_bitsOf_32 cw_X5_87 ⟨_, _, rfl⟩ hG.2.2.2.2.2.2.2.2.2.2.2.1.1 (by omega) ⟨Nat.le_refl _, Nat.le_refl _⟩ (by decide) (c_X0_note10 hG.2.2.2.2.2.2.2.2.2.2.2.1 ?_)
    have hU := hk.set (nI j)
    have hRU := hRj.sam hU
    refine aw_aload_n dX5_bitsOf_35 rfl rfl ?_
    refine aw_gr dX5_bitsOf_36 fw_X5_35 hG.1 hG.2.2.2.2.2.1 ?_
    refine aw_aload_n dX5_bitsOf_39 rfl rfl ?_
    refine aw_iload_n dX5_bitsOf_40 rfl ?_
    refine aw_V2 dX5_bitsOf_41 cw_X5_223 ⟨_, _, rfl⟩ hG.2.2.2.2.2.2.2.2.2.2.2.1.1 (by omega) ⟨Nat.le_refl _, Nat.le_refl _⟩ (by decide) (c_X0_firstOtherwise (by omega) hRU hp (hG.2.2.2.2.2.2.2.2.1 s hs).2 (z := z) (by rw [hU _ (by omega) (by omega), iU_at (by omega)]; exact hsz) hzn (by omega) (fun r41 I41 h41 e41 => ?_))
    have hU1 := hU.tr h41
    have ef : r41 = (fun v => foS (M (38 + 2 * s + 1)) (rbV (iU M 28 3 (nI v)) 28 (qA v) (aA v) (bA v) (mA v) p) z 0) j := by
      rw [e41, hU _ (by omega) (by omega)]
      have ei : (iU M 28 3 (nI j)) (38 + 2 * s + 1) = M (38 + 2 * s + 1) := by funext i; exact iU_at (by omega)
      rw [ei]
      show foS _ _ z 0 = foS _ _ z 0
      rw [show rbV (iU I 28 3 (nI j)) 28 (qA j) (aA j) (bA j) (mA j) p = rbV (iU M 28 3 (nI j)) 28 (qA j) (aA j) (bA j) (mA j) p from funext fun c => rbV_sam hU (by decide) hRj.q3]
    refine aw_iconst (v := -1) dX5_bitsOf_44 (by decide) ?_
    refine aw_icmp_ne (tgt := 57) dX5_bitsOf_45 (by decide) (fun c45 => ?_) (fun c45 => ?_)
    · refine aw_iinc (v := nI (j + 1)) (ls' := [_, _, _, _, _, _, _]) dX5_bitsOf_57 rfl (nI_1 j) (by decide) rfl rfl ?_
      refine aw_goto (tgt := 17) dX5_bitsOf_60 (by decide) ?_
      refine ih (j + 1) _ I41 (by omega) hU1.toK (fun rv I9 h9 e0 => hQ rv I9 h9 ?_)
      rw [e0]
      rw [ef] at c45
      simp only [btF]
      simp only [c45, not_true_eq_false, not_false_eq_true, and_true, true_and, and_false, false_and, or_true, true_or, or_false, false_or, ite_true, ite_false, if_true, if_false, reduceIte, and_self, or_self]
    · refine aw_iload dX5_bitsOf_48 rfl ?_
      refine aw_iconst (v := 1) dX5_bitsOf_50 (by decide) ?_
      refine aw_iload dX5_bitsOf_51 rfl ?_
      refine aw_ishl dX5_bitsOf_53 ?_
      refine aw_ior dX5_bitsOf_54 ?_
      refine aw_istore (ls' := [_, _, _, _, _, _, _]) dX5_bitsOf_55 (by decide) rfl rfl ?_
      refine aw_iinc (v := nI (j + 1)) (ls' := [_, _, _, _, _, _, _]) dX5_bitsOf_57 rfl (nI_1 j) (by decide) rfl rfl ?_
      refine aw_goto (tgt := 17) dX5_bitsOf_60 (by decide) ?_
      refine ih (j + 1) _ I41 (by omega) hU1.toK (fun rv I9 h9 e0 => hQ rv I9 h9 ?_)
      rw [e0]
      rw [ef] at c45
      simp only [btF]
      simp only [c45, not_true_eq_false, not_false_eq_true, and_true, true_and, and_false, false_and, or_true, true_or, or_false, false_or, ite_true, ite_false, if_true, if_false, reduceIte, and_self, or_self]
theorem l_X5_hoursOf0 {E : Ev} {d : Nat} {M : Mi} {L : Ml} {Z : Mz} {Q : Po} {s p z n ru t q mm ma mb : Nat} (hG : GZ Z) (hs : s < 4) (hp : p < 5) (hd : 6 ≤ d) (htq : 45 < t ∧ 45 < q) (hR : RD M Z 28 ru t q mm ma mb n) (hsz : M (38 + 2 * s) 2 = nI z) (hzn : z ≤ n) : ∀ (k j : Nat) (a : Int32) (I : Mi), j + k = 100 → SamK 28 2 M I → (∀ (rv : Int32) (I9 : Mi), SamK 28 2 M I9 → rv = hcF (fun v => foS (M (38 + 2 * s + 1)) (rbV (iU M 28 2 (nI v)) 28 q ma mb mm p) z 0) k j a → Q (some (.int rv)) I9 L Z) → AW E yX5_hoursOf cX5_hoursOf 6 (some .int) (rmOf d 0 0) Q 0 0 17 [some (.ref 0), some (.ref (38 + 2 * s)), some (.int (nI p)), some (.int 0), some (.int a), some (.int (nI j))] [] I L Z := by
  intro k
  induction k with
  | zero =>
    intro j a I hj hk hQ
    refine aw_iload dX5_hoursOf_17 rfl ?_
    refine aw_bipush (v := 100) dX5_hoursOf_19 (by decide) ?_
    refine aw_icmp_ge (tgt := 62) dX5_hoursOf_21 (by decide) (fun c21 => ?_) (fun zz => absurd (by rw [show j = 100 by omega]; decide) zz)
    refine aw_iload_n dX5_hoursOf_62 rfl ?_
    refine aw_if_eq (tgt := 70) dX5_hoursOf_63 (by decide) (fun _ => ?_) (fun zz => absurd zz (by decide))
    refine aw_iload dX5_hoursOf_70 rfl ?_
    refine aw_ireturn (ty := .int) dX5_hoursOf_72 rfl rfl ?_
    exact hQ _ _ hk rfl
  | succ k ih =>
    intro j a I hj hk hQ
    have hRj : RD (iU M 28 2 (nI j)) Z 28 ru t q mm ma mb n := by
      obtain ⟨h1, h2, h3, h4, h5, h6⟩ := hR
      obtain ⟨g1, g2, g3, g4, g5, g6, g7, g8, g9, ga, gb, gc, gd⟩ := h3
      exact ⟨h1, h2, ⟨by rw [iU_at (by omega)]; exact g1, g2, g3, g4, g5, by rw [iU_at (by omega)]; exact g6, by rw [iU_at (by omega)]; exact g7, g8, g9, ga, gb, gc, gd⟩, by rw [iU_at (by omega)]; exact h4, h5, h6⟩
    have hU := hk.set (nI j)
    have hRU := hRj.sam hU
    refine aw_iload dX5_hoursOf_17 rfl ?_
    refine aw_bipush (v := 100) dX5_hoursOf_19 (by decide) ?_
    refine aw_icmp_ge (tgt := 62) dX5_hoursOf_21 (by decide) (fun zz => absurd zz (nI_ge (b := 100) (by omega) (by decide))) (fun c21 => ?_)
    refine aw_aload_n dX5_hoursOf_24 rfl rfl ?_
    refine aw_gr dX5_hoursOf_25 fw_X5_35 hG.1 hG.2.2.2.2.2.1 ?_
    refine aw_iload dX5_hoursOf_28 rfl ?_
    refine aw_pi dX5_hoursOf_30 fw_X5_156 (ww_X5_156 _) hG.2.2.2.2.2.2.2.2.2.2.2.1.1 rfl ?_
    refine aw_aload_n dX5_hoursOf_33 rfl rfl ?_
    refine aw_gr dX5_hoursOf_34 fw_X5_35 hG.1 hG.2.2.2.2.2.1 ?_
    refine aw_aload_n dX5_hoursOf_37 rfl rfl ?_
    refine aw_iload_n dX5_hoursOf_38 rfl ?_
    refine aw_V2 dX5_hoursOf_39 cw_X5_223 ⟨_, _, rfl⟩ hG.2.2.2.2.2.2.2.2.2.2.2.1.1 (by omega) ⟨Nat.le_refl _, Nat.le_refl _⟩ (by decide) (c_X0_firstOtherwise (by omega) hRU hp (hG.2.2.2.2.2.2.2.2.1 s hs).2 (z := z) (by rw [hU _ (by omega) (by omega), iU_at (by omega)]; exact hsz) hzn (by omega) (fun r39 I39 h39 e39 => ?_))
    have hU1 := hU.tr h39
    have ef : r39 = (fun v => foS (M (38 + 2 * s + 1)) (rbV (iU M 28 2 (nI v)) 28 q ma mb mm p) z 0) j := by
      rw [e39, hU _ (by omega) (by omega)]
      have ei : (iU M 28 2 (nI j)) (38 + 2 * s + 1) = M (38 + 2 * s + 1) := by funext i; exact iU_at (by omega)
      rw [ei]
      show foS _ _ z 0 = foS _ _ z 0
      rw [show rbV (iU I 28 2 (nI j)) 28 q ma mb mm p = rbV (iU M 28 2 (nI j)) 28 q ma mb mm p from funext fun c => rbV_sam hU (by decide) hRj.q3]
    refine aw_iconst (v := -1) dX5_hoursOf_42 (by decide) ?_
    refine aw_icmp_ne (tgt := 56) dX5_hoursOf_43 (by decide) (fun c43 => ?_) (fun c43 => ?_)
    · refine aw_iinc (v := nI (j + 1)) (ls' := [_, _, _, _, _, _]) dX5_hoursOf_56 rfl (nI_1 j) (by decide) rfl rfl ?_
      refine aw_goto (tgt := 17) dX5_hoursOf_59 (by decide) ?_
      refine ih (j + 1) _ I39 (by omega) hU1.toK (fun rv I9 h9 e0 => hQ rv I9 h9 ?_)
      rw [e0]
      rw [ef] at c43
      simp only [hcF, hlF]
      simp only [c43, not_true_eq_false, not_false_eq_true, and_true, true_and, and_false, false_and, or_true, true_or, or_false, false_or, ite_true, ite_false, if_true, if_false, reduceIte, and_self, or_self]
    · refine aw_iload_n dX5_hoursOf_46 rfl ?_
      refine aw_if_eq (tgt := 53) dX5_hoursOf_47 (by decide) (fun _ => ?_) (fun zz => absurd zz (by decide))
      refine aw_iinc (v := (a + 1)) (ls' := [_, _, _, _, _, _]) dX5_hoursOf_53 rfl rfl (by decide) rfl rfl ?_
      refine aw_iinc (v := nI (j + 1)) (ls' := [_, _, _, _, _, _]) dX5_hoursOf_56 rfl (nI_1 j) (by decide) rfl rfl ?_
      refine aw_goto (tgt := 17) dX5_hoursOf_59 (by decide) ?_
      refine ih (j + 1) _ I39 (by omega) hU1.toK (fun rv I9 h9 e0 => hQ rv I9 h9 ?_)
      rw [e0]
      rw [ef] at c43
      simp only [hcF, hlF]
      simp only [c43, not_true_eq_false, not_false_eq_true, and_true, true_and, and_false, false_and, or_true, true_or, or_false, false_or, ite_true, ite_false, if_true, if_false, reduceIte, and_self, or_self]
theorem l_X5_hoursOf1 {E : Ev} {d : Nat} {M : Mi} {L : Ml} {Z : Mz} {Q : Po} {s p z n ru t q mm ma mb : Nat} (hG : GZ Z) (hs : s < 4) (hp : p < 5) (hd : 6 ≤ d) (htq : 45 < t ∧ 45 < q) (hR : RD M Z 28 ru t q mm ma mb n) (hsz : M (38 + 2 * s) 2 = nI z) (hzn : z ≤ n) : ∀ (k j : Nat) (a : Int32) (I : Mi), j + k = 100 → SamK 28 2 M I → (∀ (rv : Int32) (I9 : Mi), SamK 28 2 M I9 → rv = hlF (fun v => foS (M (38 + 2 * s + 1)) (rbV (iU M 28 2 (nI v)) 28 q ma mb mm p) z 0) k j → Q (some (.int rv)) I9 L Z) → AW E yX5_hoursOf cX5_hoursOf 6 (some .int) (rmOf d 0 0) Q 0 0 17 [some (.ref 0), some (.ref (38 + 2 * s)), some (.int (nI p)), some (.int 1), some (.int a), some (.int (nI j))] [] I L Z := by
  intro k
  induction k with
  | zero =>
    intro j a I hj hk hQ
    refine aw_iload dX5_hoursOf_17 rfl ?_
    refine aw_bipush (v := 100) dX5_hoursOf_19 (by decide) ?_
    refine aw_icmp_ge (tgt := 62) dX5_hoursOf_21 (by decide) (fun c21 => ?_) (fun zz => absurd (by rw [show j = 100 by omega]; decide) zz)
    refine aw_iload_n dX5_hoursOf_62 rfl ?_
    refine aw_if_eq (tgt := 70) dX5_hoursOf_63 (by decide) (fun zz => absurd zz (by decide)) (fun _ => ?_)
    refine aw_iconst (v := -1) dX5_hoursOf_66 (by decide) ?_
    refine aw_goto (tgt := 72) dX5_hoursOf_67 (by decide) ?_
    refine aw_ireturn (ty := .int) dX5_hoursOf_72 rfl rfl ?_
    exact hQ _ _ hk rfl
  | succ k ih =>
    intro j a I hj hk hQ
    have hRj : RD (iU M 28 2 (nI j)) Z 28 ru t q mm ma mb n := by
      obtain ⟨h1, h2, h3, h4, h5, h6⟩ := hR
      obtain ⟨g1, g2, g3, g4, g5, g6, g7, g8, g9, ga, gb, gc, gd⟩ := h3
      exact ⟨h1, h2, ⟨by rw [iU_at (by omega)]; exact g1, g2, g3, g4, g5, by rw [iU_at (by omega)]; exact g6, by rw [iU_at (by omega)]; exact g7, g8, g9, ga, gb, gc, gd⟩, by rw [iU_at (by omega)]; exact h4, h5, h6⟩
    have hU := hk.set (nI j)
    have hRU := hRj.sam hU
    refine aw_iload dX5_hoursOf_17 rfl ?_
    refine aw_bipush (v := 100) dX5_hoursOf_19 (by decide) ?_
    refine aw_icmp_ge (tgt := 62) dX5_hoursOf_21 (by decide) (fun zz => absurd zz (nI_ge (b := 100) (by omega) (by decide))) (fun c21 => ?_)
    refine aw_aload_n dX5_hoursOf_24 rfl rfl ?_
    refine aw_gr dX5_hoursOf_25 fw_X5_35 hG.1 hG.2.2.2.2.2.1 ?_
    refine aw_iload dX5_hoursOf_28 rfl ?_
    refine aw_pi dX5_hoursOf_30 fw_X5_156 (ww_X5_156 _) hG.2.2.2.2.2.2.2.2.2.2.2.1.1 rfl ?_
    refine aw_aload_n dX5_hoursOf_33 rfl rfl ?_
    refine aw_gr dX5_hoursOf_34 fw_X5_35 hG.1 hG.2.2.2.2.2.1 ?_
    refine aw_aload_n dX5_hoursOf_37 rfl rfl ?_
    refine aw_iload_n dX5_hoursOf_38 rfl ?_
    refine aw_V2 dX5_hoursOf_39 cw_X5_223 ⟨_, _, rfl⟩ hG.2.2.2.2.2.2.2.2.2.2.2.1.1 (by omega) ⟨Nat.le_refl _, Nat.le_refl _⟩ (by decide) (c_X0_firstOtherwise (by omega) hRU hp (hG.2.2.2.2.2.2.2.2.1 s hs).2 (z := z) (by rw [hU _ (by omega) (by omega), iU_at (by omega)]; exact hsz) hzn (by omega) (fun r39 I39 h39 e39 => ?_))
    have hU1 := hU.tr h39
    have ef : r39 = (fun v => foS (M (38 + 2 * s + 1)) (rbV (iU M 28 2 (nI v)) 28 q ma mb mm p) z 0) j := by
      rw [e39, hU _ (by omega) (by omega)]
      have ei : (iU M 28 2 (nI j)) (38 + 2 * s + 1) = M (38 + 2 * s + 1) := by funext i; exact iU_at (by omega)
      rw [ei]
      show foS _ _ z 0 = foS _ _ z 0
      rw [show rbV (iU I 28 2 (nI j)) 28 q ma mb mm p = rbV (iU M 28 2 (nI j)) 28 q ma mb mm p from funext fun c => rbV_sam hU (by decide) hRj.q3]
    refine aw_iconst (v := -1) dX5_hoursOf_42 (by decide) ?_
    refine aw_icmp_ne (tgt := 56) dX5_hoursOf_43 (by decide) (fun c43 => ?_) (fun c43 => ?_)
    · refine aw_iinc (v := nI (j + 1)) (ls' := [_, _, _, _, _, _]) dX5_hoursOf_56 rfl (nI_1 j) (by decide) rfl rfl ?_
      refine aw_goto (tgt := 17) dX5_hoursOf_59 (by decide) ?_
      refine ih (j + 1) _ I39 (by omega) hU1.toK (fun rv I9 h9 e0 => hQ rv I9 h9 ?_)
      rw [e0]
      rw [ef] at c43
      simp only [hcF, hlF]
      simp only [c43, not_true_eq_false, not_false_eq_true, and_true, true_and, and_false, false_and, or_true, true_or, or_false, false_or, ite_true, ite_false, if_true, if_false, reduceIte, and_self, or_self]
    · refine aw_iload_n dX5_hoursOf_46 rfl ?_
      refine aw_if_eq (tgt := 53) dX5_hoursOf_47 (by decide) (fun zz => absurd zz (by decide)) (fun _ => ?_)
      refine aw_iload dX5_hoursOf_50 rfl ?_
      refine aw_ireturn (ty := .int) dX5_hoursOf_52 rfl rfl ?_
      rw [ef] at c43
      refine hQ _ _ hU1.toK ?_
      simp only [hlF]
      simp only [c43, not_true_eq_false, not_false_eq_true, and_true, true_and, and_false, false_and, or_true, true_or, or_false, false_or, ite_true, ite_false, if_true, if_false, reduceIte, and_self, or_self]
theorem l_X5_readersOf {E : Ev} {d : Nat} {I0 : Mi} {L : Ml} {Z : Mz} {Q : Po} {s z n m ru t q mm ma mb : Nat} (hG : GZ Z) (hs : s < 4) (hd : 6 ≤ d) (hR0 : RD I0 Z 10 ru t q mm ma mb n) (hm0 : I0 10 13 = nI m) (hm5 : m ≤ 5) (hsz : I0 (38 + 2 * s) 2 = nI z) (hzn : z ≤ n) : ∀ (k j : Nat) (a : Int32) (I : Mi), j + k = m → SamH 10 I0 I → (∀ (rv : Int32) (I9 : Mi), SamH 10 I0 I9 → rv = btF (fun p => foS (I0 (38 + 2 * s + 1)) (rbV I0 10 q ma mb mm p) z 0) k j a → Q (some (.int rv)) I9 L Z) → AW E yX5_readersOf cX5_readersOf 4 (some .int) (rmOf d 0 0) Q 0 0 4 [some (.ref 0), some (.ref (38 + 2 * s)), some (.int a), some (.int (nI j))] [] I L Z := by
  intro k
  induction k with
  | zero =>
    intro j a I hj hk hQ
    have hm : I 10 13 = nI m := by rw [hk 10 (by decide) (by decide)]; exact hm0
    refine aw_iload_n dX5_readersOf_4 rfl ?_
    refine aw_aload_n dX5_readersOf_5 rfl rfl ?_
    refine aw_gr dX5_readersOf_6 fw_X5_28 hG.1 hG.2.2.2.1 ?_
    refine aw_gi dX5_readersOf_9 fw_X5_256 hG.2.2.2.2.2.2.2.2.2.1.1 ?_
    refine aw_icmp_ge (tgt := 40) dX5_readersOf_12 (by decide) (fun c12 => ?_) (fun zz => absurd (by rw [hm, show j = m by omega]; exact Int32.le_refl _) zz)
    refine aw_iload_n dX5_readersOf_40 rfl ?_
    refine aw_ireturn (ty := .int) dX5_readersOf_41 rfl rfl ?_
    exact hQ _ _ hk rfl
  | succ k ih =>
    intro j a I hj hk hQ
    have hm : I 10 13 = nI m := by rw [hk 10 (by decide) (by decide)]; exact hm0
    have hR := hR0.sam hk
    refine aw_iload_n dX5_readersOf_4 rfl ?_
    refine aw_aload_n dX5_readersOf_5 rfl rfl ?_
    refine aw_gr dX5_readersOf_6 fw_X5_28 hG.1 hG.2.2.2.1 ?_
    refine aw_gi dX5_readersOf_9 fw_X5_256 hG.2.2.2.2.2.2.2.2.2.1.1 ?_
    refine aw_icmp_ge (tgt := 40) dX5_readersOf_12 (by decide) (fun zz => absurd zz (by rw [hm]; exact nI_ge (by omega) (by omega))) (fun c12 => ?_)
    refine aw_aload_n dX5_readersOf_15 rfl rfl ?_
    refine aw_gr dX5_readersOf_16 fw_X5_28 hG.1 hG.2.2.2.1 ?_
    refine aw_aload_n dX5_readersOf_19 rfl rfl ?_
    refine aw_iload_n dX5_readersOf_20 rfl ?_
    refine aw_V2 dX5_readersOf_21 cw_X5_223 ⟨_, _, rfl⟩ hG.2.2.2.2.2.2.2.2.2.1.1 (by omega) ⟨Nat.le_refl _, Nat.le_refl _⟩ (by decide) (c_X0_firstOtherwise (by omega) hR (show j < 5 by omega) (hG.2.2.2.2.2.2.2.2.1 s hs).2 (z := z) (by rw [hk _ (by omega) (by omega)]; exact hsz) hzn (by omega) (fun r21 I21 h21 e21 => ?_))
    have ef : r21 = foS (I0 (38 + 2 * s + 1)) (rbV I0 10 q ma mb mm j) z 0 := by
      rw [e21, hk _ (by omega) (by omega), show rbV I 10 q ma mb mm j = rbV I0 10 q ma mb mm j from funext fun c => rbV_sam hk (by decide) hR0.q3]
    refine aw_iconst (v := -1) dX5_readersOf_24 (by decide) ?_
    refine aw_icmp_ne (tgt := 34) dX5_readersOf_25 (by decide) (fun c25 => ?_) (fun c25 => ?_)
    · refine aw_iinc (v := nI (j + 1)) (ls' := [_, _, _, _]) dX5_readersOf_34 rfl (nI_1 j) (by decide) rfl rfl ?_
      refine aw_goto (tgt := 4) dX5_readersOf_37 (by decide) ?_
      refine ih (j + 1) _ I21 (by omega) (hk.tr h21) (fun rv I9 h9 e0 => hQ rv I9 h9 ?_)
      rw [e0]
      rw [ef] at c25
      simp only [btF]
      simp only [c25, not_true_eq_false, not_false_eq_true, and_true, true_and, and_false, false_and, or_true, true_or, or_false, false_or, ite_true, ite_false, if_true, if_false, reduceIte, and_self, or_self]
    · refine aw_iload_n dX5_readersOf_28 rfl ?_
      refine aw_iconst (v := 1) dX5_readersOf_29 (by decide) ?_
      refine aw_iload_n dX5_readersOf_30 rfl ?_
      refine aw_ishl dX5_readersOf_31 ?_
      refine aw_ior dX5_readersOf_32 ?_
      refine aw_istore_n (ls' := [_, _, _, _]) dX5_readersOf_33 (by decide) rfl rfl ?_
      refine aw_iinc (v := nI (j + 1)) (ls' := [_, _, _, _]) dX5_readersOf_34 rfl (nI_1 j) (by decide) rfl rfl ?_
      refine aw_goto (tgt := 4) dX5_readersOf_37 (by decide) ?_
      refine ih (j + 1) _ I21 (by omega) (hk.tr h21) (fun rv I9 h9 e0 => hQ rv I9 h9 ?_)
      rw [e0]
      rw [ef] at c25
      simp only [btF]
      simp only [c25, not_true_eq_false, not_false_eq_true, and_true, true_and, and_false, false_and, or_true, true_or, or_false, false_or, ite_true, ite_false, if_true, if_false, reduceIte, and_self, or_self]
