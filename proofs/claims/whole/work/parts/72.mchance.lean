/-! ===== the reference: chance ===== -/
def EqD (M1 M2 : Mi) : Prop := M2 48 7 = M1 48 7 ∧ M2 48 8 = M1 48 8 ∧ M2 48 12 = M1 48 12 ∧ M2 52 = M1 52 ∧ M2 54 = M1 54 ∧ M2 55 = M1 55 ∧ ∀ i, i < 2 * (M1 48 12).toNatClampNeg → M2 53 i = M1 53 i
theorem rbM_eqd {M1 M2 : Mi} {W : Nat → (Nat → Int32) → Int32} {p c : Nat} (h : EqD M1 M2) : rbM M2 W p c = rbM M1 W p c := by
  obtain ⟨h7, h8, h12, h52, h54, h55, h53⟩ := h
  simp only [rbM, rlM, h52, h54, h55, h8]
theorem sdM_eqd {M1 M2 : Mi} {W : Nat → (Nat → Int32) → Int32} {p : Nat} (h : EqD M1 M2) : sdM M2 W p ↔ sdM M1 W p := by
  obtain ⟨h7, h8, h12, h52, h54, h55, h53⟩ := h
  unfold sdM rlO
  rw [h54, h55, h8]
theorem rsM_eqd {M1 M2 : Mi} {r p c : Nat} {v : Int32} (h : EqD M1 M2) (hr : (M1 48 12).toNatClampNeg = r) (hr2 : r < 12) : EqD (rsM M1 r p c v) (rsM M2 r p c v) := by
  obtain ⟨h7, h8, h12, h52, h54, h55, h53⟩ := h
  have hc : rsM M1 r p c v 48 12 = nI (r + 1) := by unfold rsM; rw [iU_at (by omega), iU_at (by omega), iU_same]
  refine ⟨?_, ?_, ?_, ?_, ?_, ?_, ?_⟩
  · unfold rsM
    rw [iU_at (by omega), iU_at (by omega), iU_at (by omega), iU_at (by omega), iU_at (by omega), iU_at (by omega), iU_at (by omega), iU_at (by omega), iU_at (by omega), iU_at (by omega)]
    exact h7
  · rw [rsM_8, rsM_8, h8]
  · rw [hc]; unfold rsM; rw [iU_at (by omega), iU_at (by omega), iU_same]
  · funext j
    unfold rsM
    rw [iU_at (by omega), iU_at (by omega), iU_at (by omega), iU_at (by omega), iU_at (by omega), iU_at (by omega), iU_at (by omega), iU_at (by omega), iU_at (by omega), iU_at (by omega), h52]
  · funext j
    unfold rsM
    rw [iU_at (by omega), iU_at (by omega), iU_at (by omega), iU_at (by omega), iU_at (by omega), iU_at (by omega), iU_at (by omega), iU_at (by omega), iU_at (by omega), iU_at (by omega), h54]
  · funext j
    simp only [rsM, iU, h52, h55, h8, Nat.reduceEqDiff, false_and, if_false]
  · intro i hi
    rw [hc, nI_clamp (by omega)] at hi
    simp only [rsM, iU, h52, h55, h8, Nat.reduceEqDiff, false_and, if_false, true_and]
    by_cases e1 : i = 2 * r + 1
    · rw [if_pos e1, if_pos e1]
    · rw [if_neg e1, if_neg e1]
      by_cases e2 : i = 2 * r
      · rw [if_pos e2, if_pos e2]
      · rw [if_neg e2, if_neg e2]
        exact h53 i (by omega)
theorem dm_eqd {W : Nat → (Nat → Int32) → Int32} {n m : Nat} : ∀ (k : Nat) (z : Int32) (M1 M2 : Mi), EqD M1 M2 → EqD (dmF W n m k z M1) (dmF W n m k z M2) := by
  intro k
  induction k with
  | zero => intro z M1 M2 h; exact h
  | succ k ih =>
    intro z M1 M2 h
    simp only [dmF]
    have e12 : M2 48 12 = M1 48 12 := h.2.2.1
    by_cases hc : (M1 48 12).toNatClampNeg < 12 ∧ (dwP (z * 1103515245 + 12345) < m ∧ dwP ((z * 1103515245 + 12345) * 1103515245 + 12345) < n) ∧ sdM M1 W (dwP (z * 1103515245 + 12345))
    · rw [if_pos hc, if_pos ⟨by rw [e12]; exact hc.1, hc.2.1, (sdM_eqd h).mpr hc.2.2⟩, rbM_eqd h, e12]
      exact ih _ _ _ (rsM_eqd h rfl hc.1)
    · rw [if_neg hc, if_neg (fun w => hc ⟨by rw [← e12]; exact w.1, w.2.1, (sdM_eqd h).mp w.2.2⟩)]
      exact ih _ _ _ h
theorem fm_eqd {M1 M2 : Mi} (h : EqD M1 M2) : fmM M2 = fmM M1 := by
  obtain ⟨h7, h8, h12, h52, h54, h55, h53⟩ := h
  unfold fmM
  rw [h7, h12, fo_con (s := fun i => M1 53 (2 * i)) (b := fun i => M1 53 (2 * i + 1)) (fun i hi => ⟨h53 _ (by omega), h53 _ (by omega)⟩)]
theorem fdM_sad {I F : Mi} {W : Nat → (Nat → Int32) → Int32} {n m k r : Nat} {s : Int32} (h : SaD r I F) (hrn : I 48 12 = nI r) (hr : r ≤ 12) : fdM F W n m k s = fdM I W n m k s := by
  unfold fdM
  refine fm_eqd (dm_eqd k s _ _ ⟨?_, ?_, ?_, ?_, ?_, ?_, ?_⟩)
  · rw [cpI_row (by omega), cpI_row (by omega)]; exact h _ _ (by omega) (by omega) (by omega)
  · rw [cpI_row (by omega), cpI_row (by omega)]; exact h _ _ (by omega) (by omega) (by omega)
  · rw [cpI_row (by omega), cpI_row (by omega)]; exact h _ _ (by omega) (by omega) (by omega)
  · rw [cpI_row (by omega), cpI_row (by omega)]; funext j; exact h _ _ (by omega) (by omega) (by omega)
  · rw [cpI_row (by omega), cpI_row (by omega)]; funext j; exact h _ _ (by omega) (by omega) (by omega)
  · rw [cpI_row (by omega), cpI_row (by omega)]; funext j; exact h _ _ (by omega) (by omega) (by omega)
  · intro i hi
    rw [cpI_row (by omega), hrn, nI_clamp (by omega)] at hi
    rw [cpI_row (by omega), cpI_row (by omega)]
    exact h _ _ (by omega) (by omega) (by omega)
theorem SaD.rf {I : Mi} {r : Nat} : SaD r I I := fun _ _ _ _ _ => rfl
theorem SaD.tr {I J K : Mi} {r : Nat} (s : SaD r I J) (t : SaD r J K) : SaD r I K := fun a j h g e => (t a j h g e).trans (s a j h g e)
theorem SaD.row {I J : Mi} {r a : Nat} (s : SaD r I J) (h : a ≠ 48) (g : a ≠ 53) (e : a ≠ 56) : J a = I a := by
  funext j
  exact s a j (by omega) (by omega) e
theorem RDM.sad {I J : Mi} {W : Nat → (Nat → Int32) → Int32} {ru n m r : Nat} (h : RDM I W ru n m) (s : SaD r I J) : RDM J W ru n m :=
  h.eqv (s _ _ (by omega) (by omega) (by omega)) (s.row (by omega) (by omega) (by omega)) (s.row (by omega) (by omega) (by omega)) (s _ _ (by omega) (by omega) (by omega)) (s _ _ (by omega) (by omega) (by omega)) (s.row (by omega) (by omega) (by omega)) (s.row (by omega) (by omega) (by omega)) (by rw [s _ _ (by omega) (by omega) (by omega)]; exact h.2.2.2.2.2)
theorem l_X6_chance0 {E : Ev} {d : Nat} {I : Mi} {Z : Mz} {Q : Po} {W : Nat → (Nat → Int32) → Int32} {ru n m : Nat} {r M0 : Nat} {x z sd : Int32} (hd : 47 ≤ d) (hM : MZ Z) (hR : RDM I W ru n m) (hrn : I 48 12 = nI r) (hr : r ≤ 12) (hb : ∀ i, i < r → Bo (I 53 (2 * i + 1))) (hto : ∀ c, c < n → Bo (I 52 (2 * c + 1))) (hH : ∃ H, H ≤ 1500 ∧ I 48 8 = nI H) (hsd : I 48 7 = sd) (hs2 : S12 sd) (hM1 : 1 ≤ M0) (hM2 : M0 ≤ 10) : ∀ (k j a : Nat) (F : Mi) (L : Ml), j + k = M0 → a ≤ j → SaD r I F → (∀ (rv : Int64) (J : Mi) (K9 : Ml), SaD r I J → rv = lN ((chF (fdM I W n m 6) z x k j a) / Nat.gcd (chF (fdM I W n m 6) z x k j a) M0) → Q (some (.long rv)) J K9 Z) → AW E yX6_chance cX6_chance 8 (some .long) (rmOf d 0 0) Q 0 0 45 [some (.ref 48), some (.int x), some (.int (nI M0)), some (.int z), some (.int 0), some (.long (lN a)), none, some (.int (nI j))] [] F L Z := by
  intro k
  induction k with
  | zero =>
    intro j a F L hj ha sF hQ
    refine aw_iload dX6_chance_45 rfl ?_
    refine aw_iload_n dX6_chance_47 rfl ?_
    refine aw_icmp_ge (tgt := 81) dX6_chance_48 (by decide) (fun c48 => ?_) (fun zz => absurd (by rw [show j = M0 by omega]; exact Int32.le_refl _) zz)
    refine aw_lload dX6_chance_81 rfl ?_
    refine aw_iload_n dX6_chance_83 rfl ?_
    refine aw_i2l dX6_chance_84 ?_
    rw [i2l_nI (by omega)]
    refine aw_iload dX6_chance_85 rfl ?_
    refine aw_S3 dX6_chance_87 cw_X6_406 (by omega) ⟨Nat.le_refl _, Nat.le_refl _⟩ (by decide) (c_X6_lowest0 (a := a) (b := M0) (by omega) (by omega) (by omega) (fun rv e => ?_))
    refine aw_lreturn dX6_chance_90 rfl ?_
    exact hQ _ _ _ sF e
  | succ k ih =>
    intro j a F L hj ha sF hQ
    refine aw_iload dX6_chance_45 rfl ?_
    refine aw_iload_n dX6_chance_47 rfl ?_
    refine aw_icmp_ge (tgt := 81) dX6_chance_48 (by decide) (fun zz => absurd zz (nI_ge (by omega) (by omega))) (fun c48 => ?_)
    refine aw_lload dX6_chance_51 rfl ?_
    refine aw_aload_n dX6_chance_53 rfl rfl ?_
    refine aw_iload_n dX6_chance_54 rfl ?_
    refine aw_iload dX6_chance_55 rfl ?_
    refine aw_iadd dX6_chance_57 ?_
    refine aw_bipush (v := 6) dX6_chance_58 (by decide) ?_
    refine aw_V2 dX6_chance_60 cw_X6_427 ⟨_, _, rfl⟩ hM.1 (by omega) ⟨Nat.le_refl _, Nat.le_refl _⟩ (by simp [Value.category, psh]) (c_X6_followDrawn (K := 6) (sd := sd) (by omega) hM (hR.sad sF) (by rw [sF _ _ (by omega) (by omega) (by omega)]; exact hrn) hr (fun i hi => by rw [sF _ _ (by omega) (by omega) (by omega)]; exact hb i hi) (by rw [sF.row (by omega) (by omega) (by omega)]; exact hto) (by rw [sF _ _ (by omega) (by omega) (by omega)]; exact hH) (by rw [sF _ _ (by omega) (by omega) (by omega)]; exact hsd) hs2 (by decide) (fun rf J9 L9 t9 e9 => ?_))
    rw [fdM_sad sF hrn hr] at e9
    refine aw_iload_n dX6_chance_63 rfl ?_
    refine aw_icmp_lt (tgt := 71) dX6_chance_64 (by decide) (fun c64 => ?_) (fun c64 => ?_)
    · refine aw_lconst (v := 0) dX6_chance_71 (by decide) ?_
      refine aw_ladd dX6_chance_72 ?_
      refine aw_lstore (ls' := [_, _, _, _, _, _, _, _]) dX6_chance_73 (by decide) rfl rfl ?_
      refine aw_iinc (v := nI (j + 1)) (ls' := [_, _, _, _, _, _, _, _]) dX6_chance_75 rfl (nI_1 j) (by decide) rfl rfl ?_
      refine aw_goto (tgt := 45) dX6_chance_78 (by decide) ?_
      rw [e9] at c64
      first
        | (rw [show lN a + (0 : Int64) = lN a from Int64.add_zero _]
           refine ih (j + 1) a _ _ (by omega) (by omega) (sF.tr t9) (fun rv J K9 t e => hQ rv J K9 t ?_)
           rw [e]
           simp only [chF]
           rw [if_pos c64])
        | (rw [lN_1]
           refine ih (j + 1) (a + 1) _ _ (by omega) (by omega) (sF.tr t9) (fun rv J K9 t e => hQ rv J K9 t ?_)
           rw [e]
           simp only [chF]
           rw [if_neg c64])
    · refine aw_lconst (v := 1) dX6_chance_67 (by decide) ?_
      refine aw_goto (tgt := 72) dX6_chance_68 (by decide) ?_
      refine aw_ladd dX6_chance_72 ?_
      refine aw_lstore (ls' := [_, _, _, _, _, _, _, _]) dX6_chance_73 (by decide) rfl rfl ?_
      refine aw_iinc (v := nI (j + 1)) (ls' := [_, _, _, _, _, _, _, _]) dX6_chance_75 rfl (nI_1 j) (by decide) rfl rfl ?_
      refine aw_goto (tgt := 45) dX6_chance_78 (by decide) ?_
      rw [e9] at c64
      first
        | (rw [show lN a + (0 : Int64) = lN a from Int64.add_zero _]
           refine ih (j + 1) a _ _ (by omega) (by omega) (sF.tr t9) (fun rv J K9 t e => hQ rv J K9 t ?_)
           rw [e]
           simp only [chF]
           rw [if_pos c64])
        | (rw [lN_1]
           refine ih (j + 1) (a + 1) _ _ (by omega) (by omega) (sF.tr t9) (fun rv J K9 t e => hQ rv J K9 t ?_)
           rw [e]
           simp only [chF]
           rw [if_neg c64])
theorem c_X6_chance0 {E : Ev} {d : Nat} {I : Mi} {L : Ml} {Z : Mz} {Q : Po} {x : Int32} {y : Int32} {z : Int32} {W : Nat → (Nat → Int32) → Int32} {ru n m : Nat} {r : Nat} {sd : Int32} (hd : 47 ≤ d) (hM : MZ Z) (hR : RDM I W ru n m) (hrn : I 48 12 = nI r) (hr : r ≤ 12) (hb : ∀ i, i < r → Bo (I 53 (2 * i + 1))) (hto : ∀ c, c < n → Bo (I 52 (2 * c + 1))) (hH : ∃ H, H ≤ 1500 ∧ I 48 8 = nI H) (hsd : I 48 7 = sd) (hs2 : S12 sd) (hB : ¬ ((¬ y < 1 ∧ ¬ 10 < y) ∧ (¬ z < 0 ∧ ¬ 12 < z)) → Q (some (.long (-4611686018427387904))) I L Z) (hS : ∀ M0, 1 ≤ M0 → M0 ≤ 10 → y = nI M0 → (¬ z < 0 ∧ ¬ 12 < z) → ∀ (rv : Int64) (J : Mi) (K9 : Ml), SaD r I J → rv = lN (chF (fdM I W n m 6) z x M0 0 0 / Nat.gcd (chF (fdM I W n m 6) z x M0 0 0) M0) → Q (some (.long rv)) J K9 Z) : AC E yX6_chance cX6_chance 8 (some .long) d 0 0 [.ref 48, .int x, .int y, .int z, .int 0] I L Z Q := by
  refine ac_go (ls := [some (.ref 48), some (.int x), some (.int y), some (.int z), some (.int 0), none, none, none]) (by decide +kernel) (Nat.le_of_ble_eq_true rfl) rfl ?_
  refine aw_iload_n dX6_chance_0 rfl ?_
  refine aw_i2l dX6_chance_1 ?_
  refine aw_lconst (v := 1) dX6_chance_2 (by decide) ?_
  refine aw_ldc2 dX6_chance_3 kw_X6_168 ?_
  refine aw_S3 dX6_chance_6 cw_X6_73 (by omega) ⟨Nat.le_refl _, Nat.le_refl _⟩ (by decide) (c_X6_in (x := y) (a := 1) (b := 10) rfl (by decide) (by decide) (fun c6 => ?_) (fun c6 => ?_))
  · refine aw_if_eq (tgt := 35) dX6_chance_9 (by decide) (fun zz => absurd zz (by decide)) (fun _ => ?_)
    refine aw_iload_n dX6_chance_12 rfl ?_
    refine aw_i2l dX6_chance_13 ?_
    refine aw_lconst (v := 0) dX6_chance_14 (by decide) ?_
    refine aw_ldc2 dX6_chance_15 kw_X6_404 ?_
    refine aw_S3 dX6_chance_18 cw_X6_73 (by omega) ⟨Nat.le_refl _, Nat.le_refl _⟩ (by decide) (c_X6_in (x := z) (a := 0) (b := 12) rfl (by decide) (by decide) (fun c18 => ?_) (fun c18 => ?_))
    · refine aw_if_eq (tgt := 35) dX6_chance_21 (by decide) (fun zz => absurd zz (by decide)) (fun _ => ?_)
      refine aw_iload dX6_chance_24 rfl ?_
      refine aw_i2l dX6_chance_26 ?_
      refine aw_lconst (v := 0) dX6_chance_27 (by decide) ?_
      refine aw_lconst (v := 1) dX6_chance_28 (by decide) ?_
      refine aw_S3 dX6_chance_29 cw_X6_73 (by omega) ⟨Nat.le_refl _, Nat.le_refl _⟩ (by decide) (c_X6_in (x := 0) (a := 0) (b := 1) rfl (by decide) (by decide) (fun c29 => ?_) (fun zz => absurd (by decide) zz))
      refine aw_if_ne (tgt := 39) dX6_chance_32 (by decide) (fun _ => ?_) (fun zz => absurd zz (by decide))
      refine aw_lconst (v := 0) dX6_chance_39 (by decide) ?_
      refine aw_lstore (ls' := [_, _, _, _, _, _, _, _]) dX6_chance_40 (by decide) rfl rfl ?_
      refine aw_iconst (v := 0) dX6_chance_42 (by decide) ?_
      refine aw_istore (ls' := [_, _, _, _, _, _, _, _]) dX6_chance_43 (by decide) rfl rfl ?_
      obtain ⟨M0, hM2, rfl⟩ := nI_of2 (M := 10) (n := 10) (by decide) (fun g => c6.1 (Int32.lt_trans g (by decide))) (Int32.not_lt.mp c6.2)
      have hM1 : 1 ≤ M0 := Nat.not_lt.mp fun g => c6.1 (nI_lt (b := 1) g (by decide))
      exact l_X6_chance0 hd hM hR hrn hr hb hto hH hsd hs2 hM1 hM2 M0 0 0 I _ (by omega) (Nat.le_refl _) SaD.rf (hS M0 hM1 hM2 rfl c18)
    · refine aw_if_eq (tgt := 35) dX6_chance_21 (by decide) (fun _ => ?_) (fun zz => absurd zz (by decide))
      refine aw_ldc2 dX6_chance_35 kw_X6_410 ?_
      refine aw_lreturn dX6_chance_38 rfl ?_
      exact hB (fun zz => c18 zz.2)
  · refine aw_if_eq (tgt := 35) dX6_chance_9 (by decide) (fun _ => ?_) (fun zz => absurd zz (by decide))
    refine aw_ldc2 dX6_chance_35 kw_X6_410 ?_
    refine aw_lreturn dX6_chance_38 rfl ?_
    exact hB (fun zz => c6 zz.1)
theorem l_X6_chance1 {E : Ev} {d : Nat} {I : Mi} {Z : Mz} {Q : Po} {W : Nat → (Nat → Int32) → Int32} {ru n m : Nat} {r M0 : Nat} {x z sd : Int32} (hd : 47 ≤ d) (hM : MZ Z) (hR : RDM I W ru n m) (hrn : I 48 12 = nI r) (hr : r ≤ 12) (hb : ∀ i, i < r → Bo (I 53 (2 * i + 1))) (hto : ∀ c, c < n → Bo (I 52 (2 * c + 1))) (hH : ∃ H, H ≤ 1500 ∧ I 48 8 = nI H) (hsd : I 48 7 = sd) (hs2 : S12 sd) (hM1 : 1 ≤ M0) (hM2 : M0 ≤ 10) : ∀ (k j a : Nat) (F : Mi) (L : Ml), j + k = M0 → a ≤ j → SaD r I F → (∀ (rv : Int64) (J : Mi) (K9 : Ml), SaD r I J → rv = lN (M0 / Nat.gcd (chF (fdM I W n m 6) z x k j a) M0) → Q (some (.long rv)) J K9 Z) → AW E yX6_chance cX6_chance 8 (some .long) (rmOf d 0 0) Q 0 0 45 [some (.ref 48), some (.int x), some (.int (nI M0)), some (.int z), some (.int 1), some (.long (lN a)), none, some (.int (nI j))] [] F L Z := by
  intro k
  induction k with
  | zero =>
    intro j a F L hj ha sF hQ
    refine aw_iload dX6_chance_45 rfl ?_
    refine aw_iload_n dX6_chance_47 rfl ?_
    refine aw_icmp_ge (tgt := 81) dX6_chance_48 (by decide) (fun c48 => ?_) (fun zz => absurd (by rw [show j = M0 by omega]; exact Int32.le_refl _) zz)
    refine aw_lload dX6_chance_81 rfl ?_
    refine aw_iload_n dX6_chance_83 rfl ?_
    refine aw_i2l dX6_chance_84 ?_
    rw [i2l_nI (by omega)]
    refine aw_iload dX6_chance_85 rfl ?_
    refine aw_S3 dX6_chance_87 cw_X6_406 (by omega) ⟨Nat.le_refl _, Nat.le_refl _⟩ (by decide) (c_X6_lowest1 (a := a) (b := M0) (by omega) (by omega) (by omega) (fun rv e => ?_))
    refine aw_lreturn dX6_chance_90 rfl ?_
    exact hQ _ _ _ sF e
  | succ k ih =>
    intro j a F L hj ha sF hQ
    refine aw_iload dX6_chance_45 rfl ?_
    refine aw_iload_n dX6_chance_47 rfl ?_
    refine aw_icmp_ge (tgt := 81) dX6_chance_48 (by decide) (fun zz => absurd zz (nI_ge (by omega) (by omega))) (fun c48 => ?_)
    refine aw_lload dX6_chance_51 rfl ?_
    refine aw_aload_n dX6_chance_53 rfl rfl ?_
    refine aw_iload_n dX6_chance_54 rfl ?_
    refine aw_iload dX6_chance_55 rfl ?_
    refine aw_iadd dX6_chance_57 ?_
    refine aw_bipush (v := 6) dX6_chance_58 (by decide) ?_
    refine aw_V2 dX6_chance_60 cw_X6_427 ⟨_, _, rfl⟩ hM.1 (by omega) ⟨Nat.le_refl _, Nat.le_refl _⟩ (by simp [Value.category, psh]) (c_X6_followDrawn (K := 6) (sd := sd) (by omega) hM (hR.sad sF) (by rw [sF _ _ (by omega) (by omega) (by omega)]; exact hrn) hr (fun i hi => by rw [sF _ _ (by omega) (by omega) (by omega)]; exact hb i hi) (by rw [sF.row (by omega) (by omega) (by omega)]; exact hto) (by rw [sF _ _ (by omega) (by omega) (by omega)]; exact hH) (by rw [sF _ _ (by omega) (by omega) (by omega)]; exact hsd) hs2 (by decide) (fun rf J9 L9 t9 e9 => ?_))
    rw [fdM_sad sF hrn hr] at e9
    refine aw_iload_n dX6_chance_63 rfl ?_
    refine aw_icmp_lt (tgt := 71) dX6_chance_64 (by decide) (fun c64 => ?_) (fun c64 => ?_)
    · refine aw_lconst (v := 0) dX6_chance_71 (by decide) ?_
      refine aw_ladd dX6_chance_72 ?_
      refine aw_lstore (ls' := [_, _, _, _, _, _, _, _]) dX6_chance_73 (by decide) rfl rfl ?_
      refine aw_iinc (v := nI (j + 1)) (ls' := [_, _, _, _, _, _, _, _]) dX6_chance_75 rfl (nI_1 j) (by decide) rfl rfl ?_
      refine aw_goto (tgt := 45) dX6_chance_78 (by decide) ?_
      rw [e9] at c64
      first
        | (rw [show lN a + (0 : Int64) = lN a from Int64.add_zero _]
           refine ih (j + 1) a _ _ (by omega) (by omega) (sF.tr t9) (fun rv J K9 t e => hQ rv J K9 t ?_)
           rw [e]
           simp only [chF]
           rw [if_pos c64])
        | (rw [lN_1]
           refine ih (j + 1) (a + 1) _ _ (by omega) (by omega) (sF.tr t9) (fun rv J K9 t e => hQ rv J K9 t ?_)
           rw [e]
           simp only [chF]
           rw [if_neg c64])
    · refine aw_lconst (v := 1) dX6_chance_67 (by decide) ?_
      refine aw_goto (tgt := 72) dX6_chance_68 (by decide) ?_
      refine aw_ladd dX6_chance_72 ?_
      refine aw_lstore (ls' := [_, _, _, _, _, _, _, _]) dX6_chance_73 (by decide) rfl rfl ?_
      refine aw_iinc (v := nI (j + 1)) (ls' := [_, _, _, _, _, _, _, _]) dX6_chance_75 rfl (nI_1 j) (by decide) rfl rfl ?_
      refine aw_goto (tgt := 45) dX6_chance_78 (by decide) ?_
      rw [e9] at c64
      first
        | (rw [show lN a + (0 : Int64) = lN a from Int64.add_zero _]
           refine ih (j + 1) a _ _ (by omega) (by omega) (sF.tr t9) (fun rv J K9 t e => hQ rv J K9 t ?_)
           rw [e]
           simp only [chF]
           rw [if_pos c64])
        | (rw [lN_1]
           refine ih (j + 1) (a + 1) _ _ (by omega) (by omega) (sF.tr t9) (fun rv J K9 t e => hQ rv J K9 t ?_)
           rw [e]
           simp only [chF]
           rw [if_neg c64])
theorem c_X6_chance1 {E : Ev} {d : Nat} {I : Mi} {L : Ml} {Z : Mz} {Q : Po} {x : Int32} {y : Int32} {z : Int32} {W : Nat → (Nat → Int32) → Int32} {ru n m : Nat} {r : Nat} {sd : Int32} (hd : 47 ≤ d) (hM : MZ Z) (hR : RDM I W ru n m) (hrn : I 48 12 = nI r) (hr : r ≤ 12) (hb : ∀ i, i < r → Bo (I 53 (2 * i + 1))) (hto : ∀ c, c < n → Bo (I 52 (2 * c + 1))) (hH : ∃ H, H ≤ 1500 ∧ I 48 8 = nI H) (hsd : I 48 7 = sd) (hs2 : S12 sd) (hB : ¬ ((¬ y < 1 ∧ ¬ 10 < y) ∧ (¬ z < 0 ∧ ¬ 12 < z)) → Q (some (.long (-4611686018427387904))) I L Z) (hS : ∀ M0, 1 ≤ M0 → M0 ≤ 10 → y = nI M0 → (¬ z < 0 ∧ ¬ 12 < z) → ∀ (rv : Int64) (J : Mi) (K9 : Ml), SaD r I J → rv = lN (M0 / Nat.gcd (chF (fdM I W n m 6) z x M0 0 0) M0) → Q (some (.long rv)) J K9 Z) : AC E yX6_chance cX6_chance 8 (some .long) d 0 0 [.ref 48, .int x, .int y, .int z, .int 1] I L Z Q := by
  refine ac_go (ls := [some (.ref 48), some (.int x), some (.int y), some (.int z), some (.int 1), none, none, none]) (by decide +kernel) (Nat.le_of_ble_eq_true rfl) rfl ?_
  refine aw_iload_n dX6_chance_0 rfl ?_
  refine aw_i2l dX6_chance_1 ?_
  refine aw_lconst (v := 1) dX6_chance_2 (by decide) ?_
  refine aw_ldc2 dX6_chance_3 kw_X6_168 ?_
  refine aw_S3 dX6_chance_6 cw_X6_73 (by omega) ⟨Nat.le_refl _, Nat.le_refl _⟩ (by decide) (c_X6_in (x := y) (a := 1) (b := 10) rfl (by decide) (by decide) (fun c6 => ?_) (fun c6 => ?_))
  · refine aw_if_eq (tgt := 35) dX6_chance_9 (by decide) (fun zz => absurd zz (by decide)) (fun _ => ?_)
    refine aw_iload_n dX6_chance_12 rfl ?_
    refine aw_i2l dX6_chance_13 ?_
    refine aw_lconst (v := 0) dX6_chance_14 (by decide) ?_
    refine aw_ldc2 dX6_chance_15 kw_X6_404 ?_
    refine aw_S3 dX6_chance_18 cw_X6_73 (by omega) ⟨Nat.le_refl _, Nat.le_refl _⟩ (by decide) (c_X6_in (x := z) (a := 0) (b := 12) rfl (by decide) (by decide) (fun c18 => ?_) (fun c18 => ?_))
    · refine aw_if_eq (tgt := 35) dX6_chance_21 (by decide) (fun zz => absurd zz (by decide)) (fun _ => ?_)
      refine aw_iload dX6_chance_24 rfl ?_
      refine aw_i2l dX6_chance_26 ?_
      refine aw_lconst (v := 0) dX6_chance_27 (by decide) ?_
      refine aw_lconst (v := 1) dX6_chance_28 (by decide) ?_
      refine aw_S3 dX6_chance_29 cw_X6_73 (by omega) ⟨Nat.le_refl _, Nat.le_refl _⟩ (by decide) (c_X6_in (x := 1) (a := 0) (b := 1) rfl (by decide) (by decide) (fun c29 => ?_) (fun zz => absurd (by decide) zz))
      refine aw_if_ne (tgt := 39) dX6_chance_32 (by decide) (fun _ => ?_) (fun zz => absurd zz (by decide))
      refine aw_lconst (v := 0) dX6_chance_39 (by decide) ?_
      refine aw_lstore (ls' := [_, _, _, _, _, _, _, _]) dX6_chance_40 (by decide) rfl rfl ?_
      refine aw_iconst (v := 0) dX6_chance_42 (by decide) ?_
      refine aw_istore (ls' := [_, _, _, _, _, _, _, _]) dX6_chance_43 (by decide) rfl rfl ?_
      obtain ⟨M0, hM2, rfl⟩ := nI_of2 (M := 10) (n := 10) (by decide) (fun g => c6.1 (Int32.lt_trans g (by decide))) (Int32.not_lt.mp c6.2)
      have hM1 : 1 ≤ M0 := Nat.not_lt.mp fun g => c6.1 (nI_lt (b := 1) g (by decide))
      exact l_X6_chance1 hd hM hR hrn hr hb hto hH hsd hs2 hM1 hM2 M0 0 0 I _ (by omega) (Nat.le_refl _) SaD.rf (hS M0 hM1 hM2 rfl c18)
    · refine aw_if_eq (tgt := 35) dX6_chance_21 (by decide) (fun _ => ?_) (fun zz => absurd zz (by decide))
      refine aw_ldc2 dX6_chance_35 kw_X6_410 ?_
      refine aw_lreturn dX6_chance_38 rfl ?_
      exact hB (fun zz => c18 zz.2)
  · refine aw_if_eq (tgt := 35) dX6_chance_9 (by decide) (fun _ => ?_) (fun zz => absurd zz (by decide))
    refine aw_ldc2 dX6_chance_35 kw_X6_410 ?_
    refine aw_lreturn dX6_chance_38 rfl ?_
    exact hB (fun zz => c6 zz.1)
theorem c_X6_chanceX {E : Ev} {d : Nat} {I : Mi} {L : Ml} {Z : Mz} {Q : Po} {x : Int32} {y : Int32} {z : Int32} {w : Int32}  (hd : 2 ≤ d) (hM : MZ Z) (hw : ¬ (¬ w < 0 ∧ ¬ 1 < w)) (hB : Q (some (.long (-4611686018427387904))) I L Z) : AC E yX6_chance cX6_chance 8 (some .long) d 0 0 [.ref 48, .int x, .int y, .int z, .int w] I L Z Q := by
  refine ac_go (ls := [some (.ref 48), some (.int x), some (.int y), some (.int z), some (.int w), none, none, none]) (by decide +kernel) (Nat.le_of_ble_eq_true rfl) rfl ?_
  refine aw_iload_n dX6_chance_0 rfl ?_
  refine aw_i2l dX6_chance_1 ?_
  refine aw_lconst (v := 1) dX6_chance_2 (by decide) ?_
  refine aw_ldc2 dX6_chance_3 kw_X6_168 ?_
  refine aw_S3 dX6_chance_6 cw_X6_73 (by omega) ⟨Nat.le_refl _, Nat.le_refl _⟩ (by decide) (c_X6_in (x := y) (a := 1) (b := 10) rfl (by decide) (by decide) (fun c6 => ?_) (fun c6 => ?_))
  · refine aw_if_eq (tgt := 35) dX6_chance_9 (by decide) (fun zz => absurd zz (by decide)) (fun _ => ?_)
    refine aw_iload_n dX6_chance_12 rfl ?_
    refine aw_i2l dX6_chance_13 ?_
    refine aw_lconst (v := 0) dX6_chance_14 (by decide) ?_
    refine aw_ldc2 dX6_chance_15 kw_X6_404 ?_
    refine aw_S3 dX6_chance_18 cw_X6_73 (by omega) ⟨Nat.le_refl _, Nat.le_refl _⟩ (by decide) (c_X6_in (x := z) (a := 0) (b := 12) rfl (by decide) (by decide) (fun c18 => ?_) (fun c18 => ?_))
    · refine aw_if_eq (tgt := 35) dX6_chance_21 (by decide) (fun zz => absurd zz (by decide)) (fun _ => ?_)
      refine aw_iload dX6_chance_24 rfl ?_
      refine aw_i2l dX6_chance_26 ?_
      refine aw_lconst (v := 0) dX6_chance_27 (by decide) ?_
      refine aw_lconst (v := 1) dX6_chance_28 (by decide) ?_
      refine aw_S3 dX6_chance_29 cw_X6_73 (by omega) ⟨Nat.le_refl _, Nat.le_refl _⟩ (by decide) (c_X6_in (x := w) (a := 0) (b := 1) rfl (by decide) (by decide) (fun zz => absurd zz hw) (fun c29 => ?_))
      refine aw_if_ne (tgt := 39) dX6_chance_32 (by decide) (fun zz => absurd zz (by decide)) (fun _ => ?_)
      refine aw_ldc2 dX6_chance_35 kw_X6_410 ?_
      refine aw_lreturn dX6_chance_38 rfl ?_
      exact hB
    · refine aw_if_eq (tgt := 35) dX6_chance_21 (by decide) (fun _ => ?_) (fun zz => absurd zz (by decide))
      refine aw_ldc2 dX6_chance_35 kw_X6_410 ?_
      refine aw_lreturn dX6_chance_38 rfl ?_
      exact hB
  · refine aw_if_eq (tgt := 35) dX6_chance_9 (by decide) (fun _ => ?_) (fun zz => absurd zz (by decide))
    refine aw_ldc2 dX6_chance_35 kw_X6_410 ?_
    refine aw_lreturn dX6_chance_38 rfl ?_
    exact hB
