/-! ===== the reference: readings that are drawn ===== -/
def dmF (W : Nat → (Nat → Int32) → Int32) (n m : Nat) : Nat → Int32 → Mi → Mi
  | 0, _, M => M
  | k + 1, z, M => if (M 48 12).toNatClampNeg < 12 ∧ (dwP (z * 1103515245 + 12345) < m ∧ dwP ((z * 1103515245 + 12345) * 1103515245 + 12345) < n) ∧ sdM M W (dwP (z * 1103515245 + 12345)) then dmF W n m k ((z * 1103515245 + 12345) * 1103515245 + 12345) (rsM M (M 48 12).toNatClampNeg (dwP (z * 1103515245 + 12345)) (dwP ((z * 1103515245 + 12345) * 1103515245 + 12345)) (rbM M W (dwP (z * 1103515245 + 12345)) (dwP ((z * 1103515245 + 12345) * 1103515245 + 12345)))) else dmF W n m k ((z * 1103515245 + 12345) * 1103515245 + 12345) M
def fmM (M : Mi) : Int32 := bcV (foX (fun i => M 53 (2 * i)) (fun i => M 53 (2 * i + 1)) (M 48 12).toNatClampNeg (-1) (M 48 7))
def fdM (I : Mi) (W : Nat → (Nat → Int32) → Int32) (n m k : Nat) (s : Int32) : Int32 := fmM (dmF W n m k s (cpI I 56 55 10))
def DMI (J : Mi) (r : Nat) (M : Mi) : Prop := (∀ a j, a ≠ 55 → ¬ (a = 53 ∧ 2 * r ≤ j) → ¬ (a = 48 ∧ (j = 8 ∨ j = 12)) → M a j = J a j) ∧ (∀ j, 10 ≤ j → M 55 j = J 55 j) ∧ ∃ r', r ≤ r' ∧ r' ≤ 12 ∧ M 48 12 = nI r' ∧ ∀ i, i < r' → Bo (M 53 (2 * i + 1))
theorem DMI.row {J M : Mi} {r a : Nat} (h : DMI J r M) (h1 : a ≠ 48) (h2 : a ≠ 53) (h3 : a ≠ 55) : M a = J a := by
  funext j
  exact h.1 a j h3 (by omega) (by omega)
theorem RDM.dm {J M : Mi} {W : Nat → (Nat → Int32) → Int32} {ru n m r : Nat} (h : RDM J W ru n m) (g : DMI J r M) (hH : ∃ H, H ≤ 2000 ∧ M 48 8 = nI H) : RDM M W ru n m :=
  h.eqv (g.1 _ _ (by omega) (by omega) (by omega)) (g.row (by omega) (by omega) (by omega)) (g.row (by omega) (by omega) (by omega)) (g.1 _ _ (by omega) (by omega) (by omega)) (g.1 _ _ (by omega) (by omega) (by omega)) (g.row (by omega) (by omega) (by omega)) (g.row (by omega) (by omega) (by omega)) hH
theorem DMI.rs {J M : Mi} {r r' p c : Nat} {v : Int32} (h : DMI J r M) (hr : r ≤ r') (hr2 : r' < 12) (hp : p < 5) (hb : ∀ i, i < r' → Bo (M 53 (2 * i + 1))) (hto : Bo (M 52 (2 * c + 1))) : DMI J r (rsM M r' p c v) := by
  refine ⟨fun a j h1 h2 h3 => ?_, fun j hj => ?_, r' + 1, by omega, by omega, ?_, fun i hi => ?_⟩
  · unfold rsM
    rw [iU_at (by omega), iU_at (by omega), iU_at (by omega), iU_at (by omega), iU_at (by omega)]
    exact h.1 a j h1 h2 h3
  · unfold rsM
    rw [iU_at (by omega), iU_at (by omega), iU_at (by omega), iU_at (by omega), iU_at (by omega)]
    exact h.2.1 j hj
  · unfold rsM
    rw [iU_at (by omega), iU_at (by omega), iU_same]
  · unfold rsM
    rw [iU_at (by omega), iU_at (by omega), iU_at (by omega)]
    by_cases e : i = r'
    · subst e; rw [iU_same]; exact hto
    · rw [iU_at (by omega), iU_at (by omega)]; exact hb i (by omega)
theorem rsM_8 {M : Mi} {r p c : Nat} {v : Int32} : rsM M r p c v 48 8 = M 48 8 + 1 := iU_same
theorem sdM_sam {I J : Mi} {W : Nat → (Nat → Int32) → Int32} {p : Nat} (s : SaM I J) : sdM J W p ↔ sdM I W p := by
  unfold sdM
  rw [rlO_sam s, s.row (a := 54) (by omega), s.row (a := 55) (by omega)]
theorem rsM_sam {I J : Mi} {r p c : Nat} {v : Int32} (s : SaM I J) : SaM (rsM I r p c v) (rsM J r p c v) := by
  unfold rsM
  rw [s.row (a := 52) (by omega), s.row (a := 55) (by omega), s 48 8 (by omega)]
  exact s.iu.iu.iu.iu.iu
theorem l_X6_fd {E : Ev} {d : Nat} {J0 : Mi} {Z : Mz} {Q : Po} {W : Nat → (Nat → Int32) → Int32} {ru n m : Nat} {K r : Nat} {x1 : Option Value} {hw mw : Int32} (hd : 46 ≤ d) (hM : MZ Z) (hR : RDM J0 W ru n m) (hto : ∀ c, c < n → Bo (J0 52 (2 * c + 1))) (hK : K ≤ 12) : ∀ (k j : Nat) (z : Int32) (M M' : Mi) (L : Ml) (o7 o8 : Option Value), j + k = K → SaM M M' → DMI J0 r M → (∃ H, H ≤ 1500 + j ∧ M 48 8 = nI H) → (∀ (M9 J9 : Mi) (K9 : Ml) (z9 : Int32) (o7 o8 : Option Value), SaM M9 J9 → M9 = dmF W n m k z M → AW E yX6_followDrawn cX6_followDrawn 9 (some .int) (rmOf d 0 0) Q 0 0 148 [some (.ref 48), x1, some (.int (nI K)), some (.int hw), some (.int mw), some (.int z9), some (.int (nI K)), o7, o8] [] J9 K9 Z) → AW E yX6_followDrawn cX6_followDrawn 9 (some .int) (rmOf d 0 0) Q 0 0 47 [some (.ref 48), x1, some (.int (nI K)), some (.int hw), some (.int mw), some (.int z), some (.int (nI j)), o7, o8] [] M' L Z := by
  intro k
  induction k with
  | zero =>
    intro j z M M' L o7 o8 hj sM hD hH hQ
    refine aw_iload dX6_followDrawn_47 rfl ?_
    refine aw_iload_n dX6_followDrawn_49 rfl ?_
    refine aw_icmp_ge (tgt := 148) dX6_followDrawn_50 (by decide) (fun c50 => ?_) (fun zz => absurd (by rw [show j = K by omega]; exact Int32.le_refl _) zz)
    rw [show j = K by omega]
    exact hQ _ _ _ _ _ _ sM rfl
  | succ k ih =>
    intro j z M M' L o7 o8 hj sM hD hH hQ
    have hRM : RDM M W ru n m := hR.dm hD (by obtain ⟨H, h1, h2⟩ := hH; exact ⟨H, by omega, h2⟩)
    obtain ⟨r', hr1, hr2, er', hb'⟩ := hD.2.2
    have hn6 := hR.2.1.2
    have hm5 := hR.2.2.1.2
    have er2 : M' 48 12 = nI r' := by rw [sM _ _ (by omega)]; exact er'
    have h12m : ¬ (12 : Int32) ≤ M' 48 12 → r' < 12 := fun w => Nat.not_le.mp fun g => w (by rw [er2]; exact (nI_leI (a := 12) (by decide) (by omega)).mpr g)
    have h12 : (M 48 12).toNatClampNeg < 12 → ¬ (12 : Int32) ≤ M' 48 12 := fun w g => by
      rw [er', nI_clamp (by omega)] at w
      rw [er2] at g
      have := (nI_leI (a := 12) (by decide) (by omega)).mp g
      omega
    have hz1 := dw8 (z * 1103515245 + 12345)
    have hz2 := dw8 ((z * 1103515245 + 12345) * 1103515245 + 12345)
    unfold usr at hz1 hz2
    refine aw_iload dX6_followDrawn_47 rfl ?_
    refine aw_iload_n dX6_followDrawn_49 rfl ?_
    refine aw_icmp_ge (tgt := 148) dX6_followDrawn_50 (by decide) (fun zz => absurd zz (nI_ge (by omega) (by omega))) (fun c50 => ?_)
    refine aw_iload dX6_followDrawn_53 rfl ?_
    refine aw_ldcw dX6_followDrawn_55 kw_X6_426 ?_
    refine aw_imul dX6_followDrawn_58 ?_
    refine aw_sipush (v := 12345) dX6_followDrawn_59 (by decide) ?_
    refine aw_iadd dX6_followDrawn_62 ?_
    refine aw_istore (ls' := [_, _, _, _, _, _, _, _, _]) dX6_followDrawn_63 (by decide) rfl rfl ?_
    refine aw_iload dX6_followDrawn_65 rfl ?_
    refine aw_bipush (v := 9) dX6_followDrawn_67 (by decide) ?_
    refine aw_iushr dX6_followDrawn_69 ?_
    refine aw_bipush (v := 8) dX6_followDrawn_70 (by decide) ?_
    refine aw_irem dX6_followDrawn_72 (by decide) ?_
    rw [hz1]
    refine aw_istore (ls' := [_, _, _, _, _, _, _, _, _]) dX6_followDrawn_73 (by decide) rfl rfl ?_
    refine aw_iload dX6_followDrawn_75 rfl ?_
    refine aw_ldcw dX6_followDrawn_77 kw_X6_426 ?_
    refine aw_imul dX6_followDrawn_80 ?_
    refine aw_sipush (v := 12345) dX6_followDrawn_81 (by decide) ?_
    refine aw_iadd dX6_followDrawn_84 ?_
    refine aw_istore (ls' := [_, _, _, _, _, _, _, _, _]) dX6_followDrawn_85 (by decide) rfl rfl ?_
    refine aw_iload dX6_followDrawn_87 rfl ?_
    refine aw_bipush (v := 9) dX6_followDrawn_89 (by decide) ?_
    refine aw_iushr dX6_followDrawn_91 ?_
    refine aw_bipush (v := 8) dX6_followDrawn_92 (by decide) ?_
    refine aw_irem dX6_followDrawn_94 (by decide) ?_
    rw [hz2]
    refine aw_istore (ls' := [_, _, _, _, _, _, _, _, _]) dX6_followDrawn_95 (by decide) rfl rfl ?_
    refine aw_aload_n dX6_followDrawn_97 rfl rfl ?_
    refine aw_gi dX6_followDrawn_98 fw_X6_89 hM.1 ?_
    refine aw_bipush (v := 12) dX6_followDrawn_101 (by decide) ?_
    refine aw_icmp_ge (tgt := 142) dX6_followDrawn_103 (by decide) (fun c103 => ?_) (fun c103 => ?_)
    · refine aw_iinc (v := nI (j + 1)) (ls' := [_, _, _, _, _, _, _, _, _]) dX6_followDrawn_142 rfl (nI_1 j) (by decide) rfl rfl ?_
      refine aw_goto (tgt := 47) dX6_followDrawn_145 (by decide) ?_
      refine ih (j + 1) ((z * 1103515245 + 12345) * 1103515245 + 12345) M _ _ _ _ (by omega) sM hD (by obtain ⟨H, h1, h2⟩ := hH; exact ⟨H, by omega, h2⟩) (fun M9 J9 K9 z9 o7 o8 t9 e9 => hQ M9 J9 K9 z9 o7 o8 t9 (e9.trans ?_))
      simp only [dmF]
      rw [if_neg (fun w => h12 w.1 c103)]
    · refine aw_aload_n dX6_followDrawn_106 rfl rfl ?_
      refine aw_iload dX6_followDrawn_107 rfl ?_
      refine aw_V1 dX6_followDrawn_109 cw_X6_86 ⟨_, _, rfl⟩ hM.1 (by omega) ⟨Nat.le_refl _, Nat.le_refl _⟩ (by decide) (c_X6_isOne (by omega) hM (hRM.sam sM).2.2.1.1 hR.2.2.1.2 (fun c109 => ?_) (fun c109 => ?_))
      · refine aw_if_eq (tgt := 142) dX6_followDrawn_112 (by decide) (fun zz => absurd zz (by decide)) (fun _ => ?_)
        refine aw_aload_n dX6_followDrawn_115 rfl rfl ?_
        refine aw_iload dX6_followDrawn_116 rfl ?_
        refine aw_V1 dX6_followDrawn_118 cw_X6_82 ⟨_, _, rfl⟩ hM.1 (by omega) ⟨Nat.le_refl _, Nat.le_refl _⟩ (by decide) (c_X6_isCup (by omega) hM (hRM.sam sM).2.1.1 hR.2.1.2 (fun c118 => ?_) (fun c118 => ?_))
        · refine aw_if_eq (tgt := 142) dX6_followDrawn_121 (by decide) (fun zz => absurd zz (by decide)) (fun _ => ?_)
          refine aw_aload_n dX6_followDrawn_124 rfl rfl ?_
          refine aw_iload dX6_followDrawn_125 rfl ?_
          obtain ⟨p1, hp1, ep1⟩ := c109
          obtain ⟨c1, hc1, ec1⟩ := c118
          have d1 := dwP_lt (z * 1103515245 + 12345)
          have d2 := dwP_lt ((z * 1103515245 + 12345) * 1103515245 + 12345)
          have hpm : dwP (z * 1103515245 + 12345) < m := by rw [(nI_eq (by omega) (by omega)).mp ep1]; exact hp1
          have hcn : dwP ((z * 1103515245 + 12345) * 1103515245 + 12345) < n := by rw [(nI_eq (by omega) (by omega)).mp ec1]; exact hc1
          refine aw_V1 dX6_followDrawn_127 cw_X6_130 ⟨_, _, rfl⟩ hM.1 (by omega) ⟨Nat.le_refl _, Nat.le_refl _⟩ (by decide) (c_X6_isSteady (by omega) hM (hRM.sam sM) hpm (fun e I9 L9 s9 => ?_) (fun e I9 L9 s9 => ?_))
          · refine aw_if_eq (tgt := 142) dX6_followDrawn_130 (by decide) (fun zz => absurd zz (by decide)) (fun _ => ?_)
            refine aw_aload_n dX6_followDrawn_133 rfl rfl ?_
            refine aw_iload dX6_followDrawn_134 rfl ?_
            refine aw_iload dX6_followDrawn_136 rfl ?_
            refine aw_V2 dX6_followDrawn_138 cw_X6_371 ⟨_, _, rfl⟩ hM.1 (by omega) ⟨Nat.le_refl _, Nat.le_refl _⟩ (by decide) (c_X6_readsOut (r := r') (by omega) hM ((hRM.sam sM).sam s9) hpm hcn (by rw [s9 _ _ (by omega), sM _ _ (by omega)]; exact er') hr2 (fun r138 I138 L138 e138 t138 => ?_))
            refine aw_pop dX6_followDrawn_141 rfl ?_
            refine aw_iinc (v := nI (j + 1)) (ls' := [_, _, _, _, _, _, _, _, _]) dX6_followDrawn_142 rfl (nI_1 j) (by decide) rfl rfl ?_
            refine aw_goto (tgt := 47) dX6_followDrawn_145 (by decide) ?_
            refine ih (j + 1) ((z * 1103515245 + 12345) * 1103515245 + 12345) (rsM M r' (dwP (z * 1103515245 + 12345)) (dwP ((z * 1103515245 + 12345) * 1103515245 + 12345)) (rbM M W (dwP (z * 1103515245 + 12345)) (dwP ((z * 1103515245 + 12345) * 1103515245 + 12345)))) _ _ _ _ (by omega) ?_ (hD.rs hr1 (h12m c103) (by omega) hb' (by rw [hD.row (a := 52) (by omega) (by omega) (by omega)]; exact hto _ hcn)) ?_ (fun M9 J9 K9 z9 o7 o8 t9 e9 => hQ M9 J9 K9 z9 o7 o8 t9 (e9.trans ?_))
            · rw [e138, rbM_sam (sM.tr s9)] at t138
              exact (rsM_sam (sM.tr s9)).tr t138
            · obtain ⟨H, h1, h2⟩ := hH
              exact ⟨H + 1, by omega, by rw [rsM_8, h2, nI_1]⟩
            · simp only [dmF]
              rw [if_pos ⟨by rw [er', nI_clamp (by omega)]; exact h12m c103, ⟨hpm, hcn⟩, (sdM_sam sM).mp e⟩, er', nI_clamp (by omega)]
          · refine aw_if_eq (tgt := 142) dX6_followDrawn_130 (by decide) (fun _ => ?_) (fun zz => absurd zz (by decide))
            refine aw_iinc (v := nI (j + 1)) (ls' := [_, _, _, _, _, _, _, _, _]) dX6_followDrawn_142 rfl (nI_1 j) (by decide) rfl rfl ?_
            refine aw_goto (tgt := 47) dX6_followDrawn_145 (by decide) ?_
            refine ih (j + 1) ((z * 1103515245 + 12345) * 1103515245 + 12345) M _ _ _ _ (by omega) (sM.tr s9) hD (by obtain ⟨H, h1, h2⟩ := hH; exact ⟨H, by omega, h2⟩) (fun M9 J9 K9 z9 o7 o8 t9 e9 => hQ M9 J9 K9 z9 o7 o8 t9 (e9.trans ?_))
            simp only [dmF]
            rw [if_neg (fun w => e ((sdM_sam sM).mpr w.2.2))]
        · refine aw_if_eq (tgt := 142) dX6_followDrawn_121 (by decide) (fun _ => ?_) (fun zz => absurd zz (by decide))
          refine aw_iinc (v := nI (j + 1)) (ls' := [_, _, _, _, _, _, _, _, _]) dX6_followDrawn_142 rfl (nI_1 j) (by decide) rfl rfl ?_
          refine aw_goto (tgt := 47) dX6_followDrawn_145 (by decide) ?_
          refine ih (j + 1) ((z * 1103515245 + 12345) * 1103515245 + 12345) M _ _ _ _ (by omega) sM hD (by obtain ⟨H, h1, h2⟩ := hH; exact ⟨H, by omega, h2⟩) (fun M9 J9 K9 z9 o7 o8 t9 e9 => hQ M9 J9 K9 z9 o7 o8 t9 (e9.trans ?_))
          simp only [dmF]
          rw [if_neg (fun w => c118 ⟨_, w.2.1.2, rfl⟩)]
      · refine aw_if_eq (tgt := 142) dX6_followDrawn_112 (by decide) (fun _ => ?_) (fun zz => absurd zz (by decide))
        refine aw_iinc (v := nI (j + 1)) (ls' := [_, _, _, _, _, _, _, _, _]) dX6_followDrawn_142 rfl (nI_1 j) (by decide) rfl rfl ?_
        refine aw_goto (tgt := 47) dX6_followDrawn_145 (by decide) ?_
        refine ih (j + 1) ((z * 1103515245 + 12345) * 1103515245 + 12345) M _ _ _ _ (by omega) sM hD (by obtain ⟨H, h1, h2⟩ := hH; exact ⟨H, by omega, h2⟩) (fun M9 J9 K9 z9 o7 o8 t9 e9 => hQ M9 J9 K9 z9 o7 o8 t9 (e9.trans ?_))
        simp only [dmF]
        rw [if_neg (fun w => c109 ⟨_, w.2.1.1, rfl⟩)]
theorem l_X6_fdA {E : Ev} {d : Nat} {I : Mi} {L : Ml} {Z : Mz} {Q : Po} {x1 x2 x3 : Option Value} {mw : Int32} (hM : MZ Z) : ∀ (n : Nat) (j : Nat), j + n = 10 → AW E yX6_followDrawn cX6_followDrawn 9 (some .int) (rmOf d 0 0) Q 0 0 41 [some (.ref 48), x1, x2, x3, some (.int mw), some (.int 10), none, none, none] [] (cpI I 56 55 10) L Z → AW E yX6_followDrawn cX6_followDrawn 9 (some .int) (rmOf d 0 0) Q 0 0 14 [some (.ref 48), x1, x2, x3, some (.int mw), some (.int (nI j)), none, none, none] [] (cpI I 56 55 j) L Z := by
  intro n
  induction n with
  | zero =>
    intro j hj hQ
    refine aw_iload dX6_followDrawn_14 rfl ?_
    refine aw_bipush (v := 10) dX6_followDrawn_16 (by decide) ?_
    refine aw_icmp_ge (tgt := 41) dX6_followDrawn_18 (by decide) (fun c18 => ?_) (fun zz => absurd (by rw [show j = 10 by omega]; decide) zz)
    rw [show j = 10 by omega]
    exact hQ
  | succ n ih =>
    intro j hj hQ
    refine aw_iload dX6_followDrawn_14 rfl ?_
    refine aw_bipush (v := 10) dX6_followDrawn_16 (by decide) ?_
    refine aw_icmp_ge (tgt := 41) dX6_followDrawn_18 (by decide) (fun zz => absurd zz (nI_ge (b := 10) (by omega) (by decide))) (fun c18 => ?_)
    refine aw_aload_n dX6_followDrawn_21 rfl rfl ?_
    refine aw_gr dX6_followDrawn_22 fw_X6_35 hM.1 hM.2.2.2.2.2.2.2.2.2.2.2.2.2.2.2.1 ?_
    refine aw_iload dX6_followDrawn_25 rfl ?_
    refine aw_aload_n dX6_followDrawn_27 rfl rfl ?_
    refine aw_gr dX6_followDrawn_28 fw_X6_32 hM.1 hM.2.2.2.2.2.2.2.2.2.2.2.2.2.1 ?_
    refine aw_iload dX6_followDrawn_31 rfl ?_
    refine aw_ia j dX6_followDrawn_33 hM.2.2.2.2.2.2.2.2.2.2.2.2.2.2.1 rfl (by omega) (by decide) ?_
    refine aw_is j dX6_followDrawn_34 hM.2.2.2.2.2.2.2.2.2.2.2.2.2.2.2.2.1 rfl (by omega) (by decide) ?_
    refine aw_iinc (v := nI (j + 1)) (ls' := [_, _, _, _, _, _, _, _, _]) dX6_followDrawn_35 rfl (nI_1 j) (by decide) rfl rfl ?_
    refine aw_goto (tgt := 14) dX6_followDrawn_38 (by decide) ?_
    rw [cpI_s (by decide)]
    exact ih (j + 1) (by omega) hQ
theorem l_X6_fdB {E : Ev} {d : Nat} {I : Mi} {L : Ml} {Z : Mz} {Q : Po} {x1 x2 x3 x4 x5 x8 : Option Value} {rv : Int32} (hM : MZ Z) : ∀ (n : Nat) (j : Nat), j + n = 10 → Q (some (.int rv)) (cpI I 55 56 10) L Z → AW E yX6_followDrawn cX6_followDrawn 9 (some .int) (rmOf d 0 0) Q 0 0 176 [some (.ref 48), x1, x2, x3, x4, x5, some (.int rv), some (.int (nI j)), x8] [] (cpI I 55 56 j) L Z := by
  intro n
  induction n with
  | zero =>
    intro j hj hQ
    refine aw_iload dX6_followDrawn_176 rfl ?_
    refine aw_bipush (v := 10) dX6_followDrawn_178 (by decide) ?_
    refine aw_icmp_ge (tgt := 203) dX6_followDrawn_180 (by decide) (fun c180 => ?_) (fun zz => absurd (by rw [show j = 10 by omega]; decide) zz)
    refine aw_iload dX6_followDrawn_203 rfl ?_
    refine aw_ireturn (ty := .int) dX6_followDrawn_205 rfl rfl ?_
    rw [show j = 10 by omega]
    exact hQ
  | succ n ih =>
    intro j hj hQ
    refine aw_iload dX6_followDrawn_176 rfl ?_
    refine aw_bipush (v := 10) dX6_followDrawn_178 (by decide) ?_
    refine aw_icmp_ge (tgt := 203) dX6_followDrawn_180 (by decide) (fun zz => absurd zz (nI_ge (b := 10) (by omega) (by decide))) (fun c180 => ?_)
    refine aw_aload_n dX6_followDrawn_183 rfl rfl ?_
    refine aw_gr dX6_followDrawn_184 fw_X6_32 hM.1 hM.2.2.2.2.2.2.2.2.2.2.2.2.2.1 ?_
    refine aw_iload dX6_followDrawn_187 rfl ?_
    refine aw_aload_n dX6_followDrawn_189 rfl rfl ?_
    refine aw_gr dX6_followDrawn_190 fw_X6_35 hM.1 hM.2.2.2.2.2.2.2.2.2.2.2.2.2.2.2.1 ?_
    refine aw_iload dX6_followDrawn_193 rfl ?_
    refine aw_ia j dX6_followDrawn_195 hM.2.2.2.2.2.2.2.2.2.2.2.2.2.2.2.2.1 rfl (by omega) (by decide) ?_
    refine aw_is j dX6_followDrawn_196 hM.2.2.2.2.2.2.2.2.2.2.2.2.2.2.1 rfl (by omega) (by decide) ?_
    refine aw_iinc (v := nI (j + 1)) (ls' := [_, _, _, _, _, _, _, _, _]) dX6_followDrawn_197 rfl (nI_1 j) (by decide) rfl rfl ?_
    refine aw_goto (tgt := 176) dX6_followDrawn_200 (by decide) ?_
    rw [cpI_s (by decide)]
    exact ih (j + 1) (by omega) hQ
def SaD (r : Nat) (I F : Mi) : Prop := ∀ a j, ¬ (a = 48 ∧ 16 ≤ j ∧ j ≤ 31) → ¬ (a = 53 ∧ 2 * r ≤ j) → a ≠ 56 → F a j = I a j
theorem dm_ok {J0 : Mi} {W : Nat → (Nat → Int32) → Int32} {ru n m : Nat} {r : Nat} (hR : RDM J0 W ru n m) (hto : ∀ c, c < n → Bo (J0 52 (2 * c + 1))) : ∀ (k : Nat) (z : Int32) (M : Mi) (j : Nat), j + k ≤ 12 → DMI J0 r M → (∃ H, H ≤ 1500 + j ∧ M 48 8 = nI H) → DMI J0 r (dmF W n m k z M) := by
  intro k
  induction k with
  | zero => intro z M j _ h _; exact h
  | succ k ih =>
    intro z M j hj h hH
    simp only [dmF]
    obtain ⟨r', hr1, hr2, er', hb'⟩ := h.2.2
    have hm5 := hR.2.2.1.2
    by_cases hc : (M 48 12).toNatClampNeg < 12 ∧ (dwP (z * 1103515245 + 12345) < m ∧ dwP ((z * 1103515245 + 12345) * 1103515245 + 12345) < n) ∧ sdM M W (dwP (z * 1103515245 + 12345))
    · rw [if_pos hc]
      rw [er', nI_clamp (by omega)]
      have h1 := hc.1
      rw [er', nI_clamp (by omega)] at h1
      refine ih _ _ (j + 1) (by omega) (h.rs hr1 h1 (by omega) hb' (by rw [h.row (a := 52) (by omega) (by omega) (by omega)]; exact hto _ hc.2.1.2)) ?_
      obtain ⟨H, a1, a2⟩ := hH
      exact ⟨H + 1, by omega, by rw [rsM_8, a2, nI_1]⟩
    · rw [if_neg hc]
      refine ih _ _ (j + 1) (by omega) h ?_
      obtain ⟨H, a1, a2⟩ := hH
      exact ⟨H, by omega, a2⟩
theorem c_X6_followDrawn {E : Ev} {d : Nat} {I : Mi} {L : Ml} {Z : Mz} {Q : Po} {x : Int32} {W : Nat → (Nat → Int32) → Int32} {ru n m : Nat} {r K : Nat} {sd : Int32} (hd : 46 ≤ d) (hM : MZ Z) (hR : RDM I W ru n m) (hrn : I 48 12 = nI r) (hr : r ≤ 12) (hb : ∀ i, i < r → Bo (I 53 (2 * i + 1))) (hto : ∀ c, c < n → Bo (I 52 (2 * c + 1))) (hH : ∃ H, H ≤ 1500 ∧ I 48 8 = nI H) (hsd : I 48 7 = sd) (hs2 : S12 sd) (hK : K ≤ 12) (hQ : ∀ (rv : Int32) (F : Mi) (L9 : Ml), SaD r I F → rv = fdM I W n m K x → Q (some (.int rv)) F L9 Z) : AC E yX6_followDrawn cX6_followDrawn 9 (some .int) d 0 0 [.ref 48, .int x, .int (nI K)] I L Z Q := by
  refine ac_go (ls := [some (.ref 48), some (.int x), some (.int (nI K)), none, none, none, none, none, none]) (by decide +kernel) (Nat.le_of_ble_eq_true rfl) rfl ?_
  refine aw_aload_n dX6_followDrawn_0 rfl rfl ?_
  refine aw_gi dX6_followDrawn_1 fw_X6_113 hM.1 ?_
  refine aw_istore_n (ls' := [_, _, _, _, _, _, _, _, _]) dX6_followDrawn_4 (by decide) rfl rfl ?_
  refine aw_aload_n dX6_followDrawn_5 rfl rfl ?_
  refine aw_gi dX6_followDrawn_6 fw_X6_89 hM.1 ?_
  refine aw_istore (ls' := [_, _, _, _, _, _, _, _, _]) dX6_followDrawn_9 (by decide) rfl rfl ?_
  refine aw_iconst (v := 0) dX6_followDrawn_11 (by decide) ?_
  refine aw_istore (ls' := [_, _, _, _, _, _, _, _, _]) dX6_followDrawn_12 (by decide) rfl rfl ?_
  have ez := @cpI_0 I 56 55
  refine ez ▸ l_X6_fdA hM 10 0 (by omega) ?_
  refine aw_iload_n dX6_followDrawn_41 rfl ?_
  refine aw_istore (ls' := [_, _, _, _, _, _, _, _, _]) dX6_followDrawn_42 (by decide) rfl rfl ?_
  refine aw_iconst (v := 0) dX6_followDrawn_44 (by decide) ?_
  refine aw_istore (ls' := [_, _, _, _, _, _, _, _, _]) dX6_followDrawn_45 (by decide) rfl rfl ?_
  have hb0 : DMI (cpI I 56 55 10) r (cpI I 56 55 10) := ⟨fun _ _ _ _ _ => rfl, fun _ _ => rfl, r, Nat.le_refl _, hr, by rw [cpI_row (by omega)]; exact hrn, fun i hi => by rw [cpI_row (by omega)]; exact hb i hi⟩
  have hR0 : RDM (cpI I 56 55 10) W ru n m := hR.eqv (by rw [cpI_row (by omega)]) (cpI_row (by omega)) (cpI_row (by omega)) (by rw [cpI_row (by omega)]) (by rw [cpI_row (by omega)]) (cpI_row (by omega)) (cpI_row (by omega)) (by rw [cpI_row (by omega)]; exact hR.2.2.2.2.2)
  refine l_X6_fd hd hM hR0 (by rw [cpI_row (by omega)]; exact hto) hK K 0 x (cpI I 56 55 10) _ _ _ _ (by omega) SaM.rf hb0 (by rw [cpI_row (by omega)]; obtain ⟨H, h1, h2⟩ := hH; exact ⟨H, by omega, h2⟩) (fun M9 J9 K9 z9 o7 o8 t9 e9 => ?_)
  have hDf : DMI (cpI I 56 55 10) r M9 := by rw [e9]; exact dm_ok hR0 (by rw [cpI_row (by omega)]; exact hto) K x _ 0 (by omega) hb0 (by rw [cpI_row (by omega)]; obtain ⟨H, h1, h2⟩ := hH; exact ⟨H, by omega, h2⟩)
  obtain ⟨g1, g2, r', gr1, gr2, ger, gb⟩ := hDf
  have e7 : J9 48 7 = M9 48 7 := t9 _ _ (by omega)
  have eM7 : M9 48 7 = sd := by rw [g1 _ _ (by omega) (by omega) (by omega), cpI_row (by omega)]; exact hsd
  have hRS9 : RSM J9 r' (fun i => M9 53 (2 * i)) (fun i => M9 53 (2 * i + 1)) := ⟨by rw [t9 _ _ (by omega)]; exact ger, gr2, fun i _ => ⟨t9 _ _ (by omega), t9 _ _ (by omega)⟩⟩
  refine aw_aload_n dX6_followDrawn_148 rfl rfl ?_
  refine aw_aload_n dX6_followDrawn_149 rfl rfl ?_
  refine aw_gi dX6_followDrawn_150 fw_X6_110 hM.1 ?_
  refine aw_iconst (v := -1) dX6_followDrawn_153 (by decide) ?_
  rw [e7, eM7]
  refine aw_V2 dX6_followDrawn_154 cw_X6_377 ⟨_, _, rfl⟩ hM.1 (by omega) ⟨Nat.le_refl _, Nat.le_refl _⟩ (by decide) (c_X6_closure hM hRS9 (fx_all gb hs2) ?_)
  obtain ⟨fv, hfv, efv⟩ := @fo_S12 (fun i => M9 53 (2 * i)) (fun i => M9 53 (2 * i + 1)) r' (-1) sd gb hs2
  refine aw_S1 dX6_followDrawn_157 cw_X6_341 (by omega) ⟨Nat.le_refl _, Nat.le_refl _⟩ (by decide) (c_X6_bitsOf efv hfv (fun r157 e157 => ?_))
  refine aw_istore (ls' := [_, _, _, _, _, _, _, _, _]) dX6_followDrawn_160 (by decide) rfl rfl ?_
  refine aw_aload_n dX6_followDrawn_162 rfl rfl ?_
  refine aw_iload_n dX6_followDrawn_163 rfl ?_
  refine aw_pi dX6_followDrawn_164 fw_X6_113 (ww_X6_113 _) hM.1 rfl ?_
  refine aw_aload_n dX6_followDrawn_167 rfl rfl ?_
  refine aw_iload dX6_followDrawn_168 rfl ?_
  refine aw_pi dX6_followDrawn_170 fw_X6_89 (ww_X6_89 _) hM.1 rfl ?_
  refine aw_iconst (v := 0) dX6_followDrawn_173 (by decide) ?_
  refine aw_istore (ls' := [_, _, _, _, _, _, _, _, _]) dX6_followDrawn_174 (by decide) rfl rfl ?_
  have ez := @cpI_0 (iU (iU (iU J9 48 31 (nI (stF (rdX (fun i => M9 53 (2 * i)) (fun i => M9 53 (2 * i + 1)) r' (-1)) 12 0 sd))) 48 8 (I 48 8)) 48 12 (I 48 12)) 55 56
  refine ez ▸ l_X6_fdB hM 10 0 (by omega) ?_
  refine hQ _ _ _ ?_ ?_
  · intro a j h1 h2 h3
    by_cases e5 : a = 55
    · subst e5
      by_cases hj : j < 10
      · rw [cpI_at hj, iU_at (by omega), iU_at (by omega), iU_at (by omega), t9 _ _ (by omega), g1 _ _ (by omega) (by omega) (by omega), cpI_at hj]
      · have hcp : ∀ X : Mi, cpI X 55 56 10 55 j = X 55 j := fun X => by
          simp only [cpI, rU, if_true, va_cpy]
          rw [if_neg (by omega)]
        rw [hcp, iU_at (by omega), iU_at (by omega), iU_at (by omega), t9 _ _ (by omega), g2 j (by omega), cpI_row (by omega)]
    · rw [cpI_row e5]
      by_cases e12 : a = 48 ∧ j = 12
      · obtain ⟨rfl, rfl⟩ := e12; rw [iU_same]
      · rw [iU_at e12]
        by_cases e8 : a = 48 ∧ j = 8
        · obtain ⟨rfl, rfl⟩ := e8; rw [iU_same]
        · rw [iU_at e8, iU_at (by omega), t9 _ _ h1, g1 _ _ e5 h2 (by omega), cpI_row h3]
  · rw [e157]
    unfold fdM
    rw [← e9]
    unfold fmM
    rw [ger, nI_clamp (by omega), eM7]
theorem c_X6_drawn {E : Ev} {d : Nat} {I : Mi} {L : Ml} {Z : Mz} {Q : Po} {x : Int32} {z : Int32} {W : Nat → (Nat → Int32) → Int32} {ru n m : Nat} {r : Nat} {sd : Int32} (hd : 47 ≤ d) (hM : MZ Z) (hR : RDM I W ru n m) (hrn : I 48 12 = nI r) (hr : r ≤ 12) (hb : ∀ i, i < r → Bo (I 53 (2 * i + 1))) (hto : ∀ c, c < n → Bo (I 52 (2 * c + 1))) (hH : ∃ H, H ≤ 1500 ∧ I 48 8 = nI H) (hsd : I 48 7 = sd) (hs2 : S12 sd) (hB : ¬ (¬ z < 0 ∧ ¬ 12 < z) → Q (some (.int (-2))) I L Z) (hS : ∀ N, N ≤ 12 → z = nI N → ∀ (rv : Int32) (F : Mi) (L9 : Ml), SaD r I F → rv = fdM I W n m N x → Q (some (.int rv)) F L9 Z) : AC E yX6_drawn cX6_drawn 3 (some .int) d 0 0 [.ref 48, .int x, .int z] I L Z Q := by
  refine ac_go (ls := [some (.ref 48), some (.int x), some (.int z)]) (by decide +kernel) (Nat.le_of_ble_eq_true rfl) rfl ?_
  refine aw_iload_n dX6_drawn_0 rfl ?_
  refine aw_i2l dX6_drawn_1 ?_
  refine aw_lconst (v := 0) dX6_drawn_2 (by decide) ?_
  refine aw_ldc2 dX6_drawn_3 kw_X6_404 ?_
  refine aw_S3 dX6_drawn_6 cw_X6_73 (by omega) ⟨Nat.le_refl _, Nat.le_refl _⟩ (by decide) (c_X6_in (x := z) (a := 0) (b := 12) rfl (by decide) (by decide) (fun c6 => ?_) (fun c6 => ?_))
  · refine aw_if_eq (tgt := 21) dX6_drawn_9 (by decide) (fun zz => absurd zz (by decide)) (fun _ => ?_)
    obtain ⟨N, hN, rfl⟩ := nI_of2 (M := 12) (n := 12) (by decide) c6.1 (Int32.not_lt.mp c6.2)
    refine aw_aload_n dX6_drawn_12 rfl rfl ?_
    refine aw_iload_n dX6_drawn_13 rfl ?_
    refine aw_iload_n dX6_drawn_14 rfl ?_
    refine aw_V2 dX6_drawn_15 cw_X6_427 ⟨_, _, rfl⟩ hM.1 (by omega) ⟨Nat.le_refl _, Nat.le_refl _⟩ (by decide) (c_X6_followDrawn (by omega) hM hR hrn hr hb hto hH hsd hs2 hN (fun rv F L9 t9 e9 => ?_))
    refine aw_goto (tgt := 23) dX6_drawn_18 (by decide) ?_
    refine aw_ireturn (ty := .int) dX6_drawn_23 rfl rfl ?_
    exact hS N hN rfl _ _ _ t9 e9
  · refine aw_if_eq (tgt := 21) dX6_drawn_9 (by decide) (fun _ => ?_) (fun zz => absurd zz (by decide))
    refine aw_bipush (v := -2) dX6_drawn_21 (by decide) ?_
    refine aw_ireturn (ty := .int) dX6_drawn_23 rfl rfl ?_
    exact hB c6
