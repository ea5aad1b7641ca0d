/-! ===== the reference: texts ===== -/
theorem cl_n {S V : Nat → Nat} {key k : Nat} (h : ¬ S k = key) : clR S V key k = (k, none) := by unfold clR; rw [if_neg h]
theorem cl_0 {S V : Nat → Nat} {key k k' : Nat} (h : S k = key) (he : eitR S V (lvR S V 5) (k + 1) = (k', none)) : clR S V key k = (k', none) := by unfold clR; rw [if_pos h, he]
theorem cl_1 {S V : Nat → Nat} {key k k' : Nat} {x : List Int32 × Vl} (h : S k = key) (he : eitR S V (lvR S V 5) (k + 1) = (k', some x)) (h2 : S k' = 12) : clR S V key k = (k' + 1, some x) := by unfold clR; rw [if_pos h, he]; simp only; rw [if_pos h2]
theorem cl_2 {S V : Nat → Nat} {key k k' : Nat} {x : List Int32 × Vl} (h : S k = key) (he : eitR S V (lvR S V 5) (k + 1) = (k', some x)) (h2 : ¬ S k' = 12) : clR S V key k = (k', none) := by unfold clR; rw [if_pos h, he]; simp only; rw [if_neg h2]
theorem cl_ok {S V : Nat → Nat} {T key : Nat} (hV : VOK S V T) (hk : key ≠ 0) : GdR T (clR S V key) := by
  intro k hk0
  unfold clR
  by_cases h : S k = key
  · rw [if_pos h]
    have hk1 := lt_of_S hV.1 hk0 (by omega)
    obtain ⟨g1, g2, g3⟩ := (all_ok hV (lv_ok hV 5)).2.2.2.2.2 (k + 1) (by omega)
    match hq : eitR S V (lvR S V 5) (k + 1), g1, g2, g3 with
    | (k', none), g1, g2, g3 => exact ⟨by simp only at g1 ⊢; omega, g2, fun c v e => absurd e (by simp)⟩
    | (k', some (c2, v2)), g1, g2, g3 =>
      obtain ⟨a1, a2, a3, a4⟩ := g3 c2 v2 rfl
      simp only at a1 a2 g2 ⊢
      by_cases h2 : S k' = 12
      · rw [if_pos h2]
        have := lt_of_S hV.1 g2 (by omega)
        refine ⟨by simp only; omega, by simp only; omega, fun c v e => ?_⟩
        simp only [Option.some.injEq, Prod.mk.injEq] at e
        obtain ⟨rfl, rfl⟩ := e
        exact ⟨by simp only; omega, by simp only; omega, a3, a4⟩
      · rw [if_neg h2]
        exact ⟨by simp only; omega, g2, fun c v e => absurd e (by simp)⟩
  · rw [if_neg h]; exact OkR.no hk0
def SaT (I I' : Mi) : Prop := ∀ a j, ¬ (a = 48 ∧ 22 ≤ j ∧ j ≤ 30) → I' a j = I a j
def SaM (I I' : Mi) : Prop := ∀ a j, ¬ (a = 48 ∧ 16 ≤ j ∧ j ≤ 31) → I' a j = I a j
theorem SaQ.t {I J : Mi} (h : SaQ I J) : SaT I J := fun a j g => h a j (by omega)
theorem SaT.m {I J : Mi} (h : SaT I J) : SaM I J := fun a j g => h a j (by omega)
theorem SaT.rf {I : Mi} : SaT I I := fun _ _ _ => rfl
theorem SaM.rf {I : Mi} : SaM I I := fun _ _ _ => rfl
theorem SaT.tr {I J K : Mi} (h : SaT I J) (g : SaT J K) : SaT I K := fun a j x => (g a j x).trans (h a j x)
theorem SaM.tr {I J K : Mi} (h : SaM I J) (g : SaM J K) : SaM I K := fun a j x => (g a j x).trans (h a j x)
theorem SaT.put {I J : Mi} {k : Nat} {x : Int32} (h : SaT I J) (hk : 22 ≤ k ∧ k ≤ 30) : SaT I (iU J 48 k x) := fun a j g => by rw [iU_at (by omega)]; exact h a j g
theorem SaM.put {I J : Mi} {k : Nat} {x : Int32} (h : SaM I J) (hk : 16 ≤ k ∧ k ≤ 31) : SaM I (iU J 48 k x) := fun a j g => by rw [iU_at (by omega)]; exact h a j g
theorem nmI_t {I J : Mi} (s : SaT I J) : nmI J = nmI I := by
  unfold nmI
  rw [s _ _ (by omega), s _ _ (by omega), s _ _ (by omega), s _ _ (by omega), s _ _ (by omega), s _ _ (by omega)]
theorem c_X6_part1 {E : Ev} {d : Nat} {I : Mi} {L : Ml} {Z : Mz} {Q : Po}  {B : Nat → Int32} {n t k key : Nat} (hd : 40 ≤ d) (hM : MZ Z) (hS : MS I L B n t k 0) (hk : k ≤ n) (hkey : SS B n k = key) (hk4 : 4 ≤ key) (hK : ∀ (k' : Nat) (c' : List Int32) (v' : Vl), clR (SS B n) (VV B n) key k = (k', some (c', v')) → ∀ (I9 : Mi) (L9 : Ml), SaQ I I9 → MS I9 L9 B n t k' 0 → Q (some (.int (v' (nmI I)))) I9 L9 Z) (hF : ∀ k' : Nat, clR (SS B n) (VV B n) key k = (k', none) → ∀ (rv : Int32) (I9 : Mi) (L9 : Ml), SaQ I I9 → MB I9 (plF B n k') → Q (some (.int rv)) I9 L9 Z) : AC E yX6_part cX6_part 3 (some .int) d 0 0 [.ref 48, .int 1] I L Z Q := by
  refine ac_go (ls := [some (.ref 48), some (.int 1), none]) (by decide +kernel) (Nat.le_of_ble_eq_true rfl) rfl ?_
  refine aw_iload_n dX6_part_0 rfl ?_
  refine aw_if_ne (tgt := 8) dX6_part_1 (by decide) (fun _ => ?_) (fun zz => absurd zz (by decide))
  refine aw_aload_n dX6_part_8 rfl rfl ?_
  refine aw_gi dX6_part_9 fw_X6_170 hM.1 ?_
  refine aw_if_ne (tgt := 19) dX6_part_12 (by decide) (fun zz => absurd hS.2.2.1 zz) (fun c12 => ?_)
  refine aw_aload_n dX6_part_15 rfl rfl ?_
  refine aw_V0 dX6_part_16 cw_X6_186 ⟨_, _, rfl⟩ hM.1 (by omega) ⟨Nat.le_refl _, Nat.le_refl _⟩ (by decide) (c_X6_next (by omega) hM hS (by omega) (by omega) (fun I2 L2 s2 m2 => ?_))
  refine aw_aload_n dX6_part_19 rfl rfl ?_
  refine aw_gi dX6_part_20 fw_X6_170 hM.1 ?_
  refine aw_if_eq (tgt := 30) dX6_part_23 (by decide) (fun c23 => ?_) (fun zz => absurd m2.2.2.1 zz)
  refine aw_aload_n dX6_part_30 rfl rfl ?_
  refine aw_V0 dX6_part_31 cw_X6_331 ⟨_, _, rfl⟩ hM.1 (by omega) ⟨Nat.le_refl _, Nat.le_refl _⟩ (by decide) (c_X6_either0 (by omega) hM m2 (by have := lt_of_S (SV_ok B n).1 hk (by omega); omega) (fun k1 c1 v1 e1 I1 L1 s1 m1 => ?_) (fun k1 e1 rv1 I1 L1 s1 m1 => ?_))
  · refine aw_istore_n (ls' := [_, _, _]) dX6_part_34 (by decide) rfl rfl ?_
    refine aw_aload_n dX6_part_35 rfl rfl ?_
    refine aw_bipush (v := 59) dX6_part_36 (by decide) ?_
    refine aw_V1 dX6_part_38 cw_X6_211 ⟨_, _, rfl⟩ hM.1 (by omega) ⟨Nat.le_refl _, Nat.le_refl _⟩ (by decide) (c_X6_isSign_12 hM m1 (fun c38 => ?_) (fun c38 => ?_))
    · refine aw_if_ne (tgt := 48) dX6_part_41 (by decide) (fun _ => ?_) (fun zz => absurd zz (by decide))
      refine aw_aload_n dX6_part_48 rfl rfl ?_
      refine aw_gi dX6_part_49 fw_X6_170 hM.1 ?_
      refine aw_if_ne (tgt := 59) dX6_part_52 (by decide) (fun zz => absurd m1.2.2.1 zz) (fun c52 => ?_)
      refine aw_aload_n dX6_part_55 rfl rfl ?_
      refine aw_V0 dX6_part_56 cw_X6_186 ⟨_, _, rfl⟩ hM.1 (by omega) ⟨Nat.le_refl _, Nat.le_refl _⟩ (by decide) (c_X6_next (by omega) hM m1 (by omega) (by omega) (fun I3 L3 s3 m3 => ?_))
      refine aw_iload_n dX6_part_59 rfl ?_
      refine aw_ireturn (ty := .int) dX6_part_60 rfl rfl ?_
      rw [nmI_q s2]
      exact hK _ _ _ (cl_1 hkey e1 c38) _ _ ((s2.tr s1).tr s3) m3
    · refine aw_if_ne (tgt := 48) dX6_part_41 (by decide) (fun zz => absurd zz (by decide)) (fun _ => ?_)
      refine aw_aload_n dX6_part_44 rfl rfl ?_
      refine aw_V0 dX6_part_45 cw_X6_183 ⟨_, _, rfl⟩ hM.1 (by omega) ⟨Nat.le_refl _, Nat.le_refl _⟩ (by decide) (c_X6_fail hM m1 (fun I9 s9 m9 => ?_))
      refine aw_aload_n dX6_part_48 rfl rfl ?_
      refine aw_gi dX6_part_49 fw_X6_170 hM.1 ?_
      refine aw_if_ne (tgt := 59) dX6_part_52 (by decide) (fun c52 => ?_) (fun zz => absurd zz (by rw [m9.1]; decide))
      refine aw_iload_n dX6_part_59 rfl ?_
      refine aw_ireturn (ty := .int) dX6_part_60 rfl rfl ?_
      exact hF _ (cl_2 hkey e1 c38) _ _ _ ((s2.tr s1).tr s9) m9
  · refine aw_istore_n (ls' := [_, _, _]) dX6_part_34 (by decide) rfl rfl ?_
    refine aw_aload_n dX6_part_35 rfl rfl ?_
    refine aw_bipush (v := 59) dX6_part_36 (by decide) ?_
    refine aw_V1 dX6_part_38 cw_X6_211 ⟨_, _, rfl⟩ hM.1 (by omega) ⟨Nat.le_refl _, Nat.le_refl _⟩ (by decide) (c_X6_isSignB hM m1 ?_)
    refine aw_if_ne (tgt := 48) dX6_part_41 (by decide) (fun zz => absurd zz (by decide)) (fun _ => ?_)
    refine aw_aload_n dX6_part_44 rfl rfl ?_
    refine aw_V0 dX6_part_45 cw_X6_183 ⟨_, _, rfl⟩ hM.1 (by omega) ⟨Nat.le_refl _, Nat.le_refl _⟩ (by decide) (c_X6_failB hM m1 ?_)
    refine aw_aload_n dX6_part_48 rfl rfl ?_
    refine aw_gi dX6_part_49 fw_X6_170 hM.1 ?_
    refine aw_if_ne (tgt := 59) dX6_part_52 (by decide) (fun c52 => ?_) (fun zz => absurd zz (by rw [m1.1]; decide))
    refine aw_iload_n dX6_part_59 rfl ?_
    refine aw_ireturn (ty := .int) dX6_part_60 rfl rfl ?_
    exact hF _ (cl_0 hkey e1) _ _ _ (s2.tr s1) m1
theorem c_X6_part0 {E : Ev} {d : Nat} {I : Mi} {L : Ml} {Z : Mz} {Q : Po}  {B : Nat → Int32} {n t k key : Nat} (hd : 2 ≤ d) (hM : MZ Z) (hS : MS I L B n t k 0) (hkey : ¬ SS B n k = key) (hF : ∀ k' : Nat, clR (SS B n) (VV B n) key k = (k', none) → ∀ (rv : Int32) (I9 : Mi) (L9 : Ml), SaQ I I9 → MB I9 (plF B n k') → Q (some (.int rv)) I9 L9 Z) : AC E yX6_part cX6_part 3 (some .int) d 0 0 [.ref 48, .int 0] I L Z Q := by
  refine ac_go (ls := [some (.ref 48), some (.int 0), none]) (by decide +kernel) (Nat.le_of_ble_eq_true rfl) rfl ?_
  refine aw_iload_n dX6_part_0 rfl ?_
  refine aw_if_ne (tgt := 8) dX6_part_1 (by decide) (fun zz => absurd zz (by decide)) (fun _ => ?_)
  refine aw_aload_n dX6_part_4 rfl rfl ?_
  refine aw_V0 dX6_part_5 cw_X6_183 ⟨_, _, rfl⟩ hM.1 (by omega) ⟨Nat.le_refl _, Nat.le_refl _⟩ (by decide) (c_X6_fail hM hS (fun I9 s9 m9 => ?_))
  refine aw_aload_n dX6_part_8 rfl rfl ?_
  refine aw_gi dX6_part_9 fw_X6_170 hM.1 ?_
  refine aw_if_ne (tgt := 19) dX6_part_12 (by decide) (fun c12 => ?_) (fun zz => absurd zz (by rw [m9.1]; decide))
  refine aw_aload_n dX6_part_19 rfl rfl ?_
  refine aw_gi dX6_part_20 fw_X6_170 hM.1 ?_
  refine aw_if_eq (tgt := 30) dX6_part_23 (by decide) (fun zz => absurd zz (by rw [m9.1]; decide)) (fun c23 => ?_)
  refine aw_iconst (v := 0) dX6_part_26 (by decide) ?_
  refine aw_goto (tgt := 34) dX6_part_27 (by decide) ?_
  refine aw_istore_n (ls' := [_, _, _]) dX6_part_34 (by decide) rfl rfl ?_
  refine aw_aload_n dX6_part_35 rfl rfl ?_
  refine aw_bipush (v := 59) dX6_part_36 (by decide) ?_
  refine aw_V1 dX6_part_38 cw_X6_211 ⟨_, _, rfl⟩ hM.1 (by omega) ⟨Nat.le_refl _, Nat.le_refl _⟩ (by decide) (c_X6_isSignB hM m9 ?_)
  refine aw_if_ne (tgt := 48) dX6_part_41 (by decide) (fun zz => absurd zz (by decide)) (fun _ => ?_)
  refine aw_aload_n dX6_part_44 rfl rfl ?_
  refine aw_V0 dX6_part_45 cw_X6_183 ⟨_, _, rfl⟩ hM.1 (by omega) ⟨Nat.le_refl _, Nat.le_refl _⟩ (by decide) (c_X6_failB hM m9 ?_)
  refine aw_aload_n dX6_part_48 rfl rfl ?_
  refine aw_gi dX6_part_49 fw_X6_170 hM.1 ?_
  refine aw_if_ne (tgt := 59) dX6_part_52 (by decide) (fun c52 => ?_) (fun zz => absurd zz (by rw [m9.1]; decide))
  refine aw_iload_n dX6_part_59 rfl ?_
  refine aw_ireturn (ty := .int) dX6_part_60 rfl rfl ?_
  exact hF _ (cl_n hkey) _ _ _ s9 m9
theorem tx_0 {S V : Nat → Nat} {k1 : Nat} (h : clR S V 4 0 = (k1, none)) : txR S V = (k1, none) := by unfold txR; rw [h]
theorem tx_1 {S V : Nat → Nat} {k1 k2 : Nat} {x1 : List Int32 × Vl} (h : clR S V 4 0 = (k1, some x1)) (h2 : clR S V 5 k1 = (k2, none)) : txR S V = (k2, none) := by unfold txR; rw [h]; simp only; rw [h2]
theorem tx_2 {S V : Nat → Nat} {k1 k2 k3 : Nat} {x1 x2 : List Int32 × Vl} (h : clR S V 4 0 = (k1, some x1)) (h2 : clR S V 5 k1 = (k2, some x2)) (h3 : clR S V 6 k2 = (k3, none)) : txR S V = (k3, none) := by unfold txR; rw [h]; simp only; rw [h2]; simp only; rw [h3]
theorem tx_3 {S V : Nat → Nat} {k1 k2 k3 : Nat} {x1 x2 x3 : List Int32 × Vl} (h : clR S V 4 0 = (k1, some x1)) (h2 : clR S V 5 k1 = (k2, some x2)) (h3 : clR S V 6 k2 = (k3, some x3)) (h4 : S k3 = 0) : txR S V = (k3, some (x1, x2, x3)) := by unfold txR; rw [h]; simp only; rw [h2]; simp only; rw [h3]; simp only; rw [if_pos h4]
theorem tx_4 {S V : Nat → Nat} {k1 k2 k3 : Nat} {x1 x2 x3 : List Int32 × Vl} (h : clR S V 4 0 = (k1, some x1)) (h2 : clR S V 5 k1 = (k2, some x2)) (h3 : clR S V 6 k2 = (k3, some x3)) (h4 : ¬ S k3 = 0) : txR S V = (k3, none) := by unfold txR; rw [h]; simp only; rw [h2]; simp only; rw [h3]; simp only; rw [if_neg h4]
theorem cl_le {B : Nat → Int32} {n key k k' : Nat} {x : List Int32 × Vl} (hk : key ≠ 0) (h : k ≤ n) (e : clR (SS B n) (VV B n) key k = (k', some x)) : k' ≤ n := by
  have := (cl_ok (SV_ok B n) hk k h).2.1
  rw [e] at this
  exact this
theorem c_X6_readText0 {E : Ev} {d : Nat} {I : Mi} {L : Ml} {Z : Mz} {Q : Po}  {B : Nat → Int32} {n t : Nat} (hd : 41 ≤ d) (hM : MZ Z) (ht : t < 6) (hn : I 50 t = nI n) (hn6 : n ≤ 160) (hB : ∀ i, i < n → I 49 (160 * t + i) = B i ∧ ¬ B i < 0) (hK : ∀ (k' : Nat) (x1 x2 x3 : List Int32 × Vl), txR (SS B n) (VV B n) = (k', some (x1, x2, x3)) → ∀ (I9 : Mi) (L9 : Ml), SaT I I9 → I9 48 29 = 0 → Q (some (.int (x1.2 (nmI I)))) I9 L9 Z) (hF : ∀ k' : Nat, txR (SS B n) (VV B n) = (k', none) → ∀ (rv : Int32) (I9 : Mi) (L9 : Ml), SaT I I9 → MB I9 (plF B n k') → Q (some (.int rv)) I9 L9 Z) : AC E yX6_readText cX6_readText 6 (some .int) d 0 0 [.ref 48, .int (nI t), .int 0] I L Z Q := by
  refine ac_go (ls := [some (.ref 48), some (.int (nI t)), some (.int 0), none, none, none]) (by decide +kernel) (Nat.le_of_ble_eq_true rfl) rfl ?_
  refine aw_aload_n dX6_readText_0 rfl rfl ?_
  refine aw_sipush (v := 160) dX6_readText_1 (by decide) ?_
  refine aw_iload_n dX6_readText_4 rfl ?_
  refine aw_imul dX6_readText_5 ?_
  refine aw_pi dX6_readText_6 fw_X6_141 (ww_X6_141 _) hM.1 rfl ?_
  refine aw_aload_n dX6_readText_9 rfl rfl ?_
  refine aw_aload_n dX6_readText_10 rfl rfl ?_
  refine aw_gr dX6_readText_11 fw_X6_17 hM.1 hM.2.2.2.1 ?_
  refine aw_iload_n dX6_readText_14 rfl ?_
  refine aw_ia t dX6_readText_15 hM.2.2.2.2.1 rfl ht (by decide) ?_
  rw [show iU I 48 22 (160 * nI t) 50 t = I 50 t from iU_at (by omega)]
  refine aw_pi dX6_readText_16 fw_X6_138 (ww_X6_138 _) hM.1 rfl ?_
  refine aw_aload_n dX6_readText_19 rfl rfl ?_
  refine aw_iconst (v := 0) dX6_readText_20 (by decide) ?_
  refine aw_pi dX6_readText_21 fw_X6_144 (ww_X6_144 _) hM.1 rfl ?_
  refine aw_aload_n dX6_readText_24 rfl rfl ?_
  refine aw_iconst (v := 0) dX6_readText_25 (by decide) ?_
  refine aw_pi dX6_readText_26 fw_X6_180 (ww_X6_180 _) hM.1 rfl ?_
  refine aw_aload_n dX6_readText_29 rfl rfl ?_
  refine aw_iconst (v := 0) dX6_readText_30 (by decide) ?_
  refine aw_pz dX6_readText_31 fw_X6_170 (ww_X6_170 _) hM.1 rfl (by decide) ?_
  have e22 : (160 : Int32) * nI t = nI (160 * t) := pk_mul 160 t
  rw [e22, hn]
  generalize hG : iU (iU (iU (iU (iU I 48 22 (nI (160 * t))) 48 23 (nI n)) 48 24 0) 48 28 0) 48 29 0 = M0
  have sM : SaT I M0 := by rw [← hG]; exact ((((SaT.rf.put (by omega)).put (by omega)).put (by omega)).put (by omega)).put (by omega)
  have hT : TxM M0 B n t := ⟨by rw [← hG, iU_at (by omega), iU_at (by omega), iU_at (by omega), iU_at (by omega), iU_same], ht, by rw [← hG, iU_at (by omega), iU_at (by omega), iU_at (by omega), iU_same], hn6, fun i hi => by rw [sM _ _ (by omega)]; exact hB i hi⟩
  have h24 : M0 48 24 = nI 0 := by rw [← hG, iU_at (by omega), iU_at (by omega), iU_same]; rfl
  have h28 : M0 48 28 = nI 0 := by rw [← hG, iU_at (by omega), iU_same]; rfl
  have h29 : M0 48 29 = 0 := by rw [← hG, iU_same]
  refine aw_aload_n dX6_readText_34 rfl rfl ?_
  refine aw_V0 dX6_readText_35 cw_X6_186 ⟨_, _, rfl⟩ hM.1 (by omega) ⟨Nat.le_refl _, Nat.le_refl _⟩ (by decide) (c_X6_nextToken (by omega) hM hT h24 (Nat.zero_le _) (fun I0 L0 sN tk0 => ?_))
  have s0 : SaT I I0 := sM.tr sN.q.t
  have m0 : MS I0 L0 B n t 0 0 := ⟨hT.sn sN, tk0, by rw [sN _ _ (by omega)]; exact h29, by rw [sN _ _ (by omega)]; exact h28⟩
  refine aw_aload_n dX6_readText_38 rfl rfl ?_
  refine aw_aload_n dX6_readText_39 rfl rfl ?_
  refine aw_bipush (v := 116) dX6_readText_40 (by decide) ?_
  refine aw_bipush (v := 117) dX6_readText_42 (by decide) ?_
  refine aw_bipush (v := 114) dX6_readText_44 (by decide) ?_
  refine aw_bipush (v := 110) dX6_readText_46 (by decide) ?_
  refine aw_bipush (v := 115) dX6_readText_48 (by decide) ?_
  refine aw_iconst (v := 0) dX6_readText_50 (by decide) ?_
  refine aw_iconst (v := 0) dX6_readText_51 (by decide) ?_
  refine aw_iconst (v := 0) dX6_readText_52 (by decide) ?_
  refine aw_V8 dX6_readText_53 cw_X6_189 ⟨_, _, rfl⟩ hM.1 (by omega) ⟨Nat.le_refl _, Nat.le_refl _⟩ (by simp [Value.category, psh]) (c_X6_isWord_turns (by omega) hM m0 (fun cw => ?_) (fun cw => ?_))
  · refine aw_V1 dX6_readText_56 cw_X6_334 ⟨_, _, rfl⟩ hM.1 (by omega) ⟨Nat.le_refl _, Nat.le_refl _⟩ (by decide) (c_X6_part1 (key := 4) (by omega) hM m0 (Nat.zero_le _) ((wd_S (by decide)).mp cw) (by decide) (fun k1 c1 v1 f1 J1 K1 t1 m1 => ?_) (fun kb fb rvb Jb Kb tb mb => ?_))
    · have s1 := s0.tr t1.t
      have hk1 : k1 ≤ n := cl_le (by decide) (Nat.zero_le _) f1
      refine aw_istore_n (ls' := [_, _, _, _, _, _]) dX6_readText_59 (by decide) rfl rfl ?_
      refine aw_aload_n dX6_readText_60 rfl rfl ?_
      refine aw_gi dX6_readText_61 fw_X6_170 hM.1 ?_
      refine aw_if_eq (tgt := 71) dX6_readText_64 (by decide) (fun c64 => ?_) (fun zz => absurd m1.2.2.1 zz)
      refine aw_aload_n dX6_readText_71 rfl rfl ?_
      refine aw_aload_n dX6_readText_72 rfl rfl ?_
      refine aw_bipush (v := 109) dX6_readText_73 (by decide) ?_
      refine aw_bipush (v := 105) dX6_readText_75 (by decide) ?_
      refine aw_bipush (v := 115) dX6_readText_77 (by decide) ?_
      refine aw_bipush (v := 115) dX6_readText_79 (by decide) ?_
      refine aw_bipush (v := 101) dX6_readText_81 (by decide) ?_
      refine aw_bipush (v := 115) dX6_readText_83 (by decide) ?_
      refine aw_iconst (v := 0) dX6_readText_85 (by decide) ?_
      refine aw_iconst (v := 0) dX6_readText_86 (by decide) ?_
      refine aw_V8 dX6_readText_87 cw_X6_189 ⟨_, _, rfl⟩ hM.1 (by omega) ⟨Nat.le_refl _, Nat.le_refl _⟩ (by simp [Value.category, psh]) (c_X6_isWord_misses (by omega) hM m1 (fun cw => ?_) (fun cw => ?_))
      · refine aw_V1 dX6_readText_90 cw_X6_334 ⟨_, _, rfl⟩ hM.1 (by omega) ⟨Nat.le_refl _, Nat.le_refl _⟩ (by decide) (c_X6_part1 (key := 5) (by omega) hM m1 hk1 ((wd_S (by decide)).mp cw) (by decide) (fun k2 c2 v2 f2 J2 K2 t2 m2 => ?_) (fun kb fb rvb Jb Kb tb mb => ?_))
        · have s2 := s1.tr t2.t
          have hk2 : k2 ≤ n := cl_le (by decide) hk1 f2
          refine aw_istore (ls' := [_, _, _, _, _, _]) dX6_readText_93 (by decide) rfl rfl ?_
          refine aw_aload_n dX6_readText_95 rfl rfl ?_
          refine aw_gi dX6_readText_96 fw_X6_170 hM.1 ?_
          refine aw_if_eq (tgt := 106) dX6_readText_99 (by decide) (fun c99 => ?_) (fun zz => absurd m2.2.2.1 zz)
          refine aw_aload_n dX6_readText_106 rfl rfl ?_
          refine aw_aload_n dX6_readText_107 rfl rfl ?_
          refine aw_bipush (v := 98) dX6_readText_108 (by decide) ?_
          refine aw_bipush (v := 111) dX6_readText_110 (by decide) ?_
          refine aw_bipush (v := 117) dX6_readText_112 (by decide) ?_
          refine aw_bipush (v := 110) dX6_readText_114 (by decide) ?_
          refine aw_bipush (v := 100) dX6_readText_116 (by decide) ?_
          refine aw_bipush (v := 115) dX6_readText_118 (by decide) ?_
          refine aw_iconst (v := 0) dX6_readText_120 (by decide) ?_
          refine aw_iconst (v := 0) dX6_readText_121 (by decide) ?_
          refine aw_V8 dX6_readText_122 cw_X6_189 ⟨_, _, rfl⟩ hM.1 (by omega) ⟨Nat.le_refl _, Nat.le_refl _⟩ (by simp [Value.category, psh]) (c_X6_isWord_bounds (by omega) hM m2 (fun cw => ?_) (fun cw => ?_))
          · refine aw_V1 dX6_readText_125 cw_X6_334 ⟨_, _, rfl⟩ hM.1 (by omega) ⟨Nat.le_refl _, Nat.le_refl _⟩ (by decide) (c_X6_part1 (key := 6) (by omega) hM m2 hk2 ((wd_S (by decide)).mp cw) (by decide) (fun k3 c3 v3 f3 J3 K3 t3 m3 => ?_) (fun kb fb rvb Jb Kb tb mb => ?_))
            · have s3 := s2.tr t3.t
              have hk3 : k3 ≤ n := cl_le (by decide) hk2 f3
              refine aw_istore (ls' := [_, _, _, _, _, _]) dX6_readText_128 (by decide) rfl rfl ?_
              refine aw_aload_n dX6_readText_130 rfl rfl ?_
              refine aw_gi dX6_readText_131 fw_X6_170 hM.1 ?_
              refine aw_if_ne (tgt := 148) dX6_readText_134 (by decide) (fun zz => absurd m3.2.2.1 zz) (fun c134 => ?_)
              refine aw_aload_n dX6_readText_137 rfl rfl ?_
              refine aw_gi dX6_readText_138 fw_X6_153 hM.1 ?_
              refine aw_if_eq (tgt := 148) dX6_readText_141 (by decide) (fun c141 => ?_) (fun c141 => ?_)
              · refine aw_iload_n dX6_readText_148 rfl ?_
                refine aw_if_ne (tgt := 156) dX6_readText_149 (by decide) (fun zz => absurd zz (by decide)) (fun _ => ?_)
                refine aw_iload_n dX6_readText_152 rfl ?_
                refine aw_goto (tgt := 168) dX6_readText_153 (by decide) ?_
                refine aw_ireturn (ty := .int) dX6_readText_168 rfl rfl ?_
                have h0 : SS B n k3 = 0 := tk_end.mpr (by
                  have e := m3.2.1.2.1
                  rw [c141] at e
                  exact ((nI_eq (a := 0) (by decide) (by have := mk_le B n (plF B n k3); omega)).mp e).symm)
                have hq := hK _ _ _ _ (tx_3 f1 f2 f3 h0) _ K3 s3 m3.2.2.1
                rw [nmI_t s0]
                exact hq
              · refine aw_aload_n dX6_readText_144 rfl rfl ?_
                have c4 : ¬ SS B n k3 = 0 := fun w => c141 (by rw [m3.2.1.2.1, tk_end.mp w]; rfl)
                refine aw_V0 dX6_readText_145 cw_X6_183 ⟨_, _, rfl⟩ hM.1 (by omega) ⟨Nat.le_refl _, Nat.le_refl _⟩ (by decide) (c_X6_fail hM m3 (fun I9 s9 m9 => ?_))
                refine aw_iload_n dX6_readText_148 rfl ?_
                refine aw_if_ne (tgt := 156) dX6_readText_149 (by decide) (fun zz => absurd zz (by decide)) (fun _ => ?_)
                refine aw_iload_n dX6_readText_152 rfl ?_
                refine aw_goto (tgt := 168) dX6_readText_153 (by decide) ?_
                refine aw_ireturn (ty := .int) dX6_readText_168 rfl rfl ?_
                exact hF _ (tx_4 f1 f2 f3 c4) _ _ _ (s3.tr s9.t) m9
            · refine aw_istore (ls' := [_, _, _, _, _, _]) dX6_readText_128 (by decide) rfl rfl ?_
              refine aw_aload_n dX6_readText_130 rfl rfl ?_
              refine aw_gi dX6_readText_131 fw_X6_170 hM.1 ?_
              refine aw_if_ne (tgt := 148) dX6_readText_134 (by decide) (fun c134 => ?_) (fun zz => absurd zz (by rw [mb.1]; decide))
              refine aw_iload_n dX6_readText_148 rfl ?_
              refine aw_if_ne (tgt := 156) dX6_readText_149 (by decide) (fun zz => absurd zz (by decide)) (fun _ => ?_)
              refine aw_iload_n dX6_readText_152 rfl ?_
              refine aw_goto (tgt := 168) dX6_readText_153 (by decide) ?_
              refine aw_ireturn (ty := .int) dX6_readText_168 rfl rfl ?_
              exact hF _ (tx_2 f1 f2 fb) _ _ _ (s2.tr tb.t) mb
          · refine aw_V1 dX6_readText_125 cw_X6_334 ⟨_, _, rfl⟩ hM.1 (by omega) ⟨Nat.le_refl _, Nat.le_refl _⟩ (by decide) (c_X6_part0 (key := 6) (by omega) hM m2 (fun w => cw ((wd_S (by decide)).mpr w)) (fun kb fb rvb Jb Kb tb mb => ?_))
            refine aw_istore (ls' := [_, _, _, _, _, _]) dX6_readText_128 (by decide) rfl rfl ?_
            refine aw_aload_n dX6_readText_130 rfl rfl ?_
            refine aw_gi dX6_readText_131 fw_X6_170 hM.1 ?_
            refine aw_if_ne (tgt := 148) dX6_readText_134 (by decide) (fun c134 => ?_) (fun zz => absurd zz (by rw [mb.1]; decide))
            refine aw_iload_n dX6_readText_148 rfl ?_
            refine aw_if_ne (tgt := 156) dX6_readText_149 (by decide) (fun zz => absurd zz (by decide)) (fun _ => ?_)
            refine aw_iload_n dX6_readText_152 rfl ?_
            refine aw_goto (tgt := 168) dX6_readText_153 (by decide) ?_
            refine aw_ireturn (ty := .int) dX6_readText_168 rfl rfl ?_
            exact hF _ (tx_2 f1 f2 fb) _ _ _ (s2.tr tb.t) mb
        · refine aw_istore (ls' := [_, _, _, _, _, _]) dX6_readText_93 (by decide) rfl rfl ?_
          refine aw_aload_n dX6_readText_95 rfl rfl ?_
          refine aw_gi dX6_readText_96 fw_X6_170 hM.1 ?_
          refine aw_if_eq (tgt := 106) dX6_readText_99 (by decide) (fun zz => absurd zz (by rw [mb.1]; decide)) (fun c99 => ?_)
          refine aw_iconst (v := 0) dX6_readText_102 (by decide) ?_
          refine aw_goto (tgt := 128) dX6_readText_103 (by decide) ?_
          refine aw_istore (ls' := [_, _, _, _, _, _]) dX6_readText_128 (by decide) rfl rfl ?_
          refine aw_aload_n dX6_readText_130 rfl rfl ?_
          refine aw_gi dX6_readText_131 fw_X6_170 hM.1 ?_
          refine aw_if_ne (tgt := 148) dX6_readText_134 (by decide) (fun c134 => ?_) (fun zz => absurd zz (by rw [mb.1]; decide))
          refine aw_iload_n dX6_readText_148 rfl ?_
          refine aw_if_ne (tgt := 156) dX6_readText_149 (by decide) (fun zz => absurd zz (by decide)) (fun _ => ?_)
          refine aw_iload_n dX6_readText_152 rfl ?_
          refine aw_goto (tgt := 168) dX6_readText_153 (by decide) ?_
          refine aw_ireturn (ty := .int) dX6_readText_168 rfl rfl ?_
          exact hF _ (tx_1 f1 fb) _ _ _ (s1.tr tb.t) mb
      · refine aw_V1 dX6_readText_90 cw_X6_334 ⟨_, _, rfl⟩ hM.1 (by omega) ⟨Nat.le_refl _, Nat.le_refl _⟩ (by decide) (c_X6_part0 (key := 5) (by omega) hM m1 (fun w => cw ((wd_S (by decide)).mpr w)) (fun kb fb rvb Jb Kb tb mb => ?_))
        refine aw_istore (ls' := [_, _, _, _, _, _]) dX6_readText_93 (by decide) rfl rfl ?_
        refine aw_aload_n dX6_readText_95 rfl rfl ?_
        refine aw_gi dX6_readText_96 fw_X6_170 hM.1 ?_
        refine aw_if_eq (tgt := 106) dX6_readText_99 (by decide) (fun zz => absurd zz (by rw [mb.1]; decide)) (fun c99 => ?_)
        refine aw_iconst (v := 0) dX6_readText_102 (by decide) ?_
        refine aw_goto (tgt := 128) dX6_readText_103 (by decide) ?_
        refine aw_istore (ls' := [_, _, _, _, _, _]) dX6_readText_128 (by decide) rfl rfl ?_
        refine aw_aload_n dX6_readText_130 rfl rfl ?_
        refine aw_gi dX6_readText_131 fw_X6_170 hM.1 ?_
        refine aw_if_ne (tgt := 148) dX6_readText_134 (by decide) (fun c134 => ?_) (fun zz => absurd zz (by rw [mb.1]; decide))
        refine aw_iload_n dX6_readText_148 rfl ?_
        refine aw_if_ne (tgt := 156) dX6_readText_149 (by decide) (fun zz => absurd zz (by decide)) (fun _ => ?_)
        refine aw_iload_n dX6_readText_152 rfl ?_
        refine aw_goto (tgt := 168) dX6_readText_153 (by decide) ?_
        refine aw_ireturn (ty := .int) dX6_readText_168 rfl rfl ?_
        exact hF _ (tx_1 f1 fb) _ _ _ (s1.tr tb.t) mb
    · refine aw_istore_n (ls' := [_, _, _, _, _, _]) dX6_readText_59 (by decide) rfl rfl ?_
      refine aw_aload_n dX6_readText_60 rfl rfl ?_
      refine aw_gi dX6_readText_61 fw_X6_170 hM.1 ?_
      refine aw_if_eq (tgt := 71) dX6_readText_64 (by decide) (fun zz => absurd zz (by rw [mb.1]; decide)) (fun c64 => ?_)
      refine aw_iconst (v := 0) dX6_readText_67 (by decide) ?_
      refine aw_goto (tgt := 93) dX6_readText_68 (by decide) ?_
      refine aw_istore (ls' := [_, _, _, _, _, _]) dX6_readText_93 (by decide) rfl rfl ?_
      refine aw_aload_n dX6_readText_95 rfl rfl ?_
      refine aw_gi dX6_readText_96 fw_X6_170 hM.1 ?_
      refine aw_if_eq (tgt := 106) dX6_readText_99 (by decide) (fun zz => absurd zz (by rw [mb.1]; decide)) (fun c99 => ?_)
      refine aw_iconst (v := 0) dX6_readText_102 (by decide) ?_
      refine aw_goto (tgt := 128) dX6_readText_103 (by decide) ?_
      refine aw_istore (ls' := [_, _, _, _, _, _]) dX6_readText_128 (by decide) rfl rfl ?_
      refine aw_aload_n dX6_readText_130 rfl rfl ?_
      refine aw_gi dX6_readText_131 fw_X6_170 hM.1 ?_
      refine aw_if_ne (tgt := 148) dX6_readText_134 (by decide) (fun c134 => ?_) (fun zz => absurd zz (by rw [mb.1]; decide))
      refine aw_iload_n dX6_readText_148 rfl ?_
      refine aw_if_ne (tgt := 156) dX6_readText_149 (by decide) (fun zz => absurd zz (by decide)) (fun _ => ?_)
      refine aw_iload_n dX6_readText_152 rfl ?_
      refine aw_goto (tgt := 168) dX6_readText_153 (by decide) ?_
      refine aw_ireturn (ty := .int) dX6_readText_168 rfl rfl ?_
      exact hF _ (tx_0 fb) _ _ _ (s0.tr tb.t) mb
  · refine aw_V1 dX6_readText_56 cw_X6_334 ⟨_, _, rfl⟩ hM.1 (by omega) ⟨Nat.le_refl _, Nat.le_refl _⟩ (by decide) (c_X6_part0 (key := 4) (by omega) hM m0 (fun w => cw ((wd_S (by decide)).mpr w)) (fun kb fb rvb Jb Kb tb mb => ?_))
    refine aw_istore_n (ls' := [_, _, _, _, _, _]) dX6_readText_59 (by decide) rfl rfl ?_
    refine aw_aload_n dX6_readText_60 rfl rfl ?_
    refine aw_gi dX6_readText_61 fw_X6_170 hM.1 ?_
    refine aw_if_eq (tgt := 71) dX6_readText_64 (by decide) (fun zz => absurd zz (by rw [mb.1]; decide)) (fun c64 => ?_)
    refine aw_iconst (v := 0) dX6_readText_67 (by decide) ?_
    refine aw_goto (tgt := 93) dX6_readText_68 (by decide) ?_
    refine aw_istore (ls' := [_, _, _, _, _, _]) dX6_readText_93 (by decide) rfl rfl ?_
    refine aw_aload_n dX6_readText_95 rfl rfl ?_
    refine aw_gi dX6_readText_96 fw_X6_170 hM.1 ?_
    refine aw_if_eq (tgt := 106) dX6_readText_99 (by decide) (fun zz => absurd zz (by rw [mb.1]; decide)) (fun c99 => ?_)
    refine aw_iconst (v := 0) dX6_readText_102 (by decide) ?_
    refine aw_goto (tgt := 128) dX6_readText_103 (by decide) ?_
    refine aw_istore (ls' := [_, _, _, _, _, _]) dX6_readText_128 (by decide) rfl rfl ?_
    refine aw_aload_n dX6_readText_130 rfl rfl ?_
    refine aw_gi dX6_readText_131 fw_X6_170 hM.1 ?_
    refine aw_if_ne (tgt := 148) dX6_readText_134 (by decide) (fun c134 => ?_) (fun zz => absurd zz (by rw [mb.1]; decide))
    refine aw_iload_n dX6_readText_148 rfl ?_
    refine aw_if_ne (tgt := 156) dX6_readText_149 (by decide) (fun zz => absurd zz (by decide)) (fun _ => ?_)
    refine aw_iload_n dX6_readText_152 rfl ?_
    refine aw_goto (tgt := 168) dX6_readText_153 (by decide) ?_
    refine aw_ireturn (ty := .int) dX6_readText_168 rfl rfl ?_
    exact hF _ (tx_0 fb) _ _ _ (s0.tr tb.t) mb
theorem c_X6_readText1 {E : Ev} {d : Nat} {I : Mi} {L : Ml} {Z : Mz} {Q : Po}  {B : Nat → Int32} {n t : Nat} (hd : 41 ≤ d) (hM : MZ Z) (ht : t < 6) (hn : I 50 t = nI n) (hn6 : n ≤ 160) (hB : ∀ i, i < n → I 49 (160 * t + i) = B i ∧ ¬ B i < 0) (hK : ∀ (k' : Nat) (x1 x2 x3 : List Int32 × Vl), txR (SS B n) (VV B n) = (k', some (x1, x2, x3)) → ∀ (I9 : Mi) (L9 : Ml), SaT I I9 → I9 48 29 = 0 → Q (some (.int (x2.2 (nmI I)))) I9 L9 Z) (hF : ∀ k' : Nat, txR (SS B n) (VV B n) = (k', none) → ∀ (rv : Int32) (I9 : Mi) (L9 : Ml), SaT I I9 → MB I9 (plF B n k') → Q (some (.int rv)) I9 L9 Z) : AC E yX6_readText cX6_readText 6 (some .int) d 0 0 [.ref 48, .int (nI t), .int 1] I L Z Q := by
  refine ac_go (ls := [some (.ref 48), some (.int (nI t)), some (.int 1), none, none, none]) (by decide +kernel) (Nat.le_of_ble_eq_true rfl) rfl ?_
  refine aw_aload_n dX6_readText_0 rfl rfl ?_
  refine aw_sipush (v := 160) dX6_readText_1 (by decide) ?_
  refine aw_iload_n dX6_readText_4 rfl ?_
  refine aw_imul dX6_readText_5 ?_
  refine aw_pi dX6_readText_6 fw_X6_141 (ww_X6_141 _) hM.1 rfl ?_
  refine aw_aload_n dX6_readText_9 rfl rfl ?_
  refine aw_aload_n dX6_readText_10 rfl rfl ?_
  refine aw_gr dX6_readText_11 fw_X6_17 hM.1 hM.2.2.2.1 ?_
  refine aw_iload_n dX6_readText_14 rfl ?_
  refine aw_ia t dX6_readText_15 hM.2.2.2.2.1 rfl ht (by decide) ?_
  rw [show iU I 48 22 (160 * nI t) 50 t = I 50 t from iU_at (by omega)]
  refine aw_pi dX6_readText_16 fw_X6_138 (ww_X6_138 _) hM.1 rfl ?_
  refine aw_aload_n dX6_readText_19 rfl rfl ?_
  refine aw_iconst (v := 0) dX6_readText_20 (by decide) ?_
  refine aw_pi dX6_readText_21 fw_X6_144 (ww_X6_144 _) hM.1 rfl ?_
  refine aw_aload_n dX6_readText_24 rfl rfl ?_
  refine aw_iconst (v := 0) dX6_readText_25 (by decide) ?_
  refine aw_pi dX6_readText_26 fw_X6_180 (ww_X6_180 _) hM.1 rfl ?_
  refine aw_aload_n dX6_readText_29 rfl rfl ?_
  refine aw_iconst (v := 0) dX6_readText_30 (by decide) ?_
  refine aw_pz dX6_readText_31 fw_X6_170 (ww_X6_170 _) hM.1 rfl (by decide) ?_
  have e22 : (160 : Int32) * nI t = nI (160 * t) := pk_mul 160 t
  rw [e22, hn]
  generalize hG : iU (iU (iU (iU (iU I 48 22 (nI (160 * t))) 48 23 (nI n)) 48 24 0) 48 28 0) 48 29 0 = M0
  have sM : SaT I M0 := by rw [← hG]; exact ((((SaT.rf.put (by omega)).put (by omega)).put (by omega)).put (by omega)).put (by omega)
  have hT : TxM M0 B n t := ⟨by rw [← hG, iU_at (by omega), iU_at (by omega), iU_at (by omega), iU_at (by omega), iU_same], ht, by rw [← hG, iU_at (by omega), iU_at (by omega), iU_at (by omega), iU_same], hn6, fun i hi => by rw [sM _ _ (by omega)]; exact hB i hi⟩
  have h24 : M0 48 24 = nI 0 := by rw [← hG, iU_at (by omega), iU_at (by omega), iU_same]; rfl
  have h28 : M0 48 28 = nI 0 := by rw [← hG, iU_at (by omega), iU_same]; rfl
  have h29 : M0 48 29 = 0 := by rw [← hG, iU_same]
  refine aw_aload_n dX6_readText_34 rfl rfl ?_
  refine aw_V0 dX6_readText_35 cw_X6_186 ⟨_, _, rfl⟩ hM.1 (by omega) ⟨Nat.le_refl _, Nat.le_refl _⟩ (by decide) (c_X6_nextToken (by omega) hM hT h24 (Nat.zero_le _) (fun I0 L0 sN tk0 => ?_))
  have s0 : SaT I I0 := sM.tr sN.q.t
  have m0 : MS I0 L0 B n t 0 0 := ⟨hT.sn sN, tk0, by rw [sN _ _ (by omega)]; exact h29, by rw [sN _ _ (by omega)]; exact h28⟩
  refine aw_aload_n dX6_readText_38 rfl rfl ?_
  refine aw_aload_n dX6_readText_39 rfl rfl ?_
  refine aw_bipush (v := 116) dX6_readText_40 (by decide) ?_
  refine aw_bipush (v := 117) dX6_readText_42 (by decide) ?_
  refine aw_bipush (v := 114) dX6_readText_44 (by decide) ?_
  refine aw_bipush (v := 110) dX6_readText_46 (by decide) ?_
  refine aw_bipush (v := 115) dX6_readText_48 (by decide) ?_
  refine aw_iconst (v := 0) dX6_readText_50 (by decide) ?_
  refine aw_iconst (v := 0) dX6_readText_51 (by decide) ?_
  refine aw_iconst (v := 0) dX6_readText_52 (by decide) ?_
  refine aw_V8 dX6_readText_53 cw_X6_189 ⟨_, _, rfl⟩ hM.1 (by omega) ⟨Nat.le_refl _, Nat.le_refl _⟩ (by simp [Value.category, psh]) (c_X6_isWord_turns (by omega) hM m0 (fun cw => ?_) (fun cw => ?_))
  · refine aw_V1 dX6_readText_56 cw_X6_334 ⟨_, _, rfl⟩ hM.1 (by omega) ⟨Nat.le_refl _, Nat.le_refl _⟩ (by decide) (c_X6_part1 (key := 4) (by omega) hM m0 (Nat.zero_le _) ((wd_S (by decide)).mp cw) (by decide) (fun k1 c1 v1 f1 J1 K1 t1 m1 => ?_) (fun kb fb rvb Jb Kb tb mb => ?_))
    · have s1 := s0.tr t1.t
      have hk1 : k1 ≤ n := cl_le (by decide) (Nat.zero_le _) f1
      refine aw_istore_n (ls' := [_, _, _, _, _, _]) dX6_readText_59 (by decide) rfl rfl ?_
      refine aw_aload_n dX6_readText_60 rfl rfl ?_
      refine aw_gi dX6_readText_61 fw_X6_170 hM.1 ?_
      refine aw_if_eq (tgt := 71) dX6_readText_64 (by decide) (fun c64 => ?_) (fun zz => absurd m1.2.2.1 zz)
      refine aw_aload_n dX6_readText_71 rfl rfl ?_
      refine aw_aload_n dX6_readText_72 rfl rfl ?_
      refine aw_bipush (v := 109) dX6_readText_73 (by decide) ?_
      refine aw_bipush (v := 105) dX6_readText_75 (by decide) ?_
      refine aw_bipush (v := 115) dX6_readText_77 (by decide) ?_
      refine aw_bipush (v := 115) dX6_readText_79 (by decide) ?_
      refine aw_bipush (v := 101) dX6_readText_81 (by decide) ?_
      refine aw_bipush (v := 115) dX6_readText_83 (by decide) ?_
      refine aw_iconst (v := 0) dX6_readText_85 (by decide) ?_
      refine aw_iconst (v := 0) dX6_readText_86 (by decide) ?_
      refine aw_V8 dX6_readText_87 cw_X6_189 ⟨_, _, rfl⟩ hM.1 (by omega) ⟨Nat.le_refl _, Nat.le_refl _⟩ (by simp [Value.category, psh]) (c_X6_isWord_misses (by omega) hM m1 (fun cw => ?_) (fun cw => ?_))
      · refine aw_V1 dX6_readText_90 cw_X6_334 ⟨_, _, rfl⟩ hM.1 (by omega) ⟨Nat.le_refl _, Nat.le_refl _⟩ (by decide) (c_X6_part1 (key := 5) (by omega) hM m1 hk1 ((wd_S (by decide)).mp cw) (by decide) (fun k2 c2 v2 f2 J2 K2 t2 m2 => ?_) (fun kb fb rvb Jb Kb tb mb => ?_))
        · have s2 := s1.tr t2.t
          have hk2 : k2 ≤ n := cl_le (by decide) hk1 f2
          refine aw_istore (ls' := [_, _, _, _, _, _]) dX6_readText_93 (by decide) rfl rfl ?_
          refine aw_aload_n dX6_readText_95 rfl rfl ?_
          refine aw_gi dX6_readText_96 fw_X6_170 hM.1 ?_
          refine aw_if_eq (tgt := 106) dX6_readText_99 (by decide) (fun c99 => ?_) (fun zz => absurd m2.2.2.1 zz)
          refine aw_aload_n dX6_readText_106 rfl rfl ?_
          refine aw_aload_n dX6_readText_107 rfl rfl ?_
          refine aw_bipush (v := 98) dX6_readText_108 (by decide) ?_
          refine aw_bipush (v := 111) dX6_readText_110 (by decide) ?_
          refine aw_bipush (v := 117) dX6_readText_112 (by decide) ?_
          refine aw_bipush (v := 110) dX6_readText_114 (by decide) ?_
          refine aw_bipush (v := 100) dX6_readText_116 (by decide) ?_
          refine aw_bipush (v := 115) dX6_readText_118 (by decide) ?_
          refine aw_iconst (v := 0) dX6_readText_120 (by decide) ?_
          refine aw_iconst (v := 0) dX6_readText_121 (by decide) ?_
          refine aw_V8 dX6_readText_122 cw_X6_189 ⟨_, _, rfl⟩ hM.1 (by omega) ⟨Nat.le_refl _, Nat.le_refl _⟩ (by simp [Value.category, psh]) (c_X6_isWord_bounds (by omega) hM m2 (fun cw => ?_) (fun cw => ?_))
          · refine aw_V1 dX6_readText_125 cw_X6_334 ⟨_, _, rfl⟩ hM.1 (by omega) ⟨Nat.le_refl _, Nat.le_refl _⟩ (by decide) (c_X6_part1 (key := 6) (by omega) hM m2 hk2 ((wd_S (by decide)).mp cw) (by decide) (fun k3 c3 v3 f3 J3 K3 t3 m3 => ?_) (fun kb fb rvb Jb Kb tb mb => ?_))
            · have s3 := s2.tr t3.t
              have hk3 : k3 ≤ n := cl_le (by decide) hk2 f3
              refine aw_istore (ls' := [_, _, _, _, _, _]) dX6_readText_128 (by decide) rfl rfl ?_
              refine aw_aload_n dX6_readText_130 rfl rfl ?_
              refine aw_gi dX6_readText_131 fw_X6_170 hM.1 ?_
              refine aw_if_ne (tgt := 148) dX6_readText_134 (by decide) (fun zz => absurd m3.2.2.1 zz) (fun c134 => ?_)
              refine aw_aload_n dX6_readText_137 rfl rfl ?_
              refine aw_gi dX6_readText_138 fw_X6_153 hM.1 ?_
              refine aw_if_eq (tgt := 148) dX6_readText_141 (by decide) (fun c141 => ?_) (fun c141 => ?_)
              · refine aw_iload_n dX6_readText_148 rfl ?_
                refine aw_if_ne (tgt := 156) dX6_readText_149 (by decide) (fun _ => ?_) (fun zz => absurd zz (by decide))
                refine aw_iload_n dX6_readText_156 rfl ?_
                refine aw_iconst (v := 1) dX6_readText_157 (by decide) ?_
                refine aw_icmp_ne (tgt := 166) dX6_readText_158 (by decide) (fun zz => absurd zz (by decide)) (fun _ => ?_)
                refine aw_iload dX6_readText_161 rfl ?_
                refine aw_goto (tgt := 168) dX6_readText_163 (by decide) ?_
                refine aw_ireturn (ty := .int) dX6_readText_168 rfl rfl ?_
                have h0 : SS B n k3 = 0 := tk_end.mpr (by
                  have e := m3.2.1.2.1
                  rw [c141] at e
                  exact ((nI_eq (a := 0) (by decide) (by have := mk_le B n (plF B n k3); omega)).mp e).symm)
                have hq := hK _ _ _ _ (tx_3 f1 f2 f3 h0) _ K3 s3 m3.2.2.1
                rw [nmI_t s1]
                exact hq
              · refine aw_aload_n dX6_readText_144 rfl rfl ?_
                have c4 : ¬ SS B n k3 = 0 := fun w => c141 (by rw [m3.2.1.2.1, tk_end.mp w]; rfl)
                refine aw_V0 dX6_readText_145 cw_X6_183 ⟨_, _, rfl⟩ hM.1 (by omega) ⟨Nat.le_refl _, Nat.le_refl _⟩ (by decide) (c_X6_fail hM m3 (fun I9 s9 m9 => ?_))
                refine aw_iload_n dX6_readText_148 rfl ?_
                refine aw_if_ne (tgt := 156) dX6_readText_149 (by decide) (fun _ => ?_) (fun zz => absurd zz (by decide))
                refine aw_iload_n dX6_readText_156 rfl ?_
                refine aw_iconst (v := 1) dX6_readText_157 (by decide) ?_
                refine aw_icmp_ne (tgt := 166) dX6_readText_158 (by decide) (fun zz => absurd zz (by decide)) (fun _ => ?_)
                refine aw_iload dX6_readText_161 rfl ?_
                refine aw_goto (tgt := 168) dX6_readText_163 (by decide) ?_
                refine aw_ireturn (ty := .int) dX6_readText_168 rfl rfl ?_
                exact hF _ (tx_4 f1 f2 f3 c4) _ _ _ (s3.tr s9.t) m9
            · refine aw_istore (ls' := [_, _, _, _, _, _]) dX6_readText_128 (by decide) rfl rfl ?_
              refine aw_aload_n dX6_readText_130 rfl rfl ?_
              refine aw_gi dX6_readText_131 fw_X6_170 hM.1 ?_
              refine aw_if_ne (tgt := 148) dX6_readText_134 (by decide) (fun c134 => ?_) (fun zz => absurd zz (by rw [mb.1]; decide))
              refine aw_iload_n dX6_readText_148 rfl ?_
              refine aw_if_ne (tgt := 156) dX6_readText_149 (by decide) (fun _ => ?_) (fun zz => absurd zz (by decide))
              refine aw_iload_n dX6_readText_156 rfl ?_
              refine aw_iconst (v := 1) dX6_readText_157 (by decide) ?_
              refine aw_icmp_ne (tgt := 166) dX6_readText_158 (by decide) (fun zz => absurd zz (by decide)) (fun _ => ?_)
              refine aw_iload dX6_readText_161 rfl ?_
              refine aw_goto (tgt := 168) dX6_readText_163 (by decide) ?_
              refine aw_ireturn (ty := .int) dX6_readText_168 rfl rfl ?_
              exact hF _ (tx_2 f1 f2 fb) _ _ _ (s2.tr tb.t) mb
          · refine aw_V1 dX6_readText_125 cw_X6_334 ⟨_, _, rfl⟩ hM.1 (by omega) ⟨Nat.le_refl _, Nat.le_refl _⟩ (by decide) (c_X6_part0 (key := 6) (by omega) hM m2 (fun w => cw ((wd_S (by decide)).mpr w)) (fun kb fb rvb Jb Kb tb mb => ?_))
            refine aw_istore (ls' := [_, _, _, _, _, _]) dX6_readText_128 (by decide) rfl rfl ?_
            refine aw_aload_n dX6_readText_130 rfl rfl ?_
            refine aw_gi dX6_readText_131 fw_X6_170 hM.1 ?_
            refine aw_if_ne (tgt := 148) dX6_readText_134 (by decide) (fun c134 => ?_) (fun zz => absurd zz (by rw [mb.1]; decide))
            refine aw_iload_n dX6_readText_148 rfl ?_
            refine aw_if_ne (tgt := 156) dX6_readText_149 (by decide) (fun _ => ?_) (fun zz => absurd zz (by decide))
            refine aw_iload_n dX6_readText_156 rfl ?_
            refine aw_iconst (v := 1) dX6_readText_157 (by decide) ?_
            refine aw_icmp_ne (tgt := 166) dX6_readText_158 (by decide) (fun zz => absurd zz (by decide)) (fun _ => ?_)
            refine aw_iload dX6_readText_161 rfl ?_
            refine aw_goto (tgt := 168) dX6_readText_163 (by decide) ?_
            refine aw_ireturn (ty := .int) dX6_readText_168 rfl rfl ?_
            exact hF _ (tx_2 f1 f2 fb) _ _ _ (s2.tr tb.t) mb
        · refine aw_istore (ls' := [_, _, _, _, _, _]) dX6_readText_93 (by decide) rfl rfl ?_
          refine aw_aload_n dX6_readText_95 rfl rfl ?_
          refine aw_gi dX6_readText_96 fw_X6_170 hM.1 ?_
          refine aw_if_eq (tgt := 106) dX6_readText_99 (by decide) (fun zz => absurd zz (by rw [mb.1]; decide)) (fun c99 => ?_)
          refine aw_iconst (v := 0) dX6_readText_102 (by decide) ?_
          refine aw_goto (tgt := 128) dX6_readText_103 (by decide) ?_
          refine aw_istore (ls' := [_, _, _, _, _, _]) dX6_readText_128 (by decide) rfl rfl ?_
          refine aw_aload_n dX6_readText_130 rfl rfl ?_
          refine aw_gi dX6_readText_131 fw_X6_170 hM.1 ?_
          refine aw_if_ne (tgt := 148) dX6_readText_134 (by decide) (fun c134 => ?_) (fun zz => absurd zz (by rw [mb.1]; decide))
          refine aw_iload_n dX6_readText_148 rfl ?_
          refine aw_if_ne (tgt := 156) dX6_readText_149 (by decide) (fun _ => ?_) (fun zz => absurd zz (by decide))
          refine aw_iload_n dX6_readText_156 rfl ?_
          refine aw_iconst (v := 1) dX6_readText_157 (by decide) ?_
          refine aw_icmp_ne (tgt := 166) dX6_readText_158 (by decide) (fun zz => absurd zz (by decide)) (fun _ => ?_)
          refine aw_iload dX6_readText_161 rfl ?_
          refine aw_goto (tgt := 168) dX6_readText_163 (by decide) ?_
          refine aw_ireturn (ty := .int) dX6_readText_168 rfl rfl ?_
          exact hF _ (tx_1 f1 fb) _ _ _ (s1.tr tb.t) mb
      · refine aw_V1 dX6_readText_90 cw_X6_334 ⟨_, _, rfl⟩ hM.1 (by omega) ⟨Nat.le_refl _, Nat.le_refl _⟩ (by decide) (c_X6_part0 (key := 5) (by omega) hM m1 (fun w => cw ((wd_S (by decide)).mpr w)) (fun kb fb rvb Jb Kb tb mb => ?_))
        refine aw_istore (ls' := [_, _, _, _, _, _]) dX6_readText_93 (by decide) rfl rfl ?_
        refine aw_aload_n dX6_readText_95 rfl rfl ?_
        refine aw_gi dX6_readText_96 fw_X6_170 hM.1 ?_
        refine aw_if_eq (tgt := 106) dX6_readText_99 (by decide) (fun zz => absurd zz (by rw [mb.1]; decide)) (fun c99 => ?_)
        refine aw_iconst (v := 0) dX6_readText_102 (by decide) ?_
        refine aw_goto (tgt := 128) dX6_readText_103 (by decide) ?_
        refine aw_istore (ls' := [_, _, _, _, _, _]) dX6_readText_128 (by decide) rfl rfl ?_
        refine aw_aload_n dX6_readText_130 rfl rfl ?_
        refine aw_gi dX6_readText_131 fw_X6_170 hM.1 ?_
        refine aw_if_ne (tgt := 148) dX6_readText_134 (by decide) (fun c134 => ?_) (fun zz => absurd zz (by rw [mb.1]; decide))
        refine aw_iload_n dX6_readText_148 rfl ?_
        refine aw_if_ne (tgt := 156) dX6_readText_149 (by decide) (fun _ => ?_) (fun zz => absurd zz (by decide))
        refine aw_iload_n dX6_readText_156 rfl ?_
        refine aw_iconst (v := 1) dX6_readText_157 (by decide) ?_
        refine aw_icmp_ne (tgt := 166) dX6_readText_158 (by decide) (fun zz => absurd zz (by decide)) (fun _ => ?_)
        refine aw_iload dX6_readText_161 rfl ?_
        refine aw_goto (tgt := 168) dX6_readText_163 (by decide) ?_
        refine aw_ireturn (ty := .int) dX6_readText_168 rfl rfl ?_
        exact hF _ (tx_1 f1 fb) _ _ _ (s1.tr tb.t) mb
    · refine aw_istore_n (ls' := [_, _, _, _, _, _]) dX6_readText_59 (by decide) rfl rfl ?_
      refine aw_aload_n dX6_readText_60 rfl rfl ?_
      refine aw_gi dX6_readText_61 fw_X6_170 hM.1 ?_
      refine aw_if_eq (tgt := 71) dX6_readText_64 (by decide) (fun zz => absurd zz (by rw [mb.1]; decide)) (fun c64 => ?_)
      refine aw_iconst (v := 0) dX6_readText_67 (by decide) ?_
      refine aw_goto (tgt := 93) dX6_readText_68 (by decide) ?_
      refine aw_istore (ls' := [_, _, _, _, _, _]) dX6_readText_93 (by decide) rfl rfl ?_
      refine aw_aload_n dX6_readText_95 rfl rfl ?_
      refine aw_gi dX6_readText_96 fw_X6_170 hM.1 ?_
      refine aw_if_eq (tgt := 106) dX6_readText_99 (by decide) (fun zz => absurd zz (by rw [mb.1]; decide)) (fun c99 => ?_)
      refine aw_iconst (v := 0) dX6_readText_102 (by decide) ?_
      refine aw_goto (tgt := 128) dX6_readText_103 (by decide) ?_
      refine aw_istore (ls' := [_, _, _, _, _, _]) dX6_readText_128 (by decide) rfl rfl ?_
      refine aw_aload_n dX6_readText_130 rfl rfl ?_
      refine aw_gi dX6_readText_131 fw_X6_170 hM.1 ?_
      refine aw_if_ne (tgt := 148) dX6_readText_134 (by decide) (fun c134 => ?_) (fun zz => absurd zz (by rw [mb.1]; decide))
      refine aw_iload_n dX6_readText_148 rfl ?_
      refine aw_if_ne (tgt := 156) dX6_readText_149 (by decide) (fun _ => ?_) (fun zz => absurd zz (by decide))
      refine aw_iload_n dX6_readText_156 rfl ?_
      refine aw_iconst (v := 1) dX6_readText_157 (by decide) ?_
      refine aw_icmp_ne (tgt := 166) dX6_readText_158 (by decide) (fun zz => absurd zz (by decide)) (fun _ => ?_)
      refine aw_iload dX6_readText_161 rfl ?_
      refine aw_goto (tgt := 168) dX6_readText_163 (by decide) ?_
      refine aw_ireturn (ty := .int) dX6_readText_168 rfl rfl ?_
      exact hF _ (tx_0 fb) _ _ _ (s0.tr tb.t) mb
  · refine aw_V1 dX6_readText_56 cw_X6_334 ⟨_, _, rfl⟩ hM.1 (by omega) ⟨Nat.le_refl _, Nat.le_refl _⟩ (by decide) (c_X6_part0 (key := 4) (by omega) hM m0 (fun w => cw ((wd_S (by decide)).mpr w)) (fun kb fb rvb Jb Kb tb mb => ?_))
    refine aw_istore_n (ls' := [_, _, _, _, _, _]) dX6_readText_59 (by decide) rfl rfl ?_
    refine aw_aload_n dX6_readText_60 rfl rfl ?_
    refine aw_gi dX6_readText_61 fw_X6_170 hM.1 ?_
    refine aw_if_eq (tgt := 71) dX6_readText_64 (by decide) (fun zz => absurd zz (by rw [mb.1]; decide)) (fun c64 => ?_)
    refine aw_iconst (v := 0) dX6_readText_67 (by decide) ?_
    refine aw_goto (tgt := 93) dX6_readText_68 (by decide) ?_
    refine aw_istore (ls' := [_, _, _, _, _, _]) dX6_readText_93 (by decide) rfl rfl ?_
    refine aw_aload_n dX6_readText_95 rfl rfl ?_
    refine aw_gi dX6_readText_96 fw_X6_170 hM.1 ?_
    refine aw_if_eq (tgt := 106) dX6_readText_99 (by decide) (fun zz => absurd zz (by rw [mb.1]; decide)) (fun c99 => ?_)
    refine aw_iconst (v := 0) dX6_readText_102 (by decide) ?_
    refine aw_goto (tgt := 128) dX6_readText_103 (by decide) ?_
    refine aw_istore (ls' := [_, _, _, _, _, _]) dX6_readText_128 (by decide) rfl rfl ?_
    refine aw_aload_n dX6_readText_130 rfl rfl ?_
    refine aw_gi dX6_readText_131 fw_X6_170 hM.1 ?_
    refine aw_if_ne (tgt := 148) dX6_readText_134 (by decide) (fun c134 => ?_) (fun zz => absurd zz (by rw [mb.1]; decide))
    refine aw_iload_n dX6_readText_148 rfl ?_
    refine aw_if_ne (tgt := 156) dX6_readText_149 (by decide) (fun _ => ?_) (fun zz => absurd zz (by decide))
    refine aw_iload_n dX6_readText_156 rfl ?_
    refine aw_iconst (v := 1) dX6_readText_157 (by decide) ?_
    refine aw_icmp_ne (tgt := 166) dX6_readText_158 (by decide) (fun zz => absurd zz (by decide)) (fun _ => ?_)
    refine aw_iload dX6_readText_161 rfl ?_
    refine aw_goto (tgt := 168) dX6_readText_163 (by decide) ?_
    refine aw_ireturn (ty := .int) dX6_readText_168 rfl rfl ?_
    exact hF _ (tx_0 fb) _ _ _ (s0.tr tb.t) mb
theorem c_X6_readText2 {E : Ev} {d : Nat} {I : Mi} {L : Ml} {Z : Mz} {Q : Po}  {B : Nat → Int32} {n t : Nat} (hd : 41 ≤ d) (hM : MZ Z) (ht : t < 6) (hn : I 50 t = nI n) (hn6 : n ≤ 160) (hB : ∀ i, i < n → I 49 (160 * t + i) = B i ∧ ¬ B i < 0) (hK : ∀ (k' : Nat) (x1 x2 x3 : List Int32 × Vl), txR (SS B n) (VV B n) = (k', some (x1, x2, x3)) → ∀ (I9 : Mi) (L9 : Ml), SaT I I9 → I9 48 29 = 0 → Q (some (.int (x3.2 (nmI I)))) I9 L9 Z) (hF : ∀ k' : Nat, txR (SS B n) (VV B n) = (k', none) → ∀ (rv : Int32) (I9 : Mi) (L9 : Ml), SaT I I9 → MB I9 (plF B n k') → Q (some (.int rv)) I9 L9 Z) : AC E yX6_readText cX6_readText 6 (some .int) d 0 0 [.ref 48, .int (nI t), .int 2] I L Z Q := by
  refine ac_go (ls := [some (.ref 48), some (.int (nI t)), some (.int 2), none, none, none]) (by decide +kernel) (Nat.le_of_ble_eq_true rfl) rfl ?_
  refine aw_aload_n dX6_readText_0 rfl rfl ?_
  refine aw_sipush (v := 160) dX6_readText_1 (by decide) ?_
  refine aw_iload_n dX6_readText_4 rfl ?_
  refine aw_imul dX6_readText_5 ?_
  refine aw_pi dX6_readText_6 fw_X6_141 (ww_X6_141 _) hM.1 rfl ?_
  refine aw_aload_n dX6_readText_9 rfl rfl ?_
  refine aw_aload_n dX6_readText_10 rfl rfl ?_
  refine aw_gr dX6_readText_11 fw_X6_17 hM.1 hM.2.2.2.1 ?_
  refine aw_iload_n dX6_readText_14 rfl ?_
  refine aw_ia t dX6_readText_15 hM.2.2.2.2.1 rfl ht (by decide) ?_
  rw [show iU I 48 22 (160 * nI t) 50 t = I 50 t from iU_at (by omega)]
  refine aw_pi dX6_readText_16 fw_X6_138 (ww_X6_138 _) hM.1 rfl ?_
  refine aw_aload_n dX6_readText_19 rfl rfl ?_
  refine aw_iconst (v := 0) dX6_readText_20 (by decide) ?_
  refine aw_pi dX6_readText_21 fw_X6_144 (ww_X6_144 _) hM.1 rfl ?_
  refine aw_aload_n dX6_readText_24 rfl rfl ?_
  refine aw_iconst (v := 0) dX6_readText_25 (by decide) ?_
  refine aw_pi dX6_readText_26 fw_X6_180 (ww_X6_180 _) hM.1 rfl ?_
  refine aw_aload_n dX6_readText_29 rfl rfl ?_
  refine aw_iconst (v := 0) dX6_readText_30 (by decide) ?_
  refine aw_pz dX6_readText_31 fw_X6_170 (ww_X6_170 _) hM.1 rfl (by decide) ?_
  have e22 : (160 : Int32) * nI t = nI (160 * t) := pk_mul 160 t
  rw [e22, hn]
  generalize hG : iU (iU (iU (iU (iU I 48 22 (nI (160 * t))) 48 23 (nI n)) 48 24 0) 48 28 0) 48 29 0 = M0
  have sM : SaT I M0 := by rw [← hG]; exact ((((SaT.rf.put (by omega)).put (by omega)).put (by omega)).put (by omega)).put (by omega)
  have hT : TxM M0 B n t := ⟨by rw [← hG, iU_at (by omega), iU_at (by omega), iU_at (by omega), iU_at (by omega), iU_same], ht, by rw [← hG, iU_at (by omega), iU_at (by omega), iU_at (by omega), iU_same], hn6, fun i hi => by rw [sM _ _ (by omega)]; exact hB i hi⟩
  have h24 : M0 48 24 = nI 0 := by rw [← hG, iU_at (by omega), iU_at (by omega), iU_same]; rfl
  have h28 : M0 48 28 = nI 0 := by rw [← hG, iU_at (by omega), iU_same]; rfl
  have h29 : M0 48 29 = 0 := by rw [← hG, iU_same]
  refine aw_aload_n dX6_readText_34 rfl rfl ?_
  refine aw_V0 dX6_readText_35 cw_X6_186 ⟨_, _, rfl⟩ hM.1 (by omega) ⟨Nat.le_refl _, Nat.le_refl _⟩ (by decide) (c_X6_nextToken (by omega) hM hT h24 (Nat.zero_le _) (fun I0 L0 sN tk0 => ?_))
  have s0 : SaT I I0 := sM.tr sN.q.t
  have m0 : MS I0 L0 B n t 0 0 := ⟨hT.sn sN, tk0, by rw [sN _ _ (by omega)]; exact h29, by rw [sN _ _ (by omega)]; exact h28⟩
  refine aw_aload_n dX6_readText_38 rfl rfl ?_
  refine aw_aload_n dX6_readText_39 rfl rfl ?_
  refine aw_bipush (v := 116) dX6_readText_40 (by decide) ?_
  refine aw_bipush (v := 117) dX6_readText_42 (by decide) ?_
  refine aw_bipush (v := 114) dX6_readText_44 (by decide) ?_
  refine aw_bipush (v := 110) dX6_readText_46 (by decide) ?_
  refine aw_bipush (v := 115) dX6_readText_48 (by decide) ?_
  refine aw_iconst (v := 0) dX6_readText_50 (by decide) ?_
  refine aw_iconst (v := 0) dX6_readText_51 (by decide) ?_
  refine aw_iconst (v := 0) dX6_readText_52 (by decide) ?_
  refine aw_V8 dX6_readText_53 cw_X6_189 ⟨_, _, rfl⟩ hM.1 (by omega) ⟨Nat.le_refl _, Nat.le_refl _⟩ (by simp [Value.category, psh]) (c_X6_isWord_turns (by omega) hM m0 (fun cw => ?_) (fun cw => ?_))
  · refine aw_V1 dX6_readText_56 cw_X6_334 ⟨_, _, rfl⟩ hM.1 (by omega) ⟨Nat.le_refl _, Nat.le_refl _⟩ (by decide) (c_X6_part1 (key := 4) (by omega) hM m0 (Nat.zero_le _) ((wd_S (by decide)).mp cw) (by decide) (fun k1 c1 v1 f1 J1 K1 t1 m1 => ?_) (fun kb fb rvb Jb Kb tb mb => ?_))
    · have s1 := s0.tr t1.t
      have hk1 : k1 ≤ n := cl_le (by decide) (Nat.zero_le _) f1
      refine aw_istore_n (ls' := [_, _, _, _, _, _]) dX6_readText_59 (by decide) rfl rfl ?_
      refine aw_aload_n dX6_readText_60 rfl rfl ?_
      refine aw_gi dX6_readText_61 fw_X6_170 hM.1 ?_
      refine aw_if_eq (tgt := 71) dX6_readText_64 (by decide) (fun c64 => ?_) (fun zz => absurd m1.2.2.1 zz)
      refine aw_aload_n dX6_readText_71 rfl rfl ?_
      refine aw_aload_n dX6_readText_72 rfl rfl ?_
      refine aw_bipush (v := 109) dX6_readText_73 (by decide) ?_
      refine aw_bipush (v := 105) dX6_readText_75 (by decide) ?_
      refine aw_bipush (v := 115) dX6_readText_77 (by decide) ?_
      refine aw_bipush (v := 115) dX6_readText_79 (by decide) ?_
      refine aw_bipush (v := 101) dX6_readText_81 (by decide) ?_
      refine aw_bipush (v := 115) dX6_readText_83 (by decide) ?_
      refine aw_iconst (v := 0) dX6_readText_85 (by decide) ?_
      refine aw_iconst (v := 0) dX6_readText_86 (by decide) ?_
      refine aw_V8 dX6_readText_87 cw_X6_189 ⟨_, _, rfl⟩ hM.1 (by omega) ⟨Nat.le_refl _, Nat.le_refl _⟩ (by simp [Value.category, psh]) (c_X6_isWord_misses (by omega) hM m1 (fun cw => ?_) (fun cw => ?_))
      · refine aw_V1 dX6_readText_90 cw_X6_334 ⟨_, _, rfl⟩ hM.1 (by omega) ⟨Nat.le_refl _, Nat.le_refl _⟩ (by decide) (c_X6_part1 (key := 5) (by omega) hM m1 hk1 ((wd_S (by decide)).mp cw) (by decide) (fun k2 c2 v2 f2 J2 K2 t2 m2 => ?_) (fun kb fb rvb Jb Kb tb mb => ?_))
        · have s2 := s1.tr t2.t
          have hk2 : k2 ≤ n := cl_le (by decide) hk1 f2
          refine aw_istore (ls' := [_, _, _, _, _, _]) dX6_readText_93 (by decide) rfl rfl ?_
          refine aw_aload_n dX6_readText_95 rfl rfl ?_
          refine aw_gi dX6_readText_96 fw_X6_170 hM.1 ?_
          refine aw_if_eq (tgt := 106) dX6_readText_99 (by decide) (fun c99 => ?_) (fun zz => absurd m2.2.2.1 zz)
          refine aw_aload_n dX6_readText_106 rfl rfl ?_
          refine aw_aload_n dX6_readText_107 rfl rfl ?_
          refine aw_bipush (v := 98) dX6_readText_108 (by decide) ?_
          refine aw_bipush (v := 111) dX6_readText_110 (by decide) ?_
          refine aw_bipush (v := 117) dX6_readText_112 (by decide) ?_
          refine aw_bipush (v := 110) dX6_readText_114 (by decide) ?_
          refine aw_bipush (v := 100) dX6_readText_116 (by decide) ?_
          refine aw_bipush (v := 115) dX6_readText_118 (by decide) ?_
          refine aw_iconst (v := 0) dX6_readText_120 (by decide) ?_
          refine aw_iconst (v := 0) dX6_readText_121 (by decide) ?_
          refine aw_V8 dX6_readText_122 cw_X6_189 ⟨_, _, rfl⟩ hM.1 (by omega) ⟨Nat.le_refl _, Nat.le_refl _⟩ (by simp [Value.category, psh]) (c_X6_isWord_bounds (by omega) hM m2 (fun cw => ?_) (fun cw => ?_))
          · refine aw_V1 dX6_readText_125 cw_X6_334 ⟨_, _, rfl⟩ hM.1 (by omega) ⟨Nat.le_refl _, Nat.le_refl _⟩ (by decide) (c_X6_part1 (key := 6) (by omega) hM m2 hk2 ((wd_S (by decide)).mp cw) (by decide) (fun k3 c3 v3 f3 J3 K3 t3 m3 => ?_) (fun kb fb rvb Jb Kb tb mb => ?_))
            · have s3 := s2.tr t3.t
              have hk3 : k3 ≤ n := cl_le (by decide) hk2 f3
              refine aw_istore (ls' := [_, _, _, _, _, _]) dX6_readText_128 (by decide) rfl rfl ?_
              refine aw_aload_n dX6_readText_130 rfl rfl ?_
              refine aw_gi dX6_readText_131 fw_X6_170 hM.1 ?_
              refine aw_if_ne (tgt := 148) dX6_readText_134 (by decide) (fun zz => absurd m3.2.2.1 zz) (fun c134 => ?_)
              refine aw_aload_n dX6_readText_137 rfl rfl ?_
              refine aw_gi dX6_readText_138 fw_X6_153 hM.1 ?_
              refine aw_if_eq (tgt := 148) dX6_readText_141 (by decide) (fun c141 => ?_) (fun c141 => ?_)
              · refine aw_iload_n dX6_readText_148 rfl ?_
                refine aw_if_ne (tgt := 156) dX6_readText_149 (by decide) (fun _ => ?_) (fun zz => absurd zz (by decide))
                refine aw_iload_n dX6_readText_156 rfl ?_
                refine aw_iconst (v := 1) dX6_readText_157 (by decide) ?_
                refine aw_icmp_ne (tgt := 166) dX6_readText_158 (by decide) (fun _ => ?_) (fun zz => absurd zz (by decide))
                refine aw_iload dX6_readText_166 rfl ?_
                refine aw_ireturn (ty := .int) dX6_readText_168 rfl rfl ?_
                have h0 : SS B n k3 = 0 := tk_end.mpr (by
                  have e := m3.2.1.2.1
                  rw [c141] at e
                  exact ((nI_eq (a := 0) (by decide) (by have := mk_le B n (plF B n k3); omega)).mp e).symm)
                have hq := hK _ _ _ _ (tx_3 f1 f2 f3 h0) _ K3 s3 m3.2.2.1
                rw [nmI_t s2]
                exact hq
              · refine aw_aload_n dX6_readText_144 rfl rfl ?_
                have c4 : ¬ SS B n k3 = 0 := fun w => c141 (by rw [m3.2.1.2.1, tk_end.mp w]; rfl)
                refine aw_V0 dX6_readText_145 cw_X6_183 ⟨_, _, rfl⟩ hM.1 (by omega) ⟨Nat.le_refl _, Nat.le_refl _⟩ (by decide) (c_X6_fail hM m3 (fun I9 s9 m9 => ?_))
                refine aw_iload_n dX6_readText_148 rfl ?_
                refine aw_if_ne (tgt := 156) dX6_readText_149 (by decide) (fun _ => ?_) (fun zz => absurd zz (by decide))
                refine aw_iload_n dX6_readText_156 rfl ?_
                refine aw_iconst (v := 1) dX6_readText_157 (by decide) ?_
                refine aw_icmp_ne (tgt := 166) dX6_readText_158 (by decide) (fun _ => ?_) (fun zz => absurd zz (by decide))
                refine aw_iload dX6_readText_166 rfl ?_
                refine aw_ireturn (ty := .int) dX6_readText_168 rfl rfl ?_
                exact hF _ (tx_4 f1 f2 f3 c4) _ _ _ (s3.tr s9.t) m9
            · refine aw_istore (ls' := [_, _, _, _, _, _]) dX6_readText_128 (by decide) rfl rfl ?_
              refine aw_aload_n dX6_readText_130 rfl rfl ?_
              refine aw_gi dX6_readText_131 fw_X6_170 hM.1 ?_
              refine aw_if_ne (tgt := 148) dX6_readText_134 (by decide) (fun c134 => ?_) (fun zz => absurd zz (by rw [mb.1]; decide))
              refine aw_iload_n dX6_readText_148 rfl ?_
              refine aw_if_ne (tgt := 156) dX6_readText_149 (by decide) (fun _ => ?_) (fun zz => absurd zz (by decide))
              refine aw_iload_n dX6_readText_156 rfl ?_
              refine aw_iconst (v := 1) dX6_readText_157 (by decide) ?_
              refine aw_icmp_ne (tgt := 166) dX6_readText_158 (by decide) (fun _ => ?_) (fun zz => absurd zz (by decide))
              refine aw_iload dX6_readText_166 rfl ?_
              refine aw_ireturn (ty := .int) dX6_readText_168 rfl rfl ?_
              exact hF _ (tx_2 f1 f2 fb) _ _ _ (s2.tr tb.t) mb
          · refine aw_V1 dX6_readText_125 cw_X6_334 ⟨_, _, rfl⟩ hM.1 (by omega) ⟨Nat.le_refl _, Nat.le_refl _⟩ (by decide) (c_X6_part0 (key := 6) (by omega) hM m2 (fun w => cw ((wd_S (by decide)).mpr w)) (fun kb fb rvb Jb Kb tb mb => ?_))
            refine aw_istore (ls' := [_, _, _, _, _, _]) dX6_readText_128 (by decide) rfl rfl ?_
            refine aw_aload_n dX6_readText_130 rfl rfl ?_
            refine aw_gi dX6_readText_131 fw_X6_170 hM.1 ?_
            refine aw_if_ne (tgt := 148) dX6_readText_134 (by decide) (fun c134 => ?_) (fun zz => absurd zz (by rw [mb.1]; decide))
            refine aw_iload_n dX6_readText_148 rfl ?_
            refine aw_if_ne (tgt := 156) dX6_readText_149 (by decide) (fun _ => ?_) (fun zz => absurd zz (by decide))
            refine aw_iload_n dX6_readText_156 rfl ?_
            refine aw_iconst (v := 1) dX6_readText_157 (by decide) ?_
            refine aw_icmp_ne (tgt := 166) dX6_readText_158 (by decide) (fun _ => ?_) (fun zz => absurd zz (by decide))
            refine aw_iload dX6_readText_166 rfl ?_
            refine aw_ireturn (ty := .int) dX6_readText_168 rfl rfl ?_
            exact hF _ (tx_2 f1 f2 fb) _ _ _ (s2.tr tb.t) mb
        · refine aw_istore (ls' := [_, _, _, _, _, _]) dX6_readText_93 (by decide) rfl rfl ?_
          refine aw_aload_n dX6_readText_95 rfl rfl ?_
          refine aw_gi dX6_readText_96 fw_X6_170 hM.1 ?_
          refine aw_if_eq (tgt := 106) dX6_readText_99 (by decide) (fun zz => absurd zz (by rw [mb.1]; decide)) (fun c99 => ?_)
          refine aw_iconst (v := 0) dX6_readText_102 (by decide) ?_
          refine aw_goto (tgt := 128) dX6_readText_103 (by decide) ?_
          refine aw_istore (ls' := [_, _, _, _, _, _]) dX6_readText_128 (by decide) rfl rfl ?_
          refine aw_aload_n dX6_readText_130 rfl rfl ?_
          refine aw_gi dX6_readText_131 fw_X6_170 hM.1 ?_
          refine aw_if_ne (tgt := 148) dX6_readText_134 (by decide) (fun c134 => ?_) (fun zz => absurd zz (by rw [mb.1]; decide))
          refine aw_iload_n dX6_readText_148 rfl ?_
          refine aw_if_ne (tgt := 156) dX6_readText_149 (by decide) (fun _ => ?_) (fun zz => absurd zz (by decide))
          refine aw_iload_n dX6_readText_156 rfl ?_
          refine aw_iconst (v := 1) dX6_readText_157 (by decide) ?_
          refine aw_icmp_ne (tgt := 166) dX6_readText_158 (by decide) (fun _ => ?_) (fun zz => absurd zz (by decide))
          refine aw_iload dX6_readText_166 rfl ?_
          refine aw_ireturn (ty := .int) dX6_readText_168 rfl rfl ?_
          exact hF _ (tx_1 f1 fb) _ _ _ (s1.tr tb.t) mb
      · refine aw_V1 dX6_readText_90 cw_X6_334 ⟨_, _, rfl⟩ hM.1 (by omega) ⟨Nat.le_refl _, Nat.le_refl _⟩ (by decide) (c_X6_part0 (key := 5) (by omega) hM m1 (fun w => cw ((wd_S (by decide)).mpr w)) (fun kb fb rvb Jb Kb tb mb => ?_))
        refine aw_istore (ls' := [_, _, _, _, _, _]) dX6_readText_93 (by decide) rfl rfl ?_
        refine aw_aload_n dX6_readText_95 rfl rfl ?_
        refine aw_gi dX6_readText_96 fw_X6_170 hM.1 ?_
        refine aw_if_eq (tgt := 106) dX6_readText_99 (by decide) (fun zz => absurd zz (by rw [mb.1]; decide)) (fun c99 => ?_)
        refine aw_iconst (v := 0) dX6_readText_102 (by decide) ?_
        refine aw_goto (tgt := 128) dX6_readText_103 (by decide) ?_
        refine aw_istore (ls' := [_, _, _, _, _, _]) dX6_readText_128 (by decide) rfl rfl ?_
        refine aw_aload_n dX6_readText_130 rfl rfl ?_
        refine aw_gi dX6_readText_131 fw_X6_170 hM.1 ?_
        refine aw_if_ne (tgt := 148) dX6_readText_134 (by decide) (fun c134 => ?_) (fun zz => absurd zz (by rw [mb.1]; decide))
        refine aw_iload_n dX6_readText_148 rfl ?_
        refine aw_if_ne (tgt := 156) dX6_readText_149 (by decide) (fun _ => ?_) (fun zz => absurd zz (by decide))
        refine aw_iload_n dX6_readText_156 rfl ?_
        refine aw_iconst (v := 1) dX6_readText_157 (by decide) ?_
        refine aw_icmp_ne (tgt := 166) dX6_readText_158 (by decide) (fun _ => ?_) (fun zz => absurd zz (by decide))
        refine aw_iload dX6_readText_166 rfl ?_
        refine aw_ireturn (ty := .int) dX6_readText_168 rfl rfl ?_
        exact hF _ (tx_1 f1 fb) _ _ _ (s1.tr tb.t) mb
    · refine aw_istore_n (ls' := [_, _, _, _, _, _]) dX6_readText_59 (by decide) rfl rfl ?_
      refine aw_aload_n dX6_readText_60 rfl rfl ?_
      refine aw_gi dX6_readText_61 fw_X6_170 hM.1 ?_
      refine aw_if_eq (tgt := 71) dX6_readText_64 (by decide) (fun zz => absurd zz (by rw [mb.1]; decide)) (fun c64 => ?_)
      refine aw_iconst (v := 0) dX6_readText_67 (by decide) ?_
      refine aw_goto (tgt := 93) dX6_readText_68 (by decide) ?_
      refine aw_istore (ls' := [_, _, _, _, _, _]) dX6_readText_93 (by decide) rfl rfl ?_
      refine aw_aload_n dX6_readText_95 rfl rfl ?_
      refine aw_gi dX6_readText_96 fw_X6_170 hM.1 ?_
      refine aw_if_eq (tgt := 106) dX6_readText_99 (by decide) (fun zz => absurd zz (by rw [mb.1]; decide)) (fun c99 => ?_)
      refine aw_iconst (v := 0) dX6_readText_102 (by decide) ?_
      refine aw_goto (tgt := 128) dX6_readText_103 (by decide) ?_
      refine aw_istore (ls' := [_, _, _, _, _, _]) dX6_readText_128 (by decide) rfl rfl ?_
      refine aw_aload_n dX6_readText_130 rfl rfl ?_
      refine aw_gi dX6_readText_131 fw_X6_170 hM.1 ?_
      refine aw_if_ne (tgt := 148) dX6_readText_134 (by decide) (fun c134 => ?_) (fun zz => absurd zz (by rw [mb.1]; decide))
      refine aw_iload_n dX6_readText_148 rfl ?_
      refine aw_if_ne (tgt := 156) dX6_readText_149 (by decide) (fun _ => ?_) (fun zz => absurd zz (by decide))
      refine aw_iload_n dX6_readText_156 rfl ?_
      refine aw_iconst (v := 1) dX6_readText_157 (by decide) ?_
      refine aw_icmp_ne (tgt := 166) dX6_readText_158 (by decide) (fun _ => ?_) (fun zz => absurd zz (by decide))
      refine aw_iload dX6_readText_166 rfl ?_
      refine aw_ireturn (ty := .int) dX6_readText_168 rfl rfl ?_
      exact hF _ (tx_0 fb) _ _ _ (s0.tr tb.t) mb
  · refine aw_V1 dX6_readText_56 cw_X6_334 ⟨_, _, rfl⟩ hM.1 (by omega) ⟨Nat.le_refl _, Nat.le_refl _⟩ (by decide) (c_X6_part0 (key := 4) (by omega) hM m0 (fun w => cw ((wd_S (by decide)).mpr w)) (fun kb fb rvb Jb Kb tb mb => ?_))
    refine aw_istore_n (ls' := [_, _, _, _, _, _]) dX6_readText_59 (by decide) rfl rfl ?_
    refine aw_aload_n dX6_readText_60 rfl rfl ?_
    refine aw_gi dX6_readText_61 fw_X6_170 hM.1 ?_
    refine aw_if_eq (tgt := 71) dX6_readText_64 (by decide) (fun zz => absurd zz (by rw [mb.1]; decide)) (fun c64 => ?_)
    refine aw_iconst (v := 0) dX6_readText_67 (by decide) ?_
    refine aw_goto (tgt := 93) dX6_readText_68 (by decide) ?_
    refine aw_istore (ls' := [_, _, _, _, _, _]) dX6_readText_93 (by decide) rfl rfl ?_
    refine aw_aload_n dX6_readText_95 rfl rfl ?_
    refine aw_gi dX6_readText_96 fw_X6_170 hM.1 ?_
    refine aw_if_eq (tgt := 106) dX6_readText_99 (by decide) (fun zz => absurd zz (by rw [mb.1]; decide)) (fun c99 => ?_)
    refine aw_iconst (v := 0) dX6_readText_102 (by decide) ?_
    refine aw_goto (tgt := 128) dX6_readText_103 (by decide) ?_
    refine aw_istore (ls' := [_, _, _, _, _, _]) dX6_readText_128 (by decide) rfl rfl ?_
    refine aw_aload_n dX6_readText_130 rfl rfl ?_
    refine aw_gi dX6_readText_131 fw_X6_170 hM.1 ?_
    refine aw_if_ne (tgt := 148) dX6_readText_134 (by decide) (fun c134 => ?_) (fun zz => absurd zz (by rw [mb.1]; decide))
    refine aw_iload_n dX6_readText_148 rfl ?_
    refine aw_if_ne (tgt := 156) dX6_readText_149 (by decide) (fun _ => ?_) (fun zz => absurd zz (by decide))
    refine aw_iload_n dX6_readText_156 rfl ?_
    refine aw_iconst (v := 1) dX6_readText_157 (by decide) ?_
    refine aw_icmp_ne (tgt := 166) dX6_readText_158 (by decide) (fun _ => ?_) (fun zz => absurd zz (by decide))
    refine aw_iload dX6_readText_166 rfl ?_
    refine aw_ireturn (ty := .int) dX6_readText_168 rfl rfl ?_
    exact hF _ (tx_0 fb) _ _ _ (s0.tr tb.t) mb
def wiV (l v m : Int32) : Int32 := if l ≤ v then (if v ≤ m then v else m) else l
theorem nI_ne1 {c : Nat} (h : c < 2 ^ 31) : ¬ nI c = -1 := fun w => by
  have := congrArg Int32.toInt w
  rw [nI_toInt h] at this
  have e : (-1 : Int32).toInt = -1 := by decide
  omega
theorem c_X6_says0 {E : Ev} {d : Nat} {I : Mi} {L : Ml} {Z : Mz} {Q : Po}  {B : Nat → Int32} {n p c ru kk : Nat} {x1 x2 x3 : List Int32 × Vl} (hd : 42 ≤ d) (hM : MZ Z) (hp : p < 5) (hc : c < 6) {gv : Nat} (hg : I 52 (2 * c) = nI gv) (hgv : gv < 4096) (hru : I 48 4 = nI ru) (hr6 : ru < 6) (hn : I 50 ru = nI n) (hn6 : n ≤ 160) (hB : ∀ i, i < n → I 49 (160 * ru + i) = B i ∧ ¬ B i < 0) (hX : txR (SS B n) (VV B n) = (kk, some (x1, x2, x3))) (hQ : ∀ (rv : Int32) (I9 : Mi) (L9 : Ml), SaM I I9 → rv = wiV (-99) (x1.2 (nmV (bcV (I 52 (2 * c))) (I 52 (2 * c + 1)) (I 55 (2 * p)) (I 48 8) (I 55 (2 * p + 1)) (nI c))) 99 → Q (some (.int rv)) I9 L9 Z) : AC E yX6_says cX6_says 4 (some .int) d 0 0 [.ref 48, .int 0, .int (nI p), .int (nI c)] I L Z Q := by
  refine ac_go (ls := [some (.ref 48), some (.int 0), some (.int (nI p)), some (.int (nI c))]) (by decide +kernel) (Nat.le_of_ble_eq_true rfl) rfl ?_
  refine aw_aload_n dX6_says_0 rfl rfl ?_
  refine aw_iload_n dX6_says_1 rfl ?_
  refine aw_iconst (v := -1) dX6_says_2 (by decide) ?_
  refine aw_icmp_ne (tgt := 10) dX6_says_3 (by decide) (fun c3 => ?_) (fun zz => absurd zz (nI_ne1 (by omega)))
  refine aw_aload_n dX6_says_10 rfl rfl ?_
  refine aw_gr dX6_says_11 fw_X6_23 hM.1 hM.2.2.2.2.2.2.2.1 ?_
  refine aw_iconst (v := 2) dX6_says_14 (by decide) ?_
  refine aw_iload_n dX6_says_15 rfl ?_
  refine aw_imul dX6_says_16 ?_
  refine aw_ia (2 * c) dX6_says_17 hM.2.2.2.2.2.2.2.2.1 (ix0 c) (by omega) (by decide) ?_
  refine aw_S1 dX6_says_18 cw_X6_341 (by omega) ⟨Nat.le_refl _, Nat.le_refl _⟩ (by simp [Value.category, psh]) (c_X6_bitsOf hg hgv (fun r18 e18 => ?_))
  refine aw_pi dX6_says_21 fw_X6_193 (ww_X6_193 _) hM.1 rfl ?_
  refine aw_aload_n dX6_says_24 rfl rfl ?_
  refine aw_iload_n dX6_says_25 rfl ?_
  refine aw_iconst (v := -1) dX6_says_26 (by decide) ?_
  refine aw_icmp_ne (tgt := 34) dX6_says_27 (by decide) (fun c27 => ?_) (fun zz => absurd zz (nI_ne1 (by omega)))
  refine aw_aload_n dX6_says_34 rfl rfl ?_
  refine aw_gr dX6_says_35 fw_X6_23 hM.1 hM.2.2.2.2.2.2.2.1 ?_
  refine aw_iconst (v := 2) dX6_says_38 (by decide) ?_
  refine aw_iload_n dX6_says_39 rfl ?_
  refine aw_imul dX6_says_40 ?_
  refine aw_iconst (v := 1) dX6_says_41 (by decide) ?_
  refine aw_iadd dX6_says_42 ?_
  refine aw_ia (2 * c + 1) dX6_says_43 hM.2.2.2.2.2.2.2.2.1 (ix1 c) (by omega) (by decide) ?_
  refine aw_pi dX6_says_44 fw_X6_196 (ww_X6_196 _) hM.1 rfl ?_
  refine aw_aload_n dX6_says_47 rfl rfl ?_
  refine aw_aload_n dX6_says_48 rfl rfl ?_
  refine aw_gr dX6_says_49 fw_X6_32 hM.1 hM.2.2.2.2.2.2.2.2.2.2.2.2.2.1 ?_
  refine aw_iconst (v := 2) dX6_says_52 (by decide) ?_
  refine aw_iload_n dX6_says_53 rfl ?_
  refine aw_imul dX6_says_54 ?_
  refine aw_ia (2 * p) dX6_says_55 hM.2.2.2.2.2.2.2.2.2.2.2.2.2.2.1 (ix0 p) (by omega) (by decide) ?_
  refine aw_pi dX6_says_56 fw_X6_199 (ww_X6_199 _) hM.1 rfl ?_
  refine aw_aload_n dX6_says_59 rfl rfl ?_
  refine aw_aload_n dX6_says_60 rfl rfl ?_
  refine aw_gi dX6_says_61 fw_X6_113 hM.1 ?_
  refine aw_pi dX6_says_64 fw_X6_202 (ww_X6_202 _) hM.1 rfl ?_
  refine aw_aload_n dX6_says_67 rfl rfl ?_
  refine aw_aload_n dX6_says_68 rfl rfl ?_
  refine aw_gr dX6_says_69 fw_X6_32 hM.1 hM.2.2.2.2.2.2.2.2.2.2.2.2.2.1 ?_
  refine aw_iconst (v := 2) dX6_says_72 (by decide) ?_
  refine aw_iload_n dX6_says_73 rfl ?_
  refine aw_imul dX6_says_74 ?_
  refine aw_iconst (v := 1) dX6_says_75 (by decide) ?_
  refine aw_iadd dX6_says_76 ?_
  refine aw_ia (2 * p + 1) dX6_says_77 hM.2.2.2.2.2.2.2.2.2.2.2.2.2.2.1 (ix1 p) (by omega) (by decide) ?_
  refine aw_pi dX6_says_78 fw_X6_205 (ww_X6_205 _) hM.1 rfl ?_
  refine aw_aload_n dX6_says_81 rfl rfl ?_
  refine aw_iload_n dX6_says_82 rfl ?_
  refine aw_iconst (v := -1) dX6_says_83 (by decide) ?_
  refine aw_icmp_ne (tgt := 91) dX6_says_84 (by decide) (fun c84 => ?_) (fun zz => absurd zz (nI_ne1 (by omega)))
  refine aw_iload_n dX6_says_91 rfl ?_
  refine aw_pi dX6_says_92 fw_X6_208 (ww_X6_208 _) hM.1 rfl ?_
  generalize hG : (iU (iU (iU (iU (iU (iU I 48 16 r18) 48 17 ((iU I 48 16 r18) 52 (2 * c + 1))) 48 18 ((iU (iU I 48 16 r18) 48 17 ((iU I 48 16 r18) 52 (2 * c + 1))) 55 (2 * p))) 48 19 ((iU (iU (iU I 48 16 r18) 48 17 ((iU I 48 16 r18) 52 (2 * c + 1))) 48 18 ((iU (iU I 48 16 r18) 48 17 ((iU I 48 16 r18) 52 (2 * c + 1))) 55 (2 * p))) 48 8)) 48 20 ((iU (iU (iU (iU I 48 16 r18) 48 17 ((iU I 48 16 r18) 52 (2 * c + 1))) 48 18 ((iU (iU I 48 16 r18) 48 17 ((iU I 48 16 r18) 52 (2 * c + 1))) 55 (2 * p))) 48 19 ((iU (iU (iU I 48 16 r18) 48 17 ((iU I 48 16 r18) 52 (2 * c + 1))) 48 18 ((iU (iU I 48 16 r18) 48 17 ((iU I 48 16 r18) 52 (2 * c + 1))) 55 (2 * p))) 48 8)) 55 (2 * p + 1))) 48 21 (nI c)) = M6
  have sM : SaM I M6 := by rw [← hG]; exact (((((SaM.rf.put (by omega)).put (by omega)).put (by omega)).put (by omega)).put (by omega)).put (by omega)
  have hnm : nmI M6 = nmV (bcV (I 52 (2 * c))) (I 52 (2 * c + 1)) (I 55 (2 * p)) (I 48 8) (I 55 (2 * p + 1)) (nI c) := by
    rw [← hG]
    unfold nmI
    simp only [iU, Nat.reduceEqDiff, and_false, and_true, false_and, true_and, and_self, if_true, if_false, reduceIte, reduceCtorEq, e18]
  have hr4 : M6 48 4 = nI ru := by rw [sM _ _ (by omega)]; exact hru
  refine aw_aload_n dX6_says_95 rfl rfl ?_
  refine aw_aload_n dX6_says_96 rfl rfl ?_
  refine aw_gi dX6_says_97 fw_X6_116 hM.1 ?_
  rw [hr4]
  refine aw_iload_n dX6_says_100 rfl ?_
  refine aw_V2 dX6_says_101 cw_X6_338 ⟨_, _, rfl⟩ hM.1 (by omega) ⟨Nat.le_refl _, Nat.le_refl _⟩ (by simp [Value.category, psh]) (c_X6_readText0 (B := B) (n := n) (by omega) hM hr6 (by rw [sM _ _ (by omega)]; exact hn) hn6 (fun i hi => by rw [sM _ _ (by omega)]; exact hB i hi) (fun k9 y1 y2 y3 ey I9 L9 s9 b9 => ?_) (fun k9 ey => absurd (hX.symm.trans ey) (by simp)))
  obtain ⟨-, rfl, rfl, rfl⟩ : kk = k9 ∧ x1 = y1 ∧ x2 = y2 ∧ x3 = y3 := by have := hX.symm.trans ey; simp only [Prod.mk.injEq, Option.some.injEq] at this; exact ⟨this.1, this.2.1, this.2.2.1, this.2.2.2⟩
  rw [hnm]
  refine aw_iload_n dX6_says_104 rfl ?_
  refine aw_iconst (v := 2) dX6_says_105 (by decide) ?_
  refine aw_icmp_ne (tgt := 113) dX6_says_106 (by decide) (fun _ => ?_) (fun zz => absurd zz (by decide))
  refine aw_bipush (v := -99) dX6_says_113 (by decide) ?_
  refine aw_bipush (v := 99) dX6_says_115 (by decide) ?_
  refine aw_S3 dX6_says_117 cw_X6_344 (by omega) ⟨Nat.le_refl _, Nat.le_refl _⟩ (by decide) (c_X6_within (fun r117 e117 => ?_))
  refine aw_ireturn (ty := .int) dX6_says_120 rfl rfl ?_
  exact hQ _ _ _ (sM.tr s9.m) e117
theorem c_X6_says1 {E : Ev} {d : Nat} {I : Mi} {L : Ml} {Z : Mz} {Q : Po}  {B : Nat → Int32} {n p c ru kk : Nat} {x1 x2 x3 : List Int32 × Vl} (hd : 42 ≤ d) (hM : MZ Z) (hp : p < 5) (hc : c < 6) {gv : Nat} (hg : I 52 (2 * c) = nI gv) (hgv : gv < 4096) (hru : I 48 4 = nI ru) (hr6 : ru < 6) (hn : I 50 ru = nI n) (hn6 : n ≤ 160) (hB : ∀ i, i < n → I 49 (160 * ru + i) = B i ∧ ¬ B i < 0) (hX : txR (SS B n) (VV B n) = (kk, some (x1, x2, x3))) (hQ : ∀ (rv : Int32) (I9 : Mi) (L9 : Ml), SaM I I9 → rv = wiV (-99) (x2.2 (nmV (bcV (I 52 (2 * c))) (I 52 (2 * c + 1)) (I 55 (2 * p)) (I 48 8) (I 55 (2 * p + 1)) (nI c))) 99 → Q (some (.int rv)) I9 L9 Z) : AC E yX6_says cX6_says 4 (some .int) d 0 0 [.ref 48, .int 1, .int (nI p), .int (nI c)] I L Z Q := by
  refine ac_go (ls := [some (.ref 48), some (.int 1), some (.int (nI p)), some (.int (nI c))]) (by decide +kernel) (Nat.le_of_ble_eq_true rfl) rfl ?_
  refine aw_aload_n dX6_says_0 rfl rfl ?_
  refine aw_iload_n dX6_says_1 rfl ?_
  refine aw_iconst (v := -1) dX6_says_2 (by decide) ?_
  refine aw_icmp_ne (tgt := 10) dX6_says_3 (by decide) (fun c3 => ?_) (fun zz => absurd zz (nI_ne1 (by omega)))
  refine aw_aload_n dX6_says_10 rfl rfl ?_
  refine aw_gr dX6_says_11 fw_X6_23 hM.1 hM.2.2.2.2.2.2.2.1 ?_
  refine aw_iconst (v := 2) dX6_says_14 (by decide) ?_
  refine aw_iload_n dX6_says_15 rfl ?_
  refine aw_imul dX6_says_16 ?_
  refine aw_ia (2 * c) dX6_says_17 hM.2.2.2.2.2.2.2.2.1 (ix0 c) (by omega) (by decide) ?_
  refine aw_S1 dX6_says_18 cw_X6_341 (by omega) ⟨Nat.le_refl _, Nat.le_refl _⟩ (by simp [Value.category, psh]) (c_X6_bitsOf hg hgv (fun r18 e18 => ?_))
  refine aw_pi dX6_says_21 fw_X6_193 (ww_X6_193 _) hM.1 rfl ?_
  refine aw_aload_n dX6_says_24 rfl rfl ?_
  refine aw_iload_n dX6_says_25 rfl ?_
  refine aw_iconst (v := -1) dX6_says_26 (by decide) ?_
  refine aw_icmp_ne (tgt := 34) dX6_says_27 (by decide) (fun c27 => ?_) (fun zz => absurd zz (nI_ne1 (by omega)))
  refine aw_aload_n dX6_says_34 rfl rfl ?_
  refine aw_gr dX6_says_35 fw_X6_23 hM.1 hM.2.2.2.2.2.2.2.1 ?_
  refine aw_iconst (v := 2) dX6_says_38 (by decide) ?_
  refine aw_iload_n dX6_says_39 rfl ?_
  refine aw_imul dX6_says_40 ?_
  refine aw_iconst (v := 1) dX6_says_41 (by decide) ?_
  refine aw_iadd dX6_says_42 ?_
  refine aw_ia (2 * c + 1) dX6_says_43 hM.2.2.2.2.2.2.2.2.1 (ix1 c) (by omega) (by decide) ?_
  refine aw_pi dX6_says_44 fw_X6_196 (ww_X6_196 _) hM.1 rfl ?_
  refine aw_aload_n dX6_says_47 rfl rfl ?_
  refine aw_aload_n dX6_says_48 rfl rfl ?_
  refine aw_gr dX6_says_49 fw_X6_32 hM.1 hM.2.2.2.2.2.2.2.2.2.2.2.2.2.1 ?_
  refine aw_iconst (v := 2) dX6_says_52 (by decide) ?_
  refine aw_iload_n dX6_says_53 rfl ?_
  refine aw_imul dX6_says_54 ?_
  refine aw_ia (2 * p) dX6_says_55 hM.2.2.2.2.2.2.2.2.2.2.2.2.2.2.1 (ix0 p) (by omega) (by decide) ?_
  refine aw_pi dX6_says_56 fw_X6_199 (ww_X6_199 _) hM.1 rfl ?_
  refine aw_aload_n dX6_says_59 rfl rfl ?_
  refine aw_aload_n dX6_says_60 rfl rfl ?_
  refine aw_gi dX6_says_61 fw_X6_113 hM.1 ?_
  refine aw_pi dX6_says_64 fw_X6_202 (ww_X6_202 _) hM.1 rfl ?_
  refine aw_aload_n dX6_says_67 rfl rfl ?_
  refine aw_aload_n dX6_says_68 rfl rfl ?_
  refine aw_gr dX6_says_69 fw_X6_32 hM.1 hM.2.2.2.2.2.2.2.2.2.2.2.2.2.1 ?_
  refine aw_iconst (v := 2) dX6_says_72 (by decide) ?_
  refine aw_iload_n dX6_says_73 rfl ?_
  refine aw_imul dX6_says_74 ?_
  refine aw_iconst (v := 1) dX6_says_75 (by decide) ?_
  refine aw_iadd dX6_says_76 ?_
  refine aw_ia (2 * p + 1) dX6_says_77 hM.2.2.2.2.2.2.2.2.2.2.2.2.2.2.1 (ix1 p) (by omega) (by decide) ?_
  refine aw_pi dX6_says_78 fw_X6_205 (ww_X6_205 _) hM.1 rfl ?_
  refine aw_aload_n dX6_says_81 rfl rfl ?_
  refine aw_iload_n dX6_says_82 rfl ?_
  refine aw_iconst (v := -1) dX6_says_83 (by decide) ?_
  refine aw_icmp_ne (tgt := 91) dX6_says_84 (by decide) (fun c84 => ?_) (fun zz => absurd zz (nI_ne1 (by omega)))
  refine aw_iload_n dX6_says_91 rfl ?_
  refine aw_pi dX6_says_92 fw_X6_208 (ww_X6_208 _) hM.1 rfl ?_
  generalize hG : (iU (iU (iU (iU (iU (iU I 48 16 r18) 48 17 ((iU I 48 16 r18) 52 (2 * c + 1))) 48 18 ((iU (iU I 48 16 r18) 48 17 ((iU I 48 16 r18) 52 (2 * c + 1))) 55 (2 * p))) 48 19 ((iU (iU (iU I 48 16 r18) 48 17 ((iU I 48 16 r18) 52 (2 * c + 1))) 48 18 ((iU (iU I 48 16 r18) 48 17 ((iU I 48 16 r18) 52 (2 * c + 1))) 55 (2 * p))) 48 8)) 48 20 ((iU (iU (iU (iU I 48 16 r18) 48 17 ((iU I 48 16 r18) 52 (2 * c + 1))) 48 18 ((iU (iU I 48 16 r18) 48 17 ((iU I 48 16 r18) 52 (2 * c + 1))) 55 (2 * p))) 48 19 ((iU (iU (iU I 48 16 r18) 48 17 ((iU I 48 16 r18) 52 (2 * c + 1))) 48 18 ((iU (iU I 48 16 r18) 48 17 ((iU I 48 16 r18) 52 (2 * c + 1))) 55 (2 * p))) 48 8)) 55 (2 * p + 1))) 48 21 (nI c)) = M6
  have sM : SaM I M6 := by rw [← hG]; exact (((((SaM.rf.put (by omega)).put (by omega)).put (by omega)).put (by omega)).put (by omega)).put (by omega)
  have hnm : nmI M6 = nmV (bcV (I 52 (2 * c))) (I 52 (2 * c + 1)) (I 55 (2 * p)) (I 48 8) (I 55 (2 * p + 1)) (nI c) := by
    rw [← hG]
    unfold nmI
    simp only [iU, Nat.reduceEqDiff, and_false, and_true, false_and, true_and, and_self, if_true, if_false, reduceIte, reduceCtorEq, e18]
  have hr4 : M6 48 4 = nI ru := by rw [sM _ _ (by omega)]; exact hru
  refine aw_aload_n dX6_says_95 rfl rfl ?_
  refine aw_aload_n dX6_says_96 rfl rfl ?_
  refine aw_gi dX6_says_97 fw_X6_116 hM.1 ?_
  rw [hr4]
  refine aw_iload_n dX6_says_100 rfl ?_
  refine aw_V2 dX6_says_101 cw_X6_338 ⟨_, _, rfl⟩ hM.1 (by omega) ⟨Nat.le_refl _, Nat.le_refl _⟩ (by simp [Value.category, psh]) (c_X6_readText1 (B := B) (n := n) (by omega) hM hr6 (by rw [sM _ _ (by omega)]; exact hn) hn6 (fun i hi => by rw [sM _ _ (by omega)]; exact hB i hi) (fun k9 y1 y2 y3 ey I9 L9 s9 b9 => ?_) (fun k9 ey => absurd (hX.symm.trans ey) (by simp)))
  obtain ⟨-, rfl, rfl, rfl⟩ : kk = k9 ∧ x1 = y1 ∧ x2 = y2 ∧ x3 = y3 := by have := hX.symm.trans ey; simp only [Prod.mk.injEq, Option.some.injEq] at this; exact ⟨this.1, this.2.1, this.2.2.1, this.2.2.2⟩
  rw [hnm]
  refine aw_iload_n dX6_says_104 rfl ?_
  refine aw_iconst (v := 2) dX6_says_105 (by decide) ?_
  refine aw_icmp_ne (tgt := 113) dX6_says_106 (by decide) (fun _ => ?_) (fun zz => absurd zz (by decide))
  refine aw_bipush (v := -99) dX6_says_113 (by decide) ?_
  refine aw_bipush (v := 99) dX6_says_115 (by decide) ?_
  refine aw_S3 dX6_says_117 cw_X6_344 (by omega) ⟨Nat.le_refl _, Nat.le_refl _⟩ (by decide) (c_X6_within (fun r117 e117 => ?_))
  refine aw_ireturn (ty := .int) dX6_says_120 rfl rfl ?_
  exact hQ _ _ _ (sM.tr s9.m) e117
theorem c_X6_says2 {E : Ev} {d : Nat} {I : Mi} {L : Ml} {Z : Mz} {Q : Po}  {B : Nat → Int32} {n p ru kk : Nat} {x1 x2 x3 : List Int32 × Vl} (hd : 42 ≤ d) (hM : MZ Z) (hp : p < 5) (hru : I 48 4 = nI ru) (hr6 : ru < 6) (hn : I 50 ru = nI n) (hn6 : n ≤ 160) (hB : ∀ i, i < n → I 49 (160 * ru + i) = B i ∧ ¬ B i < 0) (hX : txR (SS B n) (VV B n) = (kk, some (x1, x2, x3))) (hQ : ∀ (rv : Int32) (I9 : Mi) (L9 : Ml), SaM I I9 → rv = wiV (0) (x3.2 (nmV 0 0 (I 55 (2 * p)) (I 48 8) (I 55 (2 * p + 1)) 0)) 99 → Q (some (.int rv)) I9 L9 Z) : AC E yX6_says cX6_says 4 (some .int) d 0 0 [.ref 48, .int 2, .int (nI p), .int (-1)] I L Z Q := by
  refine ac_go (ls := [some (.ref 48), some (.int 2), some (.int (nI p)), some (.int (-1))]) (by decide +kernel) (Nat.le_of_ble_eq_true rfl) rfl ?_
  refine aw_aload_n dX6_says_0 rfl rfl ?_
  refine aw_iload_n dX6_says_1 rfl ?_
  refine aw_iconst (v := -1) dX6_says_2 (by decide) ?_
  refine aw_icmp_ne (tgt := 10) dX6_says_3 (by decide) (fun zz => absurd zz (by decide)) (fun _ => ?_)
  refine aw_iconst (v := 0) dX6_says_6 (by decide) ?_
  refine aw_goto (tgt := 21) dX6_says_7 (by decide) ?_
  refine aw_pi dX6_says_21 fw_X6_193 (ww_X6_193 _) hM.1 rfl ?_
  refine aw_aload_n dX6_says_24 rfl rfl ?_
  refine aw_iload_n dX6_says_25 rfl ?_
  refine aw_iconst (v := -1) dX6_says_26 (by decide) ?_
  refine aw_icmp_ne (tgt := 34) dX6_says_27 (by decide) (fun zz => absurd zz (by decide)) (fun _ => ?_)
  refine aw_iconst (v := 0) dX6_says_30 (by decide) ?_
  refine aw_goto (tgt := 44) dX6_says_31 (by decide) ?_
  refine aw_pi dX6_says_44 fw_X6_196 (ww_X6_196 _) hM.1 rfl ?_
  refine aw_aload_n dX6_says_47 rfl rfl ?_
  refine aw_aload_n dX6_says_48 rfl rfl ?_
  refine aw_gr dX6_says_49 fw_X6_32 hM.1 hM.2.2.2.2.2.2.2.2.2.2.2.2.2.1 ?_
  refine aw_iconst (v := 2) dX6_says_52 (by decide) ?_
  refine aw_iload_n dX6_says_53 rfl ?_
  refine aw_imul dX6_says_54 ?_
  refine aw_ia (2 * p) dX6_says_55 hM.2.2.2.2.2.2.2.2.2.2.2.2.2.2.1 (ix0 p) (by omega) (by decide) ?_
  refine aw_pi dX6_says_56 fw_X6_199 (ww_X6_199 _) hM.1 rfl ?_
  refine aw_aload_n dX6_says_59 rfl rfl ?_
  refine aw_aload_n dX6_says_60 rfl rfl ?_
  refine aw_gi dX6_says_61 fw_X6_113 hM.1 ?_
  refine aw_pi dX6_says_64 fw_X6_202 (ww_X6_202 _) hM.1 rfl ?_
  refine aw_aload_n dX6_says_67 rfl rfl ?_
  refine aw_aload_n dX6_says_68 rfl rfl ?_
  refine aw_gr dX6_says_69 fw_X6_32 hM.1 hM.2.2.2.2.2.2.2.2.2.2.2.2.2.1 ?_
  refine aw_iconst (v := 2) dX6_says_72 (by decide) ?_
  refine aw_iload_n dX6_says_73 rfl ?_
  refine aw_imul dX6_says_74 ?_
  refine aw_iconst (v := 1) dX6_says_75 (by decide) ?_
  refine aw_iadd dX6_says_76 ?_
  refine aw_ia (2 * p + 1) dX6_says_77 hM.2.2.2.2.2.2.2.2.2.2.2.2.2.2.1 (ix1 p) (by omega) (by decide) ?_
  refine aw_pi dX6_says_78 fw_X6_205 (ww_X6_205 _) hM.1 rfl ?_
  refine aw_aload_n dX6_says_81 rfl rfl ?_
  refine aw_iload_n dX6_says_82 rfl ?_
  refine aw_iconst (v := -1) dX6_says_83 (by decide) ?_
  refine aw_icmp_ne (tgt := 91) dX6_says_84 (by decide) (fun zz => absurd zz (by decide)) (fun _ => ?_)
  refine aw_iconst (v := 0) dX6_says_87 (by decide) ?_
  refine aw_goto (tgt := 92) dX6_says_88 (by decide) ?_
  refine aw_pi dX6_says_92 fw_X6_208 (ww_X6_208 _) hM.1 rfl ?_
  generalize hG : (iU (iU (iU (iU (iU (iU I 48 16 0) 48 17 0) 48 18 ((iU (iU I 48 16 0) 48 17 0) 55 (2 * p))) 48 19 ((iU (iU (iU I 48 16 0) 48 17 0) 48 18 ((iU (iU I 48 16 0) 48 17 0) 55 (2 * p))) 48 8)) 48 20 ((iU (iU (iU (iU I 48 16 0) 48 17 0) 48 18 ((iU (iU I 48 16 0) 48 17 0) 55 (2 * p))) 48 19 ((iU (iU (iU I 48 16 0) 48 17 0) 48 18 ((iU (iU I 48 16 0) 48 17 0) 55 (2 * p))) 48 8)) 55 (2 * p + 1))) 48 21 0) = M6
  have sM : SaM I M6 := by rw [← hG]; exact (((((SaM.rf.put (by omega)).put (by omega)).put (by omega)).put (by omega)).put (by omega)).put (by omega)
  have hnm : nmI M6 = nmV 0 0 (I 55 (2 * p)) (I 48 8) (I 55 (2 * p + 1)) 0 := by
    rw [← hG]
    unfold nmI
    simp only [iU, Nat.reduceEqDiff, and_false, and_true, false_and, true_and, and_self, if_true, if_false, reduceIte, reduceCtorEq]
  have hr4 : M6 48 4 = nI ru := by rw [sM _ _ (by omega)]; exact hru
  refine aw_aload_n dX6_says_95 rfl rfl ?_
  refine aw_aload_n dX6_says_96 rfl rfl ?_
  refine aw_gi dX6_says_97 fw_X6_116 hM.1 ?_
  rw [hr4]
  refine aw_iload_n dX6_says_100 rfl ?_
  refine aw_V2 dX6_says_101 cw_X6_338 ⟨_, _, rfl⟩ hM.1 (by omega) ⟨Nat.le_refl _, Nat.le_refl _⟩ (by simp [Value.category, psh]) (c_X6_readText2 (B := B) (n := n) (by omega) hM hr6 (by rw [sM _ _ (by omega)]; exact hn) hn6 (fun i hi => by rw [sM _ _ (by omega)]; exact hB i hi) (fun k9 y1 y2 y3 ey I9 L9 s9 b9 => ?_) (fun k9 ey => absurd (hX.symm.trans ey) (by simp)))
  obtain ⟨-, rfl, rfl, rfl⟩ : kk = k9 ∧ x1 = y1 ∧ x2 = y2 ∧ x3 = y3 := by have := hX.symm.trans ey; simp only [Prod.mk.injEq, Option.some.injEq] at this; exact ⟨this.1, this.2.1, this.2.2.1, this.2.2.2⟩
  rw [hnm]
  refine aw_iload_n dX6_says_104 rfl ?_
  refine aw_iconst (v := 2) dX6_says_105 (by decide) ?_
  refine aw_icmp_ne (tgt := 113) dX6_says_106 (by decide) (fun zz => absurd zz (by decide)) (fun _ => ?_)
  refine aw_iconst (v := 0) dX6_says_109 (by decide) ?_
  refine aw_goto (tgt := 115) dX6_says_110 (by decide) ?_
  refine aw_bipush (v := 99) dX6_says_115 (by decide) ?_
  refine aw_S3 dX6_says_117 cw_X6_344 (by omega) ⟨Nat.le_refl _, Nat.le_refl _⟩ (by decide) (c_X6_within (fun r117 e117 => ?_))
  refine aw_ireturn (ty := .int) dX6_says_120 rfl rfl ?_
  exact hQ _ _ _ (sM.tr s9.m) e117
