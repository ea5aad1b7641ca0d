/-! ===== the class: film, drawn, chance, house ===== -/
/-- rows but the stack's, the names', and one sheet's items -/
def FiS (a : Nat) (J I : Mi) : Prop := ∀ b, b ≠ 3 → b ≠ 18 → b ≠ a + 1 → I b = J b
theorem FiS.h {a : Nat} {J I I' : Mi} (s : FiS a J I) (k : SamH 10 I I') : FiS a J I' := fun b h1 h2 h3 => (k b h1 h2).trans (s b h1 h2 h3)
theorem FiS.up {a : Nat} {J I : Mi} (s : FiS a J I) (k : Nat) (x : Int32) : FiS a J (iU I (a + 1) k x) := by
  intro b h1 h2 h3
  rw [← s b h1 h2 h3]
  funext j
  exact iU_at (fun z => h3 z.1)
theorem l_X5_film {E : Ev} {d : Nat} {J : Mi} {L : Ml} {Z : Mz} {Q : Po} {s p ru t q mm ma mb n : Nat} {xs : Option Value} (hG : GZ Z) (hs : s < 4) (hR0 : RD J Z 10 ru t q mm ma mb n) (hd : 5 ≤ d) (hp : p < 5) (htq : 45 < t ∧ 45 < q) (hso : J (38 + 2 * s) 1 = 1) (hsz : J (38 + 2 * s) 2 = nI n) (hQ : ∀ I9 : Mi, FiS (38 + 2 * s) J I9 → (∀ k, k < n → I9 (38 + 2 * s + 1) k = naV 1 (rbV J 10 q ma mb mm p k)) → Q (some (.int (I9 10 6))) I9 L Z) : ∀ (k j : Nat) (I : Mi), j + k = n → FiS (38 + 2 * s) J I → (∀ i, i < j → I (38 + 2 * s + 1) i = naV 1 (rbV J 10 q ma mb mm p i)) → AW E yX5_film cX5_film 5 (some .int) (rmOf d 0 0) Q 0 0 43 [some (.ref 0), xs, some (.int (nI p)), some (.ref (38 + 2 * s)), some (.int (nI j))] [] I L Z := by
  have hn6 := hR0.2.2.2.2.1
  intro k
  induction k with
  | zero =>
    intro j I hj hf hi
    have hR : RD I Z 10 ru t q mm ma mb n := hR0.eqv (hf 10 (by decide) (by decide) (by omega)) (hf t (by omega) (by omega) (by omega))
    refine aw_iload dX5_film_43 rfl ?_
    refine aw_aload_n dX5_film_45 rfl rfl ?_
    refine aw_gr dX5_film_46 fw_X5_28 hG.1 hG.2.2.2.1 ?_
    refine aw_gi dX5_film_49 fw_X5_205 hG.2.2.2.2.2.2.2.2.2.1.1 ?_
    refine aw_icmp_ge (tgt := 77) dX5_film_52 (by decide) (fun c52 => ?_) (fun zz => absurd (by rw [hR.2.2.2.1, show j = n by omega]; exact Int32.le_refl _) zz)
    refine aw_aload_n dX5_film_77 rfl rfl ?_
    refine aw_gr dX5_film_78 fw_X5_28 hG.1 hG.2.2.2.1 ?_
    refine aw_gi dX5_film_81 fw_X5_205 hG.2.2.2.2.2.2.2.2.2.1.1 ?_
    refine aw_ireturn (ty := .int) dX5_film_84 rfl rfl ?_
    exact hQ I hf (fun i hin => hi i (by omega))
  | succ k ih =>
    intro j I hj hf hi
    have hR : RD I Z 10 ru t q mm ma mb n := hR0.eqv (hf 10 (by decide) (by decide) (by omega)) (hf t (by omega) (by omega) (by omega))
    have hrb : rbV I 10 q ma mb mm p j = rbV J 10 q ma mb mm p j := rbV_eqv (hf q (by omega) (by omega) (by omega)) (hf 10 (by decide) (by decide) (by omega)) (hf 11 (by decide) (by decide) (by omega)) (hf 12 (by decide) (by decide) (by omega)) (hf 15 (by decide) (by decide) (by omega)) (hf 16 (by decide) (by decide) (by omega)) (hf 17 (by decide) (by decide) (by omega))
    refine aw_iload dX5_film_43 rfl ?_
    refine aw_aload_n dX5_film_45 rfl rfl ?_
    refine aw_gr dX5_film_46 fw_X5_28 hG.1 hG.2.2.2.1 ?_
    refine aw_gi dX5_film_49 fw_X5_205 hG.2.2.2.2.2.2.2.2.2.1.1 ?_
    refine aw_icmp_ge (tgt := 77) dX5_film_52 (by decide) (fun zz => absurd zz (by rw [hR.2.2.2.1]; exact nI_ge (by omega) (by omega))) (fun c52 => ?_)
    refine aw_aload_n dX5_film_55 rfl rfl ?_
    refine aw_iload dX5_film_56 rfl ?_
    refine aw_aload_n dX5_film_58 rfl rfl ?_
    refine aw_gr dX5_film_59 fw_X5_28 hG.1 hG.2.2.2.1 ?_
    refine aw_iload_n dX5_film_62 rfl ?_
    refine aw_iload dX5_film_63 rfl ?_
    refine aw_V2 dX5_film_65 cw_X5_137 ⟨_, _, rfl⟩ hG.2.2.2.2.2.2.2.2.2.1.1 (by omega) ⟨Nat.le_refl _, Nat.le_refl _⟩ (by simp [Value.category, psh]) (c_X0_readBy (by omega) hR hp (show j < n by omega) (fun r65 I65 h65 e65 => ?_))
    have f65 := hf.h h65
    refine aw_V2 dX5_film_68 cw_X5_243 ⟨_, _, rfl⟩ (hG.2.2.2.2.2.2.2.2.1 s hs).2.1 (by omega) ⟨Nat.le_refl _, Nat.le_refl _⟩ (by decide) (c_X2_put (z := n) (by omega) (hG.2.2.2.2.2.2.2.2.1 s hs).2 (by rw [f65 _ (by omega) (by omega) (by omega)]; exact hsz) (show j < n by omega) (by omega) ?_)
    refine aw_iinc (v := nI (j + 1)) (ls' := [_, _, _, _, _]) dX5_film_71 rfl (nI_1 j) (by decide) rfl rfl ?_
    refine aw_goto (tgt := 43) dX5_film_74 (by decide) ?_
    refine ih (j + 1) _ (by omega) (f65.up _ _) (fun i hi1 => ?_)
    by_cases hij : i = j
    · subst hij
      rw [iU_same, f65 _ (by omega) (by omega) (by omega), hso, e65, hrb]
    · rw [iU_at (by omega), h65 _ (by omega) (by omega)]
      exact hi i (by omega)
theorem c_X5_film {E : Ev} {d : Nat} {I : Mi} {L : Ml} {Z : Mz} {Q : Po} {x : Int32} {z : Int32} {ru t q mm ma mb n m : Nat} (hd : 6 ≤ d) (hG : GZ Z) (hR : RD I Z 10 ru t q mm ma mb n) (hm : I 10 13 = nI m) (hm5 : m ≤ 5) (htq : 45 < t ∧ 45 < q) (hB : ¬ ((¬ x < 0 ∧ ¬ 3 < x) ∧ (∃ j, j < m ∧ z = nI j)) → Q (some (.int (-2))) I L Z) (hS : ∀ s p, s < 4 → p < m → x = nI s → z = nI p → ∀ I9 : Mi, FiS (38 + 2 * s) (beM I (38 + 2 * s) 1 n) I9 → (∀ k, k < n → I9 (38 + 2 * s + 1) k = naV 1 (rbV I 10 q ma mb mm p k)) → Q (some (.int (nI n))) I9 L Z) : AC E yX5_film cX5_film 5 (some .int) d 0 0 [.ref 0, .int x, .int z] I L Z Q := by
  refine ac_go (ls := [some (.ref 0), some (.int x), some (.int z), none, none]) (by decide +kernel) (Nat.le_of_ble_eq_true rfl) rfl ?_
  have hn6 := hR.2.2.2.2.1
  refine aw_iload_n dX5_film_0 rfl ?_
  refine aw_S1 dX5_film_1 cw_X5_214 (by omega) ⟨Nat.le_refl _, Nat.le_refl _⟩ (by decide) (c_X5_isSheet (by omega) (fun c1 => ?_) (fun c1 => ?_))
  · refine aw_if_eq (tgt := 18) dX5_film_4 (by decide) (fun zz => absurd zz (by decide)) (fun _ => ?_)
    refine aw_aload_n dX5_film_7 rfl rfl ?_
    refine aw_gr dX5_film_8 fw_X5_28 hG.1 hG.2.2.2.1 ?_
    refine aw_iload_n dX5_film_11 rfl ?_
    refine aw_V1 dX5_film_12 cw_X5_117 ⟨_, _, rfl⟩ hG.2.2.2.2.2.2.2.2.2.1.1 (by omega) ⟨Nat.le_refl _, Nat.le_refl _⟩ (by decide) (c_X0_hasReader hG.2.2.2.2.2.2.2.2.2.1 (fun c12 => ?_) (fun c12 => ?_))
    · refine aw_if_ne (tgt := 21) dX5_film_15 (by decide) (fun _ => ?_) (fun zz => absurd zz (by decide))
      obtain ⟨s, hs, rfl⟩ := sh4 c1
      obtain ⟨p, hp, rfl⟩ := (ix_iff hm (by omega)).mp c12
      refine aw_aload_n dX5_film_21 rfl rfl ?_
      refine aw_gr dX5_film_22 fw_X5_40 hG.1 hG.2.2.2.2.2.2.1 ?_
      refine aw_iload_n dX5_film_25 rfl ?_
      refine aw_ar s dX5_film_26 hG.2.2.2.2.2.2.2.1 rfl hs (by decide) (hG.2.2.2.2.2.2.2.2.1 s hs).1 ?_
      refine aw_astore_n (ls' := [_, _, _, _, _]) dX5_film_27 (by decide) rfl rfl rfl ?_
      refine aw_aload_n dX5_film_28 rfl rfl ?_
      refine aw_iconst (v := 1) dX5_film_29 (by decide) ?_
      refine aw_aload_n dX5_film_30 rfl rfl ?_
      refine aw_gr dX5_film_31 fw_X5_28 hG.1 hG.2.2.2.1 ?_
      refine aw_gi dX5_film_34 fw_X5_205 hG.2.2.2.2.2.2.2.2.2.1.1 ?_
      rw [hR.2.2.2.1]
      refine aw_V2 dX5_film_37 cw_X5_239 ⟨_, _, rfl⟩ (hG.2.2.2.2.2.2.2.2.1 s hs).2.1 (by omega) ⟨Nat.le_refl _, Nat.le_refl _⟩ (by decide) (c_X2_become (n := n) (by omega) (hG.2.2.2.2.2.2.2.2.1 s hs).2 (by omega) ?_)
      refine aw_iconst (v := 0) dX5_film_40 (by decide) ?_
      refine aw_istore (ls' := [_, _, _, _, _]) dX5_film_41 (by decide) rfl rfl ?_
      have hrow : ∀ b, b ≠ 38 + 2 * s → b ≠ 38 + 2 * s + 1 → beM I (38 + 2 * s) 1 n b = I b := fun b h1 h2 => beM_row h1 h2
      have hRJ : RD (beM I (38 + 2 * s) 1 n) Z 10 ru t q mm ma mb n := hR.eqv (hrow 10 (by omega) (by omega)) (hrow t (by omega) (by omega))
      refine l_X5_film hG hs hRJ (by omega) (by omega) htq beM_sort beM_size (fun I9 hf hi => ?_) n 0 _ (by omega) (fun _ _ _ _ => rfl) (fun i hi => absurd hi (by omega))
      rw [hf 10 (by decide) (by decide) (by omega), hRJ.2.2.2.1]
      refine hS s p hs hp rfl rfl I9 hf (fun k hk => ?_)
      rw [hi k hk]
      refine congrArg _ (rbV_eqv (hrow q (by omega) (by omega)) (hrow 10 (by omega) (by omega)) (hrow 11 (by omega) (by omega)) (hrow 12 (by omega) (by omega)) (hrow 15 (by omega) (by omega)) (hrow 16 (by omega) (by omega)) (hrow 17 (by omega) (by omega)))
    · refine aw_if_ne (tgt := 21) dX5_film_15 (by decide) (fun zz => absurd zz (by decide)) (fun _ => ?_)
      refine aw_bipush (v := -2) dX5_film_18 (by decide) ?_
      refine aw_ireturn (ty := .int) dX5_film_20 rfl rfl ?_
      exact hB (fun zz => c12 ((ix_iff hm (by omega)).mpr zz.2))
  · refine aw_if_eq (tgt := 18) dX5_film_4 (by decide) (fun _ => ?_) (fun zz => absurd zz (by decide))
    refine aw_bipush (v := -2) dX5_film_18 (by decide) ?_
    refine aw_ireturn (ty := .int) dX5_film_20 rfl rfl ?_
    exact hB (fun zz => c1 zz.1)
/-- readings that are drawn, in thought: the house at h -/
def dwP (z : Int32) : Nat := (usr z 9).toNatClampNeg % 8
def drF (h q ma mb mm n m : Nat) : Nat → Int32 → Mi → Mi
  | 0, _, M => M
  | k + 1, s, M => if 12 ≤ (M h 9).toNatClampNeg then M else
    if (dwP (s * 1103515245 + 12345) < m ∧ dwP ((s * 1103515245 + 12345) * 1103515245 + 12345) < n) ∧ sdP M h q ma mb mm (dwP (s * 1103515245 + 12345)) then
      drF h q ma mb mm n m k ((s * 1103515245 + 12345) * 1103515245 + 12345) (roM M h (M h 9).toNatClampNeg (dwP (s * 1103515245 + 12345)) (dwP ((s * 1103515245 + 12345) * 1103515245 + 12345)) (rbV M h q ma mb mm (dwP (s * 1103515245 + 12345)) (dwP ((s * 1103515245 + 12345) * 1103515245 + 12345))))
    else drF h q ma mb mm n m k ((s * 1103515245 + 12345) * 1103515245 + 12345) M
theorem usr9 (z : Int32) : ∃ u : Nat, u < 2 ^ 23 ∧ usr z 9 = nI u := by
  obtain ⟨w, hw, rfl⟩ : ∃ w : Nat, w < 2 ^ 32 ∧ z = nI w := ⟨z.toBitVec.toNat, z.toBitVec.isLt, by
    apply Int32.toBitVec_inj.mp
    show z.toBitVec = BitVec.ofNat 32 z.toBitVec.toNat
    simp⟩
  refine ⟨w / 2 ^ 9, by omega, ?_⟩
  exact pk_ushrN hw 9 9 (by decide)
theorem dw8 (z : Int32) : usr z 9 - usr z 9 / 8 * 8 = nI (dwP z) := by
  obtain ⟨u, hu, e⟩ := usr9 z
  unfold dwP
  rw [e, nI_clamp (by omega)]
  exact pk_rem (d := 8) (by omega) (by decide) (by decide)
theorem dwP_lt (z : Int32) : dwP z < 8 := Nat.mod_lt _ (by decide)
theorem sdP_sam {I I' : Mi} {h q ma mb mm p : Nat} (s : SamH h I I') (h3 : 3 < h) (hq : q ≠ 3 ∧ q ≠ h + 8) : sdP I' h q ma mb mm p ↔ sdP I h q ma mb mm p := by
  simp only [sdP, rlN_sam s h3 hq, s (h + 5) (by omega) (by omega), s (h + 7) (by omega) (by omega)]
theorem roM_row {I : Mi} {h r p c : Nat} {v : Int32} {b : Nat} (h0 : b ≠ h) (h3 : b ≠ h + 3) (h4 : b ≠ h + 4) (h7 : b ≠ h + 7) : roM I h r p c v b = I b := by
  funext j
  unfold roM
  rw [iU_at (fun z => h0 z.1)]
  by_cases hv : v = 0
  · rw [if_pos hv, iU_at (fun z => h7 z.1), iU_at (fun z => h0 z.1), iU_at (fun z => h4 z.1), iU_at (fun z => h3 z.1)]
  · rw [if_neg hv, iU_at (fun z => h0 z.1), iU_at (fun z => h4 z.1), iU_at (fun z => h3 z.1)]
theorem roM_fld {I : Mi} {h r p c : Nat} {v : Int32} {k : Nat} (h2 : k ≠ 2) (h9 : k ≠ 9) : roM I h r p c v h k = I h k := by
  unfold roM
  rw [iU_at (by omega)]
  by_cases hv : v = 0
  · rw [if_pos hv, iU_at (by omega), iU_at (by omega), iU_at (by omega), iU_at (by omega)]
  · rw [if_neg hv, iU_at (by omega), iU_at (by omega), iU_at (by omega)]
theorem roM_9 {I : Mi} {h r p c : Nat} {v : Int32} : roM I h r p c v h 9 = nI (r + 1) := by
  unfold roM
  rw [iU_at (by omega)]
  by_cases hv : v = 0
  · rw [if_pos hv, iU_at (by omega), iU_same]
  · rw [if_neg hv, iU_same]
theorem RD.ro {I : Mi} {Z : Mz} {h ru t q mm ma mb n r p c : Nat} {v : Int32} (g : RD I Z h ru t q mm ma mb n) (ht : t ≠ h ∧ t ≠ h + 3 ∧ t ≠ h + 4 ∧ t ≠ h + 7) : RD (roM I h r p c v) Z h ru t q mm ma mb n := by
  obtain ⟨h1, h2, h3, h4, h5, h6⟩ := g
  obtain ⟨g1, g2, g3, g4, g5, g6, g7, g8, g9, ga, gb, gc, gd⟩ := h3
  have e : roM I h r p c v t = I t := roM_row ht.1 ht.2.1 ht.2.2.1 ht.2.2.2
  exact ⟨h1, h2, ⟨by rw [roM_fld (by decide) (by decide)]; exact g1, g2, g3, g4, g5, by rw [e]; exact g6, by rw [e]; exact g7, g8, g9, ga, gb, gc, gd⟩, by rw [roM_fld (by decide) (by decide)]; exact h4, h5, h6⟩
theorem l_X5_followersDrawn {E : Ev} {d : Nat} {L : Ml} {Z : Mz} {Q : Po} {ru t q mm ma mb n m N : Nat} {sd : Option Value} (hG : GZ Z) (hd : 6 ≤ d) (hm5 : m ≤ 5) (hN : N ≤ 12) (htq : 45 < t ∧ 45 < q) : ∀ (k j : Nat) (last : Int32) (I M : Mi) (o5 o6 o7 o8 : Option Value), j + k = N → SamH 28 M I → RD M Z 28 ru t q mm ma mb n → M 28 13 = nI m → ∀ r, r ≤ 12 → M 28 9 = nI r → (∀ (rv : Int32) (I9 : Mi), SamH 28 (drF 28 q ma mb mm n m k last M) I9 → rv = bcV (foH (drF 28 q ma mb mm n m k last M) 28 ((drF 28 q ma mb mm n m k last M) 28 9).toNatClampNeg (-1) ((drF 28 q ma mb mm n m k last M) 28 1)) → Q (some (.int rv)) I9 L Z) → AW E yX5_followersDrawn cX5_followersDrawn 9 (some .int) (rmOf d 0 0) Q 0 0 16 [some (.ref 0), sd, some (.int (nI N)), some (.int last), some (.int (nI j)), o5, o6, o7, o8] [] I L Z := by
  intro k
  induction k with
  | zero =>
    intro j last I M o5 o6 o7 o8 hj hs hRM hmM r hr hrM hQ
    refine aw_iload dX5_followersDrawn_16 rfl ?_
    refine aw_iload_n dX5_followersDrawn_18 rfl ?_
    refine aw_icmp_ge (tgt := 124) dX5_followersDrawn_19 (by decide) (fun c19 => ?_) (fun zz => absurd (by rw [show j = N by omega]; exact Int32.le_refl _) zz)
    refine aw_aload_n dX5_followersDrawn_124 rfl rfl ?_
    refine aw_gr dX5_followersDrawn_125 fw_X5_35 hG.1 hG.2.2.2.2.2.1 ?_
    have hr9 : I 28 9 = nI r := by rw [hs 28 (by decide) (by decide)]; exact hrM
    refine aw_V0 dX5_followersDrawn_128 cw_X5_199 ⟨_, _, rfl⟩ hG.2.2.2.2.2.2.2.2.2.2.2.1.1 (by omega) ⟨Nat.le_refl _, Nat.le_refl _⟩ (by decide) (c_X0_followers (by omega) hG.2.2.2.2.2.2.2.2.2.2.2.1 hr9 hr (fun r128 e128 => ?_))
    refine aw_ireturn (ty := .int) dX5_followersDrawn_131 rfl rfl ?_
    refine hQ _ I hs ?_
    rw [e128, hs 28 (by decide) (by decide)]
    simp only [drF]
    rw [hrM, nI_clamp (by omega)]
    exact congrArg bcV (foX_congr fun k hk => ⟨by rw [hs 31 (by decide) (by decide)], by rw [hs 32 (by decide) (by decide)]⟩)
  | succ k ih =>
    intro j last I M o5 o6 o7 o8 hj hs hRM hmM r hr hrM hQ
    have hR := hRM.sam hs
    have hn6 := hRM.2.2.2.2.1
    refine aw_iload dX5_followersDrawn_16 rfl ?_
    refine aw_iload_n dX5_followersDrawn_18 rfl ?_
    refine aw_icmp_ge (tgt := 124) dX5_followersDrawn_19 (by decide) (fun zz => absurd zz (nI_ge (by omega) (by omega))) (fun c19 => ?_)
    refine aw_aload_n dX5_followersDrawn_22 rfl rfl ?_
    refine aw_gr dX5_followersDrawn_23 fw_X5_35 hG.1 hG.2.2.2.2.2.1 ?_
    refine aw_gi dX5_followersDrawn_26 fw_X5_104 hG.2.2.2.2.2.2.2.2.2.2.2.1.1 ?_
    refine aw_bipush (v := 12) dX5_followersDrawn_29 (by decide) ?_
    have hr9 : I 28 9 = nI r := by rw [hs 28 (by decide) (by decide)]; exact hrM
    have h12 : 12 ≤ I 28 9 ↔ 12 ≤ r := by rw [hr9]; exact nI_leI (a := 12) (by decide) (by omega)
    refine aw_icmp_ge (tgt := 124) dX5_followersDrawn_31 (by decide) (fun c31 => ?_) (fun c31 => ?_)
    · refine aw_aload_n dX5_followersDrawn_124 rfl rfl ?_
      refine aw_gr dX5_followersDrawn_125 fw_X5_35 hG.1 hG.2.2.2.2.2.1 ?_
      have hr9 : I 28 9 = nI r := by rw [hs 28 (by decide) (by decide)]; exact hrM
      refine aw_V0 dX5_followersDrawn_128 cw_X5_199 ⟨_, _, rfl⟩ hG.2.2.2.2.2.2.2.2.2.2.2.1.1 (by omega) ⟨Nat.le_refl _, Nat.le_refl _⟩ (by decide) (c_X0_followers (by omega) hG.2.2.2.2.2.2.2.2.2.2.2.1 hr9 hr (fun r128 e128 => ?_))
      refine aw_ireturn (ty := .int) dX5_followersDrawn_131 rfl rfl ?_
      have eD : drF 28 q ma mb mm n m (k + 1) last M = M := by
        simp only [drF]
        rw [if_pos (by rw [hrM, nI_clamp (by omega)]; exact h12.mp c31)]
      refine hQ _ I (by rw [eD]; exact hs) ?_
      rw [eD, e128, hs 28 (by decide) (by decide), hrM, nI_clamp (by omega)]
      exact congrArg bcV (foX_congr fun k hk => ⟨by rw [hs 31 (by decide) (by decide)], by rw [hs 32 (by decide) (by decide)]⟩)
    · refine aw_iload_n dX5_followersDrawn_34 rfl ?_
      refine aw_S1 dX5_followersDrawn_35 cw_X5_290 (by omega) ⟨Nat.le_refl _, Nat.le_refl _⟩ (by decide) (c_X5_drawAfter (fun r35 e35 => ?_))
      refine aw_istore (ls' := [_, _, _, _, _, _, _, _, _]) dX5_followersDrawn_38 (by decide) rfl rfl ?_
      refine aw_iload dX5_followersDrawn_40 rfl ?_
      refine aw_S1 dX5_followersDrawn_42 cw_X5_290 (by omega) ⟨Nat.le_refl _, Nat.le_refl _⟩ (by decide) (c_X5_drawAfter (fun r42 e42 => ?_))
      refine aw_istore (ls' := [_, _, _, _, _, _, _, _, _]) dX5_followersDrawn_45 (by decide) rfl rfl ?_
      refine aw_iload dX5_followersDrawn_47 rfl ?_
      refine aw_istore_n (ls' := [_, _, _, _, _, _, _, _, _]) dX5_followersDrawn_49 (by decide) rfl rfl ?_
      refine aw_iload dX5_followersDrawn_50 rfl ?_
      refine aw_bipush (v := 9) dX5_followersDrawn_52 (by decide) ?_
      refine aw_iushr dX5_followersDrawn_54 ?_
      refine aw_bipush (v := 8) dX5_followersDrawn_55 (by decide) ?_
      refine aw_irem dX5_followersDrawn_57 (by decide) ?_
      refine aw_istore (ls' := [_, _, _, _, _, _, _, _, _]) dX5_followersDrawn_58 (by decide) rfl rfl ?_
      refine aw_iload dX5_followersDrawn_60 rfl ?_
      refine aw_bipush (v := 9) dX5_followersDrawn_62 (by decide) ?_
      refine aw_iushr dX5_followersDrawn_64 ?_
      refine aw_bipush (v := 8) dX5_followersDrawn_65 (by decide) ?_
      refine aw_irem dX5_followersDrawn_67 (by decide) ?_
      refine aw_istore (ls' := [_, _, _, _, _, _, _, _, _]) dX5_followersDrawn_68 (by decide) rfl rfl ?_
      have hr12 : r < 12 := Nat.not_le.mp (fun z => c31 (h12.mpr z))
      subst e35 e42
      refine aw_aload_n dX5_followersDrawn_70 rfl rfl ?_
      refine aw_gr dX5_followersDrawn_71 fw_X5_35 hG.1 hG.2.2.2.2.2.1 ?_
      refine aw_iload dX5_followersDrawn_74 rfl ?_
      refine aw_V1 dX5_followersDrawn_76 cw_X5_117 ⟨_, _, rfl⟩ hG.2.2.2.2.2.2.2.2.2.2.2.1.1 (by omega) ⟨Nat.le_refl _, Nat.le_refl _⟩ (by decide) (c_X0_hasReader hG.2.2.2.2.2.2.2.2.2.2.2.1 (fun c76 => ?_) (fun c76 => ?_))
      · refine aw_if_eq (tgt := 118) dX5_followersDrawn_79 (by decide) (fun zz => absurd zz (by decide)) (fun _ => ?_)
        refine aw_aload_n dX5_followersDrawn_82 rfl rfl ?_
        refine aw_gr dX5_followersDrawn_83 fw_X5_35 hG.1 hG.2.2.2.2.2.1 ?_
        refine aw_iload dX5_followersDrawn_86 rfl ?_
        refine aw_V1 dX5_followersDrawn_88 cw_X5_120 ⟨_, _, rfl⟩ hG.2.2.2.2.2.2.2.2.2.2.2.1.1 (by omega) ⟨Nat.le_refl _, Nat.le_refl _⟩ (by decide) (c_X0_hasCup hG.2.2.2.2.2.2.2.2.2.2.2.1 (fun c88 => ?_) (fun c88 => ?_))
        · refine aw_if_eq (tgt := 118) dX5_followersDrawn_91 (by decide) (fun zz => absurd zz (by decide)) (fun _ => ?_)
          obtain ⟨p1, hp1, ep1⟩ := (ix_iff (n := m) (by rw [hs 28 (by decide) (by decide)]; exact hmM) (by omega)).mp c76
          obtain ⟨c1, hc1, ec1⟩ := (ix_iff hR.2.2.2.1 (by omega)).mp c88
          have hpm : dwP (last * 1103515245 + 12345) < m := by rw [(nI_eq (by have := dwP_lt (last * 1103515245 + 12345); omega) (by omega)).mp ((dw8 (last * 1103515245 + 12345)).symm.trans ep1)]; exact hp1
          have hcn : dwP ((last * 1103515245 + 12345) * 1103515245 + 12345) < n := by rw [(nI_eq (by have := dwP_lt ((last * 1103515245 + 12345) * 1103515245 + 12345); omega) (by omega)).mp ((dw8 ((last * 1103515245 + 12345) * 1103515245 + 12345)).symm.trans ec1)]; exact hc1
          rw [show (((last * 1103515245 + 12345)).toUInt32 >>> (Int32.toUInt32 9 &&& Int32.toUInt32 31)).toInt32 - (((last * 1103515245 + 12345)).toUInt32 >>> (Int32.toUInt32 9 &&& Int32.toUInt32 31)).toInt32 / 8 * 8 = nI (dwP (last * 1103515245 + 12345)) from dw8 _, show ((((last * 1103515245 + 12345) * 1103515245 + 12345)).toUInt32 >>> (Int32.toUInt32 9 &&& Int32.toUInt32 31)).toInt32 - ((((last * 1103515245 + 12345) * 1103515245 + 12345)).toUInt32 >>> (Int32.toUInt32 9 &&& Int32.toUInt32 31)).toInt32 / 8 * 8 = nI (dwP ((last * 1103515245 + 12345) * 1103515245 + 12345)) from dw8 _]
          refine aw_aload_n dX5_followersDrawn_94 rfl rfl ?_
          refine aw_gr dX5_followersDrawn_95 fw_X5_35 hG.1 hG.2.2.2.2.2.1 ?_
          refine aw_iload dX5_followersDrawn_98 rfl ?_
          refine aw_V1 dX5_followersDrawn_100 cw_X5_153 ⟨_, _, rfl⟩ hG.2.2.2.2.2.2.2.2.2.2.2.1.1 (by omega) ⟨Nat.le_refl _, Nat.le_refl _⟩ (by decide) (c_X0_isSteady (by omega) hR (show dwP (last * 1103515245 + 12345) < 5 by omega) (fun I100 h100 c100 => ?_) (fun I100 h100 c100 => ?_))
          · refine aw_if_eq (tgt := 118) dX5_followersDrawn_103 (by decide) (fun zz => absurd zz (by decide)) (fun _ => ?_)
            refine aw_aload_n dX5_followersDrawn_106 rfl rfl ?_
            refine aw_gr dX5_followersDrawn_107 fw_X5_35 hG.1 hG.2.2.2.2.2.1 ?_
            refine aw_iload dX5_followersDrawn_110 rfl ?_
            refine aw_iload dX5_followersDrawn_112 rfl ?_
            refine aw_V2 dX5_followersDrawn_114 cw_X5_159 ⟨_, _, rfl⟩ hG.2.2.2.2.2.2.2.2.2.2.2.1.1 (by omega) ⟨Nat.le_refl _, Nat.le_refl _⟩ (by decide) (c_X0_readOut (r := r) (by omega) (hR.sam h100) (show dwP (last * 1103515245 + 12345) < 5 by omega) hcn (by rw [h100 28 (by decide) (by decide)]; exact hr9) (by omega) (fun r114 I114 e114 h114 => ?_))
            have s100 := hs.tr h100
            rw [rbV_sam s100 (by decide) hRM.q3] at e114
            subst e114
            refine aw_pop dX5_followersDrawn_117 rfl ?_
            refine aw_iinc (v := nI (j + 1)) (ls' := [_, _, _, _, _, _, _, _, _]) dX5_followersDrawn_118 rfl (nI_1 j) (by decide) rfl rfl ?_
            refine aw_goto (tgt := 16) dX5_followersDrawn_121 (by decide) ?_
            refine ih (j + 1) _ _ (roM M 28 r (dwP (last * 1103515245 + 12345)) (dwP ((last * 1103515245 + 12345) * 1103515245 + 12345)) (rbV M 28 q ma mb mm (dwP (last * 1103515245 + 12345)) (dwP ((last * 1103515245 + 12345) * 1103515245 + 12345)))) _ _ _ _ (by omega) ((roM_sam s100 (by decide)).tr h114) (hRM.ro (by omega)) (by rw [roM_fld (by decide) (by decide)]; exact hmM) (r + 1) (by omega) roM_9 (fun rv I9 h9 e0 => ?_)
            have eD : drF 28 q ma mb mm n m (k + 1) last M = drF 28 q ma mb mm n m k ((last * 1103515245 + 12345) * 1103515245 + 12345) (roM M 28 r (dwP (last * 1103515245 + 12345)) (dwP ((last * 1103515245 + 12345) * 1103515245 + 12345)) (rbV M 28 q ma mb mm (dwP (last * 1103515245 + 12345)) (dwP ((last * 1103515245 + 12345) * 1103515245 + 12345)))) := by
              simp only [drF]
              rw [if_neg (by rw [hrM, nI_clamp (by omega)]; omega), if_pos ⟨⟨hpm, hcn⟩, (sdP_sam hs (by decide) hRM.q3).mp c100⟩, hrM, nI_clamp (by omega)]
            exact hQ rv I9 (by rw [eD]; exact h9) (by rw [eD]; exact e0)
          · refine aw_if_eq (tgt := 118) dX5_followersDrawn_103 (by decide) (fun _ => ?_) (fun zz => absurd zz (by decide))
            refine aw_iinc (v := nI (j + 1)) (ls' := [_, _, _, _, _, _, _, _, _]) dX5_followersDrawn_118 rfl (nI_1 j) (by decide) rfl rfl ?_
            refine aw_goto (tgt := 16) dX5_followersDrawn_121 (by decide) ?_
            refine ih (j + 1) _ _ M _ _ _ _ (by omega) (hs.tr h100) hRM hmM r hr hrM (fun rv I9 h9 e0 => ?_)
            have eD : drF 28 q ma mb mm n m (k + 1) last M = drF 28 q ma mb mm n m k ((last * 1103515245 + 12345) * 1103515245 + 12345) M := by
              simp only [drF]
              rw [if_neg (by rw [hrM, nI_clamp (by omega)]; omega), if_neg (fun zz => c100 ((sdP_sam hs (by decide) hRM.q3).mpr zz.2))]
            exact hQ rv I9 (by rw [eD]; exact h9) (by rw [eD]; exact e0)
        · refine aw_if_eq (tgt := 118) dX5_followersDrawn_91 (by decide) (fun _ => ?_) (fun zz => absurd zz (by decide))
          refine aw_iinc (v := nI (j + 1)) (ls' := [_, _, _, _, _, _, _, _, _]) dX5_followersDrawn_118 rfl (nI_1 j) (by decide) rfl rfl ?_
          refine aw_goto (tgt := 16) dX5_followersDrawn_121 (by decide) ?_
          refine ih (j + 1) _ _ M _ _ _ _ (by omega) hs hRM hmM r hr hrM (fun rv I9 h9 e0 => ?_)
          have eD : drF 28 q ma mb mm n m (k + 1) last M = drF 28 q ma mb mm n m k ((last * 1103515245 + 12345) * 1103515245 + 12345) M := by
            simp only [drF]
            rw [if_neg (by rw [hrM, nI_clamp (by omega)]; omega), if_neg (fun zz => c88 ((ix_iff hR.2.2.2.1 (by omega)).mpr ⟨_, zz.1.2, dw8 _⟩))]
          exact hQ rv I9 (by rw [eD]; exact h9) (by rw [eD]; exact e0)
      · refine aw_if_eq (tgt := 118) dX5_followersDrawn_79 (by decide) (fun _ => ?_) (fun zz => absurd zz (by decide))
        refine aw_iinc (v := nI (j + 1)) (ls' := [_, _, _, _, _, _, _, _, _]) dX5_followersDrawn_118 rfl (nI_1 j) (by decide) rfl rfl ?_
        refine aw_goto (tgt := 16) dX5_followersDrawn_121 (by decide) ?_
        refine ih (j + 1) _ _ M _ _ _ _ (by omega) hs hRM hmM r hr hrM (fun rv I9 h9 e0 => ?_)
        have eD : drF 28 q ma mb mm n m (k + 1) last M = drF 28 q ma mb mm n m k ((last * 1103515245 + 12345) * 1103515245 + 12345) M := by
          simp only [drF]
          rw [if_neg (by rw [hrM, nI_clamp (by omega)]; omega), if_neg (fun zz => c76 ((ix_iff (by rw [hs 28 (by decide) (by decide)]; exact hmM) (by omega)).mpr ⟨_, zz.1.1, dw8 _⟩))]
        exact hQ rv I9 (by rw [eD]; exact h9) (by rw [eD]; exact e0)
theorem cpR_row {I : Mi} {g h k n b : Nat} (hb : b ≠ h + k) : cpR I g h k n b = I b := by
  funext j
  simp only [cpR, rU, hb, if_false]
theorem cpR_at {I : Mi} {g h k n j : Nat} (hj : j < n) : cpR I g h k n (h + k) j = I (g + k) j := by
  simp only [cpR, rU, if_true, va_cpy]
  rw [if_pos ⟨Nat.zero_le _, by omega⟩]
  simp
theorem blS_row {I : Mi} {h g b : Nat} (hb : b ≠ h) : blS I h g b = I b := by
  funext j
  unfold blS
  rw [iU_at (fun z => hb z.1), iU_at (fun z => hb z.1), iU_at (fun z => hb z.1), iU_at (fun z => hb z.1), iU_at (fun z => hb z.1), iU_at (fun z => hb z.1)]
theorem blM_row {I : Mi} {h g b : Nat} (hb : b < h ∨ h + 7 < b) : blM I h g b = I b := by
  unfold blM
  rw [cpR_row (by omega), cpR_row (by omega), cpR_row (by omega), cpR_row (by omega), cpR_row (by omega), cpR_row (by omega), cpR_row (by omega), blS_row (by omega)]
theorem blM_h {I : Mi} {h g : Nat} : blM I h g h = blS I h g h := by
  unfold blM
  rw [cpR_row (by omega), cpR_row (by omega), cpR_row (by omega), cpR_row (by omega), cpR_row (by omega), cpR_row (by omega), cpR_row (by omega)]
theorem blS_f {I : Mi} {h g k : Nat} (hk : k = 1 ∨ k = 2 ∨ k = 3 ∨ k = 6 ∨ k = 9 ∨ k = 13) : blS I h g h k = I g k := by
  rcases hk with rfl | rfl | rfl | rfl | rfl | rfl <;> simp [blS, iU]
theorem blM_f {I : Mi} {h g k : Nat} (hk : k = 1 ∨ k = 2 ∨ k = 3 ∨ k = 6 ∨ k = 9 ∨ k = 13) : blM I h g h k = I g k := by rw [blM_h]; exact blS_f hk
def lnH (k : Nat) : Nat := if k ≤ 2 then 6 else if k ≤ 4 then 12 else 5
theorem blM_a {I : Mi} {h g k j : Nat} (hg : g + 8 < h ∨ h + 8 < g) (hk : 1 ≤ k ∧ k ≤ 7) (hj : j < lnH k) : blM I h g (h + k) j = I (g + k) j := by
  unfold blM
  rcases (show k = 1 ∨ k = 2 ∨ k = 3 ∨ k = 4 ∨ k = 5 ∨ k = 6 ∨ k = 7 by omega) with rfl | rfl | rfl | rfl | rfl | rfl | rfl
  · rw [cpR_row (by omega), cpR_row (by omega), cpR_row (by omega), cpR_row (by omega), cpR_row (by omega), cpR_row (by omega), cpR_at (show j < 6 from hj), blS_row (by omega)]
  · rw [cpR_row (by omega), cpR_row (by omega), cpR_row (by omega), cpR_row (by omega), cpR_row (by omega), cpR_at (show j < 6 from hj), cpR_row (by omega), blS_row (by omega)]
  · rw [cpR_row (by omega), cpR_row (by omega), cpR_row (by omega), cpR_row (by omega), cpR_at (show j < 12 from hj), cpR_row (by omega), cpR_row (by omega), blS_row (by omega)]
  · rw [cpR_row (by omega), cpR_row (by omega), cpR_row (by omega), cpR_at (show j < 12 from hj), cpR_row (by omega), cpR_row (by omega), cpR_row (by omega), blS_row (by omega)]
  · rw [cpR_row (by omega), cpR_row (by omega), cpR_at (show j < 5 from hj), cpR_row (by omega), cpR_row (by omega), cpR_row (by omega), cpR_row (by omega), blS_row (by omega)]
  · rw [cpR_row (by omega), cpR_at (show j < 5 from hj), cpR_row (by omega), cpR_row (by omega), cpR_row (by omega), cpR_row (by omega), cpR_row (by omega), blS_row (by omega)]
  · rw [cpR_at (show j < 5 from hj), cpR_row (by omega), cpR_row (by omega), cpR_row (by omega), cpR_row (by omega), cpR_row (by omega), cpR_row (by omega), blS_row (by omega)]
/-- rows but the thought house's and the stack's -/
def ThS (I I' : Mi) : Prop := ∀ b, b ≠ 3 → (b < 28 ∨ 36 < b) → I' b = I b
theorem drF_row {q ma mb mm n m b : Nat} (hb : b < 28 ∨ 36 < b) : ∀ (k : Nat) (s : Int32) (M : Mi), drF 28 q ma mb mm n m k s M b = M b := by
  intro k
  induction k with
  | zero => intro s M; rfl
  | succ k ih =>
    intro s M
    simp only [drF]
    split
    · rfl
    · split
      · rw [ih, roM_row (by omega) (by omega) (by omega) (by omega)]
      · rw [ih]
theorem RD.th {I : Mi} {Z : Mz} {ru t q mm ma mb n : Nat} (hG : GZ Z) (g : RD I Z 10 ru t q mm ma mb n) (htq : 45 < t ∧ 45 < q) : RD (blM I 28 10) Z 28 ru t q mm ma mb n := by
  obtain ⟨h1, h2, h3, h4, h5, h6⟩ := g
  obtain ⟨g1, g2, g3, g4, g5, g6, g7, g8, g9, ga, gb, gc, gd⟩ := h3
  have e : blM I 28 10 t = I t := blM_row (by omega)
  exact ⟨hG.2.2.2.2.2.2.2.2.2.2.2.1, h2, ⟨by rw [blM_f (by omega)]; exact g1, g2, g3, g4, g5, by rw [e]; exact g6, by rw [e]; exact g7, g8, g9, ga, by omega, gc, by omega⟩, by rw [blM_f (by omega)]; exact h4, h5, by decide⟩
/-- how many follow after readings that are drawn -/
def fdV (I : Mi) (q ma mb mm n m k : Nat) (s : Int32) : Int32 := bcV (foH (drF 28 q ma mb mm n m k s (blM I 28 10)) 28 ((drF 28 q ma mb mm n m k s (blM I 28 10)) 28 9).toNatClampNeg (-1) ((drF 28 q ma mb mm n m k s (blM I 28 10)) 28 1))
theorem c_X5_followersDrawn {E : Ev} {d : Nat} {I : Mi} {L : Ml} {Z : Mz} {Q : Po} {x : Int32} {ru t q mm ma mb n m r : Nat} {N : Nat} (hd : 6 ≤ d) (hG : GZ Z) (hR : RD I Z 10 ru t q mm ma mb n) (hm : I 10 13 = nI m) (hm5 : m ≤ 5) (hrn : I 10 9 = nI r) (hr : r ≤ 12) (htq : 45 < t ∧ 45 < q) (hN : N ≤ 12) (hQ : ∀ (rv : Int32) (I9 : Mi), ThS I I9 → rv = fdV I q ma mb mm n m N x → Q (some (.int rv)) I9 L Z) : AC E yX5_followersDrawn cX5_followersDrawn 9 (some .int) d 0 0 [.ref 0, .int x, .int (nI N)] I L Z Q := by
  refine ac_go (ls := [some (.ref 0), some (.int x), some (.int (nI N)), none, none, none, none, none, none]) (by decide +kernel) (Nat.le_of_ble_eq_true rfl) rfl ?_
  refine aw_aload_n dX5_followersDrawn_0 rfl rfl ?_
  refine aw_gr dX5_followersDrawn_1 fw_X5_35 hG.1 hG.2.2.2.2.2.1 ?_
  refine aw_aload_n dX5_followersDrawn_4 rfl rfl ?_
  refine aw_gr dX5_followersDrawn_5 fw_X5_28 hG.1 hG.2.2.2.1 ?_
  refine aw_V1 dX5_followersDrawn_8 cw_X5_248 ⟨_, _, rfl⟩ hG.2.2.2.2.2.2.2.2.2.2.2.1.1 (by omega) ⟨Nat.le_refl _, Nat.le_refl _⟩ (by decide) (c_X0_becomeLike (by omega) hG.2.2.2.2.2.2.2.2.2.2.2.1 hG.2.2.2.2.2.2.2.2.2.1 (by omega) ?_)
  refine aw_iload_n dX5_followersDrawn_11 rfl ?_
  refine aw_istore_n (ls' := [_, _, _, _, _, _, _, _, _]) dX5_followersDrawn_12 (by decide) rfl rfl ?_
  refine aw_iconst (v := 0) dX5_followersDrawn_13 (by decide) ?_
  refine aw_istore (ls' := [_, _, _, _, _, _, _, _, _]) dX5_followersDrawn_14 (by decide) rfl rfl ?_
  refine l_X5_followersDrawn hG hd hm5 hN htq N 0 x (blM I 28 10) (blM I 28 10) _ _ _ _ (by omega) SamH.rf (hR.th hG htq) (by rw [blM_f (by omega)]; exact hm) r hr (by rw [blM_f (by omega)]; exact hrn) (fun rv I9 h9 e0 => hQ rv I9 (fun b h3 hb => ?_) e0)
  rw [h9 b h3 (by omega), drF_row hb, blM_row (by omega)]
theorem c_X5_drawn {E : Ev} {d : Nat} {I : Mi} {L : Ml} {Z : Mz} {Q : Po} {x : Int32} {z : Int32} {ru t q mm ma mb n m r : Nat} (hd : 7 ≤ d) (hG : GZ Z) (hR : RD I Z 10 ru t q mm ma mb n) (hm : I 10 13 = nI m) (hm5 : m ≤ 5) (hrn : I 10 9 = nI r) (hr : r ≤ 12) (htq : 45 < t ∧ 45 < q) (hB : ¬ (¬ z < 0 ∧ ¬ 12 < z) → Q (some (.int (-2))) I L Z) (hS : ∀ N, N ≤ 12 → z = nI N → ∀ (rv : Int32) (I9 : Mi), ThS I I9 → rv = fdV I q ma mb mm n m N x → Q (some (.int rv)) I9 L Z) : AC E yX5_drawn cX5_drawn 3 (some .int) d 0 0 [.ref 0, .int x, .int z] I L Z Q := by
  refine ac_go (ls := [some (.ref 0), some (.int x), some (.int z)]) (by decide +kernel) (Nat.le_of_ble_eq_true rfl) rfl ?_
  refine aw_iload_n dX5_drawn_0 rfl ?_
  refine aw_iconst (v := 0) dX5_drawn_1 (by decide) ?_
  refine aw_bipush (v := 12) dX5_drawn_2 (by decide) ?_
  refine aw_S3 dX5_drawn_4 cw_X5_72 (by omega) ⟨Nat.le_refl _, Nat.le_refl _⟩ (by decide) (c_X5_within (fun c4 => ?_) (fun c4 => ?_))
  · refine aw_if_ne (tgt := 13) dX5_drawn_7 (by decide) (fun _ => ?_) (fun zz => absurd zz (by decide))
    obtain ⟨N, hN, rfl⟩ := nI_of2 (M := 12) (n := 12) (by decide) c4.1 (Int32.not_lt.mp c4.2)
    refine aw_aload_n dX5_drawn_13 rfl rfl ?_
    refine aw_iload_n dX5_drawn_14 rfl ?_
    refine aw_iload_n dX5_drawn_15 rfl ?_
    refine aw_V2 dX5_drawn_16 cw_X5_245 ⟨_, _, rfl⟩ hG.1 (by omega) ⟨Nat.le_refl _, Nat.le_refl _⟩ (by decide) (c_X5_followersDrawn (by omega) hG hR hm hm5 hrn hr htq hN (fun r16 I16 h16 e16 => ?_))
    refine aw_ireturn (ty := .int) dX5_drawn_19 rfl rfl ?_
    exact hS N hN rfl _ _ h16 e16
  · refine aw_if_ne (tgt := 13) dX5_drawn_7 (by decide) (fun zz => absurd zz (by decide)) (fun _ => ?_)
    refine aw_bipush (v := -2) dX5_drawn_10 (by decide) ?_
    refine aw_ireturn (ty := .int) dX5_drawn_12 rfl rfl ?_
    exact hB c4
