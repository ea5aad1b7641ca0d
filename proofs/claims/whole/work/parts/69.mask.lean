/-! ===== the reference: dogs, alike, sheets told ===== -/
theorem l_X6_dogsI {E : Ev} {d : Nat} {I : Mi} {Z : Mz} {Q : Po} {W : Nat → (Nat → Int32) → Int32} {ru n m : Nat} {p i : Nat} (hd : 45 ≤ d) (hM : MZ Z) (hR : RDM I W ru n m) (hp : p < m) (hi : i < n) : ∀ (k j : Nat) (a : Int32) (M : Mi) (L : Ml), j + k = n → SaM I M → (∀ (J : Mi) (K : Ml), SaM I J → AW E yX6_dogs cX6_dogs 5 (some .int) (rmOf d 0 0) Q 0 0 56 [some (.ref 48), some (.int (nI p)), some (.int (dgI (rbM I W p) (rbM I W p i) k j a)), some (.int (nI i)), some (.int (nI n))] [] J K Z) → AW E yX6_dogs cX6_dogs 5 (some .int) (rmOf d 0 0) Q 0 0 17 [some (.ref 48), some (.int (nI p)), some (.int a), some (.int (nI i)), some (.int (nI j))] [] M L Z := by
  intro k
  induction k with
  | zero =>
    intro j a M L hj sM hQ
    have hn6 := hR.2.1.2
    refine aw_iload dX6_dogs_17 rfl ?_
    refine aw_aload_n dX6_dogs_19 rfl rfl ?_
    refine aw_gi dX6_dogs_20 fw_X6_77 hM.1 ?_
    refine aw_icmp_ge (tgt := 56) dX6_dogs_23 (by decide) (fun c23 => ?_) (fun zz => absurd (by rw [sM _ _ (by omega), hR.2.1.1, show j = n by omega]; exact Int32.le_refl _) zz)
    rw [show j = n by omega]
    exact hQ _ _ sM
  | succ k ih =>
    intro j a M L hj sM hQ
    have hn6 := hR.2.1.2
    refine aw_iload dX6_dogs_17 rfl ?_
    refine aw_aload_n dX6_dogs_19 rfl rfl ?_
    refine aw_gi dX6_dogs_20 fw_X6_77 hM.1 ?_
    refine aw_icmp_ge (tgt := 56) dX6_dogs_23 (by decide) (fun zz => absurd zz (by rw [sM _ _ (by omega), hR.2.1.1]; exact nI_ge (by omega) (by omega))) (fun c23 => ?_)
    refine aw_iload_n dX6_dogs_26 rfl ?_
    refine aw_aload_n dX6_dogs_27 rfl rfl ?_
    refine aw_iload_n dX6_dogs_28 rfl ?_
    refine aw_iload_n dX6_dogs_29 rfl ?_
    refine aw_V2 dX6_dogs_30 cw_X6_368 ⟨_, _, rfl⟩ hM.1 (by omega) ⟨Nat.le_refl _, Nat.le_refl _⟩ (by simp [Value.category, psh]) (c_X6_readBy (by omega) hM (hR.sam sM) hp (by omega) (fun r1 I1 L1 s1 e1 => ?_))
    rw [rbM_sam sM] at e1
    refine aw_aload_n dX6_dogs_33 rfl rfl ?_
    refine aw_iload_n dX6_dogs_34 rfl ?_
    refine aw_iload dX6_dogs_35 rfl ?_
    refine aw_V2 dX6_dogs_37 cw_X6_368 ⟨_, _, rfl⟩ hM.1 (by omega) ⟨Nat.le_refl _, Nat.le_refl _⟩ (by simp [Value.category, psh]) (c_X6_readBy (by omega) hM (hR.sam (sM.tr s1)) hp (by omega) (fun r2 I2 L2 s2 e2 => ?_))
    rw [rbM_sam (sM.tr s1)] at e2
    refine aw_icmp_ne (tgt := 47) dX6_dogs_40 (by decide) (fun c40 => ?_) (fun c40 => ?_)
    · refine aw_iconst (v := 0) dX6_dogs_47 (by decide) ?_
      refine aw_iadd dX6_dogs_48 ?_
      refine aw_istore_n (ls' := [_, _, _, _, _]) dX6_dogs_49 (by decide) rfl rfl ?_
      refine aw_iinc (v := nI (j + 1)) (ls' := [_, _, _, _, _]) dX6_dogs_50 rfl (nI_1 j) (by decide) rfl rfl ?_
      refine aw_goto (tgt := 17) dX6_dogs_53 (by decide) ?_
      refine ih (j + 1) _ _ _ (by omega) ((sM.tr s1).tr s2) (fun J K t => ?_)
      have hq := hQ J K t
      simp only [dgI] at hq
      rw [e1, e2] at c40
      first | (rw [if_pos c40.symm] at hq; exact hq) | (rw [if_neg (fun w => c40 w.symm)] at hq; rw [show a + (0 : Int32) = a from Int32.add_zero a]; exact hq)
    · refine aw_iconst (v := 1) dX6_dogs_43 (by decide) ?_
      refine aw_goto (tgt := 48) dX6_dogs_44 (by decide) ?_
      refine aw_iadd dX6_dogs_48 ?_
      refine aw_istore_n (ls' := [_, _, _, _, _]) dX6_dogs_49 (by decide) rfl rfl ?_
      refine aw_iinc (v := nI (j + 1)) (ls' := [_, _, _, _, _]) dX6_dogs_50 rfl (nI_1 j) (by decide) rfl rfl ?_
      refine aw_goto (tgt := 17) dX6_dogs_53 (by decide) ?_
      refine ih (j + 1) _ _ _ (by omega) ((sM.tr s1).tr s2) (fun J K t => ?_)
      have hq := hQ J K t
      simp only [dgI] at hq
      rw [e1, e2] at c40
      first | (rw [if_pos c40.symm] at hq; exact hq) | (rw [if_neg (fun w => c40 w.symm)] at hq; rw [show a + (0 : Int32) = a from Int32.add_zero a]; exact hq)
theorem l_X6_dogs {E : Ev} {d : Nat} {I : Mi} {Z : Mz} {Q : Po} {W : Nat → (Nat → Int32) → Int32} {ru n m : Nat} {p : Nat} (hd : 45 ≤ d) (hM : MZ Z) (hR : RDM I W ru n m) (hp : p < m) : ∀ (k i : Nat) (a : Int32) (o4 : Option Value) (M : Mi) (L : Ml), i + k = n → SaM I M → (∀ (J : Mi) (K : Ml), SaM I J → Q (some (.int (dgO (rbM I W p) n k i a))) J K Z) → AW E yX6_dogs cX6_dogs 5 (some .int) (rmOf d 0 0) Q 0 0 4 [some (.ref 48), some (.int (nI p)), some (.int a), some (.int (nI i)), o4] [] M L Z := by
  intro k
  induction k with
  | zero =>
    intro i a o4 M L hj sM hQ
    have hn6 := hR.2.1.2
    refine aw_iload_n dX6_dogs_4 rfl ?_
    refine aw_aload_n dX6_dogs_5 rfl rfl ?_
    refine aw_gi dX6_dogs_6 fw_X6_77 hM.1 ?_
    refine aw_icmp_ge (tgt := 62) dX6_dogs_9 (by decide) (fun c9 => ?_) (fun zz => absurd (by rw [sM _ _ (by omega), hR.2.1.1, show i = n by omega]; exact Int32.le_refl _) zz)
    refine aw_iload_n dX6_dogs_62 rfl ?_
    refine aw_ireturn (ty := .int) dX6_dogs_63 rfl rfl ?_
    exact hQ _ _ sM
  | succ k ih =>
    intro i a o4 M L hj sM hQ
    have hn6 := hR.2.1.2
    refine aw_iload_n dX6_dogs_4 rfl ?_
    refine aw_aload_n dX6_dogs_5 rfl rfl ?_
    refine aw_gi dX6_dogs_6 fw_X6_77 hM.1 ?_
    refine aw_icmp_ge (tgt := 62) dX6_dogs_9 (by decide) (fun zz => absurd zz (by rw [sM _ _ (by omega), hR.2.1.1]; exact nI_ge (by omega) (by omega))) (fun c9 => ?_)
    refine aw_iload_n dX6_dogs_12 rfl ?_
    refine aw_iconst (v := 1) dX6_dogs_13 (by decide) ?_
    refine aw_iadd dX6_dogs_14 ?_
    refine aw_istore (ls' := [_, _, _, _, _]) dX6_dogs_15 (by decide) rfl rfl ?_
    rw [nI_1]
    refine l_X6_dogsI hd hM hR hp (by omega) (n - (i + 1)) (i + 1) a M L (by omega) sM (fun J K t => ?_)
    refine aw_iinc (v := nI (i + 1)) (ls' := [_, _, _, _, _]) dX6_dogs_56 rfl (nI_1 i) (by decide) rfl rfl ?_
    refine aw_goto (tgt := 4) dX6_dogs_59 (by decide) ?_
    exact ih (i + 1) _ _ _ _ (by omega) t hQ
theorem c_X6_dogs {E : Ev} {d : Nat} {I : Mi} {L : Ml} {Z : Mz} {Q : Po}  {W : Nat → (Nat → Int32) → Int32} {ru n m : Nat} {p : Nat} (hd : 45 ≤ d) (hM : MZ Z) (hR : RDM I W ru n m) (hp : p < m) (hQ : ∀ (J : Mi) (K : Ml), SaM I J → Q (some (.int (dgO (rbM I W p) n n 0 0))) J K Z) : AC E yX6_dogs cX6_dogs 5 (some .int) d 0 0 [.ref 48, .int (nI p)] I L Z Q := by
  refine ac_go (ls := [some (.ref 48), some (.int (nI p)), none, none, none]) (by decide +kernel) (Nat.le_of_ble_eq_true rfl) rfl ?_
  refine aw_iconst (v := 0) dX6_dogs_0 (by decide) ?_
  refine aw_istore_n (ls' := [_, _, _, _, _]) dX6_dogs_1 (by decide) rfl rfl ?_
  refine aw_iconst (v := 0) dX6_dogs_2 (by decide) ?_
  refine aw_istore_n (ls' := [_, _, _, _, _]) dX6_dogs_3 (by decide) rfl rfl ?_
  exact l_X6_dogs hd hM hR hp n 0 0 _ _ _ (by omega) SaM.rf hQ
theorem c_X6_next0 {E : Ev} {d : Nat} {I : Mi} {L : Ml} {Z : Mz} {Q : Po} {x : Int32} {W : Nat → (Nat → Int32) → Int32} {ru n m : Nat} {r : Nat} {s b : Nat → Int32} {sd : Int32} (hd : 47 ≤ d) (hM : MZ Z) (hR : RDM I W ru n m) (hRS : RSM I r s b) (hb : ∀ i, i < r → Bo (b i)) (hto : ∀ c, c < n → Bo (I 52 (2 * c + 1))) (hsd : I 48 7 = sd) (hs2 : S12 sd) (hB : ¬ (∃ j, j < m ∧ x = nI j) → Q (some (.int (-2))) I L Z) (hS : ∀ p, p < m → x = nI p → ∀ (rv : Int32) (J : Mi) (K : Ml), SaB r I J → rv = (ncF (fun j => fwX s b r (rbM I W p j) (I 52 (2 * j + 1)) sd) (if r = 12 then 0 else n) 0 (-1) (bcV (foX s b r (-1) sd))).1 → Q (some (.int rv)) J K Z) : AC E yX6_next cX6_next 3 (some .int) d 0 0 [.ref 48, .int x, .int 0] I L Z Q := by
  refine ac_go (ls := [some (.ref 48), some (.int x), some (.int 0)]) (by decide +kernel) (Nat.le_of_ble_eq_true rfl) rfl ?_
  refine aw_aload_n dX6_next_0 rfl rfl ?_
  refine aw_iload_n dX6_next_1 rfl ?_
  refine aw_V1 dX6_next_2 cw_X6_86 ⟨_, _, rfl⟩ hM.1 (by omega) ⟨Nat.le_refl _, Nat.le_refl _⟩ (by decide) (c_X6_isOne (by omega) hM hR.2.2.1.1 hR.2.2.1.2 (fun c2 => ?_) (fun c2 => ?_))
  · refine aw_if_eq (tgt := 20) dX6_next_5 (by decide) (fun zz => absurd zz (by decide)) (fun _ => ?_)
    refine aw_iload_n dX6_next_8 rfl ?_
    refine aw_i2l dX6_next_9 ?_
    refine aw_lconst (v := 0) dX6_next_10 (by decide) ?_
    refine aw_ldc2 dX6_next_11 kw_X6_366 ?_
    refine aw_S3 dX6_next_14 cw_X6_73 (by omega) ⟨Nat.le_refl _, Nat.le_refl _⟩ (by decide) (c_X6_in (x := 0) (a := 0) (b := 2) rfl (by decide) (by decide) (fun c14 => ?_) (fun zz => absurd (by decide) zz))
    refine aw_if_ne (tgt := 23) dX6_next_17 (by decide) (fun _ => ?_) (fun zz => absurd zz (by decide))
    obtain ⟨p, hp, rfl⟩ := c2
    refine aw_iload_n dX6_next_23 rfl ?_
    refine aw_iconst (v := 2) dX6_next_24 (by decide) ?_
    refine aw_icmp_ne (tgt := 36) dX6_next_25 (by decide) (fun _ => ?_) (fun zz => absurd zz (by decide))
    refine aw_aload_n dX6_next_36 rfl rfl ?_
    refine aw_iload_n dX6_next_37 rfl ?_
    refine aw_iload_n dX6_next_38 rfl ?_
    refine aw_V2 dX6_next_39 cw_X6_401 ⟨_, _, rfl⟩ hM.1 (by omega) ⟨Nat.le_refl _, Nat.le_refl _⟩ (by decide) (c_X6_nextCup0 (by omega) hM hR hRS hb hto hsd hs2 hp (fun J K t => ?_))
    refine aw_ireturn (ty := .int) dX6_next_42 rfl rfl ?_
    exact hS p hp rfl _ _ _ t rfl
  · refine aw_if_eq (tgt := 20) dX6_next_5 (by decide) (fun _ => ?_) (fun zz => absurd zz (by decide))
    refine aw_bipush (v := -2) dX6_next_20 (by decide) ?_
    refine aw_ireturn (ty := .int) dX6_next_22 rfl rfl ?_
    exact hB c2
theorem c_X6_next1 {E : Ev} {d : Nat} {I : Mi} {L : Ml} {Z : Mz} {Q : Po} {x : Int32} {W : Nat → (Nat → Int32) → Int32} {ru n m : Nat} {r : Nat} {s b : Nat → Int32} {sd : Int32} (hd : 47 ≤ d) (hM : MZ Z) (hR : RDM I W ru n m) (hRS : RSM I r s b) (hb : ∀ i, i < r → Bo (b i)) (hto : ∀ c, c < n → Bo (I 52 (2 * c + 1))) (hsd : I 48 7 = sd) (hs2 : S12 sd) (hB : ¬ (∃ j, j < m ∧ x = nI j) → Q (some (.int (-2))) I L Z) (hS : ∀ p, p < m → x = nI p → ∀ (rv : Int32) (J : Mi) (K : Ml), SaB r I J → rv = (ncF (fun j => fwX s b r (rbM I W p j) (I 52 (2 * j + 1)) sd) (if r = 12 then 0 else n) 0 (-1) (bcV (foX s b r (-1) sd))).2 → Q (some (.int rv)) J K Z) : AC E yX6_next cX6_next 3 (some .int) d 0 0 [.ref 48, .int x, .int 1] I L Z Q := by
  refine ac_go (ls := [some (.ref 48), some (.int x), some (.int 1)]) (by decide +kernel) (Nat.le_of_ble_eq_true rfl) rfl ?_
  refine aw_aload_n dX6_next_0 rfl rfl ?_
  refine aw_iload_n dX6_next_1 rfl ?_
  refine aw_V1 dX6_next_2 cw_X6_86 ⟨_, _, rfl⟩ hM.1 (by omega) ⟨Nat.le_refl _, Nat.le_refl _⟩ (by decide) (c_X6_isOne (by omega) hM hR.2.2.1.1 hR.2.2.1.2 (fun c2 => ?_) (fun c2 => ?_))
  · refine aw_if_eq (tgt := 20) dX6_next_5 (by decide) (fun zz => absurd zz (by decide)) (fun _ => ?_)
    refine aw_iload_n dX6_next_8 rfl ?_
    refine aw_i2l dX6_next_9 ?_
    refine aw_lconst (v := 0) dX6_next_10 (by decide) ?_
    refine aw_ldc2 dX6_next_11 kw_X6_366 ?_
    refine aw_S3 dX6_next_14 cw_X6_73 (by omega) ⟨Nat.le_refl _, Nat.le_refl _⟩ (by decide) (c_X6_in (x := 1) (a := 0) (b := 2) rfl (by decide) (by decide) (fun c14 => ?_) (fun zz => absurd (by decide) zz))
    refine aw_if_ne (tgt := 23) dX6_next_17 (by decide) (fun _ => ?_) (fun zz => absurd zz (by decide))
    obtain ⟨p, hp, rfl⟩ := c2
    refine aw_iload_n dX6_next_23 rfl ?_
    refine aw_iconst (v := 2) dX6_next_24 (by decide) ?_
    refine aw_icmp_ne (tgt := 36) dX6_next_25 (by decide) (fun _ => ?_) (fun zz => absurd zz (by decide))
    refine aw_aload_n dX6_next_36 rfl rfl ?_
    refine aw_iload_n dX6_next_37 rfl ?_
    refine aw_iload_n dX6_next_38 rfl ?_
    refine aw_V2 dX6_next_39 cw_X6_401 ⟨_, _, rfl⟩ hM.1 (by omega) ⟨Nat.le_refl _, Nat.le_refl _⟩ (by decide) (c_X6_nextCup1 (by omega) hM hR hRS hb hto hsd hs2 hp (fun J K t => ?_))
    refine aw_ireturn (ty := .int) dX6_next_42 rfl rfl ?_
    exact hS p hp rfl _ _ _ t rfl
  · refine aw_if_eq (tgt := 20) dX6_next_5 (by decide) (fun _ => ?_) (fun zz => absurd zz (by decide))
    refine aw_bipush (v := -2) dX6_next_20 (by decide) ?_
    refine aw_ireturn (ty := .int) dX6_next_22 rfl rfl ?_
    exact hB c2
theorem c_X6_next2 {E : Ev} {d : Nat} {I : Mi} {L : Ml} {Z : Mz} {Q : Po} {x : Int32} {W : Nat → (Nat → Int32) → Int32} {ru n m : Nat} (hd : 46 ≤ d) (hM : MZ Z) (hR : RDM I W ru n m) (hB : ¬ (∃ j, j < m ∧ x = nI j) → Q (some (.int (-2))) I L Z) (hS : ∀ p, p < m → x = nI p → ∀ (rv : Int32) (J : Mi) (K : Ml), SaM I J → rv = dgO (rbM I W p) n n 0 0 → Q (some (.int rv)) J K Z) : AC E yX6_next cX6_next 3 (some .int) d 0 0 [.ref 48, .int x, .int 2] I L Z Q := by
  refine ac_go (ls := [some (.ref 48), some (.int x), some (.int 2)]) (by decide +kernel) (Nat.le_of_ble_eq_true rfl) rfl ?_
  refine aw_aload_n dX6_next_0 rfl rfl ?_
  refine aw_iload_n dX6_next_1 rfl ?_
  refine aw_V1 dX6_next_2 cw_X6_86 ⟨_, _, rfl⟩ hM.1 (by omega) ⟨Nat.le_refl _, Nat.le_refl _⟩ (by decide) (c_X6_isOne (by omega) hM hR.2.2.1.1 hR.2.2.1.2 (fun c2 => ?_) (fun c2 => ?_))
  · refine aw_if_eq (tgt := 20) dX6_next_5 (by decide) (fun zz => absurd zz (by decide)) (fun _ => ?_)
    refine aw_iload_n dX6_next_8 rfl ?_
    refine aw_i2l dX6_next_9 ?_
    refine aw_lconst (v := 0) dX6_next_10 (by decide) ?_
    refine aw_ldc2 dX6_next_11 kw_X6_366 ?_
    refine aw_S3 dX6_next_14 cw_X6_73 (by omega) ⟨Nat.le_refl _, Nat.le_refl _⟩ (by decide) (c_X6_in (x := 2) (a := 0) (b := 2) rfl (by decide) (by decide) (fun c14 => ?_) (fun zz => absurd (by decide) zz))
    refine aw_if_ne (tgt := 23) dX6_next_17 (by decide) (fun _ => ?_) (fun zz => absurd zz (by decide))
    obtain ⟨p, hp, rfl⟩ := c2
    refine aw_iload_n dX6_next_23 rfl ?_
    refine aw_iconst (v := 2) dX6_next_24 (by decide) ?_
    refine aw_icmp_ne (tgt := 36) dX6_next_25 (by decide) (fun zz => absurd zz (by decide)) (fun _ => ?_)
    refine aw_aload_n dX6_next_28 rfl rfl ?_
    refine aw_iload_n dX6_next_29 rfl ?_
    refine aw_V1 dX6_next_30 cw_X6_398 ⟨_, _, rfl⟩ hM.1 (by omega) ⟨Nat.le_refl _, Nat.le_refl _⟩ (by decide) (c_X6_dogs (by omega) hM hR hp (fun J K t => ?_))
    refine aw_goto (tgt := 42) dX6_next_33 (by decide) ?_
    refine aw_ireturn (ty := .int) dX6_next_42 rfl rfl ?_
    exact hS p hp rfl _ _ _ t rfl
  · refine aw_if_eq (tgt := 20) dX6_next_5 (by decide) (fun _ => ?_) (fun zz => absurd zz (by decide))
    refine aw_bipush (v := -2) dX6_next_20 (by decide) ?_
    refine aw_ireturn (ty := .int) dX6_next_22 rfl rfl ?_
    exact hB c2
theorem c_X6_nextX {E : Ev} {d : Nat} {I : Mi} {L : Ml} {Z : Mz} {Q : Po} {x : Int32} {w : Int32} {W : Nat → (Nat → Int32) → Int32} {ru n m : Nat} (hd : 2 ≤ d) (hM : MZ Z) (hR : RDM I W ru n m) (hw : ¬ (¬ w < 0 ∧ ¬ 2 < w)) (hB : Q (some (.int (-2))) I L Z) : AC E yX6_next cX6_next 3 (some .int) d 0 0 [.ref 48, .int x, .int w] I L Z Q := by
  refine ac_go (ls := [some (.ref 48), some (.int x), some (.int w)]) (by decide +kernel) (Nat.le_of_ble_eq_true rfl) rfl ?_
  refine aw_aload_n dX6_next_0 rfl rfl ?_
  refine aw_iload_n dX6_next_1 rfl ?_
  refine aw_V1 dX6_next_2 cw_X6_86 ⟨_, _, rfl⟩ hM.1 (by omega) ⟨Nat.le_refl _, Nat.le_refl _⟩ (by decide) (c_X6_isOne (by omega) hM hR.2.2.1.1 hR.2.2.1.2 (fun c2 => ?_) (fun c2 => ?_))
  · refine aw_if_eq (tgt := 20) dX6_next_5 (by decide) (fun zz => absurd zz (by decide)) (fun _ => ?_)
    refine aw_iload_n dX6_next_8 rfl ?_
    refine aw_i2l dX6_next_9 ?_
    refine aw_lconst (v := 0) dX6_next_10 (by decide) ?_
    refine aw_ldc2 dX6_next_11 kw_X6_366 ?_
    refine aw_S3 dX6_next_14 cw_X6_73 (by omega) ⟨Nat.le_refl _, Nat.le_refl _⟩ (by decide) (c_X6_in (x := w) (a := 0) (b := 2) rfl (by decide) (by decide) (fun zz => absurd zz hw) (fun c14 => ?_))
    refine aw_if_ne (tgt := 23) dX6_next_17 (by decide) (fun zz => absurd zz (by decide)) (fun _ => ?_)
    refine aw_bipush (v := -2) dX6_next_20 (by decide) ?_
    refine aw_ireturn (ty := .int) dX6_next_22 rfl rfl ?_
    exact hB
  · refine aw_if_eq (tgt := 20) dX6_next_5 (by decide) (fun _ => ?_) (fun zz => absurd zz (by decide))
    refine aw_bipush (v := -2) dX6_next_20 (by decide) ?_
    refine aw_ireturn (ty := .int) dX6_next_22 rfl rfl ?_
    exact hB
theorem l_X6_alike {E : Ev} {d : Nat} {I : Mi} {Z : Mz} {Q : Po} {W : Nat → (Nat → Int32) → Int32} {ru n m : Nat} {p p2 : Nat} (hd : 45 ≤ d) (hM : MZ Z) (hR : RDM I W ru n m) (hp : p < m) (hp2 : p2 < m) : ∀ (k j : Nat) (a : Int32) (M : Mi) (L : Ml), j + k = n → SaM I M → (∀ (J : Mi) (K : Ml), SaM I J → Q (some (.int (akF (rbM I W p) (rbM I W p2) k j a))) J K Z) → AW E yX6_alike cX6_alike 5 (some .int) (rmOf d 0 0) Q 0 0 29 [some (.ref 48), some (.int (nI p)), some (.int (nI p2)), some (.int a), some (.int (nI j))] [] M L Z := by
  intro k
  induction k with
  | zero =>
    intro j a M L hj sM hQ
    have hn6 := hR.2.1.2
    refine aw_iload dX6_alike_29 rfl ?_
    refine aw_aload_n dX6_alike_31 rfl rfl ?_
    refine aw_gi dX6_alike_32 fw_X6_77 hM.1 ?_
    refine aw_icmp_ge (tgt := 72) dX6_alike_35 (by decide) (fun c35 => ?_) (fun zz => absurd (by rw [sM _ _ (by omega), hR.2.1.1, show j = n by omega]; exact Int32.le_refl _) zz)
    refine aw_iload_n dX6_alike_72 rfl ?_
    refine aw_ireturn (ty := .int) dX6_alike_73 rfl rfl ?_
    exact hQ _ _ sM
  | succ k ih =>
    intro j a M L hj sM hQ
    have hn6 := hR.2.1.2
    refine aw_iload dX6_alike_29 rfl ?_
    refine aw_aload_n dX6_alike_31 rfl rfl ?_
    refine aw_gi dX6_alike_32 fw_X6_77 hM.1 ?_
    refine aw_icmp_ge (tgt := 72) dX6_alike_35 (by decide) (fun zz => absurd zz (by rw [sM _ _ (by omega), hR.2.1.1]; exact nI_ge (by omega) (by omega))) (fun c35 => ?_)
    refine aw_iload_n dX6_alike_38 rfl ?_
    refine aw_aload_n dX6_alike_39 rfl rfl ?_
    refine aw_iload_n dX6_alike_40 rfl ?_
    refine aw_iload dX6_alike_41 rfl ?_
    refine aw_V2 dX6_alike_43 cw_X6_368 ⟨_, _, rfl⟩ hM.1 (by omega) ⟨Nat.le_refl _, Nat.le_refl _⟩ (by simp [Value.category, psh]) (c_X6_readBy (by omega) hM (hR.sam sM) hp (by omega) (fun r1 I1 L1 s1 e1 => ?_))
    rw [rbM_sam sM] at e1
    refine aw_aload_n dX6_alike_46 rfl rfl ?_
    refine aw_iload_n dX6_alike_47 rfl ?_
    refine aw_iload dX6_alike_48 rfl ?_
    refine aw_V2 dX6_alike_50 cw_X6_368 ⟨_, _, rfl⟩ hM.1 (by omega) ⟨Nat.le_refl _, Nat.le_refl _⟩ (by simp [Value.category, psh]) (c_X6_readBy (by omega) hM (hR.sam (sM.tr s1)) hp2 (by omega) (fun r2 I2 L2 s2 e2 => ?_))
    rw [rbM_sam (sM.tr s1)] at e2
    refine aw_icmp_ne (tgt := 60) dX6_alike_53 (by decide) (fun c53 => ?_) (fun c53 => ?_)
    · refine aw_iconst (v := 0) dX6_alike_60 (by decide) ?_
      refine aw_iload dX6_alike_61 rfl ?_
      refine aw_ishl dX6_alike_63 ?_
      refine aw_ior dX6_alike_64 ?_
      refine aw_istore_n (ls' := [_, _, _, _, _]) dX6_alike_65 (by decide) rfl rfl ?_
      refine aw_iinc (v := nI (j + 1)) (ls' := [_, _, _, _, _]) dX6_alike_66 rfl (nI_1 j) (by decide) rfl rfl ?_
      refine aw_goto (tgt := 29) dX6_alike_69 (by decide) ?_
      refine ih (j + 1) _ _ _ (by omega) ((sM.tr s1).tr s2) (fun J K t => ?_)
      have hq := hQ J K t
      simp only [akF] at hq
      rw [e1, e2] at c53
      first | (rw [if_pos c53] at hq; exact hq) | (rw [if_neg c53] at hq; rw [shl0 j (by omega), Int32.or_zero]; exact hq)
    · refine aw_iconst (v := 1) dX6_alike_56 (by decide) ?_
      refine aw_goto (tgt := 61) dX6_alike_57 (by decide) ?_
      refine aw_iload dX6_alike_61 rfl ?_
      refine aw_ishl dX6_alike_63 ?_
      refine aw_ior dX6_alike_64 ?_
      refine aw_istore_n (ls' := [_, _, _, _, _]) dX6_alike_65 (by decide) rfl rfl ?_
      refine aw_iinc (v := nI (j + 1)) (ls' := [_, _, _, _, _]) dX6_alike_66 rfl (nI_1 j) (by decide) rfl rfl ?_
      refine aw_goto (tgt := 29) dX6_alike_69 (by decide) ?_
      refine ih (j + 1) _ _ _ (by omega) ((sM.tr s1).tr s2) (fun J K t => ?_)
      have hq := hQ J K t
      simp only [akF] at hq
      rw [e1, e2] at c53
      first | (rw [if_pos c53] at hq; exact hq) | (rw [if_neg c53] at hq; rw [shl0 j (by omega), Int32.or_zero]; exact hq)
theorem c_X6_alike {E : Ev} {d : Nat} {I : Mi} {L : Ml} {Z : Mz} {Q : Po} {x : Int32} {z : Int32} {W : Nat → (Nat → Int32) → Int32} {ru n m : Nat} (hd : 45 ≤ d) (hM : MZ Z) (hR : RDM I W ru n m) (hB : ¬ ((∃ j, j < m ∧ x = nI j) ∧ (∃ j, j < m ∧ z = nI j) ∧ ¬ x = z) → Q (some (.int (-2))) I L Z) (hS : ∀ p p2, p < m → p2 < m → x = nI p → z = nI p2 → ¬ x = z → ∀ (rv : Int32) (J : Mi) (K : Ml), SaM I J → rv = akF (rbM I W p) (rbM I W p2) n 0 0 → Q (some (.int rv)) J K Z) : AC E yX6_alike cX6_alike 5 (some .int) d 0 0 [.ref 48, .int x, .int z] I L Z Q := by
  refine ac_go (ls := [some (.ref 48), some (.int x), some (.int z), none, none]) (by decide +kernel) (Nat.le_of_ble_eq_true rfl) rfl ?_
  refine aw_aload_n dX6_alike_0 rfl rfl ?_
  refine aw_iload_n dX6_alike_1 rfl ?_
  refine aw_V1 dX6_alike_2 cw_X6_86 ⟨_, _, rfl⟩ hM.1 (by omega) ⟨Nat.le_refl _, Nat.le_refl _⟩ (by decide) (c_X6_isOne (by omega) hM hR.2.2.1.1 hR.2.2.1.2 (fun c2 => ?_) (fun c2 => ?_))
  · refine aw_if_eq (tgt := 21) dX6_alike_5 (by decide) (fun zz => absurd zz (by decide)) (fun _ => ?_)
    refine aw_aload_n dX6_alike_8 rfl rfl ?_
    refine aw_iload_n dX6_alike_9 rfl ?_
    refine aw_V1 dX6_alike_10 cw_X6_86 ⟨_, _, rfl⟩ hM.1 (by omega) ⟨Nat.le_refl _, Nat.le_refl _⟩ (by decide) (c_X6_isOne (by omega) hM hR.2.2.1.1 hR.2.2.1.2 (fun c10 => ?_) (fun c10 => ?_))
    · refine aw_if_eq (tgt := 21) dX6_alike_13 (by decide) (fun zz => absurd zz (by decide)) (fun _ => ?_)
      refine aw_iload_n dX6_alike_16 rfl ?_
      refine aw_iload_n dX6_alike_17 rfl ?_
      refine aw_icmp_ne (tgt := 24) dX6_alike_18 (by decide) (fun c18 => ?_) (fun c18 => ?_)
      · refine aw_iconst (v := 0) dX6_alike_24 (by decide) ?_
        refine aw_istore_n (ls' := [_, _, _, _, _]) dX6_alike_25 (by decide) rfl rfl ?_
        refine aw_iconst (v := 0) dX6_alike_26 (by decide) ?_
        refine aw_istore (ls' := [_, _, _, _, _]) dX6_alike_27 (by decide) rfl rfl ?_
        obtain ⟨p, hp, rfl⟩ := c2
        obtain ⟨p2, hp2, rfl⟩ := c10
        exact l_X6_alike hd hM hR hp hp2 n 0 0 _ _ (by omega) SaM.rf (fun J K t => hS p p2 hp hp2 rfl rfl c18 _ J K t rfl)
      · refine aw_bipush (v := -2) dX6_alike_21 (by decide) ?_
        refine aw_ireturn (ty := .int) dX6_alike_23 rfl rfl ?_
        exact hB (fun zz => zz.2.2 c18)
    · refine aw_if_eq (tgt := 21) dX6_alike_13 (by decide) (fun _ => ?_) (fun zz => absurd zz (by decide))
      refine aw_bipush (v := -2) dX6_alike_21 (by decide) ?_
      refine aw_ireturn (ty := .int) dX6_alike_23 rfl rfl ?_
      exact hB (fun zz => c10 zz.2.1)
  · refine aw_if_eq (tgt := 21) dX6_alike_5 (by decide) (fun _ => ?_) (fun zz => absurd zz (by decide))
    refine aw_bipush (v := -2) dX6_alike_21 (by decide) ?_
    refine aw_ireturn (ty := .int) dX6_alike_23 rfl rfl ?_
    exact hB (fun zz => c2 zz.1)
theorem l_X6_firstOther {E : Ev} {d : Nat} {I : Mi} {Z : Mz} {Q : Po} {W : Nat → (Nat → Int32) → Int32} {ru n m : Nat} {p s z : Nat} (hd : 45 ≤ d) (hM : MZ Z) (hR : RDM I W ru n m) (hp : p < m) (hs : s < 4) (hsz : I 62 s = nI z) (hzn : z ≤ n) : ∀ (k j : Nat) (M : Mi) (L : Ml), j + k = z → SaM I M → (∀ (J : Mi) (K : Ml), SaM I J → Q (some (.int (foS (fun i => I 63 (40 * s + i)) (rbM I W p) k j))) J K Z) → AW E yX6_firstOther cX6_firstOther 4 (some .int) (rmOf d 0 0) Q 0 0 2 [some (.ref 48), some (.int (nI s)), some (.int (nI p)), some (.int (nI j))] [] M L Z := by
  intro k
  induction k with
  | zero =>
    intro j M L hj sM hQ
    have hn6 := hR.2.1.2
    refine aw_iload_n dX6_firstOther_2 rfl ?_
    refine aw_aload_n dX6_firstOther_3 rfl rfl ?_
    refine aw_gr dX6_firstOther_4 fw_X6_57 hM.1 hM.2.2.2.2.2.2.2.2.2.2.2.2.2.2.2.2.2.2.2.2.2.2.2.2.2.2.2.1 ?_
    refine aw_iload_n dX6_firstOther_7 rfl ?_
    refine aw_ia s dX6_firstOther_8 hM.2.2.2.2.2.2.2.2.2.2.2.2.2.2.2.2.2.2.2.2.2.2.2.2.2.2.2.2.1 rfl hs (by decide) ?_
    refine aw_icmp_ge (tgt := 40) dX6_firstOther_9 (by decide) (fun c9 => ?_) (fun zz => absurd (by rw [sM _ _ (by omega), hsz, show j = z by omega]; exact Int32.le_refl _) zz)
    refine aw_iconst (v := -1) dX6_firstOther_40 (by decide) ?_
    refine aw_ireturn (ty := .int) dX6_firstOther_41 rfl rfl ?_
    exact hQ _ _ sM
  | succ k ih =>
    intro j M L hj sM hQ
    have hn6 := hR.2.1.2
    refine aw_iload_n dX6_firstOther_2 rfl ?_
    refine aw_aload_n dX6_firstOther_3 rfl rfl ?_
    refine aw_gr dX6_firstOther_4 fw_X6_57 hM.1 hM.2.2.2.2.2.2.2.2.2.2.2.2.2.2.2.2.2.2.2.2.2.2.2.2.2.2.2.1 ?_
    refine aw_iload_n dX6_firstOther_7 rfl ?_
    refine aw_ia s dX6_firstOther_8 hM.2.2.2.2.2.2.2.2.2.2.2.2.2.2.2.2.2.2.2.2.2.2.2.2.2.2.2.2.1 rfl hs (by decide) ?_
    refine aw_icmp_ge (tgt := 40) dX6_firstOther_9 (by decide) (fun zz => absurd zz (by rw [sM _ _ (by omega), hsz]; exact nI_ge (by omega) (by omega))) (fun c9 => ?_)
    refine aw_aload_n dX6_firstOther_12 rfl rfl ?_
    refine aw_iload_n dX6_firstOther_13 rfl ?_
    refine aw_iload_n dX6_firstOther_14 rfl ?_
    refine aw_V2 dX6_firstOther_15 cw_X6_368 ⟨_, _, rfl⟩ hM.1 (by omega) ⟨Nat.le_refl _, Nat.le_refl _⟩ (by decide) (c_X6_readBy (by omega) hM (hR.sam sM) hp (by omega) (fun r1 I1 L1 s1 e1 => ?_))
    rw [rbM_sam sM] at e1
    refine aw_aload_n dX6_firstOther_18 rfl rfl ?_
    refine aw_gr dX6_firstOther_19 fw_X6_60 hM.1 hM.2.2.2.2.2.2.2.2.2.2.2.2.2.2.2.2.2.2.2.2.2.2.2.2.2.2.2.2.2.1 ?_
    refine aw_bipush (v := 40) dX6_firstOther_22 (by decide) ?_
    refine aw_iload_n dX6_firstOther_24 rfl ?_
    refine aw_imul dX6_firstOther_25 ?_
    refine aw_iload_n dX6_firstOther_26 rfl ?_
    refine aw_iadd dX6_firstOther_27 ?_
    refine aw_ia (40 * s + j) dX6_firstOther_28 hM.2.2.2.2.2.2.2.2.2.2.2.2.2.2.2.2.2.2.2.2.2.2.2.2.2.2.2.2.2.2 (by show nI 40 * nI s + nI j = _; rw [pk_mul, nI_add]) (by omega) (by decide) ?_
    rw [(sM.tr s1).row (a := 63) (by omega)]
    refine aw_icmp_eq (tgt := 34) dX6_firstOther_29 (by decide) (fun c29 => ?_) (fun c29 => ?_)
    · refine aw_iinc (v := nI (j + 1)) (ls' := [_, _, _, _]) dX6_firstOther_34 rfl (nI_1 j) (by decide) rfl rfl ?_
      refine aw_goto (tgt := 2) dX6_firstOther_37 (by decide) ?_
      refine ih (j + 1) _ _ (by omega) (sM.tr s1) (fun J K t => ?_)
      have hq := hQ J K t
      simp only [foS] at hq
      rw [e1] at c29
      rw [if_pos c29.symm] at hq
      exact hq
    · refine aw_iload_n dX6_firstOther_32 rfl ?_
      refine aw_ireturn (ty := .int) dX6_firstOther_33 rfl rfl ?_
      have hq := hQ _ L1 (sM.tr s1)
      simp only [foS] at hq
      rw [e1] at c29
      rw [if_neg (fun w => c29 w.symm)] at hq
      exact hq
theorem c_X6_firstOther {E : Ev} {d : Nat} {I : Mi} {L : Ml} {Z : Mz} {Q : Po}  {W : Nat → (Nat → Int32) → Int32} {ru n m : Nat} {p s z : Nat} (hd : 45 ≤ d) (hM : MZ Z) (hR : RDM I W ru n m) (hp : p < m) (hs : s < 4) (hsz : I 62 s = nI z) (hzn : z ≤ n) (hQ : ∀ (J : Mi) (K : Ml), SaM I J → Q (some (.int (foS (fun i => I 63 (40 * s + i)) (rbM I W p) z 0))) J K Z) : AC E yX6_firstOther cX6_firstOther 4 (some .int) d 0 0 [.ref 48, .int (nI s), .int (nI p)] I L Z Q := by
  refine ac_go (ls := [some (.ref 48), some (.int (nI s)), some (.int (nI p)), none]) (by decide +kernel) (Nat.le_of_ble_eq_true rfl) rfl ?_
  refine aw_iconst (v := 0) dX6_firstOther_0 (by decide) ?_
  refine aw_istore_n (ls' := [_, _, _, _]) dX6_firstOther_1 (by decide) rfl rfl ?_
  exact l_X6_firstOther hd hM hR hp hs hsz hzn z 0 _ _ (by omega) SaM.rf hQ
theorem foS_sam {I J : Mi} {W : Nat → (Nat → Int32) → Int32} {p s z : Nat} (t : SaM I J) : foS (fun i => J 63 (40 * s + i)) (rbM J W p) z 0 = foS (fun i => I 63 (40 * s + i)) (rbM I W p) z 0 := by
  rw [t.row (a := 63) (by omega), show rbM J W p = rbM I W p from funext fun c => rbM_sam t]
theorem l_X6_likeSet {E : Ev} {d : Nat} {I : Mi} {Z : Mz} {Q : Po} {W : Nat → (Nat → Int32) → Int32} {ru n m : Nat} {s z : Nat} (hd : 46 ≤ d) (hM : MZ Z) (hR : RDM I W ru n m) (hs : s < 4) (hsz : I 62 s = nI z) (hzn : z ≤ n) : ∀ (k j : Nat) (a : Int32) (M : Mi) (L : Ml), j + k = m → SaM I M → (∀ (J : Mi) (K : Ml), SaM I J → Q (some (.int (btF (fun p => foS (fun i => I 63 (40 * s + i)) (rbM I W p) z 0) k j a))) J K Z) → AW E yX6_likeSet cX6_likeSet 4 (some .int) (rmOf d 0 0) Q 0 0 4 [some (.ref 48), some (.int (nI s)), some (.int a), some (.int (nI j))] [] M L Z := by
  intro k
  induction k with
  | zero =>
    intro j a M L hj sM hQ
    have hm5 := hR.2.2.1.2
    refine aw_iload_n dX6_likeSet_4 rfl ?_
    refine aw_aload_n dX6_likeSet_5 rfl rfl ?_
    refine aw_gi dX6_likeSet_6 fw_X6_70 hM.1 ?_
    refine aw_icmp_ge (tgt := 38) dX6_likeSet_9 (by decide) (fun c9 => ?_) (fun zz => absurd (by rw [sM _ _ (by omega), hR.2.2.1.1, show j = m by omega]; exact Int32.le_refl _) zz)
    refine aw_iload_n dX6_likeSet_38 rfl ?_
    refine aw_ireturn (ty := .int) dX6_likeSet_39 rfl rfl ?_
    exact hQ _ _ sM
  | succ k ih =>
    intro j a M L hj sM hQ
    have hm5 := hR.2.2.1.2
    refine aw_iload_n dX6_likeSet_4 rfl ?_
    refine aw_aload_n dX6_likeSet_5 rfl rfl ?_
    refine aw_gi dX6_likeSet_6 fw_X6_70 hM.1 ?_
    refine aw_icmp_ge (tgt := 38) dX6_likeSet_9 (by decide) (fun zz => absurd zz (by rw [sM _ _ (by omega), hR.2.2.1.1]; exact nI_ge (by omega) (by omega))) (fun c9 => ?_)
    refine aw_iload_n dX6_likeSet_12 rfl ?_
    refine aw_aload_n dX6_likeSet_13 rfl rfl ?_
    refine aw_iload_n dX6_likeSet_14 rfl ?_
    refine aw_iload_n dX6_likeSet_15 rfl ?_
    refine aw_V2 dX6_likeSet_16 cw_X6_412 ⟨_, _, rfl⟩ hM.1 (by omega) ⟨Nat.le_refl _, Nat.le_refl _⟩ (by simp [Value.category, psh]) (c_X6_firstOther (z := z) (by omega) hM (hR.sam sM) (show j < m by omega) hs (by rw [sM _ _ (by omega)]; exact hsz) hzn (fun J1 K1 t1 => ?_))
    rw [foS_sam sM]
    refine aw_iconst (v := -1) dX6_likeSet_19 (by decide) ?_
    refine aw_icmp_ne (tgt := 27) dX6_likeSet_20 (by decide) (fun c20 => ?_) (fun c20 => ?_)
    · refine aw_iconst (v := 0) dX6_likeSet_27 (by decide) ?_
      refine aw_iload_n dX6_likeSet_28 rfl ?_
      refine aw_ishl dX6_likeSet_29 ?_
      refine aw_ior dX6_likeSet_30 ?_
      refine aw_istore_n (ls' := [_, _, _, _]) dX6_likeSet_31 (by decide) rfl rfl ?_
      refine aw_iinc (v := nI (j + 1)) (ls' := [_, _, _, _]) dX6_likeSet_32 rfl (nI_1 j) (by decide) rfl rfl ?_
      refine aw_goto (tgt := 4) dX6_likeSet_35 (by decide) ?_
      refine ih (j + 1) _ _ _ (by omega) (sM.tr t1) (fun J K t => ?_)
      have hq := hQ J K t
      simp only [btF] at hq
      first | (rw [if_pos c20] at hq; exact hq) | (rw [if_neg c20] at hq; rw [shl0 j (by omega), Int32.or_zero]; exact hq)
    · refine aw_iconst (v := 1) dX6_likeSet_23 (by decide) ?_
      refine aw_goto (tgt := 28) dX6_likeSet_24 (by decide) ?_
      refine aw_iload_n dX6_likeSet_28 rfl ?_
      refine aw_ishl dX6_likeSet_29 ?_
      refine aw_ior dX6_likeSet_30 ?_
      refine aw_istore_n (ls' := [_, _, _, _]) dX6_likeSet_31 (by decide) rfl rfl ?_
      refine aw_iinc (v := nI (j + 1)) (ls' := [_, _, _, _]) dX6_likeSet_32 rfl (nI_1 j) (by decide) rfl rfl ?_
      refine aw_goto (tgt := 4) dX6_likeSet_35 (by decide) ?_
      refine ih (j + 1) _ _ _ (by omega) (sM.tr t1) (fun J K t => ?_)
      have hq := hQ J K t
      simp only [btF] at hq
      first | (rw [if_pos c20] at hq; exact hq) | (rw [if_neg c20] at hq; rw [shl0 j (by omega), Int32.or_zero]; exact hq)
theorem c_X6_likeSet {E : Ev} {d : Nat} {I : Mi} {L : Ml} {Z : Mz} {Q : Po}  {W : Nat → (Nat → Int32) → Int32} {ru n m : Nat} {s z : Nat} (hd : 46 ≤ d) (hM : MZ Z) (hR : RDM I W ru n m) (hs : s < 4) (hsz : I 62 s = nI z) (hzn : z ≤ n) (hQ : ∀ (J : Mi) (K : Ml), SaM I J → Q (some (.int (btF (fun p => foS (fun i => I 63 (40 * s + i)) (rbM I W p) z 0) m 0 0))) J K Z) : AC E yX6_likeSet cX6_likeSet 4 (some .int) d 0 0 [.ref 48, .int (nI s)] I L Z Q := by
  refine ac_go (ls := [some (.ref 48), some (.int (nI s)), none, none]) (by decide +kernel) (Nat.le_of_ble_eq_true rfl) rfl ?_
  refine aw_iconst (v := 0) dX6_likeSet_0 (by decide) ?_
  refine aw_istore_n (ls' := [_, _, _, _]) dX6_likeSet_1 (by decide) rfl rfl ?_
  refine aw_iconst (v := 0) dX6_likeSet_2 (by decide) ?_
  refine aw_istore_n (ls' := [_, _, _, _]) dX6_likeSet_3 (by decide) rfl rfl ?_
  exact l_X6_likeSet hd hM hR hs hsz hzn m 0 0 _ _ (by omega) SaM.rf hQ
def fiM (J : Mi) (s : Nat) (f : Nat → Int32) (k : Nat) : Mi := rU J 63 (fun x => if 40 * s ≤ x ∧ x < 40 * s + k then f (x - 40 * s) else J 63 x)
theorem fiM_row {J : Mi} {s k a : Nat} {f : Nat → Int32} (h : a ≠ 63) : fiM J s f k a = J a := by simp only [fiM, rU, if_neg h]
theorem fiM_s {J M : Mi} {s k : Nat} {f : Nat → Int32} (t : SaM (fiM J s f k) M) : SaM (fiM J s f (k + 1)) (iU M 63 (40 * s + k) (f k)) := by
  intro a j h
  by_cases e : a = 63 ∧ j = 40 * s + k
  · obtain ⟨rfl, rfl⟩ := e
    rw [iU_same]
    simp only [fiM, rU, if_true]
    rw [if_pos (by omega), show 40 * s + k - 40 * s = k by omega]
  · rw [iU_at e, t a j h]
    by_cases e6 : a = 63
    · subst e6
      simp only [fiM, rU, if_true]
      by_cases g : 40 * s ≤ j ∧ j < 40 * s + k
      · rw [if_pos g, if_pos (by omega)]
      · rw [if_neg g, if_neg (by omega)]
    · rw [fiM_row e6, fiM_row e6]
theorem fiM_0 {J : Mi} {s : Nat} {f : Nat → Int32} : fiM J s f 0 = J := by
  funext a j
  by_cases e6 : a = 63
  · subst e6
    simp only [fiM, rU, if_true]
    rw [if_neg (by omega)]
  · rw [fiM_row e6]
theorem l_X6_film {E : Ev} {d : Nat} {I : Mi} {Z : Mz} {Q : Po} {W : Nat → (Nat → Int32) → Int32} {ru n m : Nat} {s p : Nat} {f : Nat → Int32} (hd : 45 ≤ d) (hM : MZ Z) (hR : RDM I W ru n m) (hs : s < 4) (hp : p < m) (hf : ∀ c, c < n → rbM I W p c = f c) : ∀ (k j : Nat) (M : Mi) (L : Ml), j + k = n → SaM (fiM I s f j) M → (∀ (J : Mi) (K : Ml), SaM (fiM I s f n) J → Q (some (.int (nI n))) J K Z) → AW E yX6_film cX6_film 4 (some .int) (rmOf d 0 0) Q 0 0 31 [some (.ref 48), some (.int (nI s)), some (.int (nI p)), some (.int (nI j))] [] M L Z := by
  intro k
  induction k with
  | zero =>
    intro j M L hj sM hQ
    have hn6 := hR.2.1.2
    have e10 : M 48 10 = nI n := by rw [sM _ _ (by omega), fiM_row (by omega)]; exact hR.2.1.1
    refine aw_iload_n dX6_film_31 rfl ?_
    refine aw_aload_n dX6_film_32 rfl rfl ?_
    refine aw_gi dX6_film_33 fw_X6_77 hM.1 ?_
    refine aw_icmp_ge (tgt := 62) dX6_film_36 (by decide) (fun c36 => ?_) (fun zz => absurd (by rw [e10, show j = n by omega]; exact Int32.le_refl _) zz)
    refine aw_aload_n dX6_film_62 rfl rfl ?_
    refine aw_gi dX6_film_63 fw_X6_77 hM.1 ?_
    refine aw_ireturn (ty := .int) dX6_film_66 rfl rfl ?_
    rw [e10]
    rw [show j = n by omega] at sM
    exact hQ _ _ sM
  | succ k ih =>
    intro j M L hj sM hQ
    have hn6 := hR.2.1.2
    have e10 : M 48 10 = nI n := by rw [sM _ _ (by omega), fiM_row (by omega)]; exact hR.2.1.1
    have hR1 : RDM (fiM I s f j) W ru n m := by
      refine hR.eqv ?_ ?_ ?_ ?_ ?_ ?_ ?_ ?_
      all_goals first | (rw [fiM_row (by omega)]) | exact hR.2.2.2.2.2
      exact hR.2.2.2.2.2
    have erb : rbM (fiM I s f j) W p j = rbM I W p j := by
      simp only [rbM, rlM, fiM_row (J := I) (s := s) (k := j) (f := f) (show (48 : Nat) ≠ 63 by decide), fiM_row (J := I) (s := s) (k := j) (f := f) (show (52 : Nat) ≠ 63 by decide), fiM_row (J := I) (s := s) (k := j) (f := f) (show (54 : Nat) ≠ 63 by decide), fiM_row (J := I) (s := s) (k := j) (f := f) (show (55 : Nat) ≠ 63 by decide)]
    refine aw_iload_n dX6_film_31 rfl ?_
    refine aw_aload_n dX6_film_32 rfl rfl ?_
    refine aw_gi dX6_film_33 fw_X6_77 hM.1 ?_
    refine aw_icmp_ge (tgt := 62) dX6_film_36 (by decide) (fun zz => absurd zz (by rw [e10]; exact nI_ge (by omega) (by omega))) (fun c36 => ?_)
    refine aw_aload_n dX6_film_39 rfl rfl ?_
    refine aw_gr dX6_film_40 fw_X6_60 hM.1 hM.2.2.2.2.2.2.2.2.2.2.2.2.2.2.2.2.2.2.2.2.2.2.2.2.2.2.2.2.2.1 ?_
    refine aw_bipush (v := 40) dX6_film_43 (by decide) ?_
    refine aw_iload_n dX6_film_45 rfl ?_
    refine aw_imul dX6_film_46 ?_
    refine aw_iload_n dX6_film_47 rfl ?_
    refine aw_iadd dX6_film_48 ?_
    refine aw_aload_n dX6_film_49 rfl rfl ?_
    refine aw_iload_n dX6_film_50 rfl ?_
    refine aw_iload_n dX6_film_51 rfl ?_
    refine aw_V2 dX6_film_52 cw_X6_368 ⟨_, _, rfl⟩ hM.1 (by omega) ⟨Nat.le_refl _, Nat.le_refl _⟩ (by simp [Value.category, psh]) (c_X6_readBy (by omega) hM (hR1.sam sM) hp (show j < n by omega) (fun r1 I1 L1 s1 e1 => ?_))
    rw [rbM_sam sM, erb, hf j (by omega)] at e1
    subst e1
    refine aw_is (40 * s + j) dX6_film_55 hM.2.2.2.2.2.2.2.2.2.2.2.2.2.2.2.2.2.2.2.2.2.2.2.2.2.2.2.2.2.2 (by show nI 40 * nI s + nI j = _; rw [pk_mul, nI_add]) (by omega) (by decide) ?_
    refine aw_iinc (v := nI (j + 1)) (ls' := [_, _, _, _]) dX6_film_56 rfl (nI_1 j) (by decide) rfl rfl ?_
    refine aw_goto (tgt := 31) dX6_film_59 (by decide) ?_
    exact ih (j + 1) _ _ (by omega) (fiM_s (sM.tr s1)) hQ
theorem c_X6_film {E : Ev} {d : Nat} {I : Mi} {L : Ml} {Z : Mz} {Q : Po} {x : Int32} {z : Int32} {W : Nat → (Nat → Int32) → Int32} {ru n m : Nat} (hd : 45 ≤ d) (hM : MZ Z) (hR : RDM I W ru n m) (hB : ¬ ((¬ x < 0 ∧ ¬ 3 < x) ∧ (∃ j, j < m ∧ z = nI j)) → Q (some (.int (-2))) I L Z) (hS : ∀ s p, s < 4 → p < m → x = nI s → z = nI p → ∀ (J : Mi) (K : Ml), SaM (fiM (zrM (smM I s 1 1 (nI n)) s n) s (rbM I W p) n) J → Q (some (.int (nI n))) J K Z) : AC E yX6_film cX6_film 4 (some .int) d 0 0 [.ref 48, .int x, .int z] I L Z Q := by
  refine ac_go (ls := [some (.ref 48), some (.int x), some (.int z), none]) (by decide +kernel) (Nat.le_of_ble_eq_true rfl) rfl ?_
  have hn6 := hR.2.1.2
  refine aw_iload_n dX6_film_0 rfl ?_
  refine aw_S1 dX6_film_1 cw_X6_415 (by omega) ⟨Nat.le_refl _, Nat.le_refl _⟩ (by decide) (c_X6_isSheet (by omega) (fun c1 => ?_) (fun c1 => ?_))
  · refine aw_if_eq (tgt := 15) dX6_film_4 (by decide) (fun zz => absurd zz (by decide)) (fun _ => ?_)
    refine aw_aload_n dX6_film_7 rfl rfl ?_
    refine aw_iload_n dX6_film_8 rfl ?_
    refine aw_V1 dX6_film_9 cw_X6_86 ⟨_, _, rfl⟩ hM.1 (by omega) ⟨Nat.le_refl _, Nat.le_refl _⟩ (by decide) (c_X6_isOne (by omega) hM hR.2.2.1.1 hR.2.2.1.2 (fun c9 => ?_) (fun c9 => ?_))
    · refine aw_if_ne (tgt := 18) dX6_film_12 (by decide) (fun _ => ?_) (fun zz => absurd zz (by decide))
      obtain ⟨s, hs, rfl⟩ := sh4 c1
      obtain ⟨p, hp, rfl⟩ := c9
      refine aw_aload_n dX6_film_18 rfl rfl ?_
      refine aw_iload_n dX6_film_19 rfl ?_
      refine aw_iconst (v := 1) dX6_film_20 (by decide) ?_
      refine aw_aload_n dX6_film_21 rfl rfl ?_
      refine aw_gi dX6_film_22 fw_X6_77 hM.1 ?_
      rw [hR.2.1.1]
      refine aw_V3 dX6_film_25 cw_X6_423 ⟨_, _, rfl⟩ hM.1 (by omega) ⟨Nat.le_refl _, Nat.le_refl _⟩ (by decide) (c_X6_sheet (by omega) hM (fun w => absurd ⟨c1, by decide⟩ w) (fun _ _ _ _ w => absurd w (by decide)) (fun _ _ _ w => absurd ((nI_leI (b := 40) (by omega) (by decide)).mpr (by omega)) w) (fun _ _ _ _ w => absurd (nI_pos' (by omega)) w) (fun s1 n1 hs1 hn1 es1 en1 _ _ => ?_))
      obtain rfl : s = s1 := (nI_eq (by omega) (by omega)).mp es1
      obtain rfl : n = n1 := (nI_eq (by omega) (by omega)).mp en1
      refine aw_pop dX6_film_28 rfl ?_
      refine aw_iconst (v := 0) dX6_film_29 (by decide) ?_
      refine aw_istore_n (ls' := [_, _, _, _]) dX6_film_30 (by decide) rfl rfl ?_
      have hrow : ∀ a, a ≠ 60 → a ≠ 61 → a ≠ 62 → a ≠ 63 → zrM (smM I s 1 1 (nI n)) s n a = I a := by
        intro a h0 h1 h2 h3
        rw [zrM_row h3]
        funext j
        unfold smM
        rw [iU_at (by omega), iU_at (by omega), iU_at (by omega)]
      have hR1 : RDM (zrM (smM I s 1 1 (nI n)) s n) W ru n m := by
        refine hR.eqv ?_ ?_ ?_ ?_ ?_ ?_ ?_ ?_
        all_goals first | (rw [hrow _ (by decide) (by decide) (by decide) (by decide)]) | skip
        exact hR.2.2.2.2.2
      refine l_X6_film (f := rbM I W p) hd hM hR1 hs hp (fun c _ => ?_) n 0 _ _ (by omega) (by rw [fiM_0]; exact SaM.rf) (hS s p hs hp rfl rfl)
      simp only [rbM, rlM, hrow 48 (by decide) (by decide) (by decide) (by decide), hrow 52 (by decide) (by decide) (by decide) (by decide), hrow 54 (by decide) (by decide) (by decide) (by decide), hrow 55 (by decide) (by decide) (by decide) (by decide)]
    · refine aw_if_ne (tgt := 18) dX6_film_12 (by decide) (fun zz => absurd zz (by decide)) (fun _ => ?_)
      refine aw_bipush (v := -2) dX6_film_15 (by decide) ?_
      refine aw_ireturn (ty := .int) dX6_film_17 rfl rfl ?_
      exact hB (fun zz => c9 zz.2)
  · refine aw_if_eq (tgt := 15) dX6_film_4 (by decide) (fun _ => ?_) (fun zz => absurd zz (by decide))
    refine aw_bipush (v := -2) dX6_film_15 (by decide) ?_
    refine aw_ireturn (ty := .int) dX6_film_17 rfl rfl ?_
    exact hB (fun zz => c1 zz.1)
