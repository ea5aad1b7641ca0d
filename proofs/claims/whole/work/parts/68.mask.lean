/-! ===== the reference: sees, read, next, alike ===== -/
theorem SaM.iu {I J : Mi} {a k : Nat} {x : Int32} (s : SaM I J) : SaM (iU I a k x) (iU J a k x) := by
  intro b j h
  by_cases g : b = a ∧ j = k
  · obtain ⟨rfl, rfl⟩ := g; rw [iU_same, iU_same]
  · rw [iU_at g, iU_at g]; exact s b j h
def rsM (I : Mi) (r p c : Nat) (v : Int32) : Mi := iU (iU (iU (iU (iU I 53 (2 * r) v) 53 (2 * r + 1) (I 52 (2 * c + 1))) 48 12 (nI (r + 1))) 55 (2 * p + 1) (wiV 0 (I 55 (2 * p + 1) + (if v = 0 then 1 else 0)) 99)) 48 8 (I 48 8 + 1)
def SaB (r : Nat) (I J : Mi) : Prop := ∀ a j, ¬ (a = 48 ∧ 16 ≤ j ∧ j ≤ 31) → ¬ (a = 53 ∧ (j = 2 * r ∨ j = 2 * r + 1)) → J a j = I a j
theorem SaM.b {I J : Mi} {r : Nat} (s : SaM I J) : SaB r I J := fun a j h _ => s a j h
theorem SaB.rf {I : Mi} {r : Nat} : SaB r I I := fun _ _ _ _ => rfl
theorem SaB.tr {I J K : Mi} {r : Nat} (s : SaB r I J) (t : SaB r J K) : SaB r I K := fun a j h g => (t a j h g).trans (s a j h g)
theorem SaB.row {I J : Mi} {r a : Nat} (s : SaB r I J) (h : a ≠ 48) (g : a ≠ 53) : J a = I a := by
  funext j
  exact s a j (by omega) (by omega)
theorem RDM.eqv {I J : Mi} {W : Nat → (Nat → Int32) → Int32} {ru n m : Nat} (h : RDM I W ru n m) (e4 : J 48 4 = I 48 4) (e49 : J 49 = I 49) (e50 : J 50 = I 50) (e10 : J 48 10 = I 48 10) (e15 : J 48 15 = I 48 15) (e52 : J 52 = I 52) (e54 : J 54 = I 54) (e8 : ∃ H, H ≤ 2000 ∧ J 48 8 = nI H) : RDM J W ru n m := by
  obtain ⟨⟨a1, a2, a3⟩, ⟨b1, b2⟩, ⟨c1, c2⟩, d, e, -⟩ := h
  exact ⟨⟨e4.trans a1, a2, a3.eqv e49 e50⟩, ⟨e10.trans b1, b2⟩, ⟨e15.trans c1, c2⟩, by rw [e52]; exact d, by rw [e54]; exact e, e8⟩
theorem RDM.sab {I J : Mi} {W : Nat → (Nat → Int32) → Int32} {ru n m r : Nat} (h : RDM I W ru n m) (s : SaB r I J) : RDM J W ru n m := by
  refine h.eqv (s _ _ (by omega) (by omega)) (s.row (by omega) (by omega)) (s.row (by omega) (by omega)) (s _ _ (by omega) (by omega)) (s _ _ (by omega) (by omega)) (s.row (by omega) (by omega)) (s.row (by omega) (by omega)) ?_
  obtain ⟨H, h1, h2⟩ := h.2.2.2.2.2
  exact ⟨H, h1, by rw [s _ _ (by omega) (by omega)]; exact h2⟩
theorem rbM_sab {I J : Mi} {W : Nat → (Nat → Int32) → Int32} {r p c : Nat} (s : SaB r I J) : rbM J W p c = rbM I W p c := by
  simp only [rbM, rlM, s.row (a := 52) (by omega) (by omega), s.row (a := 54) (by omega) (by omega), s.row (a := 55) (by omega) (by omega), s 48 8 (by omega) (by omega)]
theorem RSM.sab {I J : Mi} {r : Nat} {s b : Nat → Int32} (h : RSM I r s b) (t : SaB r I J) : RSM J r s b := by
  refine ⟨by rw [t _ _ (by omega) (by omega)]; exact h.1, h.2.1, fun i hi => ?_⟩
  rw [t _ _ (by omega) (by omega), t _ _ (by omega) (by omega)]
  exact h.2.2 i hi
theorem RSM.sam {I J : Mi} {r : Nat} {s b : Nat → Int32} (h : RSM I r s b) (t : SaM I J) : RSM J r s b := by
  refine ⟨by rw [t _ _ (by omega)]; exact h.1, h.2.1, fun i hi => ?_⟩
  rw [t _ _ (by omega), t _ _ (by omega)]
  exact h.2.2 i hi
theorem RSM.add {I : Mi} {r : Nat} {s b : Nat → Int32} {x z : Int32} (h : RSM I r s b) (hr : r < 12) : RSM (iU (iU (iU I 53 (2 * r) x) 53 (2 * r + 1) z) 48 12 (nI (r + 1))) (r + 1) (fun k => if k = r then x else s k) (fun k => if k = r then z else b k) := by
  refine ⟨iU_same, by omega, fun i hi => ?_⟩
  by_cases e : i = r
  · subst e
    simp only [if_true]
    rw [iU_at (by omega), iU_at (by omega), iU_same, iU_at (by omega), iU_same]
    exact ⟨rfl, rfl⟩
  · simp only [if_neg e]
    rw [iU_at (by omega), iU_at (by omega), iU_at (by omega), iU_at (by omega), iU_at (by omega), iU_at (by omega)]
    exact h.2.2 i (by omega)
def ncF (f : Nat → Int32) : Nat → Nat → Int32 → Int32 → Int32 × Int32
  | 0, _, fo, mo => (fo, mo)
  | n + 1, j, fo, mo => if fo = -1 ∨ ¬ f j ≤ mo then ncF f n (j + 1) (nI j) (f j) else ncF f n (j + 1) fo mo
theorem shl0 : ∀ j, j < 6 → (0 : Int32) <<< (nI j &&& 31) = 0 := by decide +kernel
theorem c_X6_told7 {E : Ev} {d : Nat} {I : Mi} {L : Ml} {Z : Mz} {Q : Po} {x : Int32} {W : Nat → (Nat → Int32) → Int32} {ru n m : Nat} (hd : 44 ≤ d) (hM : MZ Z) (hR : RDM I W ru n m) (hB : (¬ ∃ j, j < m ∧ x = nI j) → Q (some (.int (-2))) I L Z) (hS : ∀ j, j < m → x = nI j → ∀ rv : Int32, (sdM I W j → rv = 1) → (¬ sdM I W j → rv = 0) → ∀ (I9 : Mi) (L9 : Ml), SaM I I9 → Q (some (.int rv)) I9 L9 Z) : AC E yX6_told cX6_told 3 (some .int) d 0 0 [.ref 48, .int x, .int 7] I L Z Q := by
  refine ac_go (ls := [some (.ref 48), some (.int x), some (.int 7)]) (by decide +kernel) (Nat.le_of_ble_eq_true rfl) rfl ?_
  refine aw_iload_n dX6_told_0 rfl ?_
  refine aw_i2l dX6_told_1 ?_
  refine aw_lconst (v := 0) dX6_told_2 (by decide) ?_
  refine aw_ldc2 dX6_told_3 kw_X6_128 ?_
  refine aw_S3 dX6_told_6 cw_X6_73 (by omega) ⟨Nat.le_refl _, Nat.le_refl _⟩ (by decide) (c_X6_in (x := 7) (a := 0) (b := 9) rfl (by decide) (by decide) (fun c6 => ?_) (fun zz => absurd (by decide) zz))
  refine aw_if_eq (tgt := 21) dX6_told_9 (by decide) (fun zz => absurd zz (by decide)) (fun _ => ?_)
  refine aw_aload_n dX6_told_12 rfl rfl ?_
  refine aw_iload_n dX6_told_13 rfl ?_
  refine aw_iload_n dX6_told_14 rfl ?_
  refine aw_V2 dX6_told_15 cw_X6_94 ⟨_, _, rfl⟩ hM.1 (by omega) ⟨Nat.le_refl _, Nat.le_refl _⟩ (by decide) (c_X6_isOf7 (by omega) hM hR.2.2.1.1 hR.2.2.1.2 (fun c15 => ?_) (fun c15 => ?_))
  · refine aw_if_ne (tgt := 24) dX6_told_18 (by decide) (fun _ => ?_) (fun zz => absurd zz (by decide))
    obtain ⟨j, hj, rfl⟩ := c15
    refine aw_iload_n dX6_told_24 rfl ?_
    refine aw_iconst (v := 4) dX6_told_25 (by decide) ?_
    refine aw_icmp_ge (tgt := 65) dX6_told_26 (by decide) (fun _ => ?_) (fun zz => absurd zz (by decide))
    refine aw_iload_n dX6_told_65 rfl ?_
    refine aw_bipush (v := 7) dX6_told_66 (by decide) ?_
    refine aw_icmp_ge (tgt := 99) dX6_told_68 (by decide) (fun _ => ?_) (fun zz => absurd zz (by decide))
    refine aw_iload_n dX6_told_99 rfl ?_
    refine aw_bipush (v := 7) dX6_told_100 (by decide) ?_
    refine aw_icmp_ne (tgt := 121) dX6_told_102 (by decide) (fun zz => absurd zz (by decide)) (fun _ => ?_)
    refine aw_aload_n dX6_told_105 rfl rfl ?_
    refine aw_iload_n dX6_told_106 rfl ?_
    refine aw_V1 dX6_told_107 cw_X6_130 ⟨_, _, rfl⟩ hM.1 (by omega) ⟨Nat.le_refl _, Nat.le_refl _⟩ (by decide) (c_X6_isSteady (by omega) hM hR hj (fun e I9 L9 s9 => ?_) (fun e I9 L9 s9 => ?_))
    · refine aw_if_eq (tgt := 117) dX6_told_110 (by decide) (fun zz => absurd zz (by decide)) (fun _ => ?_)
      refine aw_iconst (v := 1) dX6_told_113 (by decide) ?_
      refine aw_goto (tgt := 134) dX6_told_114 (by decide) ?_
      refine aw_ireturn (ty := .int) dX6_told_134 rfl rfl ?_
      exact hS j hj rfl _ (fun _ => rfl) (fun w => absurd e w) _ _ s9
    · refine aw_if_eq (tgt := 117) dX6_told_110 (by decide) (fun _ => ?_) (fun zz => absurd zz (by decide))
      refine aw_iconst (v := 0) dX6_told_117 (by decide) ?_
      refine aw_goto (tgt := 134) dX6_told_118 (by decide) ?_
      refine aw_ireturn (ty := .int) dX6_told_134 rfl rfl ?_
      exact hS j hj rfl _ (fun w => absurd w e) (fun _ => rfl) _ _ s9
  · refine aw_if_ne (tgt := 24) dX6_told_18 (by decide) (fun zz => absurd zz (by decide)) (fun _ => ?_)
    refine aw_bipush (v := -2) dX6_told_21 (by decide) ?_
    refine aw_ireturn (ty := .int) dX6_told_23 rfl rfl ?_
    exact hB c15
theorem c_X6_sees0 {E : Ev} {d : Nat} {I : Mi} {L : Ml} {Z : Mz} {Q : Po} {x : Int32} {z : Int32} {W : Nat → (Nat → Int32) → Int32} {ru n m : Nat} (hd : 45 ≤ d) (hM : MZ Z) (hR : RDM I W ru n m) (hB : ¬ ((∃ j, j < m ∧ x = nI j) ∧ (∃ j, j < n ∧ z = nI j)) → Q (some (.int (-2))) I L Z) (hS : ∀ p c, p < m → c < n → x = nI p → z = nI c → ∀ (rv : Int32) (I9 : Mi) (L9 : Ml), SaM I I9 → rv = seV (I 54 p) (I 55 (2 * p)) (I 52 (2 * c)) (rlM I W 0 p c) → Q (some (.int rv)) I9 L9 Z) : AC E yX6_sees cX6_sees 4 (some .int) d 0 0 [.ref 48, .int x, .int z, .int 0] I L Z Q := by
  refine ac_go (ls := [some (.ref 48), some (.int x), some (.int z), some (.int 0)]) (by decide +kernel) (Nat.le_of_ble_eq_true rfl) rfl ?_
  refine aw_aload_n dX6_sees_0 rfl rfl ?_
  refine aw_iload_n dX6_sees_1 rfl ?_
  refine aw_V1 dX6_sees_2 cw_X6_86 ⟨_, _, rfl⟩ hM.1 (by omega) ⟨Nat.le_refl _, Nat.le_refl _⟩ (by decide) (c_X6_isOne (by omega) hM hR.2.2.1.1 hR.2.2.1.2 (fun c2 => ?_) (fun c2 => ?_))
  · refine aw_if_eq (tgt := 28) dX6_sees_5 (by decide) (fun zz => absurd zz (by decide)) (fun _ => ?_)
    refine aw_aload_n dX6_sees_8 rfl rfl ?_
    refine aw_iload_n dX6_sees_9 rfl ?_
    refine aw_V1 dX6_sees_10 cw_X6_82 ⟨_, _, rfl⟩ hM.1 (by omega) ⟨Nat.le_refl _, Nat.le_refl _⟩ (by decide) (c_X6_isCup (by omega) hM hR.2.1.1 hR.2.1.2 (fun c10 => ?_) (fun c10 => ?_))
    · refine aw_if_eq (tgt := 28) dX6_sees_13 (by decide) (fun zz => absurd zz (by decide)) (fun _ => ?_)
      refine aw_iload_n dX6_sees_16 rfl ?_
      refine aw_i2l dX6_sees_17 ?_
      refine aw_lconst (v := 0) dX6_sees_18 (by decide) ?_
      refine aw_ldc2 dX6_sees_19 kw_X6_366 ?_
      refine aw_S3 dX6_sees_22 cw_X6_73 (by omega) ⟨Nat.le_refl _, Nat.le_refl _⟩ (by decide) (c_X6_in (x := 0) (a := 0) (b := 2) rfl (by decide) (by decide) (fun c22 => ?_) (fun zz => absurd (by decide) zz))
      refine aw_if_ne (tgt := 31) dX6_sees_25 (by decide) (fun _ => ?_) (fun zz => absurd zz (by decide))
      obtain ⟨p, hp, rfl⟩ := c2
      obtain ⟨c, hc, rfl⟩ := c10
      refine aw_iload_n dX6_sees_31 rfl ?_
      refine aw_if_ne (tgt := 44) dX6_sees_32 (by decide) (fun zz => absurd zz (by decide)) (fun _ => ?_)
      refine aw_aload_n dX6_sees_35 rfl rfl ?_
      refine aw_iload_n dX6_sees_36 rfl ?_
      refine aw_iload_n dX6_sees_37 rfl ?_
      refine aw_V2 dX6_sees_38 cw_X6_360 ⟨_, _, rfl⟩ hM.1 (by omega) ⟨Nat.le_refl _, Nat.le_refl _⟩ (by decide) (c_X6_seenBy (by omega) hM hR hp hc (fun rv I9 L9 s9 e9 => ?_))
      refine aw_goto (tgt := 64) dX6_sees_41 (by decide) ?_
      refine aw_ireturn (ty := .int) dX6_sees_64 rfl rfl ?_
      exact hS p c hp hc rfl rfl _ _ _ s9 e9
    · refine aw_if_eq (tgt := 28) dX6_sees_13 (by decide) (fun _ => ?_) (fun zz => absurd zz (by decide))
      refine aw_bipush (v := -2) dX6_sees_28 (by decide) ?_
      refine aw_ireturn (ty := .int) dX6_sees_30 rfl rfl ?_
      exact hB (fun zz => c10 zz.2)
  · refine aw_if_eq (tgt := 28) dX6_sees_5 (by decide) (fun _ => ?_) (fun zz => absurd zz (by decide))
    refine aw_bipush (v := -2) dX6_sees_28 (by decide) ?_
    refine aw_ireturn (ty := .int) dX6_sees_30 rfl rfl ?_
    exact hB (fun zz => c2 zz.1)
theorem c_X6_sees1 {E : Ev} {d : Nat} {I : Mi} {L : Ml} {Z : Mz} {Q : Po} {x : Int32} {z : Int32} {W : Nat → (Nat → Int32) → Int32} {ru n m : Nat} (hd : 45 ≤ d) (hM : MZ Z) (hR : RDM I W ru n m) (hB : ¬ ((∃ j, j < m ∧ x = nI j) ∧ (∃ j, j < n ∧ z = nI j)) → Q (some (.int (-2))) I L Z) (hS : ∀ p c, p < m → c < n → x = nI p → z = nI c → ∀ (rv : Int32) (I9 : Mi) (L9 : Ml), SaM I I9 → rv = ovV (I 54 p) (I 55 (2 * p)) (I 48 8) (rlM I W 1 p c) → Q (some (.int rv)) I9 L9 Z) : AC E yX6_sees cX6_sees 4 (some .int) d 0 0 [.ref 48, .int x, .int z, .int 1] I L Z Q := by
  refine ac_go (ls := [some (.ref 48), some (.int x), some (.int z), some (.int 1)]) (by decide +kernel) (Nat.le_of_ble_eq_true rfl) rfl ?_
  refine aw_aload_n dX6_sees_0 rfl rfl ?_
  refine aw_iload_n dX6_sees_1 rfl ?_
  refine aw_V1 dX6_sees_2 cw_X6_86 ⟨_, _, rfl⟩ hM.1 (by omega) ⟨Nat.le_refl _, Nat.le_refl _⟩ (by decide) (c_X6_isOne (by omega) hM hR.2.2.1.1 hR.2.2.1.2 (fun c2 => ?_) (fun c2 => ?_))
  · refine aw_if_eq (tgt := 28) dX6_sees_5 (by decide) (fun zz => absurd zz (by decide)) (fun _ => ?_)
    refine aw_aload_n dX6_sees_8 rfl rfl ?_
    refine aw_iload_n dX6_sees_9 rfl ?_
    refine aw_V1 dX6_sees_10 cw_X6_82 ⟨_, _, rfl⟩ hM.1 (by omega) ⟨Nat.le_refl _, Nat.le_refl _⟩ (by decide) (c_X6_isCup (by omega) hM hR.2.1.1 hR.2.1.2 (fun c10 => ?_) (fun c10 => ?_))
    · refine aw_if_eq (tgt := 28) dX6_sees_13 (by decide) (fun zz => absurd zz (by decide)) (fun _ => ?_)
      refine aw_iload_n dX6_sees_16 rfl ?_
      refine aw_i2l dX6_sees_17 ?_
      refine aw_lconst (v := 0) dX6_sees_18 (by decide) ?_
      refine aw_ldc2 dX6_sees_19 kw_X6_366 ?_
      refine aw_S3 dX6_sees_22 cw_X6_73 (by omega) ⟨Nat.le_refl _, Nat.le_refl _⟩ (by decide) (c_X6_in (x := 1) (a := 0) (b := 2) rfl (by decide) (by decide) (fun c22 => ?_) (fun zz => absurd (by decide) zz))
      refine aw_if_ne (tgt := 31) dX6_sees_25 (by decide) (fun _ => ?_) (fun zz => absurd zz (by decide))
      obtain ⟨p, hp, rfl⟩ := c2
      obtain ⟨c, hc, rfl⟩ := c10
      refine aw_iload_n dX6_sees_31 rfl ?_
      refine aw_if_ne (tgt := 44) dX6_sees_32 (by decide) (fun _ => ?_) (fun zz => absurd zz (by decide))
      refine aw_iload_n dX6_sees_44 rfl ?_
      refine aw_iconst (v := 1) dX6_sees_45 (by decide) ?_
      refine aw_icmp_ne (tgt := 58) dX6_sees_46 (by decide) (fun zz => absurd zz (by decide)) (fun _ => ?_)
      refine aw_aload_n dX6_sees_49 rfl rfl ?_
      refine aw_iload_n dX6_sees_50 rfl ?_
      refine aw_iload_n dX6_sees_51 rfl ?_
      refine aw_V2 dX6_sees_52 cw_X6_363 ⟨_, _, rfl⟩ hM.1 (by omega) ⟨Nat.le_refl _, Nat.le_refl _⟩ (by decide) (c_X6_overlookedBy (by omega) hM hR hp hc (fun rv I9 L9 s9 e9 => ?_))
      refine aw_goto (tgt := 64) dX6_sees_55 (by decide) ?_
      refine aw_ireturn (ty := .int) dX6_sees_64 rfl rfl ?_
      exact hS p c hp hc rfl rfl _ _ _ s9 e9
    · refine aw_if_eq (tgt := 28) dX6_sees_13 (by decide) (fun _ => ?_) (fun zz => absurd zz (by decide))
      refine aw_bipush (v := -2) dX6_sees_28 (by decide) ?_
      refine aw_ireturn (ty := .int) dX6_sees_30 rfl rfl ?_
      exact hB (fun zz => c10 zz.2)
  · refine aw_if_eq (tgt := 28) dX6_sees_5 (by decide) (fun _ => ?_) (fun zz => absurd zz (by decide))
    refine aw_bipush (v := -2) dX6_sees_28 (by decide) ?_
    refine aw_ireturn (ty := .int) dX6_sees_30 rfl rfl ?_
    exact hB (fun zz => c2 zz.1)
theorem c_X6_sees2 {E : Ev} {d : Nat} {I : Mi} {L : Ml} {Z : Mz} {Q : Po} {x : Int32} {z : Int32} {W : Nat → (Nat → Int32) → Int32} {ru n m : Nat} (hd : 45 ≤ d) (hM : MZ Z) (hR : RDM I W ru n m) (hB : ¬ ((∃ j, j < m ∧ x = nI j) ∧ (∃ j, j < n ∧ z = nI j)) → Q (some (.int (-2))) I L Z) (hS : ∀ p c, p < m → c < n → x = nI p → z = nI c → ∀ (rv : Int32) (I9 : Mi) (L9 : Ml), SaM I I9 → rv = rbM I W p c → Q (some (.int rv)) I9 L9 Z) : AC E yX6_sees cX6_sees 4 (some .int) d 0 0 [.ref 48, .int x, .int z, .int 2] I L Z Q := by
  refine ac_go (ls := [some (.ref 48), some (.int x), some (.int z), some (.int 2)]) (by decide +kernel) (Nat.le_of_ble_eq_true rfl) rfl ?_
  refine aw_aload_n dX6_sees_0 rfl rfl ?_
  refine aw_iload_n dX6_sees_1 rfl ?_
  refine aw_V1 dX6_sees_2 cw_X6_86 ⟨_, _, rfl⟩ hM.1 (by omega) ⟨Nat.le_refl _, Nat.le_refl _⟩ (by decide) (c_X6_isOne (by omega) hM hR.2.2.1.1 hR.2.2.1.2 (fun c2 => ?_) (fun c2 => ?_))
  · refine aw_if_eq (tgt := 28) dX6_sees_5 (by decide) (fun zz => absurd zz (by decide)) (fun _ => ?_)
    refine aw_aload_n dX6_sees_8 rfl rfl ?_
    refine aw_iload_n dX6_sees_9 rfl ?_
    refine aw_V1 dX6_sees_10 cw_X6_82 ⟨_, _, rfl⟩ hM.1 (by omega) ⟨Nat.le_refl _, Nat.le_refl _⟩ (by decide) (c_X6_isCup (by omega) hM hR.2.1.1 hR.2.1.2 (fun c10 => ?_) (fun c10 => ?_))
    · refine aw_if_eq (tgt := 28) dX6_sees_13 (by decide) (fun zz => absurd zz (by decide)) (fun _ => ?_)
      refine aw_iload_n dX6_sees_16 rfl ?_
      refine aw_i2l dX6_sees_17 ?_
      refine aw_lconst (v := 0) dX6_sees_18 (by decide) ?_
      refine aw_ldc2 dX6_sees_19 kw_X6_366 ?_
      refine aw_S3 dX6_sees_22 cw_X6_73 (by omega) ⟨Nat.le_refl _, Nat.le_refl _⟩ (by decide) (c_X6_in (x := 2) (a := 0) (b := 2) rfl (by decide) (by decide) (fun c22 => ?_) (fun zz => absurd (by decide) zz))
      refine aw_if_ne (tgt := 31) dX6_sees_25 (by decide) (fun _ => ?_) (fun zz => absurd zz (by decide))
      obtain ⟨p, hp, rfl⟩ := c2
      obtain ⟨c, hc, rfl⟩ := c10
      refine aw_iload_n dX6_sees_31 rfl ?_
      refine aw_if_ne (tgt := 44) dX6_sees_32 (by decide) (fun _ => ?_) (fun zz => absurd zz (by decide))
      refine aw_iload_n dX6_sees_44 rfl ?_
      refine aw_iconst (v := 1) dX6_sees_45 (by decide) ?_
      refine aw_icmp_ne (tgt := 58) dX6_sees_46 (by decide) (fun _ => ?_) (fun zz => absurd zz (by decide))
      refine aw_aload_n dX6_sees_58 rfl rfl ?_
      refine aw_iload_n dX6_sees_59 rfl ?_
      refine aw_iload_n dX6_sees_60 rfl ?_
      refine aw_V2 dX6_sees_61 cw_X6_368 ⟨_, _, rfl⟩ hM.1 (by omega) ⟨Nat.le_refl _, Nat.le_refl _⟩ (by decide) (c_X6_readBy (by omega) hM hR hp hc (fun rv I9 L9 s9 e9 => ?_))
      refine aw_ireturn (ty := .int) dX6_sees_64 rfl rfl ?_
      exact hS p c hp hc rfl rfl _ _ _ s9 e9
    · refine aw_if_eq (tgt := 28) dX6_sees_13 (by decide) (fun _ => ?_) (fun zz => absurd zz (by decide))
      refine aw_bipush (v := -2) dX6_sees_28 (by decide) ?_
      refine aw_ireturn (ty := .int) dX6_sees_30 rfl rfl ?_
      exact hB (fun zz => c10 zz.2)
  · refine aw_if_eq (tgt := 28) dX6_sees_5 (by decide) (fun _ => ?_) (fun zz => absurd zz (by decide))
    refine aw_bipush (v := -2) dX6_sees_28 (by decide) ?_
    refine aw_ireturn (ty := .int) dX6_sees_30 rfl rfl ?_
    exact hB (fun zz => c2 zz.1)
theorem c_X6_seesX {E : Ev} {d : Nat} {I : Mi} {L : Ml} {Z : Mz} {Q : Po} {x : Int32} {z : Int32} {w : Int32} {W : Nat → (Nat → Int32) → Int32} {ru n m : Nat} (hd : 44 ≤ d) (hM : MZ Z) (hR : RDM I W ru n m) (hw : ¬ (¬ w < 0 ∧ ¬ 2 < w)) (hB : Q (some (.int (-2))) I L Z) : AC E yX6_sees cX6_sees 4 (some .int) d 0 0 [.ref 48, .int x, .int z, .int w] I L Z Q := by
  refine ac_go (ls := [some (.ref 48), some (.int x), some (.int z), some (.int w)]) (by decide +kernel) (Nat.le_of_ble_eq_true rfl) rfl ?_
  refine aw_aload_n dX6_sees_0 rfl rfl ?_
  refine aw_iload_n dX6_sees_1 rfl ?_
  refine aw_V1 dX6_sees_2 cw_X6_86 ⟨_, _, rfl⟩ hM.1 (by omega) ⟨Nat.le_refl _, Nat.le_refl _⟩ (by decide) (c_X6_isOne (by omega) hM hR.2.2.1.1 hR.2.2.1.2 (fun c2 => ?_) (fun c2 => ?_))
  · refine aw_if_eq (tgt := 28) dX6_sees_5 (by decide) (fun zz => absurd zz (by decide)) (fun _ => ?_)
    refine aw_aload_n dX6_sees_8 rfl rfl ?_
    refine aw_iload_n dX6_sees_9 rfl ?_
    refine aw_V1 dX6_sees_10 cw_X6_82 ⟨_, _, rfl⟩ hM.1 (by omega) ⟨Nat.le_refl _, Nat.le_refl _⟩ (by decide) (c_X6_isCup (by omega) hM hR.2.1.1 hR.2.1.2 (fun c10 => ?_) (fun c10 => ?_))
    · refine aw_if_eq (tgt := 28) dX6_sees_13 (by decide) (fun zz => absurd zz (by decide)) (fun _ => ?_)
      refine aw_iload_n dX6_sees_16 rfl ?_
      refine aw_i2l dX6_sees_17 ?_
      refine aw_lconst (v := 0) dX6_sees_18 (by decide) ?_
      refine aw_ldc2 dX6_sees_19 kw_X6_366 ?_
      refine aw_S3 dX6_sees_22 cw_X6_73 (by omega) ⟨Nat.le_refl _, Nat.le_refl _⟩ (by decide) (c_X6_in (x := w) (a := 0) (b := 2) rfl (by decide) (by decide) (fun zz => absurd zz hw) (fun c22 => ?_))
      refine aw_if_ne (tgt := 31) dX6_sees_25 (by decide) (fun zz => absurd zz (by decide)) (fun _ => ?_)
      refine aw_bipush (v := -2) dX6_sees_28 (by decide) ?_
      refine aw_ireturn (ty := .int) dX6_sees_30 rfl rfl ?_
      exact hB
    · refine aw_if_eq (tgt := 28) dX6_sees_13 (by decide) (fun _ => ?_) (fun zz => absurd zz (by decide))
      refine aw_bipush (v := -2) dX6_sees_28 (by decide) ?_
      refine aw_ireturn (ty := .int) dX6_sees_30 rfl rfl ?_
      exact hB
  · refine aw_if_eq (tgt := 28) dX6_sees_5 (by decide) (fun _ => ?_) (fun zz => absurd zz (by decide))
    refine aw_bipush (v := -2) dX6_sees_28 (by decide) ?_
    refine aw_ireturn (ty := .int) dX6_sees_30 rfl rfl ?_
    exact hB
theorem c_X6_readsOut {E : Ev} {d : Nat} {I : Mi} {L : Ml} {Z : Mz} {Q : Po}  {W : Nat → (Nat → Int32) → Int32} {ru n m : Nat} {p c r : Nat} (hd : 45 ≤ d) (hM : MZ Z) (hR : RDM I W ru n m) (hp : p < m) (hc : c < n) (hrn : I 48 12 = nI r) (hr : r ≤ 12) (hQ : ∀ (rv : Int32) (I9 : Mi) (L9 : Ml), rv = rbM I W p c → SaM (rsM I r p c rv) I9 → Q (some (.int rv)) I9 L9 Z) : AC E yX6_readsOut cX6_readsOut 4 (some .int) d 0 0 [.ref 48, .int (nI p), .int (nI c)] I L Z Q := by
  refine ac_go (ls := [some (.ref 48), some (.int (nI p)), some (.int (nI c)), none]) (by decide +kernel) (Nat.le_of_ble_eq_true rfl) rfl ?_
  have hn6 := hR.2.1.2
  have hm5 := hR.2.2.1.2
  refine aw_aload_n dX6_readsOut_0 rfl rfl ?_
  refine aw_iload_n dX6_readsOut_1 rfl ?_
  refine aw_iload_n dX6_readsOut_2 rfl ?_
  refine aw_V2 dX6_readsOut_3 cw_X6_368 ⟨_, _, rfl⟩ hM.1 (by omega) ⟨Nat.le_refl _, Nat.le_refl _⟩ (by decide) (c_X6_readBy (by omega) hM hR hp hc (fun r1 I1 L1 s1 e1 => ?_))
  refine aw_istore_n (ls' := [_, _, _, _]) dX6_readsOut_6 (by decide) rfl rfl ?_
  refine aw_aload_n dX6_readsOut_7 rfl rfl ?_
  refine aw_iload_n dX6_readsOut_8 rfl ?_
  refine aw_aload_n dX6_readsOut_9 rfl rfl ?_
  refine aw_gr dX6_readsOut_10 fw_X6_23 hM.1 hM.2.2.2.2.2.2.2.1 ?_
  refine aw_iconst (v := 2) dX6_readsOut_13 (by decide) ?_
  refine aw_iload_n dX6_readsOut_14 rfl ?_
  refine aw_imul dX6_readsOut_15 ?_
  refine aw_iconst (v := 1) dX6_readsOut_16 (by decide) ?_
  refine aw_iadd dX6_readsOut_17 ?_
  refine aw_ia (2 * c + 1) dX6_readsOut_18 hM.2.2.2.2.2.2.2.2.1 (ix1 c) (by omega) (by decide) ?_
  rw [s1.row (a := 52) (by omega)]
  refine aw_V2 dX6_readsOut_19 cw_X6_124 ⟨_, _, rfl⟩ hM.1 (by omega) ⟨Nat.le_refl _, Nat.le_refl _⟩ (by decide) (c_X6_bears (n := r) hM (by rw [s1 _ _ (by omega)]; exact hrn) hr ?_)
  refine aw_aload_n dX6_readsOut_22 rfl rfl ?_
  refine aw_gr dX6_readsOut_23 fw_X6_32 hM.1 hM.2.2.2.2.2.2.2.2.2.2.2.2.2.1 ?_
  refine aw_iconst (v := 2) dX6_readsOut_26 (by decide) ?_
  refine aw_iload_n dX6_readsOut_27 rfl ?_
  refine aw_imul dX6_readsOut_28 ?_
  refine aw_iconst (v := 1) dX6_readsOut_29 (by decide) ?_
  refine aw_iadd dX6_readsOut_30 ?_
  refine aw_aload_n dX6_readsOut_31 rfl rfl ?_
  refine aw_gr dX6_readsOut_32 fw_X6_32 hM.1 hM.2.2.2.2.2.2.2.2.2.2.2.2.2.1 ?_
  refine aw_iconst (v := 2) dX6_readsOut_35 (by decide) ?_
  refine aw_iload_n dX6_readsOut_36 rfl ?_
  refine aw_imul dX6_readsOut_37 ?_
  refine aw_iconst (v := 1) dX6_readsOut_38 (by decide) ?_
  refine aw_iadd dX6_readsOut_39 ?_
  refine aw_ia (2 * p + 1) dX6_readsOut_40 hM.2.2.2.2.2.2.2.2.2.2.2.2.2.2.1 (ix1 p) (by omega) (by decide) ?_
  rw [show iU (iU (iU I1 53 (2 * r) r1) 53 (2 * r + 1) (I 52 (2 * c + 1))) 48 12 (nI (r + 1)) 55 (2 * p + 1) = I 55 (2 * p + 1) by rw [iU_at (by omega), iU_at (by omega), iU_at (by omega), s1.row (a := 55) (by omega)]]
  refine aw_iload_n dX6_readsOut_41 rfl ?_
  refine aw_if_ne (tgt := 49) dX6_readsOut_42 (by decide) (fun c42 => ?_) (fun c42 => ?_)
  · refine aw_iconst (v := 0) dX6_readsOut_49 (by decide) ?_
    refine aw_iadd dX6_readsOut_50 ?_
    refine aw_iconst (v := 0) dX6_readsOut_51 (by decide) ?_
    refine aw_bipush (v := 99) dX6_readsOut_52 (by decide) ?_
    refine aw_S3 dX6_readsOut_54 cw_X6_344 (by omega) ⟨Nat.le_refl _, Nat.le_refl _⟩ (by simp [Value.category, psh]) (c_X6_within (fun r54 e54 => ?_))
    refine aw_is (2 * p + 1) dX6_readsOut_57 hM.2.2.2.2.2.2.2.2.2.2.2.2.2.2.1 (ix1 p) (by omega) (by decide) ?_
    refine aw_aload_n dX6_readsOut_58 rfl rfl ?_
    refine aw_dup dX6_readsOut_59 rfl ?_
    refine aw_gi dX6_readsOut_60 fw_X6_113 hM.1 ?_
    refine aw_iconst (v := 1) dX6_readsOut_63 (by decide) ?_
    refine aw_iadd dX6_readsOut_64 ?_
    refine aw_pi dX6_readsOut_65 fw_X6_113 (ww_X6_113 _) hM.1 rfl ?_
    refine aw_iload_n dX6_readsOut_68 rfl ?_
    refine aw_ireturn (ty := .int) dX6_readsOut_69 rfl rfl ?_
    refine hQ _ _ _ e1 ?_
    have e48 : iU (iU (iU (iU I1 53 (2 * r) r1) 53 (2 * r + 1) (I 52 (2 * c + 1))) 48 12 (nI (r + 1))) 55 (2 * p + 1) r54 48 8 = I 48 8 := by rw [iU_at (by omega), iU_at (by omega), iU_at (by omega), iU_at (by omega), s1 _ _ (by omega)]
    rw [e48]
    unfold rsM
    rw [show wiV 0 (I 55 (2 * p + 1) + (if r1 = 0 then 1 else 0)) 99 = r54 by first | rw [if_pos c42, e54]; rfl | rw [if_neg c42, e54]; rfl]
    exact s1.iu.iu.iu.iu.iu
  · refine aw_iconst (v := 1) dX6_readsOut_45 (by decide) ?_
    refine aw_goto (tgt := 50) dX6_readsOut_46 (by decide) ?_
    refine aw_iadd dX6_readsOut_50 ?_
    refine aw_iconst (v := 0) dX6_readsOut_51 (by decide) ?_
    refine aw_bipush (v := 99) dX6_readsOut_52 (by decide) ?_
    refine aw_S3 dX6_readsOut_54 cw_X6_344 (by omega) ⟨Nat.le_refl _, Nat.le_refl _⟩ (by simp [Value.category, psh]) (c_X6_within (fun r54 e54 => ?_))
    refine aw_is (2 * p + 1) dX6_readsOut_57 hM.2.2.2.2.2.2.2.2.2.2.2.2.2.2.1 (ix1 p) (by omega) (by decide) ?_
    refine aw_aload_n dX6_readsOut_58 rfl rfl ?_
    refine aw_dup dX6_readsOut_59 rfl ?_
    refine aw_gi dX6_readsOut_60 fw_X6_113 hM.1 ?_
    refine aw_iconst (v := 1) dX6_readsOut_63 (by decide) ?_
    refine aw_iadd dX6_readsOut_64 ?_
    refine aw_pi dX6_readsOut_65 fw_X6_113 (ww_X6_113 _) hM.1 rfl ?_
    refine aw_iload_n dX6_readsOut_68 rfl ?_
    refine aw_ireturn (ty := .int) dX6_readsOut_69 rfl rfl ?_
    refine hQ _ _ _ e1 ?_
    have e48 : iU (iU (iU (iU I1 53 (2 * r) r1) 53 (2 * r + 1) (I 52 (2 * c + 1))) 48 12 (nI (r + 1))) 55 (2 * p + 1) r54 48 8 = I 48 8 := by rw [iU_at (by omega), iU_at (by omega), iU_at (by omega), iU_at (by omega), s1 _ _ (by omega)]
    rw [e48]
    unfold rsM
    rw [show wiV 0 (I 55 (2 * p + 1) + (if r1 = 0 then 1 else 0)) 99 = r54 by first | rw [if_pos c42, e54]; rfl | rw [if_neg c42, e54]; rfl]
    exact s1.iu.iu.iu.iu.iu
theorem c_X6_read {E : Ev} {d : Nat} {I : Mi} {L : Ml} {Z : Mz} {Q : Po} {x : Int32} {z : Int32} {W : Nat → (Nat → Int32) → Int32} {ru n m : Nat} {r : Nat} (hd : 46 ≤ d) (hM : MZ Z) (hR : RDM I W ru n m) (hrn : I 48 12 = nI r) (hr : r ≤ 12) (hB : ¬ ((∃ j, j < m ∧ x = nI j) ∧ (∃ j, j < n ∧ z = nI j)) → Q (some (.int (-2))) I L Z) (hSt : ∀ p c, p < m → c < n → x = nI p → z = nI c → ∀ (I9 : Mi) (L9 : Ml), SaM I I9 → (¬ sdM I W p ∨ I 48 8 = 999) → Q (some (.int (-3))) I9 L9 Z) (hFl : ∀ p c, p < m → c < n → x = nI p → z = nI c → ∀ (I9 : Mi) (L9 : Ml), SaM I I9 → sdM I W p → ¬ I 48 8 = 999 → r = 12 → Q (some (.int (-4))) I9 L9 Z) (hA : ∀ p c, p < m → c < n → x = nI p → z = nI c → sdM I W p → ¬ I 48 8 = 999 → r < 12 → ∀ (rv : Int32) (I9 : Mi) (L9 : Ml), rv = rbM I W p c → SaM (rsM I r p c rv) I9 → Q (some (.int rv)) I9 L9 Z) : AC E yX6_read cX6_read 3 (some .int) d 0 0 [.ref 48, .int x, .int z] I L Z Q := by
  refine ac_go (ls := [some (.ref 48), some (.int x), some (.int z)]) (by decide +kernel) (Nat.le_of_ble_eq_true rfl) rfl ?_
  refine aw_aload_n dX6_read_0 rfl rfl ?_
  refine aw_iload_n dX6_read_1 rfl ?_
  refine aw_V1 dX6_read_2 cw_X6_86 ⟨_, _, rfl⟩ hM.1 (by omega) ⟨Nat.le_refl _, Nat.le_refl _⟩ (by decide) (c_X6_isOne (by omega) hM hR.2.2.1.1 hR.2.2.1.2 (fun c2 => ?_) (fun c2 => ?_))
  · refine aw_if_eq (tgt := 16) dX6_read_5 (by decide) (fun zz => absurd zz (by decide)) (fun _ => ?_)
    refine aw_aload_n dX6_read_8 rfl rfl ?_
    refine aw_iload_n dX6_read_9 rfl ?_
    refine aw_V1 dX6_read_10 cw_X6_82 ⟨_, _, rfl⟩ hM.1 (by omega) ⟨Nat.le_refl _, Nat.le_refl _⟩ (by decide) (c_X6_isCup (by omega) hM hR.2.1.1 hR.2.1.2 (fun c10 => ?_) (fun c10 => ?_))
    · refine aw_if_ne (tgt := 19) dX6_read_13 (by decide) (fun _ => ?_) (fun zz => absurd zz (by decide))
      obtain ⟨p, hp, rfl⟩ := c2
      obtain ⟨c, hc, rfl⟩ := c10
      refine aw_aload_n dX6_read_19 rfl rfl ?_
      refine aw_iload_n dX6_read_20 rfl ?_
      refine aw_V1 dX6_read_21 cw_X6_130 ⟨_, _, rfl⟩ hM.1 (by omega) ⟨Nat.le_refl _, Nat.le_refl _⟩ (by decide) (c_X6_isSteady (by omega) hM hR hp (fun e I9 L9 s9 => ?_) (fun e I9 L9 s9 => ?_))
      · refine aw_if_eq (tgt := 37) dX6_read_24 (by decide) (fun zz => absurd zz (by decide)) (fun _ => ?_)
        refine aw_aload_n dX6_read_27 rfl rfl ?_
        refine aw_gi dX6_read_28 fw_X6_113 hM.1 ?_
        refine aw_sipush (v := 999) dX6_read_31 (by decide) ?_
        refine aw_icmp_ne (tgt := 40) dX6_read_34 (by decide) (fun c34 => ?_) (fun c34 => ?_)
        · refine aw_aload_n dX6_read_40 rfl rfl ?_
          refine aw_gi dX6_read_41 fw_X6_89 hM.1 ?_
          refine aw_bipush (v := 12) dX6_read_44 (by decide) ?_
          have hq12 : I9 48 12 = 12 ↔ r = 12 := by rw [s9 _ _ (by omega), hrn]; exact nI_eq (b := 12) (by omega) (by decide)
          refine aw_icmp_ne (tgt := 54) dX6_read_46 (by decide) (fun c46 => ?_) (fun c46 => ?_)
          · refine aw_aload_n dX6_read_54 rfl rfl ?_
            refine aw_iload_n dX6_read_55 rfl ?_
            refine aw_iload_n dX6_read_56 rfl ?_
            refine aw_V2 dX6_read_57 cw_X6_371 ⟨_, _, rfl⟩ hM.1 (by omega) ⟨Nat.le_refl _, Nat.le_refl _⟩ (by decide) (c_X6_readsOut (r := r) (by omega) hM (hR.sam s9) hp hc (by rw [s9 _ _ (by omega)]; exact hrn) hr (fun rv J9 K9 e9 t9 => ?_))
            refine aw_ireturn (ty := .int) dX6_read_60 rfl rfl ?_
            refine hA p c hp hc rfl rfl e (fun w => c34 (by rw [s9 48 8 (by omega)]; exact w)) (ne_le hr (fun w => c46 (hq12.mpr w))) _ _ _ (by rw [e9, rbM_sam s9]) ?_
            refine SaM.tr ?_ t9
            unfold rsM
            rw [s9.row (a := 52) (by omega), s9.row (a := 55) (by omega), s9 48 8 (by omega)]
            exact s9.iu.iu.iu.iu.iu
          · refine aw_bipush (v := -4) dX6_read_49 (by decide) ?_
            refine aw_goto (tgt := 60) dX6_read_51 (by decide) ?_
            refine aw_ireturn (ty := .int) dX6_read_60 rfl rfl ?_
            exact hFl p c hp hc rfl rfl _ _ s9 e (fun w => c34 (by rw [s9 48 8 (by omega)]; exact w)) (hq12.mp c46)
        · refine aw_bipush (v := -3) dX6_read_37 (by decide) ?_
          refine aw_ireturn (ty := .int) dX6_read_39 rfl rfl ?_
          exact hSt p c hp hc rfl rfl _ _ s9 (Or.inr (by rw [← s9 48 8 (by omega)]; exact c34))
      · refine aw_if_eq (tgt := 37) dX6_read_24 (by decide) (fun _ => ?_) (fun zz => absurd zz (by decide))
        refine aw_bipush (v := -3) dX6_read_37 (by decide) ?_
        refine aw_ireturn (ty := .int) dX6_read_39 rfl rfl ?_
        exact hSt p c hp hc rfl rfl _ _ s9 (Or.inl e)
    · refine aw_if_ne (tgt := 19) dX6_read_13 (by decide) (fun zz => absurd zz (by decide)) (fun _ => ?_)
      refine aw_bipush (v := -2) dX6_read_16 (by decide) ?_
      refine aw_ireturn (ty := .int) dX6_read_18 rfl rfl ?_
      exact hB (fun zz => c10 zz.2)
  · refine aw_if_eq (tgt := 16) dX6_read_5 (by decide) (fun _ => ?_) (fun zz => absurd zz (by decide))
    refine aw_bipush (v := -2) dX6_read_16 (by decide) ?_
    refine aw_ireturn (ty := .int) dX6_read_18 rfl rfl ?_
    exact hB (fun zz => c2 zz.1)
theorem l_X6_nextCup0 {E : Ev} {d : Nat} {I : Mi} {Z : Mz} {Q : Po} {W : Nat → (Nat → Int32) → Int32} {ru n m : Nat} {r : Nat} {s b : Nat → Int32} {sd : Int32} {p N : Nat} (hd : 46 ≤ d) (hM : MZ Z) (hR : RDM I W ru n m) (hRS : RSM I r s b) (hb : ∀ i, i < r → Bo (b i)) (hto : ∀ c, c < n → Bo (I 52 (2 * c + 1))) (hsd : I 48 7 = sd) (hs2 : S12 sd) (hp : p < m) (hN : N ≤ n) (hr12 : 0 < N → r < 12) : ∀ (k j : Nat) (f mo : Int32) (o7 : Option Value) (M : Mi) (L : Ml), j + k = N → SaB r I M → (∀ (J : Mi) (K : Ml), SaB r I J → Q (some (.int (ncF (fun j => fwX s b r (rbM I W p j) (I 52 (2 * j + 1)) sd) k j f mo).1)) J K Z) → AW E yX6_nextCup cX6_nextCup 8 (some .int) (rmOf d 0 0) Q 0 0 38 [some (.ref 48), some (.int (nI p)), some (.int 0), some (.int f), some (.int mo), some (.int (nI N)), some (.int (nI j)), o7] [] M L Z := by
  intro k
  induction k with
  | zero =>
    intro j f mo o7 M L hj sB hQ
    have hn6 := hR.2.1.2
    refine aw_iload dX6_nextCup_38 rfl ?_
    refine aw_iload dX6_nextCup_40 rfl ?_
    refine aw_icmp_ge (tgt := 116) dX6_nextCup_42 (by decide) (fun c42 => ?_) (fun zz => absurd (by rw [show j = N by omega]; exact Int32.le_refl _) zz)
    refine aw_iload_n dX6_nextCup_116 rfl ?_
    refine aw_if_ne (tgt := 124) dX6_nextCup_117 (by decide) (fun zz => absurd zz (by decide)) (fun _ => ?_)
    refine aw_iload_n dX6_nextCup_120 rfl ?_
    refine aw_goto (tgt := 126) dX6_nextCup_121 (by decide) ?_
    refine aw_ireturn (ty := .int) dX6_nextCup_126 rfl rfl ?_
    exact hQ _ _ sB
  | succ k ih =>
    intro j f mo o7 M L hj sB hQ
    have hr12 := hr12 (by omega)
    have hn6 := hR.2.1.2
    refine aw_iload dX6_nextCup_38 rfl ?_
    refine aw_iload dX6_nextCup_40 rfl ?_
    refine aw_icmp_ge (tgt := 116) dX6_nextCup_42 (by decide) (fun zz => absurd zz (nI_ge (by omega) (by omega))) (fun c42 => ?_)
    refine aw_aload_n dX6_nextCup_45 rfl rfl ?_
    refine aw_aload_n dX6_nextCup_46 rfl rfl ?_
    refine aw_iload_n dX6_nextCup_47 rfl ?_
    refine aw_iload dX6_nextCup_48 rfl ?_
    refine aw_V2 dX6_nextCup_50 cw_X6_368 ⟨_, _, rfl⟩ hM.1 (by omega) ⟨Nat.le_refl _, Nat.le_refl _⟩ (by simp [Value.category, psh]) (c_X6_readBy (by omega) hM (hR.sab sB) hp (by omega) (fun r1 I1 L1 s1 e1 => ?_))
    have h52 : I1 52 = I 52 := (sB.tr s1.b).row (by omega) (by omega)
    refine aw_aload_n dX6_nextCup_53 rfl rfl ?_
    refine aw_gr dX6_nextCup_54 fw_X6_23 hM.1 hM.2.2.2.2.2.2.2.1 ?_
    refine aw_iconst (v := 2) dX6_nextCup_57 (by decide) ?_
    refine aw_iload dX6_nextCup_58 rfl ?_
    refine aw_imul dX6_nextCup_60 ?_
    refine aw_iconst (v := 1) dX6_nextCup_61 (by decide) ?_
    refine aw_iadd dX6_nextCup_62 ?_
    refine aw_ia (2 * j + 1) dX6_nextCup_63 hM.2.2.2.2.2.2.2.2.1 (ix1 j) (by have := hR.2.1.2; omega) (by decide) ?_
    rw [h52]
    refine aw_V2 dX6_nextCup_64 cw_X6_124 ⟨_, _, rfl⟩ hM.1 (by omega) ⟨Nat.le_refl _, Nat.le_refl _⟩ (by decide) (c_X6_bears (n := r) hM (by rw [(sB.tr s1.b) _ _ (by omega) (by omega)]; exact hRS.1) hRS.2.1 ?_)
    have hRS1 : RSM I1 r s b := (hRS.sab sB).sam s1
    have hRS2 := RSM.add (x := r1) (z := I 52 (2 * j + 1)) hRS1 hr12
    have hb2 : ∀ i, i < r + 1 → Bo ((fun k => if k = r then I 52 (2 * j + 1) else b k) i) := by
      intro i hi
      by_cases e : i = r
      · simp only [if_pos e]; exact hto j (by omega)
      · simp only [if_neg e]; exact hb i (by omega)
    refine aw_aload_n dX6_nextCup_67 rfl rfl ?_
    refine aw_aload_n dX6_nextCup_68 rfl rfl ?_
    refine aw_gi dX6_nextCup_69 fw_X6_110 hM.1 ?_
    refine aw_iconst (v := -1) dX6_nextCup_72 (by decide) ?_
    rw [show iU (iU (iU I1 53 (2 * r) r1) 53 (2 * r + 1) (I 52 (2 * j + 1))) 48 12 (nI (r + 1)) 48 7 = sd by rw [iU_at (by omega), iU_at (by omega), iU_at (by omega), (sB.tr s1.b) _ _ (by omega) (by omega)]; exact hsd]
    refine aw_V2 dX6_nextCup_73 cw_X6_377 ⟨_, _, rfl⟩ hM.1 (by omega) ⟨Nat.le_refl _, Nat.le_refl _⟩ (by decide) (c_X6_closure hM hRS2 (fx_all hb2 hs2) ?_)
    obtain ⟨fv, hfv, efv⟩ := @fo_S12 _ _ (r + 1) (-1) sd hb2 hs2
    refine aw_S1 dX6_nextCup_76 cw_X6_341 (by omega) ⟨Nat.le_refl _, Nat.le_refl _⟩ (by decide) (c_X6_bitsOf efv hfv (fun r76 e76 => ?_))
    refine aw_istore (ls' := [_, _, _, _, _, _, _, _]) dX6_nextCup_79 (by decide) rfl rfl ?_
    refine aw_aload_n dX6_nextCup_81 rfl rfl ?_
    refine aw_dup dX6_nextCup_82 rfl ?_
    refine aw_gi dX6_nextCup_83 fw_X6_89 hM.1 ?_
    refine aw_iconst (v := 1) dX6_nextCup_86 (by decide) ?_
    refine aw_isub dX6_nextCup_87 ?_
    have e79 : r76 = fwX s b r (rbM I W p j) (I 52 (2 * j + 1)) sd := by
      rw [e76, e1, rbM_sab sB]
      rfl
    rw [iU_at (I := iU (iU (iU I1 53 (2 * r) r1) 53 (2 * r + 1) (I 52 (2 * j + 1))) 48 12 (nI (r + 1))) (show ¬ ((48 : Nat) = 48 ∧ (12 : Nat) = 31) by omega), iU_same, nI_pred]
    refine aw_pi dX6_nextCup_88 fw_X6_89 (ww_X6_89 _) hM.1 rfl ?_
    have sB4 : SaB r I (iU (iU (iU (iU (iU I1 53 (2 * r) r1) 53 (2 * r + 1) (I 52 (2 * j + 1))) 48 12 (nI (r + 1))) 48 31 (nI (stF (rdX (fun k => if k = r then r1 else s k) (fun k => if k = r then I 52 (2 * j + 1) else b k) (r + 1) (-1)) 12 0 sd))) 48 12 (nI r)) := by
      intro a k h g
      by_cases e12 : a = 48 ∧ k = 12
      · obtain ⟨rfl, rfl⟩ := e12; rw [iU_same]; exact hRS.1.symm
      · rw [iU_at e12, iU_at (by omega), iU_at e12, iU_at (by omega), iU_at (by omega)]
        exact (sB.tr s1.b) a k h g
    refine aw_iload_n dX6_nextCup_91 rfl ?_
    refine aw_iconst (v := -1) dX6_nextCup_92 (by decide) ?_
    refine aw_icmp_eq (tgt := 103) dX6_nextCup_93 (by decide) (fun c93 => ?_) (fun c93 => ?_)
    · refine aw_iload dX6_nextCup_103 rfl ?_
      refine aw_istore_n (ls' := [_, _, _, _, _, _, _, _]) dX6_nextCup_105 (by decide) rfl rfl ?_
      refine aw_iload dX6_nextCup_106 rfl ?_
      refine aw_istore (ls' := [_, _, _, _, _, _, _, _]) dX6_nextCup_108 (by decide) rfl rfl ?_
      refine aw_iinc (v := nI (j + 1)) (ls' := [_, _, _, _, _, _, _, _]) dX6_nextCup_110 rfl (nI_1 j) (by decide) rfl rfl ?_
      refine aw_goto (tgt := 38) dX6_nextCup_113 (by decide) ?_
      first
        | (refine ih (j + 1) _ _ _ _ _ (by omega) sB4 ?_
           have hq := hQ
           simp only [ncF] at hq
           rw [if_pos (Or.inl c93)] at hq
           rw [e79]
           exact hq)
        | (refine ih (j + 1) _ _ _ _ _ (by omega) sB4 ?_
           have hq := hQ
           simp only [ncF] at hq
           rw [if_neg (fun w => w.elim c93 (fun g => g (by rw [← e79]; exact c100)))] at hq
           exact hq)
    · refine aw_iload dX6_nextCup_96 rfl ?_
      refine aw_iload dX6_nextCup_98 rfl ?_
      refine aw_icmp_le (tgt := 110) dX6_nextCup_100 (by decide) (fun c100 => ?_) (fun c100 => ?_)
      · refine aw_iinc (v := nI (j + 1)) (ls' := [_, _, _, _, _, _, _, _]) dX6_nextCup_110 rfl (nI_1 j) (by decide) rfl rfl ?_
        refine aw_goto (tgt := 38) dX6_nextCup_113 (by decide) ?_
        first
          | (refine ih (j + 1) _ _ _ _ _ (by omega) sB4 ?_
             have hq := hQ
             simp only [ncF] at hq
             rw [if_pos (Or.inr (by rw [← e79]; exact c100))] at hq
             rw [e79]
             exact hq)
          | (refine ih (j + 1) _ _ _ _ _ (by omega) sB4 ?_
             have hq := hQ
             simp only [ncF] at hq
             rw [if_neg (fun w => w.elim c93 (fun g => g (by rw [← e79]; exact c100)))] at hq
             exact hq)
      · refine aw_iload dX6_nextCup_103 rfl ?_
        refine aw_istore_n (ls' := [_, _, _, _, _, _, _, _]) dX6_nextCup_105 (by decide) rfl rfl ?_
        refine aw_iload dX6_nextCup_106 rfl ?_
        refine aw_istore (ls' := [_, _, _, _, _, _, _, _]) dX6_nextCup_108 (by decide) rfl rfl ?_
        refine aw_iinc (v := nI (j + 1)) (ls' := [_, _, _, _, _, _, _, _]) dX6_nextCup_110 rfl (nI_1 j) (by decide) rfl rfl ?_
        refine aw_goto (tgt := 38) dX6_nextCup_113 (by decide) ?_
        first
          | (refine ih (j + 1) _ _ _ _ _ (by omega) sB4 ?_
             have hq := hQ
             simp only [ncF] at hq
             rw [if_pos (Or.inr (by rw [← e79]; exact c100))] at hq
             rw [e79]
             exact hq)
          | (refine ih (j + 1) _ _ _ _ _ (by omega) sB4 ?_
             have hq := hQ
             simp only [ncF] at hq
             rw [if_neg (fun w => w.elim c93 (fun g => g (by rw [← e79]; exact c100)))] at hq
             exact hq)
theorem c_X6_nextCup0 {E : Ev} {d : Nat} {I : Mi} {L : Ml} {Z : Mz} {Q : Po}  {W : Nat → (Nat → Int32) → Int32} {ru n m : Nat} {r : Nat} {s b : Nat → Int32} {sd : Int32} {p : Nat} (hd : 46 ≤ d) (hM : MZ Z) (hR : RDM I W ru n m) (hRS : RSM I r s b) (hb : ∀ i, i < r → Bo (b i)) (hto : ∀ c, c < n → Bo (I 52 (2 * c + 1))) (hsd : I 48 7 = sd) (hs2 : S12 sd) (hp : p < m) (hQ : ∀ (J : Mi) (K : Ml), SaB r I J → Q (some (.int (ncF (fun j => fwX s b r (rbM I W p j) (I 52 (2 * j + 1)) sd) (if r = 12 then 0 else n) 0 (-1) (bcV (foX s b r (-1) sd))).1)) J K Z) : AC E yX6_nextCup cX6_nextCup 8 (some .int) d 0 0 [.ref 48, .int (nI p), .int 0] I L Z Q := by
  refine ac_go (ls := [some (.ref 48), some (.int (nI p)), some (.int 0), none, none, none, none, none]) (by decide +kernel) (Nat.le_of_ble_eq_true rfl) rfl ?_
  have hn6 := hR.2.1.2
  refine aw_iconst (v := -1) dX6_nextCup_0 (by decide) ?_
  refine aw_istore_n (ls' := [_, _, _, _, _, _, _, _]) dX6_nextCup_1 (by decide) rfl rfl ?_
  refine aw_aload_n dX6_nextCup_2 rfl rfl ?_
  refine aw_aload_n dX6_nextCup_3 rfl rfl ?_
  refine aw_gi dX6_nextCup_4 fw_X6_110 hM.1 ?_
  refine aw_iconst (v := -1) dX6_nextCup_7 (by decide) ?_
  rw [hsd]
  refine aw_V2 dX6_nextCup_8 cw_X6_377 ⟨_, _, rfl⟩ hM.1 (by omega) ⟨Nat.le_refl _, Nat.le_refl _⟩ (by decide) (c_X6_closure hM hRS (fx_all hb hs2) ?_)
  obtain ⟨fv, hfv, efv⟩ := @fo_S12 s b r (-1) sd hb hs2
  refine aw_S1 dX6_nextCup_11 cw_X6_341 (by omega) ⟨Nat.le_refl _, Nat.le_refl _⟩ (by decide) (c_X6_bitsOf efv hfv (fun r11 e11 => ?_))
  refine aw_istore (ls' := [_, _, _, _, _, _, _, _]) dX6_nextCup_14 (by decide) rfl rfl ?_
  refine aw_aload_n dX6_nextCup_16 rfl rfl ?_
  refine aw_gi dX6_nextCup_17 fw_X6_89 hM.1 ?_
  refine aw_bipush (v := 12) dX6_nextCup_20 (by decide) ?_
  have hq12 : iU I 48 31 (nI (stF (rdX s b r (-1)) 12 0 sd)) 48 12 = 12 ↔ r = 12 := by rw [iU_at (by omega), hRS.1]; exact nI_eq (b := 12) (by have := hRS.2.1; omega) (by decide)
  refine aw_icmp_ne (tgt := 29) dX6_nextCup_22 (by decide) (fun c22 => ?_) (fun c22 => ?_)
  · refine aw_aload_n dX6_nextCup_29 rfl rfl ?_
    refine aw_gi dX6_nextCup_30 fw_X6_77 hM.1 ?_
    refine aw_istore (ls' := [_, _, _, _, _, _, _, _]) dX6_nextCup_33 (by decide) rfl rfl ?_
    refine aw_iconst (v := 0) dX6_nextCup_35 (by decide) ?_
    refine aw_istore (ls' := [_, _, _, _, _, _, _, _]) dX6_nextCup_36 (by decide) rfl rfl ?_
    have hr12 : r < 12 := ne_le hRS.2.1 (fun w => c22 (hq12.mpr w))
    have hq := hQ
    rw [if_neg (by omega)] at hq
    rw [show iU I 48 31 (nI (stF (rdX s b r (-1)) 12 0 sd)) 48 10 = nI n by rw [iU_at (by omega)]; exact hR.2.1.1]
    refine l_X6_nextCup0 (N := n) hd hM hR hRS hb hto hsd hs2 hp (by omega) (by omega) n 0 (-1) _ _ _ _ (by omega) SaM.st.b (fun J K t => ?_)
    rw [e11]
    exact hq J K t
  · refine aw_iconst (v := 0) dX6_nextCup_25 (by decide) ?_
    refine aw_goto (tgt := 33) dX6_nextCup_26 (by decide) ?_
    refine aw_istore (ls' := [_, _, _, _, _, _, _, _]) dX6_nextCup_33 (by decide) rfl rfl ?_
    refine aw_iconst (v := 0) dX6_nextCup_35 (by decide) ?_
    refine aw_istore (ls' := [_, _, _, _, _, _, _, _]) dX6_nextCup_36 (by decide) rfl rfl ?_
    obtain rfl : r = 12 := hq12.mp c22
    have hq := hQ
    rw [if_pos rfl] at hq
    refine l_X6_nextCup0 (N := 0) hd hM hR hRS hb hto hsd hs2 hp (by omega) (by omega) 0 0 (-1) _ _ _ _ (by omega) SaM.st.b (fun J K t => ?_)
    rw [e11]
    exact hq J K t
theorem l_X6_nextCup1 {E : Ev} {d : Nat} {I : Mi} {Z : Mz} {Q : Po} {W : Nat → (Nat → Int32) → Int32} {ru n m : Nat} {r : Nat} {s b : Nat → Int32} {sd : Int32} {p N : Nat} (hd : 46 ≤ d) (hM : MZ Z) (hR : RDM I W ru n m) (hRS : RSM I r s b) (hb : ∀ i, i < r → Bo (b i)) (hto : ∀ c, c < n → Bo (I 52 (2 * c + 1))) (hsd : I 48 7 = sd) (hs2 : S12 sd) (hp : p < m) (hN : N ≤ n) (hr12 : 0 < N → r < 12) : ∀ (k j : Nat) (f mo : Int32) (o7 : Option Value) (M : Mi) (L : Ml), j + k = N → SaB r I M → (∀ (J : Mi) (K : Ml), SaB r I J → Q (some (.int (ncF (fun j => fwX s b r (rbM I W p j) (I 52 (2 * j + 1)) sd) k j f mo).2)) J K Z) → AW E yX6_nextCup cX6_nextCup 8 (some .int) (rmOf d 0 0) Q 0 0 38 [some (.ref 48), some (.int (nI p)), some (.int 1), some (.int f), some (.int mo), some (.int (nI N)), some (.int (nI j)), o7] [] M L Z := by
  intro k
  induction k with
  | zero =>
    intro j f mo o7 M L hj sB hQ
    have hn6 := hR.2.1.2
    refine aw_iload dX6_nextCup_38 rfl ?_
    refine aw_iload dX6_nextCup_40 rfl ?_
    refine aw_icmp_ge (tgt := 116) dX6_nextCup_42 (by decide) (fun c42 => ?_) (fun zz => absurd (by rw [show j = N by omega]; exact Int32.le_refl _) zz)
    refine aw_iload_n dX6_nextCup_116 rfl ?_
    refine aw_if_ne (tgt := 124) dX6_nextCup_117 (by decide) (fun _ => ?_) (fun zz => absurd zz (by decide))
    refine aw_iload dX6_nextCup_124 rfl ?_
    refine aw_ireturn (ty := .int) dX6_nextCup_126 rfl rfl ?_
    exact hQ _ _ sB
  | succ k ih =>
    intro j f mo o7 M L hj sB hQ
    have hr12 := hr12 (by omega)
    have hn6 := hR.2.1.2
    refine aw_iload dX6_nextCup_38 rfl ?_
    refine aw_iload dX6_nextCup_40 rfl ?_
    refine aw_icmp_ge (tgt := 116) dX6_nextCup_42 (by decide) (fun zz => absurd zz (nI_ge (by omega) (by omega))) (fun c42 => ?_)
    refine aw_aload_n dX6_nextCup_45 rfl rfl ?_
    refine aw_aload_n dX6_nextCup_46 rfl rfl ?_
    refine aw_iload_n dX6_nextCup_47 rfl ?_
    refine aw_iload dX6_nextCup_48 rfl ?_
    refine aw_V2 dX6_nextCup_50 cw_X6_368 ⟨_, _, rfl⟩ hM.1 (by omega) ⟨Nat.le_refl _, Nat.le_refl _⟩ (by simp [Value.category, psh]) (c_X6_readBy (by omega) hM (hR.sab sB) hp (by omega) (fun r1 I1 L1 s1 e1 => ?_))
    have h52 : I1 52 = I 52 := (sB.tr s1.b).row (by omega) (by omega)
    refine aw_aload_n dX6_nextCup_53 rfl rfl ?_
    refine aw_gr dX6_nextCup_54 fw_X6_23 hM.1 hM.2.2.2.2.2.2.2.1 ?_
    refine aw_iconst (v := 2) dX6_nextCup_57 (by decide) ?_
    refine aw_iload dX6_nextCup_58 rfl ?_
    refine aw_imul dX6_nextCup_60 ?_
    refine aw_iconst (v := 1) dX6_nextCup_61 (by decide) ?_
    refine aw_iadd dX6_nextCup_62 ?_
    refine aw_ia (2 * j + 1) dX6_nextCup_63 hM.2.2.2.2.2.2.2.2.1 (ix1 j) (by have := hR.2.1.2; omega) (by decide) ?_
    rw [h52]
    refine aw_V2 dX6_nextCup_64 cw_X6_124 ⟨_, _, rfl⟩ hM.1 (by omega) ⟨Nat.le_refl _, Nat.le_refl _⟩ (by decide) (c_X6_bears (n := r) hM (by rw [(sB.tr s1.b) _ _ (by omega) (by omega)]; exact hRS.1) hRS.2.1 ?_)
    have hRS1 : RSM I1 r s b := (hRS.sab sB).sam s1
    have hRS2 := RSM.add (x := r1) (z := I 52 (2 * j + 1)) hRS1 hr12
    have hb2 : ∀ i, i < r + 1 → Bo ((fun k => if k = r then I 52 (2 * j + 1) else b k) i) := by
      intro i hi
      by_cases e : i = r
      · simp only [if_pos e]; exact hto j (by omega)
      · simp only [if_neg e]; exact hb i (by omega)
    refine aw_aload_n dX6_nextCup_67 rfl rfl ?_
    refine aw_aload_n dX6_nextCup_68 rfl rfl ?_
    refine aw_gi dX6_nextCup_69 fw_X6_110 hM.1 ?_
    refine aw_iconst (v := -1) dX6_nextCup_72 (by decide) ?_
    rw [show iU (iU (iU I1 53 (2 * r) r1) 53 (2 * r + 1) (I 52 (2 * j + 1))) 48 12 (nI (r + 1)) 48 7 = sd by rw [iU_at (by omega), iU_at (by omega), iU_at (by omega), (sB.tr s1.b) _ _ (by omega) (by omega)]; exact hsd]
    refine aw_V2 dX6_nextCup_73 cw_X6_377 ⟨_, _, rfl⟩ hM.1 (by omega) ⟨Nat.le_refl _, Nat.le_refl _⟩ (by decide) (c_X6_closure hM hRS2 (fx_all hb2 hs2) ?_)
    obtain ⟨fv, hfv, efv⟩ := @fo_S12 _ _ (r + 1) (-1) sd hb2 hs2
    refine aw_S1 dX6_nextCup_76 cw_X6_341 (by omega) ⟨Nat.le_refl _, Nat.le_refl _⟩ (by decide) (c_X6_bitsOf efv hfv (fun r76 e76 => ?_))
    refine aw_istore (ls' := [_, _, _, _, _, _, _, _]) dX6_nextCup_79 (by decide) rfl rfl ?_
    refine aw_aload_n dX6_nextCup_81 rfl rfl ?_
    refine aw_dup dX6_nextCup_82 rfl ?_
    refine aw_gi dX6_nextCup_83 fw_X6_89 hM.1 ?_
    refine aw_iconst (v := 1) dX6_nextCup_86 (by decide) ?_
    refine aw_isub dX6_nextCup_87 ?_
    have e79 : r76 = fwX s b r (rbM I W p j) (I 52 (2 * j + 1)) sd := by
      rw [e76, e1, rbM_sab sB]
      rfl
    rw [iU_at (I := iU (iU (iU I1 53 (2 * r) r1) 53 (2 * r + 1) (I 52 (2 * j + 1))) 48 12 (nI (r + 1))) (show ¬ ((48 : Nat) = 48 ∧ (12 : Nat) = 31) by omega), iU_same, nI_pred]
    refine aw_pi dX6_nextCup_88 fw_X6_89 (ww_X6_89 _) hM.1 rfl ?_
    have sB4 : SaB r I (iU (iU (iU (iU (iU I1 53 (2 * r) r1) 53 (2 * r + 1) (I 52 (2 * j + 1))) 48 12 (nI (r + 1))) 48 31 (nI (stF (rdX (fun k => if k = r then r1 else s k) (fun k => if k = r then I 52 (2 * j + 1) else b k) (r + 1) (-1)) 12 0 sd))) 48 12 (nI r)) := by
      intro a k h g
      by_cases e12 : a = 48 ∧ k = 12
      · obtain ⟨rfl, rfl⟩ := e12; rw [iU_same]; exact hRS.1.symm
      · rw [iU_at e12, iU_at (by omega), iU_at e12, iU_at (by omega), iU_at (by omega)]
        exact (sB.tr s1.b) a k h g
    refine aw_iload_n dX6_nextCup_91 rfl ?_
    refine aw_iconst (v := -1) dX6_nextCup_92 (by decide) ?_
    refine aw_icmp_eq (tgt := 103) dX6_nextCup_93 (by decide) (fun c93 => ?_) (fun c93 => ?_)
    · refine aw_iload dX6_nextCup_103 rfl ?_
      refine aw_istore_n (ls' := [_, _, _, _, _, _, _, _]) dX6_nextCup_105 (by decide) rfl rfl ?_
      refine aw_iload dX6_nextCup_106 rfl ?_
      refine aw_istore (ls' := [_, _, _, _, _, _, _, _]) dX6_nextCup_108 (by decide) rfl rfl ?_
      refine aw_iinc (v := nI (j + 1)) (ls' := [_, _, _, _, _, _, _, _]) dX6_nextCup_110 rfl (nI_1 j) (by decide) rfl rfl ?_
      refine aw_goto (tgt := 38) dX6_nextCup_113 (by decide) ?_
      first
        | (refine ih (j + 1) _ _ _ _ _ (by omega) sB4 ?_
           have hq := hQ
           simp only [ncF] at hq
           rw [if_pos (Or.inl c93)] at hq
           rw [e79]
           exact hq)
        | (refine ih (j + 1) _ _ _ _ _ (by omega) sB4 ?_
           have hq := hQ
           simp only [ncF] at hq
           rw [if_neg (fun w => w.elim c93 (fun g => g (by rw [← e79]; exact c100)))] at hq
           exact hq)
    · refine aw_iload dX6_nextCup_96 rfl ?_
      refine aw_iload dX6_nextCup_98 rfl ?_
      refine aw_icmp_le (tgt := 110) dX6_nextCup_100 (by decide) (fun c100 => ?_) (fun c100 => ?_)
      · refine aw_iinc (v := nI (j + 1)) (ls' := [_, _, _, _, _, _, _, _]) dX6_nextCup_110 rfl (nI_1 j) (by decide) rfl rfl ?_
        refine aw_goto (tgt := 38) dX6_nextCup_113 (by decide) ?_
        first
          | (refine ih (j + 1) _ _ _ _ _ (by omega) sB4 ?_
             have hq := hQ
             simp only [ncF] at hq
             rw [if_pos (Or.inr (by rw [← e79]; exact c100))] at hq
             rw [e79]
             exact hq)
          | (refine ih (j + 1) _ _ _ _ _ (by omega) sB4 ?_
             have hq := hQ
             simp only [ncF] at hq
             rw [if_neg (fun w => w.elim c93 (fun g => g (by rw [← e79]; exact c100)))] at hq
             exact hq)
      · refine aw_iload dX6_nextCup_103 rfl ?_
        refine aw_istore_n (ls' := [_, _, _, _, _, _, _, _]) dX6_nextCup_105 (by decide) rfl rfl ?_
        refine aw_iload dX6_nextCup_106 rfl ?_
        refine aw_istore (ls' := [_, _, _, _, _, _, _, _]) dX6_nextCup_108 (by decide) rfl rfl ?_
        refine aw_iinc (v := nI (j + 1)) (ls' := [_, _, _, _, _, _, _, _]) dX6_nextCup_110 rfl (nI_1 j) (by decide) rfl rfl ?_
        refine aw_goto (tgt := 38) dX6_nextCup_113 (by decide) ?_
        first
          | (refine ih (j + 1) _ _ _ _ _ (by omega) sB4 ?_
             have hq := hQ
             simp only [ncF] at hq
             rw [if_pos (Or.inr (by rw [← e79]; exact c100))] at hq
             rw [e79]
             exact hq)
          | (refine ih (j + 1) _ _ _ _ _ (by omega) sB4 ?_
             have hq := hQ
             simp only [ncF] at hq
             rw [if_neg (fun w => w.elim c93 (fun g => g (by rw [← e79]; exact c100)))] at hq
             exact hq)
theorem c_X6_nextCup1 {E : Ev} {d : Nat} {I : Mi} {L : Ml} {Z : Mz} {Q : Po}  {W : Nat → (Nat → Int32) → Int32} {ru n m : Nat} {r : Nat} {s b : Nat → Int32} {sd : Int32} {p : Nat} (hd : 46 ≤ d) (hM : MZ Z) (hR : RDM I W ru n m) (hRS : RSM I r s b) (hb : ∀ i, i < r → Bo (b i)) (hto : ∀ c, c < n → Bo (I 52 (2 * c + 1))) (hsd : I 48 7 = sd) (hs2 : S12 sd) (hp : p < m) (hQ : ∀ (J : Mi) (K : Ml), SaB r I J → Q (some (.int (ncF (fun j => fwX s b r (rbM I W p j) (I 52 (2 * j + 1)) sd) (if r = 12 then 0 else n) 0 (-1) (bcV (foX s b r (-1) sd))).2)) J K Z) : AC E yX6_nextCup cX6_nextCup 8 (some .int) d 0 0 [.ref 48, .int (nI p), .int 1] I L Z Q := by
  refine ac_go (ls := [some (.ref 48), some (.int (nI p)), some (.int 1), none, none, none, none, none]) (by decide +kernel) (Nat.le_of_ble_eq_true rfl) rfl ?_
  have hn6 := hR.2.1.2
  refine aw_iconst (v := -1) dX6_nextCup_0 (by decide) ?_
  refine aw_istore_n (ls' := [_, _, _, _, _, _, _, _]) dX6_nextCup_1 (by decide) rfl rfl ?_
  refine aw_aload_n dX6_nextCup_2 rfl rfl ?_
  refine aw_aload_n dX6_nextCup_3 rfl rfl ?_
  refine aw_gi dX6_nextCup_4 fw_X6_110 hM.1 ?_
  refine aw_iconst (v := -1) dX6_nextCup_7 (by decide) ?_
  rw [hsd]
  refine aw_V2 dX6_nextCup_8 cw_X6_377 ⟨_, _, rfl⟩ hM.1 (by omega) ⟨Nat.le_refl _, Nat.le_refl _⟩ (by decide) (c_X6_closure hM hRS (fx_all hb hs2) ?_)
  obtain ⟨fv, hfv, efv⟩ := @fo_S12 s b r (-1) sd hb hs2
  refine aw_S1 dX6_nextCup_11 cw_X6_341 (by omega) ⟨Nat.le_refl _, Nat.le_refl _⟩ (by decide) (c_X6_bitsOf efv hfv (fun r11 e11 => ?_))
  refine aw_istore (ls' := [_, _, _, _, _, _, _, _]) dX6_nextCup_14 (by decide) rfl rfl ?_
  refine aw_aload_n dX6_nextCup_16 rfl rfl ?_
  refine aw_gi dX6_nextCup_17 fw_X6_89 hM.1 ?_
  refine aw_bipush (v := 12) dX6_nextCup_20 (by decide) ?_
  have hq12 : iU I 48 31 (nI (stF (rdX s b r (-1)) 12 0 sd)) 48 12 = 12 ↔ r = 12 := by rw [iU_at (by omega), hRS.1]; exact nI_eq (b := 12) (by have := hRS.2.1; omega) (by decide)
  refine aw_icmp_ne (tgt := 29) dX6_nextCup_22 (by decide) (fun c22 => ?_) (fun c22 => ?_)
  · refine aw_aload_n dX6_nextCup_29 rfl rfl ?_
    refine aw_gi dX6_nextCup_30 fw_X6_77 hM.1 ?_
    refine aw_istore (ls' := [_, _, _, _, _, _, _, _]) dX6_nextCup_33 (by decide) rfl rfl ?_
    refine aw_iconst (v := 0) dX6_nextCup_35 (by decide) ?_
    refine aw_istore (ls' := [_, _, _, _, _, _, _, _]) dX6_nextCup_36 (by decide) rfl rfl ?_
    have hr12 : r < 12 := ne_le hRS.2.1 (fun w => c22 (hq12.mpr w))
    have hq := hQ
    rw [if_neg (by omega)] at hq
    rw [show iU I 48 31 (nI (stF (rdX s b r (-1)) 12 0 sd)) 48 10 = nI n by rw [iU_at (by omega)]; exact hR.2.1.1]
    refine l_X6_nextCup1 (N := n) hd hM hR hRS hb hto hsd hs2 hp (by omega) (by omega) n 0 (-1) _ _ _ _ (by omega) SaM.st.b (fun J K t => ?_)
    rw [e11]
    exact hq J K t
  · refine aw_iconst (v := 0) dX6_nextCup_25 (by decide) ?_
    refine aw_goto (tgt := 33) dX6_nextCup_26 (by decide) ?_
    refine aw_istore (ls' := [_, _, _, _, _, _, _, _]) dX6_nextCup_33 (by decide) rfl rfl ?_
    refine aw_iconst (v := 0) dX6_nextCup_35 (by decide) ?_
    refine aw_istore (ls' := [_, _, _, _, _, _, _, _]) dX6_nextCup_36 (by decide) rfl rfl ?_
    obtain rfl : r = 12 := hq12.mp c22
    have hq := hQ
    rw [if_pos rfl] at hq
    refine l_X6_nextCup1 (N := 0) hd hM hR hRS hb hto hsd hs2 hp (by omega) (by omega) 0 0 (-1) _ _ _ _ (by omega) SaM.st.b (fun J K t => ?_)
    rw [e11]
    exact hq J K t
