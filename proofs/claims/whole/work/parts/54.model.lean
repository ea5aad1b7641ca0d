/-! ===== the reference: share, house ===== -/
theorem ldN {a b : Nat} (ha : a < 1000) (hb : 0 < b) (hb2 : b < 1000) : lN a / lN b = lN (a / b) := by
  apply Int64.toInt_inj.mp
  have h1 : a / b ≤ a := Nat.div_le_self a b
  rw [lg_ldiv_nonneg (by rw [lN_toInt (by omega)]; omega) (by rw [lN_toInt (by omega)]; omega), lN_toInt (by omega), lN_toInt (by omega), lN_toInt (by omega)]
  exact (Int.natCast_ediv a b).symm
theorem lrN {a b : Nat} (ha : a < 1000) (hb : 0 < b) (hb2 : b < 1000) : lN a - lN a / lN b * lN b = lN (a % b) := by
  rw [ldN ha hb hb2, lN_mul, lN_sub (Nat.div_mul_le_self a b)]
  congr 1
  have := Nat.div_add_mod a b
  rw [Nat.mul_comm] at this
  omega
theorem i2l_nI {n : Nat} (h : n < 1000) : (nI n).toInt64 = lN n := by
  apply Int64.toInt_inj.mp
  rw [Int32.toInt_toInt64, nI_toInt (by omega), lN_toInt (by omega)]
theorem lN_pos {n : Nat} (h : 0 < n) (h2 : n < 1000) : ¬ lN n = 0 := fun w => by
  have := (lN_eq (a := n) (b := 0) (by omega) (by omega)).mp w
  omega
theorem l_X6_lowest0 {E : Ev} {d : Nat} {I : Mi} {L : Ml} {Z : Mz} {Q : Po} {a b : Nat} (ha : a < 1000) (hb : 0 < b) (hb2 : b < 1000) : ∀ (n : Nat) (u v : Nat) (o9 : Option Value), u < 1000 → v < 1000 → v ≤ n → Nat.gcd u v = Nat.gcd a b → (∀ rv : Int64, rv = lN (a / Nat.gcd a b) → Q (some (.long rv)) I L Z) → AW E yX6_lowest cX6_lowest 11 (some .long) (rmOf d 0 0) Q 0 0 6 [some (.long (lN a)), none, some (.long (lN b)), none, some (.int 0), some (.long (lN u)), none, some (.long (lN v)), none, o9, none] [] I L Z := by
  intro n
  induction n with
  | zero =>
    intro u v o9 hu hv hn hg hQ
    obtain rfl : v = 0 := by omega
    have eg : u = Nat.gcd a b := by rw [← hg, Nat.gcd_zero_right]
    have gp : 0 < Nat.gcd a b := Nat.gcd_pos_of_pos_right a hb
    refine aw_lload dX6_lowest_6 rfl ?_
    refine aw_lconst (v := 0) dX6_lowest_8 (by decide) ?_
    refine aw_lcmp dX6_lowest_9 ?_
    refine aw_if_eq (tgt := 31) dX6_lowest_10 (by decide) (fun c10 => ?_) (fun zz => absurd ((lg_cmp_eq _ _).mpr rfl) zz)
    refine aw_iload dX6_lowest_31 rfl ?_
    refine aw_if_ne (tgt := 43) dX6_lowest_33 (by decide) (fun zz => absurd zz (by decide)) (fun _ => ?_)
    refine aw_lload_n dX6_lowest_36 rfl ?_
    refine aw_lload dX6_lowest_37 rfl ?_
    refine aw_ldiv dX6_lowest_39 (lN_pos (by omega) hu) ?_
    refine aw_goto (tgt := 47) dX6_lowest_40 (by decide) ?_
    refine aw_lreturn dX6_lowest_47 rfl ?_
    exact hQ _ (by rw [ldN (by omega) (by omega) hu, eg])
  | succ n ih =>
    intro u v o9 hu hv hn hg hQ
    refine aw_lload dX6_lowest_6 rfl ?_
    refine aw_lconst (v := 0) dX6_lowest_8 (by decide) ?_
    refine aw_lcmp dX6_lowest_9 ?_
    by_cases hv0 : v = 0
    · subst hv0
      have eg : u = Nat.gcd a b := by rw [← hg, Nat.gcd_zero_right]
      have gp : 0 < Nat.gcd a b := Nat.gcd_pos_of_pos_right a hb
      refine aw_if_eq (tgt := 31) dX6_lowest_10 (by decide) (fun c10 => ?_) (fun zz => absurd ((lg_cmp_eq _ _).mpr rfl) zz)
      refine aw_iload dX6_lowest_31 rfl ?_
      refine aw_if_ne (tgt := 43) dX6_lowest_33 (by decide) (fun zz => absurd zz (by decide)) (fun _ => ?_)
      refine aw_lload_n dX6_lowest_36 rfl ?_
      refine aw_lload dX6_lowest_37 rfl ?_
      refine aw_ldiv dX6_lowest_39 (lN_pos (by omega) hu) ?_
      refine aw_goto (tgt := 47) dX6_lowest_40 (by decide) ?_
      refine aw_lreturn dX6_lowest_47 rfl ?_
      exact hQ _ (by rw [ldN (by omega) (by omega) hu, eg])
    refine aw_if_eq (tgt := 31) dX6_lowest_10 (by decide) (fun zz => absurd zz (fun w => hv0 ((lN_eq (a := v) (b := 0) (by omega) (by omega)).mp ((lg_cmp_eq _ _).mp w)))) (fun c10 => ?_)
    refine aw_lload dX6_lowest_13 rfl ?_
    refine aw_lload dX6_lowest_15 rfl ?_
    refine aw_lrem dX6_lowest_17 (lN_pos (by omega) hv) ?_
    refine aw_lstore (ls' := [_, _, _, _, _, _, _, _, _, _, _]) dX6_lowest_18 (by decide) rfl rfl ?_
    refine aw_lload dX6_lowest_20 rfl ?_
    refine aw_lstore (ls' := [_, _, _, _, _, _, _, _, _, _, _]) dX6_lowest_22 (by decide) rfl rfl ?_
    refine aw_lload dX6_lowest_24 rfl ?_
    refine aw_lstore (ls' := [_, _, _, _, _, _, _, _, _, _, _]) dX6_lowest_26 (by decide) rfl rfl ?_
    refine aw_goto (tgt := 6) dX6_lowest_28 (by decide) ?_
    rw [lrN hu (by omega) hv]
    refine ih v (u % v) _ hv (by have := Nat.mod_lt u (show 0 < v by omega); omega) (by have := Nat.mod_lt u (show 0 < v by omega); omega) ?_ hQ
    rw [← hg, Nat.gcd_comm u v, Nat.gcd_rec v u, Nat.gcd_comm]
theorem c_X6_lowest0 {E : Ev} {d : Nat} {I : Mi} {L : Ml} {Z : Mz} {Q : Po}  {a b : Nat} (ha : a < 1000) (hb : 0 < b) (hb2 : b < 1000) (hQ : ∀ rv : Int64, rv = (lN (a / Nat.gcd a b)) → Q (some (.long rv)) I L Z) : AC E yX6_lowest cX6_lowest 11 (some .long) d 0 0 [.long (lN a), .long (lN b), .int 0] I L Z Q := by
  refine ac_go (ls := [some (.long (lN a)), none, some (.long (lN b)), none, some (.int 0), none, none, none, none, none, none]) (by decide +kernel) (Nat.le_of_ble_eq_true rfl) rfl ?_
  refine aw_lload_n dX6_lowest_0 rfl ?_
  refine aw_lstore (ls' := [_, _, _, _, _, _, _, _, _, _, _]) dX6_lowest_1 (by decide) rfl rfl ?_
  refine aw_lload_n dX6_lowest_3 rfl ?_
  refine aw_lstore (ls' := [_, _, _, _, _, _, _, _, _, _, _]) dX6_lowest_4 (by decide) rfl rfl ?_
  exact l_X6_lowest0 ha hb hb2 b a b none ha hb2 (Nat.le_refl _) rfl hQ
theorem l_X6_lowest1 {E : Ev} {d : Nat} {I : Mi} {L : Ml} {Z : Mz} {Q : Po} {a b : Nat} (ha : a < 1000) (hb : 0 < b) (hb2 : b < 1000) : ∀ (n : Nat) (u v : Nat) (o9 : Option Value), u < 1000 → v < 1000 → v ≤ n → Nat.gcd u v = Nat.gcd a b → (∀ rv : Int64, rv = lN (b / Nat.gcd a b) → Q (some (.long rv)) I L Z) → AW E yX6_lowest cX6_lowest 11 (some .long) (rmOf d 0 0) Q 0 0 6 [some (.long (lN a)), none, some (.long (lN b)), none, some (.int 1), some (.long (lN u)), none, some (.long (lN v)), none, o9, none] [] I L Z := by
  intro n
  induction n with
  | zero =>
    intro u v o9 hu hv hn hg hQ
    obtain rfl : v = 0 := by omega
    have eg : u = Nat.gcd a b := by rw [← hg, Nat.gcd_zero_right]
    have gp : 0 < Nat.gcd a b := Nat.gcd_pos_of_pos_right a hb
    refine aw_lload dX6_lowest_6 rfl ?_
    refine aw_lconst (v := 0) dX6_lowest_8 (by decide) ?_
    refine aw_lcmp dX6_lowest_9 ?_
    refine aw_if_eq (tgt := 31) dX6_lowest_10 (by decide) (fun c10 => ?_) (fun zz => absurd ((lg_cmp_eq _ _).mpr rfl) zz)
    refine aw_iload dX6_lowest_31 rfl ?_
    refine aw_if_ne (tgt := 43) dX6_lowest_33 (by decide) (fun _ => ?_) (fun zz => absurd zz (by decide))
    refine aw_lload_n dX6_lowest_43 rfl ?_
    refine aw_lload dX6_lowest_44 rfl ?_
    refine aw_ldiv dX6_lowest_46 (lN_pos (by omega) hu) ?_
    refine aw_lreturn dX6_lowest_47 rfl ?_
    exact hQ _ (by rw [ldN (by omega) (by omega) hu, eg])
  | succ n ih =>
    intro u v o9 hu hv hn hg hQ
    refine aw_lload dX6_lowest_6 rfl ?_
    refine aw_lconst (v := 0) dX6_lowest_8 (by decide) ?_
    refine aw_lcmp dX6_lowest_9 ?_
    by_cases hv0 : v = 0
    · subst hv0
      have eg : u = Nat.gcd a b := by rw [← hg, Nat.gcd_zero_right]
      have gp : 0 < Nat.gcd a b := Nat.gcd_pos_of_pos_right a hb
      refine aw_if_eq (tgt := 31) dX6_lowest_10 (by decide) (fun c10 => ?_) (fun zz => absurd ((lg_cmp_eq _ _).mpr rfl) zz)
      refine aw_iload dX6_lowest_31 rfl ?_
      refine aw_if_ne (tgt := 43) dX6_lowest_33 (by decide) (fun _ => ?_) (fun zz => absurd zz (by decide))
      refine aw_lload_n dX6_lowest_43 rfl ?_
      refine aw_lload dX6_lowest_44 rfl ?_
      refine aw_ldiv dX6_lowest_46 (lN_pos (by omega) hu) ?_
      refine aw_lreturn dX6_lowest_47 rfl ?_
      exact hQ _ (by rw [ldN (by omega) (by omega) hu, eg])
    refine aw_if_eq (tgt := 31) dX6_lowest_10 (by decide) (fun zz => absurd zz (fun w => hv0 ((lN_eq (a := v) (b := 0) (by omega) (by omega)).mp ((lg_cmp_eq _ _).mp w)))) (fun c10 => ?_)
    refine aw_lload dX6_lowest_13 rfl ?_
    refine aw_lload dX6_lowest_15 rfl ?_
    refine aw_lrem dX6_lowest_17 (lN_pos (by omega) hv) ?_
    refine aw_lstore (ls' := [_, _, _, _, _, _, _, _, _, _, _]) dX6_lowest_18 (by decide) rfl rfl ?_
    refine aw_lload dX6_lowest_20 rfl ?_
    refine aw_lstore (ls' := [_, _, _, _, _, _, _, _, _, _, _]) dX6_lowest_22 (by decide) rfl rfl ?_
    refine aw_lload dX6_lowest_24 rfl ?_
    refine aw_lstore (ls' := [_, _, _, _, _, _, _, _, _, _, _]) dX6_lowest_26 (by decide) rfl rfl ?_
    refine aw_goto (tgt := 6) dX6_lowest_28 (by decide) ?_
    rw [lrN hu (by omega) hv]
    refine ih v (u % v) _ hv (by have := Nat.mod_lt u (show 0 < v by omega); omega) (by have := Nat.mod_lt u (show 0 < v by omega); omega) ?_ hQ
    rw [← hg, Nat.gcd_comm u v, Nat.gcd_rec v u, Nat.gcd_comm]
theorem c_X6_lowest1 {E : Ev} {d : Nat} {I : Mi} {L : Ml} {Z : Mz} {Q : Po}  {a b : Nat} (ha : a < 1000) (hb : 0 < b) (hb2 : b < 1000) (hQ : ∀ rv : Int64, rv = (lN (b / Nat.gcd a b)) → Q (some (.long rv)) I L Z) : AC E yX6_lowest cX6_lowest 11 (some .long) d 0 0 [.long (lN a), .long (lN b), .int 1] I L Z Q := by
  refine ac_go (ls := [some (.long (lN a)), none, some (.long (lN b)), none, some (.int 1), none, none, none, none, none, none]) (by decide +kernel) (Nat.le_of_ble_eq_true rfl) rfl ?_
  refine aw_lload_n dX6_lowest_0 rfl ?_
  refine aw_lstore (ls' := [_, _, _, _, _, _, _, _, _, _, _]) dX6_lowest_1 (by decide) rfl rfl ?_
  refine aw_lload_n dX6_lowest_3 rfl ?_
  refine aw_lstore (ls' := [_, _, _, _, _, _, _, _, _, _, _]) dX6_lowest_4 (by decide) rfl rfl ?_
  exact l_X6_lowest1 ha hb hb2 b a b none ha hb2 (Nat.le_refl _) rfl hQ
theorem c_X6_share0 {E : Ev} {d : Nat} {I : Mi} {L : Ml} {Z : Mz} {Q : Po}  {r : Nat} {s b : Nat → Int32} {sd : Int32} {o v : Nat} (hd : 2 ≤ d) (hM : MZ Z) (hR : RSM I r s b) (hF : fxP (rdX s b r (-1)) 12 sd) (hsd : I 48 7 = sd) (hv : v < 4096) (hfo : foX s b r (-1) sd = nI v) (ho : bcV (nI v) = nI o) (ho1 : o < 1000) (hQ : ∀ rv : Int64, rv = lN (o / Nat.gcd o 12) → ∀ sg, Q (some (.long rv)) (iU I 48 31 sg) L Z) : AC E yX6_share cX6_share 2 (some .long) d 0 0 [.ref 48, .int 0] I L Z Q := by
  refine ac_go (ls := [some (.ref 48), some (.int 0)]) (by decide +kernel) (Nat.le_of_ble_eq_true rfl) rfl ?_
  refine aw_iload_n dX6_share_0 rfl ?_
  refine aw_i2l dX6_share_1 ?_
  refine aw_lconst (v := 0) dX6_share_2 (by decide) ?_
  refine aw_lconst (v := 1) dX6_share_3 (by decide) ?_
  refine aw_S3 dX6_share_4 cw_X6_73 (by omega) ⟨Nat.le_refl _, Nat.le_refl _⟩ (by decide) (c_X6_in (x := 0) (a := 0) (b := 1) rfl (by decide) (by decide) (fun c4 => ?_) (fun zz => absurd (by decide) zz))
  refine aw_if_eq (tgt := 33) dX6_share_7 (by decide) (fun zz => absurd zz (by decide)) (fun _ => ?_)
  refine aw_aload_n dX6_share_10 rfl rfl ?_
  refine aw_aload_n dX6_share_11 rfl rfl ?_
  refine aw_gi dX6_share_12 fw_X6_110 hM.1 ?_
  refine aw_iconst (v := -1) dX6_share_15 (by decide) ?_
  refine aw_V2 dX6_share_16 cw_X6_377 ⟨_, _, rfl⟩ hM.1 (by omega) ⟨Nat.le_refl _, Nat.le_refl _⟩ (by decide) (c_X6_closure hM hR (by rw [hsd]; exact hF) ?_)
  rw [hsd, hfo]
  refine aw_S1 dX6_share_19 cw_X6_341 (by omega) ⟨Nat.le_refl _, Nat.le_refl _⟩ (by decide) (c_X6_bitsOf (v := v) rfl hv (fun r19 e19 => ?_))
  rw [e19, ho]
  refine aw_i2l dX6_share_22 ?_
  rw [i2l_nI ho1]
  refine aw_ldc2 dX6_share_23 kw_X6_404 ?_
  refine aw_iload_n dX6_share_26 rfl ?_
  refine aw_S3 dX6_share_27 cw_X6_406 (by omega) ⟨Nat.le_refl _, Nat.le_refl _⟩ (by decide) (c_X6_lowest0 (b := 12) ho1 (by decide) (by decide) (fun rv e => ?_))
  refine aw_goto (tgt := 36) dX6_share_30 (by decide) ?_
  refine aw_lreturn dX6_share_36 rfl ?_
  exact hQ _ e _
theorem c_X6_share1 {E : Ev} {d : Nat} {I : Mi} {L : Ml} {Z : Mz} {Q : Po}  {r : Nat} {s b : Nat → Int32} {sd : Int32} {o v : Nat} (hd : 2 ≤ d) (hM : MZ Z) (hR : RSM I r s b) (hF : fxP (rdX s b r (-1)) 12 sd) (hsd : I 48 7 = sd) (hv : v < 4096) (hfo : foX s b r (-1) sd = nI v) (ho : bcV (nI v) = nI o) (ho1 : o < 1000) (hQ : ∀ rv : Int64, rv = lN (12 / Nat.gcd o 12) → ∀ sg, Q (some (.long rv)) (iU I 48 31 sg) L Z) : AC E yX6_share cX6_share 2 (some .long) d 0 0 [.ref 48, .int 1] I L Z Q := by
  refine ac_go (ls := [some (.ref 48), some (.int 1)]) (by decide +kernel) (Nat.le_of_ble_eq_true rfl) rfl ?_
  refine aw_iload_n dX6_share_0 rfl ?_
  refine aw_i2l dX6_share_1 ?_
  refine aw_lconst (v := 0) dX6_share_2 (by decide) ?_
  refine aw_lconst (v := 1) dX6_share_3 (by decide) ?_
  refine aw_S3 dX6_share_4 cw_X6_73 (by omega) ⟨Nat.le_refl _, Nat.le_refl _⟩ (by decide) (c_X6_in (x := 1) (a := 0) (b := 1) rfl (by decide) (by decide) (fun c4 => ?_) (fun zz => absurd (by decide) zz))
  refine aw_if_eq (tgt := 33) dX6_share_7 (by decide) (fun zz => absurd zz (by decide)) (fun _ => ?_)
  refine aw_aload_n dX6_share_10 rfl rfl ?_
  refine aw_aload_n dX6_share_11 rfl rfl ?_
  refine aw_gi dX6_share_12 fw_X6_110 hM.1 ?_
  refine aw_iconst (v := -1) dX6_share_15 (by decide) ?_
  refine aw_V2 dX6_share_16 cw_X6_377 ⟨_, _, rfl⟩ hM.1 (by omega) ⟨Nat.le_refl _, Nat.le_refl _⟩ (by decide) (c_X6_closure hM hR (by rw [hsd]; exact hF) ?_)
  rw [hsd, hfo]
  refine aw_S1 dX6_share_19 cw_X6_341 (by omega) ⟨Nat.le_refl _, Nat.le_refl _⟩ (by decide) (c_X6_bitsOf (v := v) rfl hv (fun r19 e19 => ?_))
  rw [e19, ho]
  refine aw_i2l dX6_share_22 ?_
  rw [i2l_nI ho1]
  refine aw_ldc2 dX6_share_23 kw_X6_404 ?_
  refine aw_iload_n dX6_share_26 rfl ?_
  refine aw_S3 dX6_share_27 cw_X6_406 (by omega) ⟨Nat.le_refl _, Nat.le_refl _⟩ (by decide) (c_X6_lowest1 (b := 12) ho1 (by decide) (by decide) (fun rv e => ?_))
  refine aw_goto (tgt := 36) dX6_share_30 (by decide) ?_
  refine aw_lreturn dX6_share_36 rfl ?_
  exact hQ _ e _
theorem c_X6_shareX {E : Ev} {d : Nat} {I : Mi} {L : Ml} {Z : Mz} {Q : Po} {w : Int32}  (hd : 2 ≤ d) (hM : MZ Z) (hw : ¬ (¬ w < 0 ∧ ¬ 1 < w)) (hB : Q (some (.long (-4611686018427387904))) I L Z) : AC E yX6_share cX6_share 2 (some .long) d 0 0 [.ref 48, .int w] I L Z Q := by
  refine ac_go (ls := [some (.ref 48), some (.int w)]) (by decide +kernel) (Nat.le_of_ble_eq_true rfl) rfl ?_
  refine aw_iload_n dX6_share_0 rfl ?_
  refine aw_i2l dX6_share_1 ?_
  refine aw_lconst (v := 0) dX6_share_2 (by decide) ?_
  refine aw_lconst (v := 1) dX6_share_3 (by decide) ?_
  refine aw_S3 dX6_share_4 cw_X6_73 (by omega) ⟨Nat.le_refl _, Nat.le_refl _⟩ (by decide) (c_X6_in (x := w) (a := 0) (b := 1) rfl (by decide) (by decide) (fun zz => absurd zz hw) (fun c4 => ?_))
  refine aw_if_eq (tgt := 33) dX6_share_7 (by decide) (fun _ => ?_) (fun zz => absurd zz (by decide))
  refine aw_ldc2 dX6_share_33 kw_X6_410 ?_
  refine aw_lreturn dX6_share_36 rfl ?_
  exact hB
def rmM (M : Mi) (m : Nat) (x z : Int32) : Mi := iU (iU (iU (iU M 54 m x) 55 (2 * m) z) 55 (2 * m + 1) 0) 48 15 (nI (m + 1))
theorem rmM_row {M : Mi} {m : Nat} {x z : Int32} {b : Nat} (h : b ≠ 48 ∧ b ≠ 54 ∧ b ≠ 55) : rmM M m x z b = M b := by
  funext j
  unfold rmM
  rw [iU_at (fun w => h.1 w.1), iU_at (fun w => h.2.2 w.1), iU_at (fun w => h.2.2 w.1), iU_at (fun w => h.2.1 w.1)]
abbrev rgQ (M : Mi) (s : Nat) (fr : Int32) (k : Nat) : Prop := ¬ fr < 0 ∧ fr ≤ M 62 s - 2 * nI k - 2
def hmF (s : Nat) (fr : Int32) : Nat → Nat → Int32 → Nat → Mi → Int32 × Mi
  | 0, _, c, _, M => (c, M)
  | n + 1, k, c, m, M =>
    if rgQ M s fr k then
      (if rkP (M 63 (40 * s + (fr.toNatClampNeg + 2 * k))) (M 63 (40 * s + (fr.toNatClampNeg + 2 * k) + 1)) ∧ m < 5 then hmF s fr n (k + 1) (c + 1) (m + 1) (rmM M m (M 63 (40 * s + (fr.toNatClampNeg + 2 * k))) (M 63 (40 * s + (fr.toNatClampNeg + 2 * k) + 1)))
       else hmF s fr n (k + 1) c m M)
    else (-12, M)
theorem rgQ_ok {c fr : Int32} {z k : Nat} (hc : c = nI z) (hz : z ≤ 40) (hk : k ≤ 5) (h1 : ¬ fr < 0) (h : fr ≤ c - 2 * nI k - 2) : ∃ a : Nat, fr = nI a ∧ a + 2 * k + 2 ≤ z := by
  obtain ⟨a, ha, rfl⟩ := nI_of h1
  refine ⟨a, rfl, ?_⟩
  subst hc
  rw [Int32.le_iff_toInt_le, nI_toInt ha] at h
  have e : nI z - 2 * nI k - 2 = nI z - nI (2 * k + 2) := by
    rw [← nI_add, ← pk_mul]
    show nI z - nI 2 * nI k - nI 2 = _
    rw [Int32.sub_eq_add_neg, Int32.sub_eq_add_neg, Int32.sub_eq_add_neg, Int32.neg_add, Int32.add_assoc, Int32.sub_eq_add_neg]
  rw [e, sub_toInt (by omega) (by omega)] at h
  omega
theorem l_X6_house {E : Ev} {d : Nat} {L : Ml} {Z : Mz} {Q : Po} {s N z : Nat} {fr : Int32} {xo : Option Value} (hM : MZ Z) (hs : s < 4) (hd : 3 ≤ d) (hN : N ≤ 5) (hz4 : z ≤ 40) : ∀ (n j : Nat) (c : Int32) (k0 : Nat) (M : Mi) (o7 : Option Value), j + n = N → k0 ≤ 5 → M 48 15 = nI k0 → M 62 s = nI z → (∀ (rv : Int32) (I9 : Mi), (rv, I9) = hmF s fr n j c k0 M → Q (some (.int rv)) I9 L Z) → AW E yX6_house cX6_house 8 (some .int) (rmOf d 0 0) Q 0 0 75 [some (.ref 48), some (.int (nI s)), xo, some (.int fr), some (.int (nI N)), some (.int c), some (.int (nI j)), o7] [] M L Z := by
  intro n
  induction n with
  | zero =>
    intro j c k0 M o7 hj hk5 hk0 hsz hQ
    refine aw_iload dX6_house_75 rfl ?_
    refine aw_iload dX6_house_77 rfl ?_
    refine aw_icmp_ge (tgt := 158) dX6_house_79 (by decide) (fun c79 => ?_) (fun zz => absurd (by rw [show j = N by omega]; exact Int32.le_refl _) zz)
    refine aw_iload dX6_house_158 rfl ?_
    refine aw_ireturn (ty := .int) dX6_house_160 rfl rfl ?_
    exact hQ _ _ rfl
  | succ n ih =>
    intro j c k0 M o7 hj hk5 hk0 hsz hQ
    refine aw_iload dX6_house_75 rfl ?_
    refine aw_iload dX6_house_77 rfl ?_
    refine aw_icmp_ge (tgt := 158) dX6_house_79 (by decide) (fun zz => absurd zz (nI_ge (by omega) (by omega))) (fun c79 => ?_)
    refine aw_iload_n dX6_house_82 rfl ?_
    refine aw_if_lt (tgt := 103) dX6_house_83 (by decide) (fun c83 => ?_) (fun c83 => ?_)
    · refine aw_bipush (v := -12) dX6_house_103 (by decide) ?_
      refine aw_ireturn (ty := .int) dX6_house_105 rfl rfl ?_
      refine hQ _ _ ?_
      simp only [hmF]
      rw [if_neg (fun zz => zz.1 c83)]
    · refine aw_iload_n dX6_house_86 rfl ?_
      refine aw_aload_n dX6_house_87 rfl rfl ?_
      refine aw_gr dX6_house_88 fw_X6_57 hM.1 hM.2.2.2.2.2.2.2.2.2.2.2.2.2.2.2.2.2.2.2.2.2.2.2.2.2.2.2.1 ?_
      refine aw_iload_n dX6_house_91 rfl ?_
      refine aw_ia s dX6_house_92 hM.2.2.2.2.2.2.2.2.2.2.2.2.2.2.2.2.2.2.2.2.2.2.2.2.2.2.2.2.1 rfl hs (by decide) ?_
      refine aw_iconst (v := 2) dX6_house_93 (by decide) ?_
      refine aw_iload dX6_house_94 rfl ?_
      refine aw_imul dX6_house_96 ?_
      refine aw_isub dX6_house_97 ?_
      refine aw_iconst (v := 2) dX6_house_98 (by decide) ?_
      refine aw_isub dX6_house_99 ?_
      refine aw_icmp_le (tgt := 106) dX6_house_100 (by decide) (fun c100 => ?_) (fun c100 => ?_)
      · obtain ⟨a, rfl, hi⟩ := rgQ_ok hsz hz4 (by omega) c83 c100
        have et : (nI a).toNatClampNeg = a := nI_clamp (by omega)
        have e40 : (40 : Int32) * nI s + nI a + 2 * nI j = nI (40 * s + (a + 2 * j)) := by
          show nI 40 * nI s + nI a + nI 2 * nI j = _
          rw [pk_mul, pk_mul, nI_add, nI_add, Nat.add_assoc]
        refine aw_bipush (v := 40) dX6_house_106 (by decide) ?_
        refine aw_iload_n dX6_house_108 rfl ?_
        refine aw_imul dX6_house_109 ?_
        refine aw_iload_n dX6_house_110 rfl ?_
        refine aw_iadd dX6_house_111 ?_
        refine aw_iconst (v := 2) dX6_house_112 (by decide) ?_
        refine aw_iload dX6_house_113 rfl ?_
        refine aw_imul dX6_house_115 ?_
        refine aw_iadd dX6_house_116 ?_
        refine aw_istore (ls' := [_, _, _, _, _, _, _, _]) dX6_house_117 (by decide) rfl rfl ?_
        refine aw_iload dX6_house_119 rfl ?_
        refine aw_aload_n dX6_house_121 rfl rfl ?_
        refine aw_aload_n dX6_house_122 rfl rfl ?_
        refine aw_gr dX6_house_123 fw_X6_60 hM.1 hM.2.2.2.2.2.2.2.2.2.2.2.2.2.2.2.2.2.2.2.2.2.2.2.2.2.2.2.2.2.1 ?_
        refine aw_iload dX6_house_126 rfl ?_
        refine aw_ia (40 * s + (a + 2 * j)) dX6_house_128 hM.2.2.2.2.2.2.2.2.2.2.2.2.2.2.2.2.2.2.2.2.2.2.2.2.2.2.2.2.2.2 e40 (by omega) (by decide) ?_
        refine aw_aload_n dX6_house_129 rfl rfl ?_
        refine aw_gr dX6_house_130 fw_X6_60 hM.1 hM.2.2.2.2.2.2.2.2.2.2.2.2.2.2.2.2.2.2.2.2.2.2.2.2.2.2.2.2.2.1 ?_
        refine aw_iload dX6_house_133 rfl ?_
        refine aw_iconst (v := 1) dX6_house_135 (by decide) ?_
        refine aw_iadd dX6_house_136 ?_
        refine aw_ia (40 * s + (a + 2 * j) + 1) dX6_house_137 hM.2.2.2.2.2.2.2.2.2.2.2.2.2.2.2.2.2.2.2.2.2.2.2.2.2.2.2.2.2.2 (by rw [e40]; exact nI_1 _) (by omega) (by decide) ?_
        refine aw_V2 dX6_house_138 cw_X6_449 ⟨_, _, rfl⟩ hM.1 (by omega) ⟨Nat.le_refl _, Nat.le_refl _⟩ (by simp [Value.category, psh]) (c_X6_reader (n := k0) (by omega) hM hk0 hk5 (fun cR => ?_) (fun cR eM => ?_) (fun cR eM => ?_))
        · refine aw_if_lt (tgt := 148) dX6_house_141 (by decide) (fun _ => ?_) (fun zz => absurd zz (by decide))
          refine aw_iconst (v := 0) dX6_house_148 (by decide) ?_
          refine aw_iadd dX6_house_149 ?_
          rw [show c + (0 : Int32) = c from Int32.add_zero c]
          refine aw_istore (ls' := [_, _, _, _, _, _, _, _]) dX6_house_150 (by decide) rfl rfl ?_
          refine aw_iinc (v := nI (j + 1)) (ls' := [_, _, _, _, _, _, _, _]) dX6_house_152 rfl (nI_1 j) (by decide) rfl rfl ?_
          refine aw_goto (tgt := 75) dX6_house_155 (by decide) ?_
          refine ih (j + 1) c k0 M _ (by omega) hk5 hk0 hsz (fun rv I9 e0 => hQ rv I9 ?_)
          rw [e0]
          simp only [hmF]
          rw [if_pos ⟨c83, c100⟩, et, if_neg (fun zz => cR zz.1)]
        · refine aw_if_lt (tgt := 148) dX6_house_141 (by decide) (fun _ => ?_) (fun zz => absurd zz (by decide))
          refine aw_iconst (v := 0) dX6_house_148 (by decide) ?_
          refine aw_iadd dX6_house_149 ?_
          rw [show c + (0 : Int32) = c from Int32.add_zero c]
          refine aw_istore (ls' := [_, _, _, _, _, _, _, _]) dX6_house_150 (by decide) rfl rfl ?_
          refine aw_iinc (v := nI (j + 1)) (ls' := [_, _, _, _, _, _, _, _]) dX6_house_152 rfl (nI_1 j) (by decide) rfl rfl ?_
          refine aw_goto (tgt := 75) dX6_house_155 (by decide) ?_
          refine ih (j + 1) c k0 M _ (by omega) hk5 hk0 hsz (fun rv I9 e0 => hQ rv I9 ?_)
          rw [e0]
          simp only [hmF]
          rw [if_pos ⟨c83, c100⟩, et, if_neg (fun zz => absurd zz.2 (by omega))]
        · refine aw_if_lt (tgt := 148) dX6_house_141 (by decide) (fun zz => absurd zz (nI_pos (by omega))) (fun c141 => ?_)
          refine aw_iconst (v := 1) dX6_house_144 (by decide) ?_
          refine aw_goto (tgt := 149) dX6_house_145 (by decide) ?_
          refine aw_iadd dX6_house_149 ?_
          refine aw_istore (ls' := [_, _, _, _, _, _, _, _]) dX6_house_150 (by decide) rfl rfl ?_
          refine aw_iinc (v := nI (j + 1)) (ls' := [_, _, _, _, _, _, _, _]) dX6_house_152 rfl (nI_1 j) (by decide) rfl rfl ?_
          refine aw_goto (tgt := 75) dX6_house_155 (by decide) ?_
          refine ih (j + 1) (c + 1) (k0 + 1) (rmM M k0 (M 63 (40 * s + (a + 2 * j))) (M 63 (40 * s + (a + 2 * j) + 1))) _ (by omega) (by omega) (by rw [show rmM M k0 _ _ 48 15 = nI (k0 + 1) from iU_same]) (by rw [rmM_row (by omega)]; exact hsz) (fun rv I9 e0 => hQ rv I9 ?_)
          rw [e0]
          simp only [hmF]
          rw [if_pos ⟨c83, c100⟩, et, if_pos ⟨cR, eM⟩]
      · refine aw_bipush (v := -12) dX6_house_103 (by decide) ?_
        refine aw_ireturn (ty := .int) dX6_house_105 rfl rfl ?_
        refine hQ _ _ ?_
        simp only [hmF]
        rw [if_neg (fun zz => c100 zz.2)]
theorem c_X6_house {E : Ev} {d : Nat} {I : Mi} {L : Ml} {Z : Mz} {Q : Po} {x : Int32} {y : Int32} {fr : Int32} {k : Int32} {m : Nat} (hd : 3 ≤ d) (hM : MZ Z) (hm : I 48 15 = nI m) (hm5 : m ≤ 5) (hz : ∀ s, s < 4 → ¬ I 60 s = 0 → ∃ z, z ≤ 40 ∧ I 62 s = nI z) (hB : ¬ ((¬ x < 0 ∧ ¬ 3 < x) ∧ (¬ y < 0 ∧ ¬ 2 < y) ∧ (¬ k < 0 ∧ ¬ 5 < k)) → Q (some (.int (-2))) I L Z) (hMs : ∀ s, s < 4 → x = nI s → (¬ y < 0 ∧ ¬ 2 < y) ∧ (¬ k < 0 ∧ ¬ 5 < k) → I 60 s = 0 → Q (some (.int (-11))) I L Z) (hT : ∀ s, s < 4 → x = nI s → (¬ y < 0 ∧ ¬ 2 < y) ∧ (¬ k < 0 ∧ ¬ 5 < k) → ¬ I 60 s = 0 → ¬ I 61 s = y → Q (some (.int (-13))) I L Z) (hS : ∀ s N, s < 4 → N ≤ 5 → x = nI s → k = nI N → (¬ y < 0 ∧ ¬ 2 < y) → ¬ I 60 s = 0 → I 61 s = y → ∀ (rv : Int32) (I9 : Mi), (rv, I9) = hmF s fr N 0 0 m I → Q (some (.int rv)) I9 L Z) : AC E yX6_house cX6_house 8 (some .int) d 0 0 [.ref 48, .int x, .int y, .int fr, .int k] I L Z Q := by
  refine ac_go (ls := [some (.ref 48), some (.int x), some (.int y), some (.int fr), some (.int k), none, none, none]) (by decide +kernel) (Nat.le_of_ble_eq_true rfl) rfl ?_
  refine aw_iload_n dX6_house_0 rfl ?_
  refine aw_S1 dX6_house_1 cw_X6_415 (by omega) ⟨Nat.le_refl _, Nat.le_refl _⟩ (by decide) (c_X6_isSheet (by omega) (fun c1 => ?_) (fun c1 => ?_))
  · refine aw_if_eq (tgt := 32) dX6_house_4 (by decide) (fun zz => absurd zz (by decide)) (fun _ => ?_)
    refine aw_iload_n dX6_house_7 rfl ?_
    refine aw_i2l dX6_house_8 ?_
    refine aw_lconst (v := 0) dX6_house_9 (by decide) ?_
    refine aw_ldc2 dX6_house_10 kw_X6_366 ?_
    refine aw_S3 dX6_house_13 cw_X6_73 (by omega) ⟨Nat.le_refl _, Nat.le_refl _⟩ (by decide) (c_X6_in (x := y) (a := 0) (b := 2) rfl (by decide) (by decide) (fun c13 => ?_) (fun c13 => ?_))
    · refine aw_if_eq (tgt := 32) dX6_house_16 (by decide) (fun zz => absurd zz (by decide)) (fun _ => ?_)
      refine aw_iload dX6_house_19 rfl ?_
      refine aw_i2l dX6_house_21 ?_
      refine aw_lconst (v := 0) dX6_house_22 (by decide) ?_
      refine aw_ldc2 dX6_house_23 kw_X6_92 ?_
      refine aw_S3 dX6_house_26 cw_X6_73 (by omega) ⟨Nat.le_refl _, Nat.le_refl _⟩ (by decide) (c_X6_in (x := k) (a := 0) (b := 5) rfl (by decide) (by decide) (fun c26 => ?_) (fun c26 => ?_))
      · refine aw_if_ne (tgt := 35) dX6_house_29 (by decide) (fun _ => ?_) (fun zz => absurd zz (by decide))
        obtain ⟨s, hs, rfl⟩ := sh4 c1
        refine aw_aload_n dX6_house_35 rfl rfl ?_
        refine aw_gr dX6_house_36 fw_X6_50 hM.1 hM.2.2.2.2.2.2.2.2.2.2.2.2.2.2.2.2.2.2.2.2.2.2.2.1 ?_
        refine aw_iload_n dX6_house_39 rfl ?_
        refine aw_za s dX6_house_40 hM.2.2.2.2.2.2.2.2.2.2.2.2.2.2.2.2.2.2.2.2.2.2.2.2.1 rfl hs (by decide) ?_
        refine aw_if_eq (tgt := 57) dX6_house_41 (by decide) (fun c41 => ?_) (fun c41 => ?_)
        · refine aw_aload_n dX6_house_57 rfl rfl ?_
          refine aw_gr dX6_house_58 fw_X6_50 hM.1 hM.2.2.2.2.2.2.2.2.2.2.2.2.2.2.2.2.2.2.2.2.2.2.2.1 ?_
          refine aw_iload_n dX6_house_61 rfl ?_
          refine aw_za s dX6_house_62 hM.2.2.2.2.2.2.2.2.2.2.2.2.2.2.2.2.2.2.2.2.2.2.2.2.1 rfl hs (by decide) ?_
          refine aw_if_ne (tgt := 69) dX6_house_63 (by decide) (fun zz => absurd c41 zz) (fun c63 => ?_)
          refine aw_bipush (v := -11) dX6_house_66 (by decide) ?_
          refine aw_ireturn (ty := .int) dX6_house_68 rfl rfl ?_
          exact hMs s hs rfl ⟨c13, c26⟩ c41
        · refine aw_aload_n dX6_house_44 rfl rfl ?_
          refine aw_gr dX6_house_45 fw_X6_54 hM.1 hM.2.2.2.2.2.2.2.2.2.2.2.2.2.2.2.2.2.2.2.2.2.2.2.2.2.1 ?_
          refine aw_iload_n dX6_house_48 rfl ?_
          refine aw_ia s dX6_house_49 hM.2.2.2.2.2.2.2.2.2.2.2.2.2.2.2.2.2.2.2.2.2.2.2.2.2.2.1 rfl hs (by decide) ?_
          refine aw_iload_n dX6_house_50 rfl ?_
          refine aw_icmp_eq (tgt := 57) dX6_house_51 (by decide) (fun c51 => ?_) (fun c51 => ?_)
          · refine aw_aload_n dX6_house_57 rfl rfl ?_
            refine aw_gr dX6_house_58 fw_X6_50 hM.1 hM.2.2.2.2.2.2.2.2.2.2.2.2.2.2.2.2.2.2.2.2.2.2.2.1 ?_
            refine aw_iload_n dX6_house_61 rfl ?_
            refine aw_za s dX6_house_62 hM.2.2.2.2.2.2.2.2.2.2.2.2.2.2.2.2.2.2.2.2.2.2.2.2.1 rfl hs (by decide) ?_
            refine aw_if_ne (tgt := 69) dX6_house_63 (by decide) (fun c63 => ?_) (fun zz => absurd zz c41)
            refine aw_iconst (v := 0) dX6_house_69 (by decide) ?_
            refine aw_istore (ls' := [_, _, _, _, _, _, _, _]) dX6_house_70 (by decide) rfl rfl ?_
            refine aw_iconst (v := 0) dX6_house_72 (by decide) ?_
            refine aw_istore (ls' := [_, _, _, _, _, _, _, _]) dX6_house_73 (by decide) rfl rfl ?_
            obtain ⟨N, hN, rfl⟩ := nI_of2 (M := 5) (n := 5) (by decide) c26.1 (Int32.not_lt.mp c26.2)
            obtain ⟨z, hz4, hsz⟩ := hz s hs c41
            exact l_X6_house hM hs hd hN hz4 N 0 0 m I _ (by omega) hm5 hm hsz (hS s N hs hN rfl rfl c13 c41 c51)
          · refine aw_bipush (v := -13) dX6_house_54 (by decide) ?_
            refine aw_ireturn (ty := .int) dX6_house_56 rfl rfl ?_
            exact hT s hs rfl ⟨c13, c26⟩ c41 c51
      · refine aw_if_ne (tgt := 35) dX6_house_29 (by decide) (fun zz => absurd zz (by decide)) (fun _ => ?_)
        refine aw_bipush (v := -2) dX6_house_32 (by decide) ?_
        refine aw_ireturn (ty := .int) dX6_house_34 rfl rfl ?_
        exact hB (fun zz => c26 zz.2.2)
    · refine aw_if_eq (tgt := 32) dX6_house_16 (by decide) (fun _ => ?_) (fun zz => absurd zz (by decide))
      refine aw_bipush (v := -2) dX6_house_32 (by decide) ?_
      refine aw_ireturn (ty := .int) dX6_house_34 rfl rfl ?_
      exact hB (fun zz => c13 zz.2.1)
  · refine aw_if_eq (tgt := 32) dX6_house_4 (by decide) (fun _ => ?_) (fun zz => absurd zz (by decide))
    refine aw_bipush (v := -2) dX6_house_32 (by decide) ?_
    refine aw_ireturn (ty := .int) dX6_house_34 rfl rfl ?_
    exact hB (fun zz => c1 zz.1)
