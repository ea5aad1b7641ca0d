/-! ===== the reference: what one reads ===== -/
def TXM (I : Mi) (v : Nat) (W : Nat → (Nat → Int32) → Int32) : Prop := ∃ (B : Nat → Int32) (n kk : Nat) (x1 x2 x3 : List Int32 × Vl), I 50 v = nI n ∧ n ≤ 160 ∧ (∀ i, i < n → I 49 (160 * v + i) = B i ∧ ¬ B i < 0) ∧ txR (SS B n) (VV B n) = (kk, some (x1, x2, x3)) ∧ ∀ nm, W 0 nm = x1.2 nm ∧ W 1 nm = x2.2 nm ∧ W 2 nm = x3.2 nm
def RDM (I : Mi) (W : Nat → (Nat → Int32) → Int32) (ru n m : Nat) : Prop := (I 48 4 = nI ru ∧ ru < 6 ∧ TXM I ru W) ∧ (I 48 10 = nI n ∧ n ≤ 6) ∧ (I 48 15 = nI m ∧ m ≤ 5) ∧ (∀ c, c < n → S12 (I 52 (2 * c))) ∧ (∀ p, p < m → ∃ q, q ≤ 5 ∧ I 54 p = nI q) ∧ ∃ H, H ≤ 2000 ∧ I 48 8 = nI H
theorem TXM.eqv {I J : Mi} {v : Nat} {W : Nat → (Nat → Int32) → Int32} (h : TXM I v W) (e1 : J 49 = I 49) (e2 : J 50 = I 50) : TXM J v W := by
  obtain ⟨B, n, kk, x1, x2, x3, a1, a2, a3, a4, a5⟩ := h
  exact ⟨B, n, kk, x1, x2, x3, by rw [e2]; exact a1, a2, by rw [e1]; exact a3, a4, a5⟩
theorem SaM.row {I J : Mi} (s : SaM I J) {a : Nat} (h : a ≠ 48) : J a = I a := by
  funext j
  exact s a j (by omega)
theorem SaM.st {I : Mi} {x : Int32} : SaM I (iU I 48 31 x) := SaM.rf.put (by omega)
theorem RDM.sam {I J : Mi} {W : Nat → (Nat → Int32) → Int32} {ru n m : Nat} (h : RDM I W ru n m) (s : SaM I J) : RDM J W ru n m := by
  obtain ⟨⟨a1, a2, a3⟩, ⟨b1, b2⟩, ⟨c1, c2⟩, d, e, H, f1, f2⟩ := h
  refine ⟨⟨by rw [s _ _ (by omega)]; exact a1, a2, a3.eqv (s.row (by omega)) (s.row (by omega))⟩, ⟨by rw [s _ _ (by omega)]; exact b1, b2⟩, ⟨by rw [s _ _ (by omega)]; exact c1, c2⟩, ?_, ?_, H, f1, by rw [s _ _ (by omega)]; exact f2⟩
  · rw [s.row (by omega)]; exact d
  · rw [s.row (by omega)]; exact e
def rlM (I : Mi) (W : Nat → (Nat → Int32) → Int32) (w p c : Nat) : Int32 := clV (if w = 2 then 0 else -99) (W w (nmV (bcV (I 52 (2 * c))) (I 52 (2 * c + 1)) (I 55 (2 * p)) (I 48 8) (I 55 (2 * p + 1)) (nI c)))
def rlO (I : Mi) (W : Nat → (Nat → Int32) → Int32) (p : Nat) : Int32 := clV 0 (W 2 (nmV 0 0 (I 55 (2 * p)) (I 48 8) (I 55 (2 * p + 1)) 0))
def rbM (I : Mi) (W : Nat → (Nat → Int32) → Int32) (p c : Nat) : Int32 := seV (I 54 p) (I 55 (2 * p)) (I 52 (2 * c)) (rlM I W 0 p c) &&& (ovV (I 54 p) (I 55 (2 * p)) (I 48 8) (rlM I W 1 p c) ^^^ -1) &&& (((1 : Int32) <<< (I 52 (2 * c + 1) &&& 31)) ^^^ -1)
abbrev sdM (I : Mi) (W : Nat → (Nat → Int32) → Int32) (p : Nat) : Prop := if I 54 p = 0 ∨ I 54 p = 2 then ¬ rlO I W p ≤ I 55 (2 * p + 1) else if I 54 p = 4 then ¬ 2 * rlO I W p ≤ I 55 (2 * p + 1) else True
theorem rlM_sam {I J : Mi} {W : Nat → (Nat → Int32) → Int32} {w p c : Nat} (s : SaM I J) : rlM J W w p c = rlM I W w p c := by
  simp only [rlM, s.row (a := 52) (by omega), s.row (a := 55) (by omega), s 48 8 (by omega)]
theorem rlO_sam {I J : Mi} {W : Nat → (Nat → Int32) → Int32} {p : Nat} (s : SaM I J) : rlO J W p = rlO I W p := by
  simp only [rlO, s.row (a := 55) (by omega), s 48 8 (by omega)]
theorem rbM_sam {I J : Mi} {W : Nat → (Nat → Int32) → Int32} {p c : Nat} (s : SaM I J) : rbM J W p c = rbM I W p c := by
  simp only [rbM, rlM_sam s, s.row (a := 52) (by omega), s.row (a := 54) (by omega), s.row (a := 55) (by omega), s 48 8 (by omega)]
theorem wi_cl {lo w : Int32} (h : lo ≤ 99) : wiV lo w 99 = clV lo w := by
  unfold wiV clV
  rw [Int32.le_iff_toInt_le] at h
  have e99 : (99 : Int32).toInt = 99 := by decide
  by_cases h1 : lo ≤ w
  · rw [if_pos h1]
    by_cases h2 : w < 99
    · rw [if_pos (Int32.le_of_lt h2), if_pos h2]
      by_cases h3 : lo < w
      · rw [if_pos h3]
      · rw [if_neg h3]; exact Int32.le_antisymm (Int32.not_lt.mp h3) h1
    · have h4 : (99 : Int32) ≤ w := Int32.not_lt.mp h2
      rw [if_neg h2]
      by_cases h5 : w ≤ 99
      · rw [if_pos h5, Int32.le_antisymm h5 h4]
        by_cases h3 : lo < 99
        · rw [if_pos h3]
        · rw [if_neg h3]; exact Int32.le_antisymm (Int32.not_lt.mp h3) (Int32.le_iff_toInt_le.mpr h)
      · rw [if_neg h5]
        by_cases h3 : lo < 99
        · rw [if_pos h3]
        · rw [if_neg h3]; exact Int32.le_antisymm (Int32.not_lt.mp h3) (Int32.le_iff_toInt_le.mpr h)
  · have h2 : w < lo := Int32.not_le.mp h1
    rw [if_neg h1]
    rw [Int32.lt_iff_toInt_lt] at h2
    have h3 : w < 99 := by rw [Int32.lt_iff_toInt_lt]; omega
    rw [if_pos h3, if_neg (by rw [Int32.lt_iff_toInt_lt]; omega)]
theorem cl_rng {w : Int32} : ¬ clV (-99) w < -99 ∧ ¬ 99 < clV (-99) w := by
  unfold clV
  have e99 : (99 : Int32).toInt = 99 := by decide
  have f99 : (-99 : Int32).toInt = -99 := by decide
  by_cases h2 : w < 99
  · rw [if_pos h2]
    by_cases h3 : (-99 : Int32) < w
    · rw [if_pos h3]; rw [Int32.lt_iff_toInt_lt] at *; rw [Int32.lt_iff_toInt_lt]; omega
    · rw [if_neg h3]; decide
  · rw [if_neg h2]; decide
theorem hr_odd {x : Int32} {H : Nat} (hH : H ≤ 2000) (h : x = nI H) (g : ¬ x - x / 2 * 2 = 0) : x - x / 2 * 2 = 1 := by
  subst h
  have hd : nI H / 2 = nI (H / 2) := by
    apply Int32.toInt_inj.mp
    rw [lg_idiv_nonneg (by rw [nI_toInt (by omega)]; omega) (by decide), nI_toInt (by omega), nI_toInt (by omega)]
    exact (Int.natCast_ediv H 2).symm
  rw [hd] at g ⊢
  have e2 : nI (H / 2) * 2 = nI (H / 2 * 2) := pk_mul (H / 2) 2
  rw [e2, pk_sub (by omega)] at g ⊢
  have : H - H / 2 * 2 = 0 ∨ H - H / 2 * 2 = 1 := by omega
  rcases this with e | e
  · rw [e] at g; exact absurd rfl g
  · rw [e]; rfl
theorem q6 {q : Nat} (h : q ≤ 5) : q = 0 ∨ q = 1 ∨ q = 2 ∨ q = 3 ∨ q = 4 ∨ q = 5 := by omega
theorem c_X6_seenBy0 {E : Ev} {d : Nat} {I : Mi} {L : Ml} {Z : Mz} {Q : Po}  {W : Nat → (Nat → Int32) → Int32} {ru n m : Nat} {p c : Nat} (hd : 43 ≤ d) (hM : MZ Z) (hR : RDM I W ru n m) (hp : p < m) (hc : c < n) (hk : I 54 p = 0) (hQ : ∀ (rv : Int32) (I9 : Mi) (L9 : Ml), SaM I I9 → rv = seV 0 (I 55 (2 * p)) (I 52 (2 * c)) (rlM I W 0 p c) → Q (some (.int rv)) I9 L9 Z) : AC E yX6_seenBy cX6_seenBy 7 (some .int) d 0 0 [.ref 48, .int (nI p), .int (nI c)] I L Z Q := by
  refine ac_go (ls := [some (.ref 48), some (.int (nI p)), some (.int (nI c)), none, none, none, none]) (by decide +kernel) (Nat.le_of_ble_eq_true rfl) rfl ?_
  obtain ⟨⟨hru, hr6, B, nb, kk, x1, x2, x3, t1, t2, t3, t4, t5⟩, ⟨hn1, hn2⟩, ⟨hm1, hm2⟩, hgr, hki, H0, hH1, hH2⟩ := hR
  obtain ⟨gv, hgv, egv⟩ := hgr c hc
  refine aw_aload_n dX6_seenBy_0 rfl rfl ?_
  refine aw_gr dX6_seenBy_1 fw_X6_29 hM.1 hM.2.2.2.2.2.2.2.2.2.2.2.1 ?_
  refine aw_iload_n dX6_seenBy_4 rfl ?_
  refine aw_ia p dX6_seenBy_5 hM.2.2.2.2.2.2.2.2.2.2.2.2.1 rfl (by omega) (by decide) ?_
  rw [hk]
  refine aw_istore_n (ls' := [_, _, _, _, _, _, _]) dX6_seenBy_6 (by decide) rfl rfl ?_
  refine aw_aload_n dX6_seenBy_7 rfl rfl ?_
  refine aw_gr dX6_seenBy_8 fw_X6_23 hM.1 hM.2.2.2.2.2.2.2.1 ?_
  refine aw_iconst (v := 2) dX6_seenBy_11 (by decide) ?_
  refine aw_iload_n dX6_seenBy_12 rfl ?_
  refine aw_imul dX6_seenBy_13 ?_
  refine aw_ia (2 * c) dX6_seenBy_14 hM.2.2.2.2.2.2.2.2.1 (ix0 c) (by omega) (by decide) ?_
  refine aw_istore (ls' := [_, _, _, _, _, _, _]) dX6_seenBy_15 (by decide) rfl rfl ?_
  refine aw_iload_n dX6_seenBy_17 rfl ?_
  refine aw_iconst (v := 5) dX6_seenBy_18 (by decide) ?_
  refine aw_icmp_ne (tgt := 25) dX6_seenBy_19 (by decide) (fun _ => ?_) (fun zz => absurd zz (by decide))
  refine aw_aload_n dX6_seenBy_25 rfl rfl ?_
  refine aw_iconst (v := 0) dX6_seenBy_26 (by decide) ?_
  refine aw_iload_n dX6_seenBy_27 rfl ?_
  refine aw_iload_n dX6_seenBy_28 rfl ?_
  refine aw_V3 dX6_seenBy_29 cw_X6_348 ⟨_, _, rfl⟩ hM.1 (by omega) ⟨Nat.le_refl _, Nat.le_refl _⟩ (by decide) (c_X6_says0 (B := B) (n := nb) (by omega) hM (by omega) (by omega) egv hgv hru hr6 t1 t2 t3 t4 (fun rs I9 L9 s9 es => ?_))
  rw [wi_cl (by decide), ← (t5 _).1] at es
  have hrg : ¬ rs < -99 ∧ ¬ 99 < rs := by rw [es]; exact cl_rng
  refine aw_S1 dX6_seenBy_32 cw_X6_351 (by omega) ⟨Nat.le_refl _, Nat.le_refl _⟩ (by decide) (c_X6_modulo hrg (fun r32 e32 => ?_))
  refine aw_istore (ls' := [_, _, _, _, _, _, _]) dX6_seenBy_35 (by decide) rfl rfl ?_
  refine aw_iload_n dX6_seenBy_37 rfl ?_
  refine aw_iconst (v := 1) dX6_seenBy_38 (by decide) ?_
  refine aw_icmp_eq (tgt := 47) dX6_seenBy_39 (by decide) (fun zz => absurd zz (by decide)) (fun _ => ?_)
  refine aw_iload_n dX6_seenBy_42 rfl ?_
  refine aw_iconst (v := 3) dX6_seenBy_43 (by decide) ?_
  refine aw_icmp_ne (tgt := 73) dX6_seenBy_44 (by decide) (fun _ => ?_) (fun zz => absurd zz (by decide))
  refine aw_iload_n dX6_seenBy_73 rfl ?_
  refine aw_iconst (v := 4) dX6_seenBy_74 (by decide) ?_
  refine aw_icmp_ne (tgt := 89) dX6_seenBy_75 (by decide) (fun _ => ?_) (fun zz => absurd zz (by decide))
  refine aw_iload dX6_seenBy_89 rfl ?_
  refine aw_iload dX6_seenBy_91 rfl ?_
  refine aw_S2 dX6_seenBy_93 cw_X6_354 (by omega) ⟨Nat.le_refl _, Nat.le_refl _⟩ (by decide) (c_X6_turned (fun r93 e93 => ?_))
  refine aw_istore (ls' := [_, _, _, _, _, _, _]) dX6_seenBy_96 (by decide) rfl rfl ?_
  refine aw_iload_n dX6_seenBy_98 rfl ?_
  refine aw_if_ne (tgt := 107) dX6_seenBy_99 (by decide) (fun zz => absurd zz (by decide)) (fun _ => ?_)
  refine aw_iload dX6_seenBy_102 rfl ?_
  refine aw_goto (tgt := 120) dX6_seenBy_104 (by decide) ?_
  refine aw_ireturn (ty := .int) dX6_seenBy_120 rfl rfl ?_
  refine hQ _ _ _ s9 ?_
  rw [show rlM I W 0 p c = rs from es.symm]
  subst e93 e32
  simp (decide := true) only [seV, if_true, if_false]
theorem c_X6_overlookedBy0 {E : Ev} {d : Nat} {I : Mi} {L : Ml} {Z : Mz} {Q : Po}  {W : Nat → (Nat → Int32) → Int32} {ru n m : Nat} {p c : Nat} (hd : 43 ≤ d) (hM : MZ Z) (hR : RDM I W ru n m) (hp : p < m) (hc : c < n) (hk : I 54 p = 0) (hQ : ∀ (rv : Int32) (I9 : Mi) (L9 : Ml), SaM I I9 → rv = ovV 0 (I 55 (2 * p)) (I 48 8) (rlM I W 1 p c) → Q (some (.int rv)) I9 L9 Z) : AC E yX6_overlookedBy cX6_overlookedBy 5 (some .int) d 0 0 [.ref 48, .int (nI p), .int (nI c)] I L Z Q := by
  refine ac_go (ls := [some (.ref 48), some (.int (nI p)), some (.int (nI c)), none, none]) (by decide +kernel) (Nat.le_of_ble_eq_true rfl) rfl ?_
  obtain ⟨⟨hru, hr6, B, nb, kk, x1, x2, x3, t1, t2, t3, t4, t5⟩, ⟨hn1, hn2⟩, ⟨hm1, hm2⟩, hgr, hki, H0, hH1, hH2⟩ := hR
  obtain ⟨gv, hgv, egv⟩ := hgr c hc
  refine aw_aload_n dX6_overlookedBy_0 rfl rfl ?_
  refine aw_gr dX6_overlookedBy_1 fw_X6_29 hM.1 hM.2.2.2.2.2.2.2.2.2.2.2.1 ?_
  refine aw_iload_n dX6_overlookedBy_4 rfl ?_
  refine aw_ia p dX6_overlookedBy_5 hM.2.2.2.2.2.2.2.2.2.2.2.2.1 rfl (by omega) (by decide) ?_
  rw [hk]
  refine aw_istore_n (ls' := [_, _, _, _, _]) dX6_overlookedBy_6 (by decide) rfl rfl ?_
  refine aw_iload_n dX6_overlookedBy_7 rfl ?_
  refine aw_iconst (v := 1) dX6_overlookedBy_8 (by decide) ?_
  refine aw_icmp_eq (tgt := 31) dX6_overlookedBy_9 (by decide) (fun zz => absurd zz (by decide)) (fun _ => ?_)
  refine aw_iload_n dX6_overlookedBy_12 rfl ?_
  refine aw_iconst (v := 5) dX6_overlookedBy_13 (by decide) ?_
  refine aw_icmp_eq (tgt := 31) dX6_overlookedBy_14 (by decide) (fun zz => absurd zz (by decide)) (fun _ => ?_)
  refine aw_iload_n dX6_overlookedBy_17 rfl ?_
  refine aw_iconst (v := 4) dX6_overlookedBy_18 (by decide) ?_
  refine aw_icmp_ne (tgt := 33) dX6_overlookedBy_19 (by decide) (fun _ => ?_) (fun zz => absurd zz (by decide))
  refine aw_iload_n dX6_overlookedBy_33 rfl ?_
  refine aw_iconst (v := 3) dX6_overlookedBy_34 (by decide) ?_
  refine aw_icmp_ne (tgt := 49) dX6_overlookedBy_35 (by decide) (fun _ => ?_) (fun zz => absurd zz (by decide))
  refine aw_iconst (v := 1) dX6_overlookedBy_49 (by decide) ?_
  refine aw_aload_n dX6_overlookedBy_50 rfl rfl ?_
  refine aw_iconst (v := 1) dX6_overlookedBy_51 (by decide) ?_
  refine aw_iload_n dX6_overlookedBy_52 rfl ?_
  refine aw_iload_n dX6_overlookedBy_53 rfl ?_
  refine aw_V3 dX6_overlookedBy_54 cw_X6_348 ⟨_, _, rfl⟩ hM.1 (by omega) ⟨Nat.le_refl _, Nat.le_refl _⟩ (by simp [Value.category, psh]) (c_X6_says1 (B := B) (n := nb) (by omega) hM (by omega) (by omega) egv hgv hru hr6 t1 t2 t3 t4 (fun rs I9 L9 s9 es => ?_))
  rw [wi_cl (by decide), ← (t5 _).2.1] at es
  have hrg : ¬ rs < -99 ∧ ¬ 99 < rs := by rw [es]; exact cl_rng
  refine aw_S1 dX6_overlookedBy_57 cw_X6_351 (by omega) ⟨Nat.le_refl _, Nat.le_refl _⟩ (by simp [Value.category, psh]) (c_X6_modulo hrg (fun r57 e57 => ?_))
  refine aw_ishl dX6_overlookedBy_60 ?_
  refine aw_istore (ls' := [_, _, _, _, _]) dX6_overlookedBy_61 (by decide) rfl rfl ?_
  refine aw_iload_n dX6_overlookedBy_63 rfl ?_
  refine aw_if_ne (tgt := 72) dX6_overlookedBy_64 (by decide) (fun zz => absurd zz (by decide)) (fun _ => ?_)
  refine aw_iload dX6_overlookedBy_67 rfl ?_
  refine aw_goto (tgt := 79) dX6_overlookedBy_69 (by decide) ?_
  refine aw_ireturn (ty := .int) dX6_overlookedBy_79 rfl rfl ?_
  refine hQ _ _ _ s9 ?_
  rw [show rlM I W 1 p c = rs from es.symm]
  subst e57
  simp (decide := true) only [ovV, msV, if_true, if_false]
theorem c_X6_seenBy1 {E : Ev} {d : Nat} {I : Mi} {L : Ml} {Z : Mz} {Q : Po}  {W : Nat → (Nat → Int32) → Int32} {ru n m : Nat} {p c : Nat} (hd : 43 ≤ d) (hM : MZ Z) (hR : RDM I W ru n m) (hp : p < m) (hc : c < n) (hk : I 54 p = 1) (hQ : ∀ (rv : Int32) (I9 : Mi) (L9 : Ml), SaM I I9 → rv = seV 1 (I 55 (2 * p)) (I 52 (2 * c)) (rlM I W 0 p c) → Q (some (.int rv)) I9 L9 Z) : AC E yX6_seenBy cX6_seenBy 7 (some .int) d 0 0 [.ref 48, .int (nI p), .int (nI c)] I L Z Q := by
  refine ac_go (ls := [some (.ref 48), some (.int (nI p)), some (.int (nI c)), none, none, none, none]) (by decide +kernel) (Nat.le_of_ble_eq_true rfl) rfl ?_
  obtain ⟨⟨hru, hr6, B, nb, kk, x1, x2, x3, t1, t2, t3, t4, t5⟩, ⟨hn1, hn2⟩, ⟨hm1, hm2⟩, hgr, hki, H0, hH1, hH2⟩ := hR
  obtain ⟨gv, hgv, egv⟩ := hgr c hc
  refine aw_aload_n dX6_seenBy_0 rfl rfl ?_
  refine aw_gr dX6_seenBy_1 fw_X6_29 hM.1 hM.2.2.2.2.2.2.2.2.2.2.2.1 ?_
  refine aw_iload_n dX6_seenBy_4 rfl ?_
  refine aw_ia p dX6_seenBy_5 hM.2.2.2.2.2.2.2.2.2.2.2.2.1 rfl (by omega) (by decide) ?_
  rw [hk]
  refine aw_istore_n (ls' := [_, _, _, _, _, _, _]) dX6_seenBy_6 (by decide) rfl rfl ?_
  refine aw_aload_n dX6_seenBy_7 rfl rfl ?_
  refine aw_gr dX6_seenBy_8 fw_X6_23 hM.1 hM.2.2.2.2.2.2.2.1 ?_
  refine aw_iconst (v := 2) dX6_seenBy_11 (by decide) ?_
  refine aw_iload_n dX6_seenBy_12 rfl ?_
  refine aw_imul dX6_seenBy_13 ?_
  refine aw_ia (2 * c) dX6_seenBy_14 hM.2.2.2.2.2.2.2.2.1 (ix0 c) (by omega) (by decide) ?_
  refine aw_istore (ls' := [_, _, _, _, _, _, _]) dX6_seenBy_15 (by decide) rfl rfl ?_
  refine aw_iload_n dX6_seenBy_17 rfl ?_
  refine aw_iconst (v := 5) dX6_seenBy_18 (by decide) ?_
  refine aw_icmp_ne (tgt := 25) dX6_seenBy_19 (by decide) (fun _ => ?_) (fun zz => absurd zz (by decide))
  refine aw_aload_n dX6_seenBy_25 rfl rfl ?_
  refine aw_iconst (v := 0) dX6_seenBy_26 (by decide) ?_
  refine aw_iload_n dX6_seenBy_27 rfl ?_
  refine aw_iload_n dX6_seenBy_28 rfl ?_
  refine aw_V3 dX6_seenBy_29 cw_X6_348 ⟨_, _, rfl⟩ hM.1 (by omega) ⟨Nat.le_refl _, Nat.le_refl _⟩ (by decide) (c_X6_says0 (B := B) (n := nb) (by omega) hM (by omega) (by omega) egv hgv hru hr6 t1 t2 t3 t4 (fun rs I9 L9 s9 es => ?_))
  rw [wi_cl (by decide), ← (t5 _).1] at es
  have hrg : ¬ rs < -99 ∧ ¬ 99 < rs := by rw [es]; exact cl_rng
  refine aw_S1 dX6_seenBy_32 cw_X6_351 (by omega) ⟨Nat.le_refl _, Nat.le_refl _⟩ (by decide) (c_X6_modulo hrg (fun r32 e32 => ?_))
  refine aw_istore (ls' := [_, _, _, _, _, _, _]) dX6_seenBy_35 (by decide) rfl rfl ?_
  refine aw_iload_n dX6_seenBy_37 rfl ?_
  refine aw_iconst (v := 1) dX6_seenBy_38 (by decide) ?_
  refine aw_icmp_eq (tgt := 47) dX6_seenBy_39 (by decide) (fun _ => ?_) (fun zz => absurd zz (by decide))
  refine aw_iload_n dX6_seenBy_47 rfl ?_
  refine aw_iconst (v := 3) dX6_seenBy_48 (by decide) ?_
  refine aw_icmp_ne (tgt := 62) dX6_seenBy_49 (by decide) (fun _ => ?_) (fun zz => absurd zz (by decide))
  refine aw_iload dX6_seenBy_62 rfl ?_
  refine aw_iload dX6_seenBy_64 rfl ?_
  refine aw_S2 dX6_seenBy_66 cw_X6_354 (by omega) ⟨Nat.le_refl _, Nat.le_refl _⟩ (by decide) (c_X6_turned (fun r66 e66 => ?_))
  refine aw_S1 dX6_seenBy_69 cw_X6_357 (by omega) ⟨Nat.le_refl _, Nat.le_refl _⟩ (by decide) (c_X6_mirrored (fun r69 e69 => ?_))
  refine aw_ireturn (ty := .int) dX6_seenBy_72 rfl rfl ?_
  refine hQ _ _ _ s9 ?_
  rw [show rlM I W 0 p c = rs from es.symm]
  subst e69 e66 e32
  simp (decide := true) only [seV, if_true, if_false]
theorem c_X6_overlookedBy1 {E : Ev} {d : Nat} {I : Mi} {L : Ml} {Z : Mz} {Q : Po}  {W : Nat → (Nat → Int32) → Int32} {ru n m : Nat} {p c : Nat} (hd : 43 ≤ d) (hM : MZ Z) (hR : RDM I W ru n m) (hp : p < m) (hc : c < n) (hk : I 54 p = 1) (hQ : ∀ (rv : Int32) (I9 : Mi) (L9 : Ml), SaM I I9 → rv = ovV 1 (I 55 (2 * p)) (I 48 8) (rlM I W 1 p c) → Q (some (.int rv)) I9 L9 Z) : AC E yX6_overlookedBy cX6_overlookedBy 5 (some .int) d 0 0 [.ref 48, .int (nI p), .int (nI c)] I L Z Q := by
  refine ac_go (ls := [some (.ref 48), some (.int (nI p)), some (.int (nI c)), none, none]) (by decide +kernel) (Nat.le_of_ble_eq_true rfl) rfl ?_
  obtain ⟨⟨hru, hr6, B, nb, kk, x1, x2, x3, t1, t2, t3, t4, t5⟩, ⟨hn1, hn2⟩, ⟨hm1, hm2⟩, hgr, hki, H0, hH1, hH2⟩ := hR
  obtain ⟨gv, hgv, egv⟩ := hgr c hc
  refine aw_aload_n dX6_overlookedBy_0 rfl rfl ?_
  refine aw_gr dX6_overlookedBy_1 fw_X6_29 hM.1 hM.2.2.2.2.2.2.2.2.2.2.2.1 ?_
  refine aw_iload_n dX6_overlookedBy_4 rfl ?_
  refine aw_ia p dX6_overlookedBy_5 hM.2.2.2.2.2.2.2.2.2.2.2.2.1 rfl (by omega) (by decide) ?_
  rw [hk]
  refine aw_istore_n (ls' := [_, _, _, _, _]) dX6_overlookedBy_6 (by decide) rfl rfl ?_
  refine aw_iload_n dX6_overlookedBy_7 rfl ?_
  refine aw_iconst (v := 1) dX6_overlookedBy_8 (by decide) ?_
  refine aw_icmp_eq (tgt := 31) dX6_overlookedBy_9 (by decide) (fun _ => ?_) (fun zz => absurd zz (by decide))
  refine aw_iconst (v := 0) dX6_overlookedBy_31 (by decide) ?_
  refine aw_ireturn (ty := .int) dX6_overlookedBy_32 rfl rfl ?_
  exact hQ _ _ _ SaM.rf (by simp (decide := true) only [ovV, if_true, if_false])
theorem c_X6_seenBy2 {E : Ev} {d : Nat} {I : Mi} {L : Ml} {Z : Mz} {Q : Po}  {W : Nat → (Nat → Int32) → Int32} {ru n m : Nat} {p c : Nat} (hd : 43 ≤ d) (hM : MZ Z) (hR : RDM I W ru n m) (hp : p < m) (hc : c < n) (hk : I 54 p = 2) (hQ : ∀ (rv : Int32) (I9 : Mi) (L9 : Ml), SaM I I9 → rv = seV 2 (I 55 (2 * p)) (I 52 (2 * c)) (rlM I W 0 p c) → Q (some (.int rv)) I9 L9 Z) : AC E yX6_seenBy cX6_seenBy 7 (some .int) d 0 0 [.ref 48, .int (nI p), .int (nI c)] I L Z Q := by
  refine ac_go (ls := [some (.ref 48), some (.int (nI p)), some (.int (nI c)), none, none, none, none]) (by decide +kernel) (Nat.le_of_ble_eq_true rfl) rfl ?_
  obtain ⟨⟨hru, hr6, B, nb, kk, x1, x2, x3, t1, t2, t3, t4, t5⟩, ⟨hn1, hn2⟩, ⟨hm1, hm2⟩, hgr, hki, H0, hH1, hH2⟩ := hR
  obtain ⟨gv, hgv, egv⟩ := hgr c hc
  refine aw_aload_n dX6_seenBy_0 rfl rfl ?_
  refine aw_gr dX6_seenBy_1 fw_X6_29 hM.1 hM.2.2.2.2.2.2.2.2.2.2.2.1 ?_
  refine aw_iload_n dX6_seenBy_4 rfl ?_
  refine aw_ia p dX6_seenBy_5 hM.2.2.2.2.2.2.2.2.2.2.2.2.1 rfl (by omega) (by decide) ?_
  rw [hk]
  refine aw_istore_n (ls' := [_, _, _, _, _, _, _]) dX6_seenBy_6 (by decide) rfl rfl ?_
  refine aw_aload_n dX6_seenBy_7 rfl rfl ?_
  refine aw_gr dX6_seenBy_8 fw_X6_23 hM.1 hM.2.2.2.2.2.2.2.1 ?_
  refine aw_iconst (v := 2) dX6_seenBy_11 (by decide) ?_
  refine aw_iload_n dX6_seenBy_12 rfl ?_
  refine aw_imul dX6_seenBy_13 ?_
  refine aw_ia (2 * c) dX6_seenBy_14 hM.2.2.2.2.2.2.2.2.1 (ix0 c) (by omega) (by decide) ?_
  refine aw_istore (ls' := [_, _, _, _, _, _, _]) dX6_seenBy_15 (by decide) rfl rfl ?_
  refine aw_iload_n dX6_seenBy_17 rfl ?_
  refine aw_iconst (v := 5) dX6_seenBy_18 (by decide) ?_
  refine aw_icmp_ne (tgt := 25) dX6_seenBy_19 (by decide) (fun _ => ?_) (fun zz => absurd zz (by decide))
  refine aw_aload_n dX6_seenBy_25 rfl rfl ?_
  refine aw_iconst (v := 0) dX6_seenBy_26 (by decide) ?_
  refine aw_iload_n dX6_seenBy_27 rfl ?_
  refine aw_iload_n dX6_seenBy_28 rfl ?_
  refine aw_V3 dX6_seenBy_29 cw_X6_348 ⟨_, _, rfl⟩ hM.1 (by omega) ⟨Nat.le_refl _, Nat.le_refl _⟩ (by decide) (c_X6_says0 (B := B) (n := nb) (by omega) hM (by omega) (by omega) egv hgv hru hr6 t1 t2 t3 t4 (fun rs I9 L9 s9 es => ?_))
  rw [wi_cl (by decide), ← (t5 _).1] at es
  have hrg : ¬ rs < -99 ∧ ¬ 99 < rs := by rw [es]; exact cl_rng
  refine aw_S1 dX6_seenBy_32 cw_X6_351 (by omega) ⟨Nat.le_refl _, Nat.le_refl _⟩ (by decide) (c_X6_modulo hrg (fun r32 e32 => ?_))
  refine aw_istore (ls' := [_, _, _, _, _, _, _]) dX6_seenBy_35 (by decide) rfl rfl ?_
  refine aw_iload_n dX6_seenBy_37 rfl ?_
  refine aw_iconst (v := 1) dX6_seenBy_38 (by decide) ?_
  refine aw_icmp_eq (tgt := 47) dX6_seenBy_39 (by decide) (fun zz => absurd zz (by decide)) (fun _ => ?_)
  refine aw_iload_n dX6_seenBy_42 rfl ?_
  refine aw_iconst (v := 3) dX6_seenBy_43 (by decide) ?_
  refine aw_icmp_ne (tgt := 73) dX6_seenBy_44 (by decide) (fun _ => ?_) (fun zz => absurd zz (by decide))
  refine aw_iload_n dX6_seenBy_73 rfl ?_
  refine aw_iconst (v := 4) dX6_seenBy_74 (by decide) ?_
  refine aw_icmp_ne (tgt := 89) dX6_seenBy_75 (by decide) (fun _ => ?_) (fun zz => absurd zz (by decide))
  refine aw_iload dX6_seenBy_89 rfl ?_
  refine aw_iload dX6_seenBy_91 rfl ?_
  refine aw_S2 dX6_seenBy_93 cw_X6_354 (by omega) ⟨Nat.le_refl _, Nat.le_refl _⟩ (by decide) (c_X6_turned (fun r93 e93 => ?_))
  refine aw_istore (ls' := [_, _, _, _, _, _, _]) dX6_seenBy_96 (by decide) rfl rfl ?_
  refine aw_iload_n dX6_seenBy_98 rfl ?_
  refine aw_if_ne (tgt := 107) dX6_seenBy_99 (by decide) (fun _ => ?_) (fun zz => absurd zz (by decide))
  refine aw_iload dX6_seenBy_107 rfl ?_
  refine aw_iconst (v := 1) dX6_seenBy_109 (by decide) ?_
  refine aw_aload_n dX6_seenBy_110 rfl rfl ?_
  refine aw_gr dX6_seenBy_111 fw_X6_32 hM.1 hM.2.2.2.2.2.2.2.2.2.2.2.2.2.1 ?_
  refine aw_iconst (v := 2) dX6_seenBy_114 (by decide) ?_
  refine aw_iload_n dX6_seenBy_115 rfl ?_
  refine aw_imul dX6_seenBy_116 ?_
  refine aw_ia (2 * p) dX6_seenBy_117 hM.2.2.2.2.2.2.2.2.2.2.2.2.2.2.1 (ix0 p) (by omega) (by decide) ?_
  rw [s9.row (a := 55) (by omega)]
  refine aw_ishl dX6_seenBy_118 ?_
  refine aw_ixor dX6_seenBy_119 ?_
  refine aw_ireturn (ty := .int) dX6_seenBy_120 rfl rfl ?_
  refine hQ _ _ _ s9 ?_
  rw [show rlM I W 0 p c = rs from es.symm]
  subst e93 e32
  simp (decide := true) only [seV, if_true, if_false]
theorem c_X6_overlookedBy2 {E : Ev} {d : Nat} {I : Mi} {L : Ml} {Z : Mz} {Q : Po}  {W : Nat → (Nat → Int32) → Int32} {ru n m : Nat} {p c : Nat} (hd : 43 ≤ d) (hM : MZ Z) (hR : RDM I W ru n m) (hp : p < m) (hc : c < n) (hk : I 54 p = 2) (hQ : ∀ (rv : Int32) (I9 : Mi) (L9 : Ml), SaM I I9 → rv = ovV 2 (I 55 (2 * p)) (I 48 8) (rlM I W 1 p c) → Q (some (.int rv)) I9 L9 Z) : AC E yX6_overlookedBy cX6_overlookedBy 5 (some .int) d 0 0 [.ref 48, .int (nI p), .int (nI c)] I L Z Q := by
  refine ac_go (ls := [some (.ref 48), some (.int (nI p)), some (.int (nI c)), none, none]) (by decide +kernel) (Nat.le_of_ble_eq_true rfl) rfl ?_
  obtain ⟨⟨hru, hr6, B, nb, kk, x1, x2, x3, t1, t2, t3, t4, t5⟩, ⟨hn1, hn2⟩, ⟨hm1, hm2⟩, hgr, hki, H0, hH1, hH2⟩ := hR
  obtain ⟨gv, hgv, egv⟩ := hgr c hc
  refine aw_aload_n dX6_overlookedBy_0 rfl rfl ?_
  refine aw_gr dX6_overlookedBy_1 fw_X6_29 hM.1 hM.2.2.2.2.2.2.2.2.2.2.2.1 ?_
  refine aw_iload_n dX6_overlookedBy_4 rfl ?_
  refine aw_ia p dX6_overlookedBy_5 hM.2.2.2.2.2.2.2.2.2.2.2.2.1 rfl (by omega) (by decide) ?_
  rw [hk]
  refine aw_istore_n (ls' := [_, _, _, _, _]) dX6_overlookedBy_6 (by decide) rfl rfl ?_
  refine aw_iload_n dX6_overlookedBy_7 rfl ?_
  refine aw_iconst (v := 1) dX6_overlookedBy_8 (by decide) ?_
  refine aw_icmp_eq (tgt := 31) dX6_overlookedBy_9 (by decide) (fun zz => absurd zz (by decide)) (fun _ => ?_)
  refine aw_iload_n dX6_overlookedBy_12 rfl ?_
  refine aw_iconst (v := 5) dX6_overlookedBy_13 (by decide) ?_
  refine aw_icmp_eq (tgt := 31) dX6_overlookedBy_14 (by decide) (fun zz => absurd zz (by decide)) (fun _ => ?_)
  refine aw_iload_n dX6_overlookedBy_17 rfl ?_
  refine aw_iconst (v := 4) dX6_overlookedBy_18 (by decide) ?_
  refine aw_icmp_ne (tgt := 33) dX6_overlookedBy_19 (by decide) (fun _ => ?_) (fun zz => absurd zz (by decide))
  refine aw_iload_n dX6_overlookedBy_33 rfl ?_
  refine aw_iconst (v := 3) dX6_overlookedBy_34 (by decide) ?_
  refine aw_icmp_ne (tgt := 49) dX6_overlookedBy_35 (by decide) (fun _ => ?_) (fun zz => absurd zz (by decide))
  refine aw_iconst (v := 1) dX6_overlookedBy_49 (by decide) ?_
  refine aw_aload_n dX6_overlookedBy_50 rfl rfl ?_
  refine aw_iconst (v := 1) dX6_overlookedBy_51 (by decide) ?_
  refine aw_iload_n dX6_overlookedBy_52 rfl ?_
  refine aw_iload_n dX6_overlookedBy_53 rfl ?_
  refine aw_V3 dX6_overlookedBy_54 cw_X6_348 ⟨_, _, rfl⟩ hM.1 (by omega) ⟨Nat.le_refl _, Nat.le_refl _⟩ (by simp [Value.category, psh]) (c_X6_says1 (B := B) (n := nb) (by omega) hM (by omega) (by omega) egv hgv hru hr6 t1 t2 t3 t4 (fun rs I9 L9 s9 es => ?_))
  rw [wi_cl (by decide), ← (t5 _).2.1] at es
  have hrg : ¬ rs < -99 ∧ ¬ 99 < rs := by rw [es]; exact cl_rng
  refine aw_S1 dX6_overlookedBy_57 cw_X6_351 (by omega) ⟨Nat.le_refl _, Nat.le_refl _⟩ (by simp [Value.category, psh]) (c_X6_modulo hrg (fun r57 e57 => ?_))
  refine aw_ishl dX6_overlookedBy_60 ?_
  refine aw_istore (ls' := [_, _, _, _, _]) dX6_overlookedBy_61 (by decide) rfl rfl ?_
  refine aw_iload_n dX6_overlookedBy_63 rfl ?_
  refine aw_if_ne (tgt := 72) dX6_overlookedBy_64 (by decide) (fun _ => ?_) (fun zz => absurd zz (by decide))
  refine aw_sipush (v := 4095) dX6_overlookedBy_72 (by decide) ?_
  refine aw_iload dX6_overlookedBy_75 rfl ?_
  refine aw_ineg dX6_overlookedBy_77 ?_
  refine aw_iand dX6_overlookedBy_78 ?_
  refine aw_ireturn (ty := .int) dX6_overlookedBy_79 rfl rfl ?_
  refine hQ _ _ _ s9 ?_
  rw [show rlM I W 1 p c = rs from es.symm]
  subst e57
  simp (decide := true) only [ovV, msV, if_true, if_false]
theorem c_X6_seenBy3 {E : Ev} {d : Nat} {I : Mi} {L : Ml} {Z : Mz} {Q : Po}  {W : Nat → (Nat → Int32) → Int32} {ru n m : Nat} {p c : Nat} (hd : 43 ≤ d) (hM : MZ Z) (hR : RDM I W ru n m) (hp : p < m) (hc : c < n) (hk : I 54 p = 3) (hQ : ∀ (rv : Int32) (I9 : Mi) (L9 : Ml), SaM I I9 → rv = seV 3 (I 55 (2 * p)) (I 52 (2 * c)) (rlM I W 0 p c) → Q (some (.int rv)) I9 L9 Z) : AC E yX6_seenBy cX6_seenBy 7 (some .int) d 0 0 [.ref 48, .int (nI p), .int (nI c)] I L Z Q := by
  refine ac_go (ls := [some (.ref 48), some (.int (nI p)), some (.int (nI c)), none, none, none, none]) (by decide +kernel) (Nat.le_of_ble_eq_true rfl) rfl ?_
  obtain ⟨⟨hru, hr6, B, nb, kk, x1, x2, x3, t1, t2, t3, t4, t5⟩, ⟨hn1, hn2⟩, ⟨hm1, hm2⟩, hgr, hki, H0, hH1, hH2⟩ := hR
  obtain ⟨gv, hgv, egv⟩ := hgr c hc
  refine aw_aload_n dX6_seenBy_0 rfl rfl ?_
  refine aw_gr dX6_seenBy_1 fw_X6_29 hM.1 hM.2.2.2.2.2.2.2.2.2.2.2.1 ?_
  refine aw_iload_n dX6_seenBy_4 rfl ?_
  refine aw_ia p dX6_seenBy_5 hM.2.2.2.2.2.2.2.2.2.2.2.2.1 rfl (by omega) (by decide) ?_
  rw [hk]
  refine aw_istore_n (ls' := [_, _, _, _, _, _, _]) dX6_seenBy_6 (by decide) rfl rfl ?_
  refine aw_aload_n dX6_seenBy_7 rfl rfl ?_
  refine aw_gr dX6_seenBy_8 fw_X6_23 hM.1 hM.2.2.2.2.2.2.2.1 ?_
  refine aw_iconst (v := 2) dX6_seenBy_11 (by decide) ?_
  refine aw_iload_n dX6_seenBy_12 rfl ?_
  refine aw_imul dX6_seenBy_13 ?_
  refine aw_ia (2 * c) dX6_seenBy_14 hM.2.2.2.2.2.2.2.2.1 (ix0 c) (by omega) (by decide) ?_
  refine aw_istore (ls' := [_, _, _, _, _, _, _]) dX6_seenBy_15 (by decide) rfl rfl ?_
  refine aw_iload_n dX6_seenBy_17 rfl ?_
  refine aw_iconst (v := 5) dX6_seenBy_18 (by decide) ?_
  refine aw_icmp_ne (tgt := 25) dX6_seenBy_19 (by decide) (fun _ => ?_) (fun zz => absurd zz (by decide))
  refine aw_aload_n dX6_seenBy_25 rfl rfl ?_
  refine aw_iconst (v := 0) dX6_seenBy_26 (by decide) ?_
  refine aw_iload_n dX6_seenBy_27 rfl ?_
  refine aw_iload_n dX6_seenBy_28 rfl ?_
  refine aw_V3 dX6_seenBy_29 cw_X6_348 ⟨_, _, rfl⟩ hM.1 (by omega) ⟨Nat.le_refl _, Nat.le_refl _⟩ (by decide) (c_X6_says0 (B := B) (n := nb) (by omega) hM (by omega) (by omega) egv hgv hru hr6 t1 t2 t3 t4 (fun rs I9 L9 s9 es => ?_))
  rw [wi_cl (by decide), ← (t5 _).1] at es
  have hrg : ¬ rs < -99 ∧ ¬ 99 < rs := by rw [es]; exact cl_rng
  refine aw_S1 dX6_seenBy_32 cw_X6_351 (by omega) ⟨Nat.le_refl _, Nat.le_refl _⟩ (by decide) (c_X6_modulo hrg (fun r32 e32 => ?_))
  refine aw_istore (ls' := [_, _, _, _, _, _, _]) dX6_seenBy_35 (by decide) rfl rfl ?_
  refine aw_iload_n dX6_seenBy_37 rfl ?_
  refine aw_iconst (v := 1) dX6_seenBy_38 (by decide) ?_
  refine aw_icmp_eq (tgt := 47) dX6_seenBy_39 (by decide) (fun zz => absurd zz (by decide)) (fun _ => ?_)
  refine aw_iload_n dX6_seenBy_42 rfl ?_
  refine aw_iconst (v := 3) dX6_seenBy_43 (by decide) ?_
  refine aw_icmp_ne (tgt := 73) dX6_seenBy_44 (by decide) (fun zz => absurd zz (by decide)) (fun _ => ?_)
  refine aw_iload_n dX6_seenBy_47 rfl ?_
  refine aw_iconst (v := 3) dX6_seenBy_48 (by decide) ?_
  refine aw_icmp_ne (tgt := 62) dX6_seenBy_49 (by decide) (fun zz => absurd zz (by decide)) (fun _ => ?_)
  refine aw_iload dX6_seenBy_52 rfl ?_
  refine aw_iload dX6_seenBy_54 rfl ?_
  refine aw_iconst (v := 1) dX6_seenBy_56 (by decide) ?_
  refine aw_isub dX6_seenBy_57 ?_
  refine aw_iand dX6_seenBy_58 ?_
  refine aw_goto (tgt := 64) dX6_seenBy_59 (by decide) ?_
  refine aw_iload dX6_seenBy_64 rfl ?_
  refine aw_S2 dX6_seenBy_66 cw_X6_354 (by omega) ⟨Nat.le_refl _, Nat.le_refl _⟩ (by decide) (c_X6_turned (fun r66 e66 => ?_))
  refine aw_S1 dX6_seenBy_69 cw_X6_357 (by omega) ⟨Nat.le_refl _, Nat.le_refl _⟩ (by decide) (c_X6_mirrored (fun r69 e69 => ?_))
  refine aw_ireturn (ty := .int) dX6_seenBy_72 rfl rfl ?_
  refine hQ _ _ _ s9 ?_
  rw [show rlM I W 0 p c = rs from es.symm]
  subst e69 e66 e32
  simp (decide := true) only [seV, if_true, if_false]
theorem c_X6_overlookedBy3 {E : Ev} {d : Nat} {I : Mi} {L : Ml} {Z : Mz} {Q : Po}  {W : Nat → (Nat → Int32) → Int32} {ru n m : Nat} {p c : Nat} (hd : 43 ≤ d) (hM : MZ Z) (hR : RDM I W ru n m) (hp : p < m) (hc : c < n) (hk : I 54 p = 3) (hQ : ∀ (rv : Int32) (I9 : Mi) (L9 : Ml), SaM I I9 → rv = ovV 3 (I 55 (2 * p)) (I 48 8) (rlM I W 1 p c) → Q (some (.int rv)) I9 L9 Z) : AC E yX6_overlookedBy cX6_overlookedBy 5 (some .int) d 0 0 [.ref 48, .int (nI p), .int (nI c)] I L Z Q := by
  refine ac_go (ls := [some (.ref 48), some (.int (nI p)), some (.int (nI c)), none, none]) (by decide +kernel) (Nat.le_of_ble_eq_true rfl) rfl ?_
  obtain ⟨⟨hru, hr6, B, nb, kk, x1, x2, x3, t1, t2, t3, t4, t5⟩, ⟨hn1, hn2⟩, ⟨hm1, hm2⟩, hgr, hki, H0, hH1, hH2⟩ := hR
  obtain ⟨gv, hgv, egv⟩ := hgr c hc
  refine aw_aload_n dX6_overlookedBy_0 rfl rfl ?_
  refine aw_gr dX6_overlookedBy_1 fw_X6_29 hM.1 hM.2.2.2.2.2.2.2.2.2.2.2.1 ?_
  refine aw_iload_n dX6_overlookedBy_4 rfl ?_
  refine aw_ia p dX6_overlookedBy_5 hM.2.2.2.2.2.2.2.2.2.2.2.2.1 rfl (by omega) (by decide) ?_
  rw [hk]
  refine aw_istore_n (ls' := [_, _, _, _, _]) dX6_overlookedBy_6 (by decide) rfl rfl ?_
  refine aw_iload_n dX6_overlookedBy_7 rfl ?_
  refine aw_iconst (v := 1) dX6_overlookedBy_8 (by decide) ?_
  refine aw_icmp_eq (tgt := 31) dX6_overlookedBy_9 (by decide) (fun zz => absurd zz (by decide)) (fun _ => ?_)
  refine aw_iload_n dX6_overlookedBy_12 rfl ?_
  refine aw_iconst (v := 5) dX6_overlookedBy_13 (by decide) ?_
  refine aw_icmp_eq (tgt := 31) dX6_overlookedBy_14 (by decide) (fun zz => absurd zz (by decide)) (fun _ => ?_)
  refine aw_iload_n dX6_overlookedBy_17 rfl ?_
  refine aw_iconst (v := 4) dX6_overlookedBy_18 (by decide) ?_
  refine aw_icmp_ne (tgt := 33) dX6_overlookedBy_19 (by decide) (fun _ => ?_) (fun zz => absurd zz (by decide))
  refine aw_iload_n dX6_overlookedBy_33 rfl ?_
  refine aw_iconst (v := 3) dX6_overlookedBy_34 (by decide) ?_
  refine aw_icmp_ne (tgt := 49) dX6_overlookedBy_35 (by decide) (fun zz => absurd zz (by decide)) (fun _ => ?_)
  refine aw_iconst (v := 1) dX6_overlookedBy_38 (by decide) ?_
  refine aw_aload_n dX6_overlookedBy_39 rfl rfl ?_
  refine aw_gr dX6_overlookedBy_40 fw_X6_32 hM.1 hM.2.2.2.2.2.2.2.2.2.2.2.2.2.1 ?_
  refine aw_iconst (v := 2) dX6_overlookedBy_43 (by decide) ?_
  refine aw_iload_n dX6_overlookedBy_44 rfl ?_
  refine aw_imul dX6_overlookedBy_45 ?_
  refine aw_ia (2 * p) dX6_overlookedBy_46 hM.2.2.2.2.2.2.2.2.2.2.2.2.2.2.1 (ix0 p) (by omega) (by decide) ?_
  refine aw_ishl dX6_overlookedBy_47 ?_
  refine aw_ireturn (ty := .int) dX6_overlookedBy_48 rfl rfl ?_
  exact hQ _ _ _ SaM.rf (by simp (decide := true) only [ovV, if_true, if_false])
theorem c_X6_seenBy4 {E : Ev} {d : Nat} {I : Mi} {L : Ml} {Z : Mz} {Q : Po}  {W : Nat → (Nat → Int32) → Int32} {ru n m : Nat} {p c : Nat} (hd : 43 ≤ d) (hM : MZ Z) (hR : RDM I W ru n m) (hp : p < m) (hc : c < n) (hk : I 54 p = 4) (hQ : ∀ (rv : Int32) (I9 : Mi) (L9 : Ml), SaM I I9 → rv = seV 4 (I 55 (2 * p)) (I 52 (2 * c)) (rlM I W 0 p c) → Q (some (.int rv)) I9 L9 Z) : AC E yX6_seenBy cX6_seenBy 7 (some .int) d 0 0 [.ref 48, .int (nI p), .int (nI c)] I L Z Q := by
  refine ac_go (ls := [some (.ref 48), some (.int (nI p)), some (.int (nI c)), none, none, none, none]) (by decide +kernel) (Nat.le_of_ble_eq_true rfl) rfl ?_
  obtain ⟨⟨hru, hr6, B, nb, kk, x1, x2, x3, t1, t2, t3, t4, t5⟩, ⟨hn1, hn2⟩, ⟨hm1, hm2⟩, hgr, hki, H0, hH1, hH2⟩ := hR
  obtain ⟨gv, hgv, egv⟩ := hgr c hc
  refine aw_aload_n dX6_seenBy_0 rfl rfl ?_
  refine aw_gr dX6_seenBy_1 fw_X6_29 hM.1 hM.2.2.2.2.2.2.2.2.2.2.2.1 ?_
  refine aw_iload_n dX6_seenBy_4 rfl ?_
  refine aw_ia p dX6_seenBy_5 hM.2.2.2.2.2.2.2.2.2.2.2.2.1 rfl (by omega) (by decide) ?_
  rw [hk]
  refine aw_istore_n (ls' := [_, _, _, _, _, _, _]) dX6_seenBy_6 (by decide) rfl rfl ?_
  refine aw_aload_n dX6_seenBy_7 rfl rfl ?_
  refine aw_gr dX6_seenBy_8 fw_X6_23 hM.1 hM.2.2.2.2.2.2.2.1 ?_
  refine aw_iconst (v := 2) dX6_seenBy_11 (by decide) ?_
  refine aw_iload_n dX6_seenBy_12 rfl ?_
  refine aw_imul dX6_seenBy_13 ?_
  refine aw_ia (2 * c) dX6_seenBy_14 hM.2.2.2.2.2.2.2.2.1 (ix0 c) (by omega) (by decide) ?_
  refine aw_istore (ls' := [_, _, _, _, _, _, _]) dX6_seenBy_15 (by decide) rfl rfl ?_
  refine aw_iload_n dX6_seenBy_17 rfl ?_
  refine aw_iconst (v := 5) dX6_seenBy_18 (by decide) ?_
  refine aw_icmp_ne (tgt := 25) dX6_seenBy_19 (by decide) (fun _ => ?_) (fun zz => absurd zz (by decide))
  refine aw_aload_n dX6_seenBy_25 rfl rfl ?_
  refine aw_iconst (v := 0) dX6_seenBy_26 (by decide) ?_
  refine aw_iload_n dX6_seenBy_27 rfl ?_
  refine aw_iload_n dX6_seenBy_28 rfl ?_
  refine aw_V3 dX6_seenBy_29 cw_X6_348 ⟨_, _, rfl⟩ hM.1 (by omega) ⟨Nat.le_refl _, Nat.le_refl _⟩ (by decide) (c_X6_says0 (B := B) (n := nb) (by omega) hM (by omega) (by omega) egv hgv hru hr6 t1 t2 t3 t4 (fun rs I9 L9 s9 es => ?_))
  rw [wi_cl (by decide), ← (t5 _).1] at es
  have hrg : ¬ rs < -99 ∧ ¬ 99 < rs := by rw [es]; exact cl_rng
  refine aw_S1 dX6_seenBy_32 cw_X6_351 (by omega) ⟨Nat.le_refl _, Nat.le_refl _⟩ (by decide) (c_X6_modulo hrg (fun r32 e32 => ?_))
  refine aw_istore (ls' := [_, _, _, _, _, _, _]) dX6_seenBy_35 (by decide) rfl rfl ?_
  refine aw_iload_n dX6_seenBy_37 rfl ?_
  refine aw_iconst (v := 1) dX6_seenBy_38 (by decide) ?_
  refine aw_icmp_eq (tgt := 47) dX6_seenBy_39 (by decide) (fun zz => absurd zz (by decide)) (fun _ => ?_)
  refine aw_iload_n dX6_seenBy_42 rfl ?_
  refine aw_iconst (v := 3) dX6_seenBy_43 (by decide) ?_
  refine aw_icmp_ne (tgt := 73) dX6_seenBy_44 (by decide) (fun _ => ?_) (fun zz => absurd zz (by decide))
  refine aw_iload_n dX6_seenBy_73 rfl ?_
  refine aw_iconst (v := 4) dX6_seenBy_74 (by decide) ?_
  refine aw_icmp_ne (tgt := 89) dX6_seenBy_75 (by decide) (fun zz => absurd zz (by decide)) (fun _ => ?_)
  refine aw_sipush (v := 4095) dX6_seenBy_78 (by decide) ?_
  refine aw_iload dX6_seenBy_81 rfl ?_
  refine aw_iconst (v := -1) dX6_seenBy_83 (by decide) ?_
  refine aw_ixor dX6_seenBy_84 ?_
  refine aw_iand dX6_seenBy_85 ?_
  refine aw_goto (tgt := 91) dX6_seenBy_86 (by decide) ?_
  refine aw_iload dX6_seenBy_91 rfl ?_
  refine aw_S2 dX6_seenBy_93 cw_X6_354 (by omega) ⟨Nat.le_refl _, Nat.le_refl _⟩ (by decide) (c_X6_turned (fun r93 e93 => ?_))
  refine aw_istore (ls' := [_, _, _, _, _, _, _]) dX6_seenBy_96 (by decide) rfl rfl ?_
  refine aw_iload_n dX6_seenBy_98 rfl ?_
  refine aw_if_ne (tgt := 107) dX6_seenBy_99 (by decide) (fun _ => ?_) (fun zz => absurd zz (by decide))
  refine aw_iload dX6_seenBy_107 rfl ?_
  refine aw_iconst (v := 1) dX6_seenBy_109 (by decide) ?_
  refine aw_aload_n dX6_seenBy_110 rfl rfl ?_
  refine aw_gr dX6_seenBy_111 fw_X6_32 hM.1 hM.2.2.2.2.2.2.2.2.2.2.2.2.2.1 ?_
  refine aw_iconst (v := 2) dX6_seenBy_114 (by decide) ?_
  refine aw_iload_n dX6_seenBy_115 rfl ?_
  refine aw_imul dX6_seenBy_116 ?_
  refine aw_ia (2 * p) dX6_seenBy_117 hM.2.2.2.2.2.2.2.2.2.2.2.2.2.2.1 (ix0 p) (by omega) (by decide) ?_
  rw [s9.row (a := 55) (by omega)]
  refine aw_ishl dX6_seenBy_118 ?_
  refine aw_ixor dX6_seenBy_119 ?_
  refine aw_ireturn (ty := .int) dX6_seenBy_120 rfl rfl ?_
  refine hQ _ _ _ s9 ?_
  rw [show rlM I W 0 p c = rs from es.symm]
  subst e93 e32
  simp (decide := true) only [seV, if_true, if_false]
theorem c_X6_overlookedBy4 {E : Ev} {d : Nat} {I : Mi} {L : Ml} {Z : Mz} {Q : Po}  {W : Nat → (Nat → Int32) → Int32} {ru n m : Nat} {p c : Nat} (hd : 43 ≤ d) (hM : MZ Z) (hR : RDM I W ru n m) (hp : p < m) (hc : c < n) (hk : I 54 p = 4) (hQ : ∀ (rv : Int32) (I9 : Mi) (L9 : Ml), SaM I I9 → rv = ovV 4 (I 55 (2 * p)) (I 48 8) (rlM I W 1 p c) → Q (some (.int rv)) I9 L9 Z) : AC E yX6_overlookedBy cX6_overlookedBy 5 (some .int) d 0 0 [.ref 48, .int (nI p), .int (nI c)] I L Z Q := by
  refine ac_go (ls := [some (.ref 48), some (.int (nI p)), some (.int (nI c)), none, none]) (by decide +kernel) (Nat.le_of_ble_eq_true rfl) rfl ?_
  obtain ⟨⟨hru, hr6, B, nb, kk, x1, x2, x3, t1, t2, t3, t4, t5⟩, ⟨hn1, hn2⟩, ⟨hm1, hm2⟩, hgr, hki, H0, hH1, hH2⟩ := hR
  obtain ⟨gv, hgv, egv⟩ := hgr c hc
  refine aw_aload_n dX6_overlookedBy_0 rfl rfl ?_
  refine aw_gr dX6_overlookedBy_1 fw_X6_29 hM.1 hM.2.2.2.2.2.2.2.2.2.2.2.1 ?_
  refine aw_iload_n dX6_overlookedBy_4 rfl ?_
  refine aw_ia p dX6_overlookedBy_5 hM.2.2.2.2.2.2.2.2.2.2.2.2.1 rfl (by omega) (by decide) ?_
  rw [hk]
  refine aw_istore_n (ls' := [_, _, _, _, _]) dX6_overlookedBy_6 (by decide) rfl rfl ?_
  refine aw_iload_n dX6_overlookedBy_7 rfl ?_
  refine aw_iconst (v := 1) dX6_overlookedBy_8 (by decide) ?_
  refine aw_icmp_eq (tgt := 31) dX6_overlookedBy_9 (by decide) (fun zz => absurd zz (by decide)) (fun _ => ?_)
  refine aw_iload_n dX6_overlookedBy_12 rfl ?_
  refine aw_iconst (v := 5) dX6_overlookedBy_13 (by decide) ?_
  refine aw_icmp_eq (tgt := 31) dX6_overlookedBy_14 (by decide) (fun zz => absurd zz (by decide)) (fun _ => ?_)
  refine aw_iload_n dX6_overlookedBy_17 rfl ?_
  refine aw_iconst (v := 4) dX6_overlookedBy_18 (by decide) ?_
  refine aw_icmp_ne (tgt := 33) dX6_overlookedBy_19 (by decide) (fun zz => absurd zz (by decide)) (fun _ => ?_)
  refine aw_aload_n dX6_overlookedBy_22 rfl rfl ?_
  refine aw_gi dX6_overlookedBy_23 fw_X6_113 hM.1 ?_
  refine aw_iconst (v := 2) dX6_overlookedBy_26 (by decide) ?_
  refine aw_irem dX6_overlookedBy_27 (by decide) ?_
  refine aw_if_ne (tgt := 33) dX6_overlookedBy_28 (by decide) (fun c28 => ?_) (fun c28 => ?_)
  · refine aw_iload_n dX6_overlookedBy_33 rfl ?_
    refine aw_iconst (v := 3) dX6_overlookedBy_34 (by decide) ?_
    refine aw_icmp_ne (tgt := 49) dX6_overlookedBy_35 (by decide) (fun _ => ?_) (fun zz => absurd zz (by decide))
    refine aw_iconst (v := 1) dX6_overlookedBy_49 (by decide) ?_
    refine aw_aload_n dX6_overlookedBy_50 rfl rfl ?_
    refine aw_iconst (v := 1) dX6_overlookedBy_51 (by decide) ?_
    refine aw_iload_n dX6_overlookedBy_52 rfl ?_
    refine aw_iload_n dX6_overlookedBy_53 rfl ?_
    refine aw_V3 dX6_overlookedBy_54 cw_X6_348 ⟨_, _, rfl⟩ hM.1 (by omega) ⟨Nat.le_refl _, Nat.le_refl _⟩ (by simp [Value.category, psh]) (c_X6_says1 (B := B) (n := nb) (by omega) hM (by omega) (by omega) egv hgv hru hr6 t1 t2 t3 t4 (fun rs I9 L9 s9 es => ?_))
    rw [wi_cl (by decide), ← (t5 _).2.1] at es
    have hrg : ¬ rs < -99 ∧ ¬ 99 < rs := by rw [es]; exact cl_rng
    refine aw_S1 dX6_overlookedBy_57 cw_X6_351 (by omega) ⟨Nat.le_refl _, Nat.le_refl _⟩ (by simp [Value.category, psh]) (c_X6_modulo hrg (fun r57 e57 => ?_))
    refine aw_ishl dX6_overlookedBy_60 ?_
    refine aw_istore (ls' := [_, _, _, _, _]) dX6_overlookedBy_61 (by decide) rfl rfl ?_
    refine aw_iload_n dX6_overlookedBy_63 rfl ?_
    refine aw_if_ne (tgt := 72) dX6_overlookedBy_64 (by decide) (fun _ => ?_) (fun zz => absurd zz (by decide))
    refine aw_sipush (v := 4095) dX6_overlookedBy_72 (by decide) ?_
    refine aw_iload dX6_overlookedBy_75 rfl ?_
    refine aw_ineg dX6_overlookedBy_77 ?_
    refine aw_iand dX6_overlookedBy_78 ?_
    refine aw_ireturn (ty := .int) dX6_overlookedBy_79 rfl rfl ?_
    refine hQ _ _ _ s9 ?_
    rw [show rlM I W 1 p c = rs from es.symm]
    subst e57
    rw [show ovV 4 (I 55 (2 * p)) (I 48 8) rs = 4095 &&& -msV rs by
      simp (decide := true) only [ovV, if_true, if_false]
      rw [if_pos (hr_odd hH1 hH2 c28)]]
    rfl
  · refine aw_iconst (v := 0) dX6_overlookedBy_31 (by decide) ?_
    refine aw_ireturn (ty := .int) dX6_overlookedBy_32 rfl rfl ?_
    exact hQ _ _ _ SaM.rf (by simp (decide := true) only [ovV, if_true, if_false]; rw [if_neg (by rw [c28]; decide)])
theorem c_X6_seenBy5 {E : Ev} {d : Nat} {I : Mi} {L : Ml} {Z : Mz} {Q : Po}  {W : Nat → (Nat → Int32) → Int32} {ru n m : Nat} {p c : Nat} (hd : 43 ≤ d) (hM : MZ Z) (hR : RDM I W ru n m) (hp : p < m) (hc : c < n) (hk : I 54 p = 5) (hQ : ∀ (rv : Int32) (I9 : Mi) (L9 : Ml), SaM I I9 → rv = seV 5 (I 55 (2 * p)) (I 52 (2 * c)) (rlM I W 0 p c) → Q (some (.int rv)) I9 L9 Z) : AC E yX6_seenBy cX6_seenBy 7 (some .int) d 0 0 [.ref 48, .int (nI p), .int (nI c)] I L Z Q := by
  refine ac_go (ls := [some (.ref 48), some (.int (nI p)), some (.int (nI c)), none, none, none, none]) (by decide +kernel) (Nat.le_of_ble_eq_true rfl) rfl ?_
  obtain ⟨⟨hru, hr6, B, nb, kk, x1, x2, x3, t1, t2, t3, t4, t5⟩, ⟨hn1, hn2⟩, ⟨hm1, hm2⟩, hgr, hki, H0, hH1, hH2⟩ := hR
  obtain ⟨gv, hgv, egv⟩ := hgr c hc
  refine aw_aload_n dX6_seenBy_0 rfl rfl ?_
  refine aw_gr dX6_seenBy_1 fw_X6_29 hM.1 hM.2.2.2.2.2.2.2.2.2.2.2.1 ?_
  refine aw_iload_n dX6_seenBy_4 rfl ?_
  refine aw_ia p dX6_seenBy_5 hM.2.2.2.2.2.2.2.2.2.2.2.2.1 rfl (by omega) (by decide) ?_
  rw [hk]
  refine aw_istore_n (ls' := [_, _, _, _, _, _, _]) dX6_seenBy_6 (by decide) rfl rfl ?_
  refine aw_aload_n dX6_seenBy_7 rfl rfl ?_
  refine aw_gr dX6_seenBy_8 fw_X6_23 hM.1 hM.2.2.2.2.2.2.2.1 ?_
  refine aw_iconst (v := 2) dX6_seenBy_11 (by decide) ?_
  refine aw_iload_n dX6_seenBy_12 rfl ?_
  refine aw_imul dX6_seenBy_13 ?_
  refine aw_ia (2 * c) dX6_seenBy_14 hM.2.2.2.2.2.2.2.2.1 (ix0 c) (by omega) (by decide) ?_
  refine aw_istore (ls' := [_, _, _, _, _, _, _]) dX6_seenBy_15 (by decide) rfl rfl ?_
  refine aw_iload_n dX6_seenBy_17 rfl ?_
  refine aw_iconst (v := 5) dX6_seenBy_18 (by decide) ?_
  refine aw_icmp_ne (tgt := 25) dX6_seenBy_19 (by decide) (fun zz => absurd zz (by decide)) (fun _ => ?_)
  refine aw_iload dX6_seenBy_22 rfl ?_
  refine aw_ireturn (ty := .int) dX6_seenBy_24 rfl rfl ?_
  exact hQ _ _ _ SaM.rf (by simp (decide := true) only [seV, if_true, if_false])
theorem c_X6_overlookedBy5 {E : Ev} {d : Nat} {I : Mi} {L : Ml} {Z : Mz} {Q : Po}  {W : Nat → (Nat → Int32) → Int32} {ru n m : Nat} {p c : Nat} (hd : 43 ≤ d) (hM : MZ Z) (hR : RDM I W ru n m) (hp : p < m) (hc : c < n) (hk : I 54 p = 5) (hQ : ∀ (rv : Int32) (I9 : Mi) (L9 : Ml), SaM I I9 → rv = ovV 5 (I 55 (2 * p)) (I 48 8) (rlM I W 1 p c) → Q (some (.int rv)) I9 L9 Z) : AC E yX6_overlookedBy cX6_overlookedBy 5 (some .int) d 0 0 [.ref 48, .int (nI p), .int (nI c)] I L Z Q := by
  refine ac_go (ls := [some (.ref 48), some (.int (nI p)), some (.int (nI c)), none, none]) (by decide +kernel) (Nat.le_of_ble_eq_true rfl) rfl ?_
  obtain ⟨⟨hru, hr6, B, nb, kk, x1, x2, x3, t1, t2, t3, t4, t5⟩, ⟨hn1, hn2⟩, ⟨hm1, hm2⟩, hgr, hki, H0, hH1, hH2⟩ := hR
  obtain ⟨gv, hgv, egv⟩ := hgr c hc
  refine aw_aload_n dX6_overlookedBy_0 rfl rfl ?_
  refine aw_gr dX6_overlookedBy_1 fw_X6_29 hM.1 hM.2.2.2.2.2.2.2.2.2.2.2.1 ?_
  refine aw_iload_n dX6_overlookedBy_4 rfl ?_
  refine aw_ia p dX6_overlookedBy_5 hM.2.2.2.2.2.2.2.2.2.2.2.2.1 rfl (by omega) (by decide) ?_
  rw [hk]
  refine aw_istore_n (ls' := [_, _, _, _, _]) dX6_overlookedBy_6 (by decide) rfl rfl ?_
  refine aw_iload_n dX6_overlookedBy_7 rfl ?_
  refine aw_iconst (v := 1) dX6_overlookedBy_8 (by decide) ?_
  refine aw_icmp_eq (tgt := 31) dX6_overlookedBy_9 (by decide) (fun zz => absurd zz (by decide)) (fun _ => ?_)
  refine aw_iload_n dX6_overlookedBy_12 rfl ?_
  refine aw_iconst (v := 5) dX6_overlookedBy_13 (by decide) ?_
  refine aw_icmp_eq (tgt := 31) dX6_overlookedBy_14 (by decide) (fun _ => ?_) (fun zz => absurd zz (by decide))
  refine aw_iconst (v := 0) dX6_overlookedBy_31 (by decide) ?_
  refine aw_ireturn (ty := .int) dX6_overlookedBy_32 rfl rfl ?_
  exact hQ _ _ _ SaM.rf (by simp (decide := true) only [ovV, if_true, if_false])
theorem c_X6_seenBy {E : Ev} {d : Nat} {I : Mi} {L : Ml} {Z : Mz} {Q : Po} {W : Nat → (Nat → Int32) → Int32} {ru n m : Nat} {p c : Nat} (hd : 43 ≤ d) (hM : MZ Z) (hR : RDM I W ru n m) (hp : p < m) (hc : c < n) (hQ : ∀ (rv : Int32) (I9 : Mi) (L9 : Ml), SaM I I9 → rv = seV (I 54 p) (I 55 (2 * p)) (I 52 (2 * c)) (rlM I W 0 p c) → Q (some (.int rv)) I9 L9 Z) : AC E yX6_seenBy cX6_seenBy 7 (some .int) d 0 0 [.ref 48, .int (nI p), .int (nI c)] I L Z Q := by
  obtain ⟨q, hq5, hq⟩ := hR.2.2.2.2.1 p hp
  rcases q6 hq5 with rfl | rfl | rfl | rfl | rfl | rfl
  · exact c_X6_seenBy0 hd hM hR hp hc hq (fun rv I9 L9 s e => hQ rv I9 L9 s (by rw [e, hq]; rfl))
  · exact c_X6_seenBy1 hd hM hR hp hc hq (fun rv I9 L9 s e => hQ rv I9 L9 s (by rw [e, hq]; rfl))
  · exact c_X6_seenBy2 hd hM hR hp hc hq (fun rv I9 L9 s e => hQ rv I9 L9 s (by rw [e, hq]; rfl))
  · exact c_X6_seenBy3 hd hM hR hp hc hq (fun rv I9 L9 s e => hQ rv I9 L9 s (by rw [e, hq]; rfl))
  · exact c_X6_seenBy4 hd hM hR hp hc hq (fun rv I9 L9 s e => hQ rv I9 L9 s (by rw [e, hq]; rfl))
  · exact c_X6_seenBy5 hd hM hR hp hc hq (fun rv I9 L9 s e => hQ rv I9 L9 s (by rw [e, hq]; rfl))
theorem c_X6_overlookedBy {E : Ev} {d : Nat} {I : Mi} {L : Ml} {Z : Mz} {Q : Po} {W : Nat → (Nat → Int32) → Int32} {ru n m : Nat} {p c : Nat} (hd : 43 ≤ d) (hM : MZ Z) (hR : RDM I W ru n m) (hp : p < m) (hc : c < n) (hQ : ∀ (rv : Int32) (I9 : Mi) (L9 : Ml), SaM I I9 → rv = ovV (I 54 p) (I 55 (2 * p)) (I 48 8) (rlM I W 1 p c) → Q (some (.int rv)) I9 L9 Z) : AC E yX6_overlookedBy cX6_overlookedBy 5 (some .int) d 0 0 [.ref 48, .int (nI p), .int (nI c)] I L Z Q := by
  obtain ⟨q, hq5, hq⟩ := hR.2.2.2.2.1 p hp
  rcases q6 hq5 with rfl | rfl | rfl | rfl | rfl | rfl
  · exact c_X6_overlookedBy0 hd hM hR hp hc hq (fun rv I9 L9 s e => hQ rv I9 L9 s (by rw [e, hq]; rfl))
  · exact c_X6_overlookedBy1 hd hM hR hp hc hq (fun rv I9 L9 s e => hQ rv I9 L9 s (by rw [e, hq]; rfl))
  · exact c_X6_overlookedBy2 hd hM hR hp hc hq (fun rv I9 L9 s e => hQ rv I9 L9 s (by rw [e, hq]; rfl))
  · exact c_X6_overlookedBy3 hd hM hR hp hc hq (fun rv I9 L9 s e => hQ rv I9 L9 s (by rw [e, hq]; rfl))
  · exact c_X6_overlookedBy4 hd hM hR hp hc hq (fun rv I9 L9 s e => hQ rv I9 L9 s (by rw [e, hq]; rfl))
  · exact c_X6_overlookedBy5 hd hM hR hp hc hq (fun rv I9 L9 s e => hQ rv I9 L9 s (by rw [e, hq]; rfl))
theorem c_X6_readBy {E : Ev} {d : Nat} {I : Mi} {L : Ml} {Z : Mz} {Q : Po}  {W : Nat → (Nat → Int32) → Int32} {ru n m : Nat} {p c : Nat} (hd : 44 ≤ d) (hM : MZ Z) (hR : RDM I W ru n m) (hp : p < m) (hc : c < n) (hQ : ∀ (rv : Int32) (I9 : Mi) (L9 : Ml), SaM I I9 → rv = rbM I W p c → Q (some (.int rv)) I9 L9 Z) : AC E yX6_readBy cX6_readBy 3 (some .int) d 0 0 [.ref 48, .int (nI p), .int (nI c)] I L Z Q := by
  refine ac_go (ls := [some (.ref 48), some (.int (nI p)), some (.int (nI c))]) (by decide +kernel) (Nat.le_of_ble_eq_true rfl) rfl ?_
  have hn6 := hR.2.1.2
  refine aw_aload_n dX6_readBy_0 rfl rfl ?_
  refine aw_iload_n dX6_readBy_1 rfl ?_
  refine aw_iload_n dX6_readBy_2 rfl ?_
  refine aw_V2 dX6_readBy_3 cw_X6_360 ⟨_, _, rfl⟩ hM.1 (by omega) ⟨Nat.le_refl _, Nat.le_refl _⟩ (by decide) (c_X6_seenBy (by omega) hM hR hp hc (fun r1 I1 L1 s1 e1 => ?_))
  refine aw_aload_n dX6_readBy_6 rfl rfl ?_
  refine aw_iload_n dX6_readBy_7 rfl ?_
  refine aw_iload_n dX6_readBy_8 rfl ?_
  refine aw_V2 dX6_readBy_9 cw_X6_363 ⟨_, _, rfl⟩ hM.1 (by omega) ⟨Nat.le_refl _, Nat.le_refl _⟩ (by simp [Value.category, psh]) (c_X6_overlookedBy (by omega) hM (hR.sam s1) hp hc (fun r2 I2 L2 s2 e2 => ?_))
  refine aw_iconst (v := -1) dX6_readBy_12 (by decide) ?_
  refine aw_ixor dX6_readBy_13 ?_
  refine aw_iand dX6_readBy_14 ?_
  refine aw_iconst (v := 1) dX6_readBy_15 (by decide) ?_
  refine aw_aload_n dX6_readBy_16 rfl rfl ?_
  refine aw_gr dX6_readBy_17 fw_X6_23 hM.1 hM.2.2.2.2.2.2.2.1 ?_
  refine aw_iconst (v := 2) dX6_readBy_20 (by decide) ?_
  refine aw_iload_n dX6_readBy_21 rfl ?_
  refine aw_imul dX6_readBy_22 ?_
  refine aw_iconst (v := 1) dX6_readBy_23 (by decide) ?_
  refine aw_iadd dX6_readBy_24 ?_
  refine aw_ia (2 * c + 1) dX6_readBy_25 hM.2.2.2.2.2.2.2.2.1 (ix1 c) (by omega) (by decide) ?_
  rw [(s1.tr s2).row (a := 52) (by omega)]
  refine aw_ishl dX6_readBy_26 ?_
  refine aw_iconst (v := -1) dX6_readBy_27 (by decide) ?_
  refine aw_ixor dX6_readBy_28 ?_
  refine aw_iand dX6_readBy_29 ?_
  refine aw_ireturn (ty := .int) dX6_readBy_30 rfl rfl ?_
  refine hQ _ _ _ (s1.tr s2) ?_
  rw [rlM_sam s1, s1.row (a := 54) (by omega), s1.row (a := 55) (by omega), s1 48 8 (by omega)] at e2
  rw [e1, e2]
  rfl
theorem c_X6_isSteady0 {E : Ev} {d : Nat} {I : Mi} {L : Ml} {Z : Mz} {Q : Po}  {W : Nat → (Nat → Int32) → Int32} {ru n m : Nat} {p : Nat} (hd : 43 ≤ d) (hM : MZ Z) (hR : RDM I W ru n m) (hp : p < m) (hk : I 54 p = 0) (hT : ¬ rlO I W p ≤ I 55 (2 * p + 1) → ∀ (I9 : Mi) (L9 : Ml), SaM I I9 → Q (some (.int 1)) I9 L9 Z) (hF : ¬ (¬ rlO I W p ≤ I 55 (2 * p + 1)) → ∀ (I9 : Mi) (L9 : Ml), SaM I I9 → Q (some (.int 0)) I9 L9 Z) : AC E yX6_isSteady cX6_isSteady 4 (some .boolean) d 0 0 [.ref 48, .int (nI p)] I L Z Q := by
  refine ac_go (ls := [some (.ref 48), some (.int (nI p)), none, none]) (by decide +kernel) (Nat.le_of_ble_eq_true rfl) rfl ?_
  obtain ⟨⟨hru, hr6, B, nb, kk, x1, x2, x3, t1, t2, t3, t4, t5⟩, ⟨hn1, hn2⟩, ⟨hm1, hm2⟩, hgr, hki, H0, hH1, hH2⟩ := hR
  refine aw_aload_n dX6_isSteady_0 rfl rfl ?_
  refine aw_gr dX6_isSteady_1 fw_X6_29 hM.1 hM.2.2.2.2.2.2.2.2.2.2.2.1 ?_
  refine aw_iload_n dX6_isSteady_4 rfl ?_
  refine aw_ia p dX6_isSteady_5 hM.2.2.2.2.2.2.2.2.2.2.2.2.1 rfl (by omega) (by decide) ?_
  rw [hk]
  refine aw_istore_n (ls' := [_, _, _, _]) dX6_isSteady_6 (by decide) rfl rfl ?_
  refine aw_iload_n dX6_isSteady_7 rfl ?_
  refine aw_iconst (v := 1) dX6_isSteady_8 (by decide) ?_
  refine aw_icmp_eq (tgt := 22) dX6_isSteady_9 (by decide) (fun zz => absurd zz (by decide)) (fun _ => ?_)
  refine aw_iload_n dX6_isSteady_12 rfl ?_
  refine aw_iconst (v := 3) dX6_isSteady_13 (by decide) ?_
  refine aw_icmp_eq (tgt := 22) dX6_isSteady_14 (by decide) (fun zz => absurd zz (by decide)) (fun _ => ?_)
  refine aw_iload_n dX6_isSteady_17 rfl ?_
  refine aw_iconst (v := 5) dX6_isSteady_18 (by decide) ?_
  refine aw_icmp_ne (tgt := 24) dX6_isSteady_19 (by decide) (fun _ => ?_) (fun zz => absurd zz (by decide))
  refine aw_aload_n dX6_isSteady_24 rfl rfl ?_
  refine aw_iconst (v := 2) dX6_isSteady_25 (by decide) ?_
  refine aw_iload_n dX6_isSteady_26 rfl ?_
  refine aw_iconst (v := -1) dX6_isSteady_27 (by decide) ?_
  refine aw_V3 dX6_isSteady_28 cw_X6_348 ⟨_, _, rfl⟩ hM.1 (by omega) ⟨Nat.le_refl _, Nat.le_refl _⟩ (by decide) (c_X6_says2 (B := B) (n := nb) (by omega) hM (by omega) hru hr6 t1 t2 t3 t4 (fun rs I9 L9 s9 es => ?_))
  rw [wi_cl (by decide), ← (t5 _).2.2] at es
  have es2 : rlO I W p = rs := es.symm
  refine aw_istore_n (ls' := [_, _, _, _]) dX6_isSteady_31 (by decide) rfl rfl ?_
  refine aw_aload_n dX6_isSteady_32 rfl rfl ?_
  refine aw_gr dX6_isSteady_33 fw_X6_32 hM.1 hM.2.2.2.2.2.2.2.2.2.2.2.2.2.1 ?_
  refine aw_iconst (v := 2) dX6_isSteady_36 (by decide) ?_
  refine aw_iload_n dX6_isSteady_37 rfl ?_
  refine aw_imul dX6_isSteady_38 ?_
  refine aw_iconst (v := 1) dX6_isSteady_39 (by decide) ?_
  refine aw_iadd dX6_isSteady_40 ?_
  refine aw_ia (2 * p + 1) dX6_isSteady_41 hM.2.2.2.2.2.2.2.2.2.2.2.2.2.2.1 (ix1 p) (by omega) (by decide) ?_
  rw [s9.row (a := 55) (by omega)]
  refine aw_iload_n dX6_isSteady_42 rfl ?_
  refine aw_iconst (v := 4) dX6_isSteady_43 (by decide) ?_
  refine aw_icmp_ne (tgt := 53) dX6_isSteady_44 (by decide) (fun _ => ?_) (fun zz => absurd zz (by decide))
  refine aw_iload_n dX6_isSteady_53 rfl ?_
  refine aw_icmp_ge (tgt := 61) dX6_isSteady_54 (by decide) (fun c54 => ?_) (fun c54 => ?_)
  · refine aw_iconst (v := 0) dX6_isSteady_61 (by decide) ?_
    refine aw_ireturn (ty := .boolean) dX6_isSteady_62 rfl (by decide) ?_
    exact hF (fun w => by rw [es2] at w; exact w c54) _ _ s9
  · refine aw_iconst (v := 1) dX6_isSteady_57 (by decide) ?_
    refine aw_goto (tgt := 62) dX6_isSteady_58 (by decide) ?_
    refine aw_ireturn (ty := .boolean) dX6_isSteady_62 rfl (by decide) ?_
    exact hT (by rw [es2]; exact c54) _ _ s9
theorem c_X6_isSteady1 {E : Ev} {d : Nat} {I : Mi} {L : Ml} {Z : Mz} {Q : Po}  {W : Nat → (Nat → Int32) → Int32} {ru n m : Nat} {p : Nat} (hd : 43 ≤ d) (hM : MZ Z) (hR : RDM I W ru n m) (hp : p < m) (hk : I 54 p = 1) (hT : True → ∀ (I9 : Mi) (L9 : Ml), SaM I I9 → Q (some (.int 1)) I9 L9 Z) (hF : ¬ (True) → ∀ (I9 : Mi) (L9 : Ml), SaM I I9 → Q (some (.int 0)) I9 L9 Z) : AC E yX6_isSteady cX6_isSteady 4 (some .boolean) d 0 0 [.ref 48, .int (nI p)] I L Z Q := by
  refine ac_go (ls := [some (.ref 48), some (.int (nI p)), none, none]) (by decide +kernel) (Nat.le_of_ble_eq_true rfl) rfl ?_
  obtain ⟨⟨hru, hr6, B, nb, kk, x1, x2, x3, t1, t2, t3, t4, t5⟩, ⟨hn1, hn2⟩, ⟨hm1, hm2⟩, hgr, hki, H0, hH1, hH2⟩ := hR
  refine aw_aload_n dX6_isSteady_0 rfl rfl ?_
  refine aw_gr dX6_isSteady_1 fw_X6_29 hM.1 hM.2.2.2.2.2.2.2.2.2.2.2.1 ?_
  refine aw_iload_n dX6_isSteady_4 rfl ?_
  refine aw_ia p dX6_isSteady_5 hM.2.2.2.2.2.2.2.2.2.2.2.2.1 rfl (by omega) (by decide) ?_
  rw [hk]
  refine aw_istore_n (ls' := [_, _, _, _]) dX6_isSteady_6 (by decide) rfl rfl ?_
  refine aw_iload_n dX6_isSteady_7 rfl ?_
  refine aw_iconst (v := 1) dX6_isSteady_8 (by decide) ?_
  refine aw_icmp_eq (tgt := 22) dX6_isSteady_9 (by decide) (fun _ => ?_) (fun zz => absurd zz (by decide))
  refine aw_iconst (v := 1) dX6_isSteady_22 (by decide) ?_
  refine aw_ireturn (ty := .boolean) dX6_isSteady_23 rfl (by decide) ?_
  exact hT trivial _ _ SaM.rf
theorem c_X6_isSteady2 {E : Ev} {d : Nat} {I : Mi} {L : Ml} {Z : Mz} {Q : Po}  {W : Nat → (Nat → Int32) → Int32} {ru n m : Nat} {p : Nat} (hd : 43 ≤ d) (hM : MZ Z) (hR : RDM I W ru n m) (hp : p < m) (hk : I 54 p = 2) (hT : ¬ rlO I W p ≤ I 55 (2 * p + 1) → ∀ (I9 : Mi) (L9 : Ml), SaM I I9 → Q (some (.int 1)) I9 L9 Z) (hF : ¬ (¬ rlO I W p ≤ I 55 (2 * p + 1)) → ∀ (I9 : Mi) (L9 : Ml), SaM I I9 → Q (some (.int 0)) I9 L9 Z) : AC E yX6_isSteady cX6_isSteady 4 (some .boolean) d 0 0 [.ref 48, .int (nI p)] I L Z Q := by
  refine ac_go (ls := [some (.ref 48), some (.int (nI p)), none, none]) (by decide +kernel) (Nat.le_of_ble_eq_true rfl) rfl ?_
  obtain ⟨⟨hru, hr6, B, nb, kk, x1, x2, x3, t1, t2, t3, t4, t5⟩, ⟨hn1, hn2⟩, ⟨hm1, hm2⟩, hgr, hki, H0, hH1, hH2⟩ := hR
  refine aw_aload_n dX6_isSteady_0 rfl rfl ?_
  refine aw_gr dX6_isSteady_1 fw_X6_29 hM.1 hM.2.2.2.2.2.2.2.2.2.2.2.1 ?_
  refine aw_iload_n dX6_isSteady_4 rfl ?_
  refine aw_ia p dX6_isSteady_5 hM.2.2.2.2.2.2.2.2.2.2.2.2.1 rfl (by omega) (by decide) ?_
  rw [hk]
  refine aw_istore_n (ls' := [_, _, _, _]) dX6_isSteady_6 (by decide) rfl rfl ?_
  refine aw_iload_n dX6_isSteady_7 rfl ?_
  refine aw_iconst (v := 1) dX6_isSteady_8 (by decide) ?_
  refine aw_icmp_eq (tgt := 22) dX6_isSteady_9 (by decide) (fun zz => absurd zz (by decide)) (fun _ => ?_)
  refine aw_iload_n dX6_isSteady_12 rfl ?_
  refine aw_iconst (v := 3) dX6_isSteady_13 (by decide) ?_
  refine aw_icmp_eq (tgt := 22) dX6_isSteady_14 (by decide) (fun zz => absurd zz (by decide)) (fun _ => ?_)
  refine aw_iload_n dX6_isSteady_17 rfl ?_
  refine aw_iconst (v := 5) dX6_isSteady_18 (by decide) ?_
  refine aw_icmp_ne (tgt := 24) dX6_isSteady_19 (by decide) (fun _ => ?_) (fun zz => absurd zz (by decide))
  refine aw_aload_n dX6_isSteady_24 rfl rfl ?_
  refine aw_iconst (v := 2) dX6_isSteady_25 (by decide) ?_
  refine aw_iload_n dX6_isSteady_26 rfl ?_
  refine aw_iconst (v := -1) dX6_isSteady_27 (by decide) ?_
  refine aw_V3 dX6_isSteady_28 cw_X6_348 ⟨_, _, rfl⟩ hM.1 (by omega) ⟨Nat.le_refl _, Nat.le_refl _⟩ (by decide) (c_X6_says2 (B := B) (n := nb) (by omega) hM (by omega) hru hr6 t1 t2 t3 t4 (fun rs I9 L9 s9 es => ?_))
  rw [wi_cl (by decide), ← (t5 _).2.2] at es
  have es2 : rlO I W p = rs := es.symm
  refine aw_istore_n (ls' := [_, _, _, _]) dX6_isSteady_31 (by decide) rfl rfl ?_
  refine aw_aload_n dX6_isSteady_32 rfl rfl ?_
  refine aw_gr dX6_isSteady_33 fw_X6_32 hM.1 hM.2.2.2.2.2.2.2.2.2.2.2.2.2.1 ?_
  refine aw_iconst (v := 2) dX6_isSteady_36 (by decide) ?_
  refine aw_iload_n dX6_isSteady_37 rfl ?_
  refine aw_imul dX6_isSteady_38 ?_
  refine aw_iconst (v := 1) dX6_isSteady_39 (by decide) ?_
  refine aw_iadd dX6_isSteady_40 ?_
  refine aw_ia (2 * p + 1) dX6_isSteady_41 hM.2.2.2.2.2.2.2.2.2.2.2.2.2.2.1 (ix1 p) (by omega) (by decide) ?_
  rw [s9.row (a := 55) (by omega)]
  refine aw_iload_n dX6_isSteady_42 rfl ?_
  refine aw_iconst (v := 4) dX6_isSteady_43 (by decide) ?_
  refine aw_icmp_ne (tgt := 53) dX6_isSteady_44 (by decide) (fun _ => ?_) (fun zz => absurd zz (by decide))
  refine aw_iload_n dX6_isSteady_53 rfl ?_
  refine aw_icmp_ge (tgt := 61) dX6_isSteady_54 (by decide) (fun c54 => ?_) (fun c54 => ?_)
  · refine aw_iconst (v := 0) dX6_isSteady_61 (by decide) ?_
    refine aw_ireturn (ty := .boolean) dX6_isSteady_62 rfl (by decide) ?_
    exact hF (fun w => by rw [es2] at w; exact w c54) _ _ s9
  · refine aw_iconst (v := 1) dX6_isSteady_57 (by decide) ?_
    refine aw_goto (tgt := 62) dX6_isSteady_58 (by decide) ?_
    refine aw_ireturn (ty := .boolean) dX6_isSteady_62 rfl (by decide) ?_
    exact hT (by rw [es2]; exact c54) _ _ s9
theorem c_X6_isSteady3 {E : Ev} {d : Nat} {I : Mi} {L : Ml} {Z : Mz} {Q : Po}  {W : Nat → (Nat → Int32) → Int32} {ru n m : Nat} {p : Nat} (hd : 43 ≤ d) (hM : MZ Z) (hR : RDM I W ru n m) (hp : p < m) (hk : I 54 p = 3) (hT : True → ∀ (I9 : Mi) (L9 : Ml), SaM I I9 → Q (some (.int 1)) I9 L9 Z) (hF : ¬ (True) → ∀ (I9 : Mi) (L9 : Ml), SaM I I9 → Q (some (.int 0)) I9 L9 Z) : AC E yX6_isSteady cX6_isSteady 4 (some .boolean) d 0 0 [.ref 48, .int (nI p)] I L Z Q := by
  refine ac_go (ls := [some (.ref 48), some (.int (nI p)), none, none]) (by decide +kernel) (Nat.le_of_ble_eq_true rfl) rfl ?_
  obtain ⟨⟨hru, hr6, B, nb, kk, x1, x2, x3, t1, t2, t3, t4, t5⟩, ⟨hn1, hn2⟩, ⟨hm1, hm2⟩, hgr, hki, H0, hH1, hH2⟩ := hR
  refine aw_aload_n dX6_isSteady_0 rfl rfl ?_
  refine aw_gr dX6_isSteady_1 fw_X6_29 hM.1 hM.2.2.2.2.2.2.2.2.2.2.2.1 ?_
  refine aw_iload_n dX6_isSteady_4 rfl ?_
  refine aw_ia p dX6_isSteady_5 hM.2.2.2.2.2.2.2.2.2.2.2.2.1 rfl (by omega) (by decide) ?_
  rw [hk]
  refine aw_istore_n (ls' := [_, _, _, _]) dX6_isSteady_6 (by decide) rfl rfl ?_
  refine aw_iload_n dX6_isSteady_7 rfl ?_
  refine aw_iconst (v := 1) dX6_isSteady_8 (by decide) ?_
  refine aw_icmp_eq (tgt := 22) dX6_isSteady_9 (by decide) (fun zz => absurd zz (by decide)) (fun _ => ?_)
  refine aw_iload_n dX6_isSteady_12 rfl ?_
  refine aw_iconst (v := 3) dX6_isSteady_13 (by decide) ?_
  refine aw_icmp_eq (tgt := 22) dX6_isSteady_14 (by decide) (fun _ => ?_) (fun zz => absurd zz (by decide))
  refine aw_iconst (v := 1) dX6_isSteady_22 (by decide) ?_
  refine aw_ireturn (ty := .boolean) dX6_isSteady_23 rfl (by decide) ?_
  exact hT trivial _ _ SaM.rf
theorem c_X6_isSteady4 {E : Ev} {d : Nat} {I : Mi} {L : Ml} {Z : Mz} {Q : Po}  {W : Nat → (Nat → Int32) → Int32} {ru n m : Nat} {p : Nat} (hd : 43 ≤ d) (hM : MZ Z) (hR : RDM I W ru n m) (hp : p < m) (hk : I 54 p = 4) (hT : ¬ 2 * rlO I W p ≤ I 55 (2 * p + 1) → ∀ (I9 : Mi) (L9 : Ml), SaM I I9 → Q (some (.int 1)) I9 L9 Z) (hF : ¬ (¬ 2 * rlO I W p ≤ I 55 (2 * p + 1)) → ∀ (I9 : Mi) (L9 : Ml), SaM I I9 → Q (some (.int 0)) I9 L9 Z) : AC E yX6_isSteady cX6_isSteady 4 (some .boolean) d 0 0 [.ref 48, .int (nI p)] I L Z Q := by
  refine ac_go (ls := [some (.ref 48), some (.int (nI p)), none, none]) (by decide +kernel) (Nat.le_of_ble_eq_true rfl) rfl ?_
  obtain ⟨⟨hru, hr6, B, nb, kk, x1, x2, x3, t1, t2, t3, t4, t5⟩, ⟨hn1, hn2⟩, ⟨hm1, hm2⟩, hgr, hki, H0, hH1, hH2⟩ := hR
  refine aw_aload_n dX6_isSteady_0 rfl rfl ?_
  refine aw_gr dX6_isSteady_1 fw_X6_29 hM.1 hM.2.2.2.2.2.2.2.2.2.2.2.1 ?_
  refine aw_iload_n dX6_isSteady_4 rfl ?_
  refine aw_ia p dX6_isSteady_5 hM.2.2.2.2.2.2.2.2.2.2.2.2.1 rfl (by omega) (by decide) ?_
  rw [hk]
  refine aw_istore_n (ls' := [_, _, _, _]) dX6_isSteady_6 (by decide) rfl rfl ?_
  refine aw_iload_n dX6_isSteady_7 rfl ?_
  refine aw_iconst (v := 1) dX6_isSteady_8 (by decide) ?_
  refine aw_icmp_eq (tgt := 22) dX6_isSteady_9 (by decide) (fun zz => absurd zz (by decide)) (fun _ => ?_)
  refine aw_iload_n dX6_isSteady_12 rfl ?_
  refine aw_iconst (v := 3) dX6_isSteady_13 (by decide) ?_
  refine aw_icmp_eq (tgt := 22) dX6_isSteady_14 (by decide) (fun zz => absurd zz (by decide)) (fun _ => ?_)
  refine aw_iload_n dX6_isSteady_17 rfl ?_
  refine aw_iconst (v := 5) dX6_isSteady_18 (by decide) ?_
  refine aw_icmp_ne (tgt := 24) dX6_isSteady_19 (by decide) (fun _ => ?_) (fun zz => absurd zz (by decide))
  refine aw_aload_n dX6_isSteady_24 rfl rfl ?_
  refine aw_iconst (v := 2) dX6_isSteady_25 (by decide) ?_
  refine aw_iload_n dX6_isSteady_26 rfl ?_
  refine aw_iconst (v := -1) dX6_isSteady_27 (by decide) ?_
  refine aw_V3 dX6_isSteady_28 cw_X6_348 ⟨_, _, rfl⟩ hM.1 (by omega) ⟨Nat.le_refl _, Nat.le_refl _⟩ (by decide) (c_X6_says2 (B := B) (n := nb) (by omega) hM (by omega) hru hr6 t1 t2 t3 t4 (fun rs I9 L9 s9 es => ?_))
  rw [wi_cl (by decide), ← (t5 _).2.2] at es
  have es2 : rlO I W p = rs := es.symm
  refine aw_istore_n (ls' := [_, _, _, _]) dX6_isSteady_31 (by decide) rfl rfl ?_
  refine aw_aload_n dX6_isSteady_32 rfl rfl ?_
  refine aw_gr dX6_isSteady_33 fw_X6_32 hM.1 hM.2.2.2.2.2.2.2.2.2.2.2.2.2.1 ?_
  refine aw_iconst (v := 2) dX6_isSteady_36 (by decide) ?_
  refine aw_iload_n dX6_isSteady_37 rfl ?_
  refine aw_imul dX6_isSteady_38 ?_
  refine aw_iconst (v := 1) dX6_isSteady_39 (by decide) ?_
  refine aw_iadd dX6_isSteady_40 ?_
  refine aw_ia (2 * p + 1) dX6_isSteady_41 hM.2.2.2.2.2.2.2.2.2.2.2.2.2.2.1 (ix1 p) (by omega) (by decide) ?_
  rw [s9.row (a := 55) (by omega)]
  refine aw_iload_n dX6_isSteady_42 rfl ?_
  refine aw_iconst (v := 4) dX6_isSteady_43 (by decide) ?_
  refine aw_icmp_ne (tgt := 53) dX6_isSteady_44 (by decide) (fun zz => absurd zz (by decide)) (fun _ => ?_)
  refine aw_iconst (v := 2) dX6_isSteady_47 (by decide) ?_
  refine aw_iload_n dX6_isSteady_48 rfl ?_
  refine aw_imul dX6_isSteady_49 ?_
  refine aw_goto (tgt := 54) dX6_isSteady_50 (by decide) ?_
  refine aw_icmp_ge (tgt := 61) dX6_isSteady_54 (by decide) (fun c54 => ?_) (fun c54 => ?_)
  · refine aw_iconst (v := 0) dX6_isSteady_61 (by decide) ?_
    refine aw_ireturn (ty := .boolean) dX6_isSteady_62 rfl (by decide) ?_
    exact hF (fun w => by rw [es2] at w; exact w c54) _ _ s9
  · refine aw_iconst (v := 1) dX6_isSteady_57 (by decide) ?_
    refine aw_goto (tgt := 62) dX6_isSteady_58 (by decide) ?_
    refine aw_ireturn (ty := .boolean) dX6_isSteady_62 rfl (by decide) ?_
    exact hT (by rw [es2]; exact c54) _ _ s9
theorem c_X6_isSteady5 {E : Ev} {d : Nat} {I : Mi} {L : Ml} {Z : Mz} {Q : Po}  {W : Nat → (Nat → Int32) → Int32} {ru n m : Nat} {p : Nat} (hd : 43 ≤ d) (hM : MZ Z) (hR : RDM I W ru n m) (hp : p < m) (hk : I 54 p = 5) (hT : True → ∀ (I9 : Mi) (L9 : Ml), SaM I I9 → Q (some (.int 1)) I9 L9 Z) (hF : ¬ (True) → ∀ (I9 : Mi) (L9 : Ml), SaM I I9 → Q (some (.int 0)) I9 L9 Z) : AC E yX6_isSteady cX6_isSteady 4 (some .boolean) d 0 0 [.ref 48, .int (nI p)] I L Z Q := by
  refine ac_go (ls := [some (.ref 48), some (.int (nI p)), none, none]) (by decide +kernel) (Nat.le_of_ble_eq_true rfl) rfl ?_
  obtain ⟨⟨hru, hr6, B, nb, kk, x1, x2, x3, t1, t2, t3, t4, t5⟩, ⟨hn1, hn2⟩, ⟨hm1, hm2⟩, hgr, hki, H0, hH1, hH2⟩ := hR
  refine aw_aload_n dX6_isSteady_0 rfl rfl ?_
  refine aw_gr dX6_isSteady_1 fw_X6_29 hM.1 hM.2.2.2.2.2.2.2.2.2.2.2.1 ?_
  refine aw_iload_n dX6_isSteady_4 rfl ?_
  refine aw_ia p dX6_isSteady_5 hM.2.2.2.2.2.2.2.2.2.2.2.2.1 rfl (by omega) (by decide) ?_
  rw [hk]
  refine aw_istore_n (ls' := [_, _, _, _]) dX6_isSteady_6 (by decide) rfl rfl ?_
  refine aw_iload_n dX6_isSteady_7 rfl ?_
  refine aw_iconst (v := 1) dX6_isSteady_8 (by decide) ?_
  refine aw_icmp_eq (tgt := 22) dX6_isSteady_9 (by decide) (fun zz => absurd zz (by decide)) (fun _ => ?_)
  refine aw_iload_n dX6_isSteady_12 rfl ?_
  refine aw_iconst (v := 3) dX6_isSteady_13 (by decide) ?_
  refine aw_icmp_eq (tgt := 22) dX6_isSteady_14 (by decide) (fun zz => absurd zz (by decide)) (fun _ => ?_)
  refine aw_iload_n dX6_isSteady_17 rfl ?_
  refine aw_iconst (v := 5) dX6_isSteady_18 (by decide) ?_
  refine aw_icmp_ne (tgt := 24) dX6_isSteady_19 (by decide) (fun zz => absurd zz (by decide)) (fun _ => ?_)
  refine aw_iconst (v := 1) dX6_isSteady_22 (by decide) ?_
  refine aw_ireturn (ty := .boolean) dX6_isSteady_23 rfl (by decide) ?_
  exact hT trivial _ _ SaM.rf
theorem c_X6_isSteady {E : Ev} {d : Nat} {I : Mi} {L : Ml} {Z : Mz} {Q : Po} {W : Nat → (Nat → Int32) → Int32} {ru n m : Nat} {p : Nat} (hd : 43 ≤ d) (hM : MZ Z) (hR : RDM I W ru n m) (hp : p < m) (hT : sdM I W p → ∀ (I9 : Mi) (L9 : Ml), SaM I I9 → Q (some (.int 1)) I9 L9 Z) (hF : ¬ sdM I W p → ∀ (I9 : Mi) (L9 : Ml), SaM I I9 → Q (some (.int 0)) I9 L9 Z) : AC E yX6_isSteady cX6_isSteady 4 (some .boolean) d 0 0 [.ref 48, .int (nI p)] I L Z Q := by
  obtain ⟨q, hq5, hq⟩ := hR.2.2.2.2.1 p hp
  rcases q6 hq5 with rfl | rfl | rfl | rfl | rfl | rfl
  · refine c_X6_isSteady0 hd hM hR hp hq (fun h I9 L9 s => hT ?_ I9 L9 s) (fun h I9 L9 s => hF (fun w => h ?_) I9 L9 s)
    · unfold sdM; rw [hq]; simp (decide := true) only [if_true, if_false]; exact h
    · unfold sdM at w; rw [hq] at w; simp (decide := true) only [if_true, if_false] at w; exact w
  · exact c_X6_isSteady1 hd hM hR hp hq (fun h I9 L9 s => hT (by unfold sdM; rw [hq]; simp (decide := true) only [if_true, if_false]) I9 L9 s) (fun h I9 L9 s => absurd trivial h)
  · refine c_X6_isSteady2 hd hM hR hp hq (fun h I9 L9 s => hT ?_ I9 L9 s) (fun h I9 L9 s => hF (fun w => h ?_) I9 L9 s)
    · unfold sdM; rw [hq]; simp (decide := true) only [if_true, if_false]; exact h
    · unfold sdM at w; rw [hq] at w; simp (decide := true) only [if_true, if_false] at w; exact w
  · exact c_X6_isSteady3 hd hM hR hp hq (fun h I9 L9 s => hT (by unfold sdM; rw [hq]; simp (decide := true) only [if_true, if_false]) I9 L9 s) (fun h I9 L9 s => absurd trivial h)
  · refine c_X6_isSteady4 hd hM hR hp hq (fun h I9 L9 s => hT ?_ I9 L9 s) (fun h I9 L9 s => hF (fun w => h ?_) I9 L9 s)
    · unfold sdM; rw [hq]; simp (decide := true) only [if_true, if_false]; exact h
    · unfold sdM at w; rw [hq] at w; simp (decide := true) only [if_true, if_false] at w; exact w
  · exact c_X6_isSteady5 hd hM hR hp hq (fun h I9 L9 s => hT (by unfold sdM; rw [hq]; simp (decide := true) only [if_true, if_false]) I9 L9 s) (fun h I9 L9 s => absurd trivial h)
