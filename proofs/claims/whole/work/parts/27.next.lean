def SamF (h r : Nat) (I I' : Mi) : Prop := (∀ a, a ≠ 3 → a ≠ h + 8 → a ≠ h + 3 → a ≠ h + 4 → I' a = I a) ∧ ∀ k, k < r → I' (h + 3) k = I (h + 3) k ∧ I' (h + 4) k = I (h + 4) k
theorem SamF.rf {h r : Nat} {I : Mi} : SamF h r I I := ⟨fun _ _ _ _ _ => rfl, fun _ _ => ⟨rfl, rfl⟩⟩
theorem SamF.tr {h r : Nat} {I J K : Mi} (s : SamF h r I J) (k : SamF h r J K) : SamF h r I K := ⟨fun a h1 h2 h3 h4 => (k.1 a h1 h2 h3 h4).trans (s.1 a h1 h2 h3 h4), fun j hj => ⟨(k.2 j hj).1.trans (s.2 j hj).1, (k.2 j hj).2.trans (s.2 j hj).2⟩⟩
theorem SamH.F {h r : Nat} {I J : Mi} (s : SamH h I J) (h3 : 3 < h) : SamF h r I J := ⟨fun a h1 h2 _ _ => s a h1 h2, fun j _ => ⟨by rw [s (h + 3) (by omega) (by omega)], by rw [s (h + 4) (by omega) (by omega)]⟩⟩
theorem RD.samF {I I' : Mi} {Z : Mz} {h ru t q mm ma mb n r : Nat} (s : SamF h r I I') (ht : t ≠ h + 3 ∧ t ≠ h + 4) (g : RD I Z h ru t q mm ma mb n) : RD I' Z h ru t q mm ma mb n := by
  obtain ⟨h1, h2, h3, h4, h5, h6⟩ := g
  obtain ⟨g1, g2, g3, g4, g5, g6, g7, g8, g9, ga, gb, gc, gd⟩ := h3
  refine ⟨h1, h2, ⟨?_, g2, g3, g4, g5, ?_, ?_, g8, g9, ga, gb, gc, gd⟩, ?_, h5, h6⟩
  · rw [s.1 h (by omega) (by omega) (by omega) (by omega)]; exact g1
  · rw [s.1 t gc gd ht.1 ht.2]; exact g6
  · rw [s.1 t gc gd ht.1 ht.2]; exact g7
  · rw [s.1 h (by omega) (by omega) (by omega) (by omega)]; exact h4
theorem rbV_samF {I I' : Mi} {h q ma mb mm p c r : Nat} (s : SamF h r I I') (h3 : 3 < h) (hq : q ≠ 3 ∧ q ≠ h + 8) (hq4 : q ≠ h + 3 ∧ q ≠ h + 4) : rbV I' h q ma mb mm p c = rbV I h q ma mb mm p c := by
  simp only [rbV, rlC, s.1 q hq.1 hq.2 hq4.1 hq4.2, s.1 (h + 5) (by omega) (by omega) (by omega) (by omega), s.1 (h + 1) (by omega) (by omega) (by omega) (by omega), s.1 (h + 2) (by omega) (by omega) (by omega) (by omega), s.1 (h + 6) (by omega) (by omega) (by omega) (by omega), s.1 (h + 7) (by omega) (by omega) (by omega) (by omega), s.1 h (by omega) (by omega) (by omega) (by omega)]
def foX (s b : Nat → Int32) (n : Nat) (lo x : Int32) : Int32 := foF (fun a => rdF s b a lo n 0 a) 12 x
theorem rdF_congr {s s' b b' : Nat → Int32} {ah lo : Int32} {m : Nat} (h : ∀ k, k < m → s k = s' k ∧ b k = b' k) : ∀ (n i : Nat) (a : Int32), i + n ≤ m → rdF s b ah lo n i a = rdF s' b' ah lo n i a := by
  intro n
  induction n with
  | zero => intro i a _; rfl
  | succ n ih =>
    intro i a hi
    simp only [rdF]
    rw [(h i (by omega)).1, (h i (by omega)).2]
    exact ih _ _ (by omega)
theorem foX_congr {s s' b b' : Nat → Int32} {lo x : Int32} {n : Nat} (h : ∀ k, k < n → s k = s' k ∧ b k = b' k) : foX s b n lo x = foX s' b' n lo x := by
  unfold foX
  rw [show (fun a => rdF s b a lo n 0 a) = (fun a => rdF s' b' a lo n 0 a) from funext fun a => rdF_congr h n 0 a (by omega)]
/-- how many would follow, were what one reads of a cup a reason more -/
def fwX (s b : Nat → Int32) (r : Nat) (x z sd : Int32) : Int32 := bcV (foX (fun k => if k = r then x else s k) (fun k => if k = r then z else b k) (r + 1) (-1) sd)
def fwV (I : Mi) (h q ma mb mm r p c : Nat) : Int32 := fwX (I (h + 3)) (I (h + 4)) r (rbV I h q ma mb mm p c) (I (h + 2) c) (I h 1)
theorem fwX_congr {s s' b b' : Nat → Int32} {r : Nat} {x z sd : Int32} (h : ∀ k, k < r → s k = s' k ∧ b k = b' k) : fwX s b r x z sd = fwX s' b' r x z sd := by
  unfold fwX
  refine congrArg bcV (foX_congr fun k hk => ?_)
  by_cases hkr : k = r
  · simp [hkr]
  · simp only [hkr, if_false]
    exact h k (by omega)
theorem fwV_samF {I I' : Mi} {h q ma mb mm p c r : Nat} (s : SamF h r I I') (h3 : 3 < h) (hq : q ≠ 3 ∧ q ≠ h + 8) (hq4 : q ≠ h + 3 ∧ q ≠ h + 4) : fwV I' h q ma mb mm r p c = fwV I h q ma mb mm r p c := by
  unfold fwV
  rw [rbV_samF s h3 hq hq4, s.1 (h + 2) (by omega) (by omega) (by omega) (by omega), s.1 h (by omega) (by omega) (by omega) (by omega)]
  exact fwX_congr fun k hk => s.2 k hk
theorem c_X0_followersWith {E : Ev} {d : Nat} {I : Mi} {L : Ml} {Z : Mz} {Q : Po} {h : Nat} {p c r : Nat} {ru t q mm ma mb n : Nat} (hd : 4 ≤ d) (hR : RD I Z h ru t q mm ma mb n) (hp : p < 5) (hc : c < n) (hrn : I h 9 = nI r) (hr : r < 12) (hQ : ∀ (rv : Int32) (I9 : Mi), SamF h r I I9 → rv = fwV I h q ma mb mm r p c → Q (some (.int rv)) I9 L Z) : AC E yX0_followersWith cX0_followersWith 4 (some .int) d 0 0 [.ref h, .int (nI p), .int (nI c)] I L Z Q := by
  refine ac_go (ls := [some (.ref h), some (.int (nI p)), some (.int (nI c)), none]) (by decide +kernel) (Nat.le_of_ble_eq_true rfl) rfl ?_
  have hn6 := hR.2.2.2.2.1
  have h3 := hR.h3
  refine aw_aload_n dX0_followersWith_0 rfl rfl ?_
  refine aw_aload_n dX0_followersWith_1 rfl rfl ?_
  refine aw_iload_n dX0_followersWith_2 rfl ?_
  refine aw_iload_n dX0_followersWith_3 rfl ?_
  refine aw_V2 dX0_followersWith_4 cw_X0_131 ⟨_, _, rfl⟩ hR.1.1 (by omega) ⟨Nat.le_refl _, Nat.le_refl _⟩ (by simp [Value.category, psh]) (c_X0_readBy (by omega) hR hp hc (fun r4 I4 h4 e4 => ?_))
  refine aw_aload_n dX0_followersWith_7 rfl rfl ?_
  refine aw_gr dX0_followersWith_8 fw_X0_15 hR.1.1 hR.1.2.2.2.1 ?_
  refine aw_iload_n dX0_followersWith_11 rfl ?_
  refine aw_ia c dX0_followersWith_12 hR.1.2.2.2.2.2.2.2.2.2.2.2.1 rfl (by omega) (by decide) ?_
  refine aw_V2 dX0_followersWith_13 cw_X0_134 ⟨_, _, rfl⟩ hR.1.1 (by omega) ⟨Nat.le_refl _, Nat.le_refl _⟩ (by decide) (c_X0_addReason (n := r) hR.1 (by rw [h4 h (by omega) (by omega)]; exact hrn) (by omega) (fun z => absurd z (by omega)) (fun _ => ?_))
  refine aw_bipush (v := -4) dX0_followersWith_16 (by decide) ?_
  refine aw_icmp_ne (tgt := 26) dX0_followersWith_18 (by decide) (fun c18 => ?_) (fun zz => absurd zz (fun w => absurd (w ▸ nI_pos' (n := r) (by omega)) (by decide)))
  refine aw_aload_n dX0_followersWith_26 rfl rfl ?_
  refine aw_V0 dX0_followersWith_27 cw_X0_143 ⟨_, _, rfl⟩ hR.1.1 (by omega) ⟨Nat.le_refl _, Nat.le_refl _⟩ (by decide) (c_X0_followers (by omega) hR.1 iU_same (by omega) (fun r27 e27 => ?_))
  refine aw_istore_n (ls' := [_, _, _, _]) dX0_followersWith_30 (by decide) rfl rfl ?_
  refine aw_aload_n dX0_followersWith_31 rfl rfl ?_
  refine aw_V0 dX0_followersWith_32 cw_X0_147 ⟨_, _, rfl⟩ hR.1.1 (by omega) ⟨Nat.le_refl _, Nat.le_refl _⟩ (by decide) (c_X0_dropReason (n := r + 1) hR.1 iU_same (by omega) (fun z => absurd z (by omega)) (fun _ => ?_))
  refine aw_iload_n dX0_followersWith_35 rfl ?_
  refine aw_ireturn (ty := .int) dX0_followersWith_36 rfl rfl ?_
  have hrow : ∀ a, a ≠ 3 → a ≠ h + 8 → a ≠ h + 3 → a ≠ h + 4 → (iU (iU (iU (iU I4 (h + 3) r r4) (h + 4) r (I4 (h + 2) c)) h 9 (nI (r + 1))) h 9 (nI (r + 1 - 1))) a = I a := by
    intro a h1 h2 h5 h6
    rw [← h4 a h1 h2]
    funext j
    by_cases ha : a = h ∧ j = 9
    · obtain ⟨rfl, rfl⟩ := ha
      rw [iU_same, h4 a (by omega) (by omega), hrn]
      rfl
    · rw [iU_at ha, iU_at ha, iU_at (fun w => h6 w.1), iU_at (fun w => h5 w.1)]
  refine hQ _ _ ⟨hrow, fun k hk => ⟨?_, ?_⟩⟩ ?_
  · rw [iU_at (by omega), iU_at (by omega), iU_at (by omega), iU_at (by omega), h4 (h + 3) (by omega) (by omega)]
  · rw [iU_at (by omega), iU_at (by omega), iU_at (by omega), iU_at (by omega), h4 (h + 4) (by omega) (by omega)]
  · rw [e27]
    unfold fwV fwX
    rw [iU_at (by omega), iU_at (by omega), iU_at (by omega), h4 h (by omega) (by omega)]
    refine congrArg bcV ?_
    show foX _ _ _ _ _ = _
    refine foX_congr fun k hk => ⟨?_, ?_⟩
    · by_cases hkr : k = r
      · subst hkr
        rw [iU_at (by omega), iU_at (by omega), iU_same, e4]
        simp
      · rw [iU_at (by omega), iU_at (by omega), iU_at (by omega), h4 (h + 3) (by omega) (by omega)]
        simp [hkr]
    · by_cases hkr : k = r
      · subst hkr
        rw [iU_at (by omega), iU_same, h4 (h + 2) (by omega) (by omega)]
        simp
      · rw [iU_at (by omega), iU_at (by omega), iU_at (by omega), h4 (h + 4) (by omega) (by omega)]
        simp [hkr]
def ctF (f : Nat → Int32) : Nat → Nat → Int32 → Int32 → Int32
  | 0, _, ch, _ => ch
  | n + 1, j, ch, mo => if f j ≤ mo then ctF f n (j + 1) ch mo else ctF f n (j + 1) (nI j) (f j)
theorem l_X0_cupToRead {E : Ev} {d : Nat} {I0 : Mi} {L : Ml} {Z : Mz} {Q : Po} {h p r ru t q mm ma mb n : Nat} (hR0 : RD I0 Z h ru t q mm ma mb n) (hd : 5 ≤ d) (hp : p < 5) (hrn0 : I0 h 9 = nI r) (hr : r < 12) (ht : t ≠ h + 3 ∧ t ≠ h + 4) (hq : (q ≠ 3 ∧ q ≠ h + 8) ∧ q ≠ h + 3 ∧ q ≠ h + 4) : ∀ (k j : Nat) (I : Mi) (ch mo : Int32) (o5 : Option Value), j + k = n → SamF h r I0 I → (∀ (rv : Int32) (I9 : Mi), SamF h r I0 I9 → rv = ctF (fwV I0 h q ma mb mm r p) k j ch mo → Q (some (.int rv)) I9 L Z) → AW E yX0_cupToRead cX0_cupToRead 6 (some .int) (rmOf d 0 0) Q 0 0 18 [some (.ref h), some (.int (nI p)), some (.int ch), some (.int mo), some (.int (nI j)), o5] [] I L Z := by
  have h3 := hR0.h3
  have hn6 := hR0.2.2.2.2.1
  intro k
  induction k with
  | zero =>
    intro j I ch mo o5 hj hs hQ
    have hR := hR0.samF hs ht
    refine aw_iload dX0_cupToRead_18 rfl ?_
    refine aw_aload_n dX0_cupToRead_20 rfl rfl ?_
    refine aw_gi dX0_cupToRead_21 fw_X0_50 hR.1.1 ?_
    refine aw_icmp_ge (tgt := 54) dX0_cupToRead_24 (by decide) (fun c24 => ?_) (fun zz => absurd (by rw [hR.2.2.2.1, show j = n by omega]; exact Int32.le_refl _) zz)
    refine aw_iload_n dX0_cupToRead_54 rfl ?_
    refine aw_ireturn (ty := .int) dX0_cupToRead_55 rfl rfl ?_
    exact hQ _ _ hs rfl
  | succ k ih =>
    intro j I ch mo o5 hj hs hQ
    have hR := hR0.samF hs ht
    have hrn : I h 9 = nI r := by rw [hs.1 h (by omega) (by omega) (by omega) (by omega)]; exact hrn0
    refine aw_iload dX0_cupToRead_18 rfl ?_
    refine aw_aload_n dX0_cupToRead_20 rfl rfl ?_
    refine aw_gi dX0_cupToRead_21 fw_X0_50 hR.1.1 ?_
    refine aw_icmp_ge (tgt := 54) dX0_cupToRead_24 (by decide) (fun zz => absurd zz (by rw [hR.2.2.2.1]; exact nI_ge (by omega) (by omega))) (fun c24 => ?_)
    refine aw_aload_n dX0_cupToRead_27 rfl rfl ?_
    refine aw_iload_n dX0_cupToRead_28 rfl ?_
    refine aw_iload dX0_cupToRead_29 rfl ?_
    refine aw_V2 dX0_cupToRead_31 cw_X0_168 ⟨_, _, rfl⟩ hR.1.1 (by omega) ⟨Nat.le_refl _, Nat.le_refl _⟩ (by decide) (c_X0_followersWith (by omega) hR hp (by omega) hrn hr (fun r31 I31 h31 e31 => ?_))
    refine aw_istore (ls' := [_, _, _, _, _, _]) dX0_cupToRead_34 (by decide) rfl rfl ?_
    refine aw_iload dX0_cupToRead_36 rfl ?_
    refine aw_iload_n dX0_cupToRead_38 rfl ?_
    refine aw_icmp_le (tgt := 48) dX0_cupToRead_39 (by decide) (fun c39 => ?_) (fun c39 => ?_)
    · refine aw_iinc (v := nI (j + 1)) (ls' := [_, _, _, _, _, _]) dX0_cupToRead_48 rfl (nI_1 j) (by decide) rfl rfl ?_
      refine aw_goto (tgt := 18) dX0_cupToRead_51 (by decide) ?_
      refine ih (j + 1) I31 _ _ _ (by omega) (hs.tr h31) (fun rv I9 h9 e0 => hQ rv I9 h9 ?_)
      rw [e0]
      rw [fwV_samF hs h3 hq.1 hq.2] at e31
      subst e31
      simp only [ctF, c39, not_true_eq_false, not_false_eq_true, and_true, true_and, and_false, false_and, or_true, true_or, or_false, false_or, ite_true, ite_false, if_true, if_false, reduceIte, and_self, or_self]
    · refine aw_iload dX0_cupToRead_42 rfl ?_
      refine aw_istore_n (ls' := [_, _, _, _, _, _]) dX0_cupToRead_44 (by decide) rfl rfl ?_
      refine aw_iload dX0_cupToRead_45 rfl ?_
      refine aw_istore_n (ls' := [_, _, _, _, _, _]) dX0_cupToRead_47 (by decide) rfl rfl ?_
      refine aw_iinc (v := nI (j + 1)) (ls' := [_, _, _, _, _, _]) dX0_cupToRead_48 rfl (nI_1 j) (by decide) rfl rfl ?_
      refine aw_goto (tgt := 18) dX0_cupToRead_51 (by decide) ?_
      refine ih (j + 1) I31 _ _ _ (by omega) (hs.tr h31) (fun rv I9 h9 e0 => hQ rv I9 h9 ?_)
      rw [e0]
      rw [fwV_samF hs h3 hq.1 hq.2] at e31
      subst e31
      simp only [ctF, c39, not_true_eq_false, not_false_eq_true, and_true, true_and, and_false, false_and, or_true, true_or, or_false, false_or, ite_true, ite_false, if_true, if_false, reduceIte, and_self, or_self]
theorem c_X0_cupToRead {E : Ev} {d : Nat} {I : Mi} {L : Ml} {Z : Mz} {Q : Po} {h : Nat} {p r : Nat} {ru t q mm ma mb n : Nat} (hd : 5 ≤ d) (hR : RD I Z h ru t q mm ma mb n) (hp : p < 5) (hrn : I h 9 = nI r) (hr : r ≤ 12) (ht : t ≠ h + 3 ∧ t ≠ h + 4) (hq : (q ≠ 3 ∧ q ≠ h + 8) ∧ q ≠ h + 3 ∧ q ≠ h + 4) (hQ : ∀ (rv : Int32) (I9 : Mi), SamF h r I I9 → rv = (if r = 12 then -1 else ctF (fwV I h q ma mb mm r p) n 0 (-1) (-1)) → Q (some (.int rv)) I9 L Z) : AC E yX0_cupToRead cX0_cupToRead 6 (some .int) d 0 0 [.ref h, .int (nI p)] I L Z Q := by
  refine ac_go (ls := [some (.ref h), some (.int (nI p)), none, none, none, none]) (by decide +kernel) (Nat.le_of_ble_eq_true rfl) rfl ?_
  have hlt : I h 9 < 12 ↔ r < 12 := by rw [hrn]; exact nI_ltI (b := 12) (by omega) (by decide)
  refine aw_aload_n dX0_cupToRead_0 rfl rfl ?_
  refine aw_gi dX0_cupToRead_1 fw_X0_53 hR.1.1 ?_
  refine aw_bipush (v := 12) dX0_cupToRead_4 (by decide) ?_
  refine aw_icmp_lt (tgt := 11) dX0_cupToRead_6 (by decide) (fun c6 => ?_) (fun c6 => ?_)
  · refine aw_iconst (v := -1) dX0_cupToRead_11 (by decide) ?_
    refine aw_istore_n (ls' := [_, _, _, _, _, _]) dX0_cupToRead_12 (by decide) rfl rfl ?_
    refine aw_iconst (v := -1) dX0_cupToRead_13 (by decide) ?_
    refine aw_istore_n (ls' := [_, _, _, _, _, _]) dX0_cupToRead_14 (by decide) rfl rfl ?_
    refine aw_iconst (v := 0) dX0_cupToRead_15 (by decide) ?_
    refine aw_istore (ls' := [_, _, _, _, _, _]) dX0_cupToRead_16 (by decide) rfl rfl ?_
    have hr12 := hlt.mp c6
    refine l_X0_cupToRead hR hd hp hrn hr12 ht hq n 0 I _ _ _ (by omega) SamF.rf (fun rv I9 h9 e0 => hQ rv I9 h9 ?_)
    rw [if_neg (by omega)]
    exact e0
  · refine aw_iconst (v := -1) dX0_cupToRead_9 (by decide) ?_
    refine aw_ireturn (ty := .int) dX0_cupToRead_10 rfl rfl ?_
    exact hQ _ _ SamF.rf (by rw [if_pos (Nat.le_antisymm hr (Nat.not_lt.mp (fun z => c6 (hlt.mpr z))))])
