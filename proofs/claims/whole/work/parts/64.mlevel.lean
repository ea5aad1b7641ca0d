/-! ===== the reference: reading, level by level ===== -/
theorem s3_mk {B : Nat → Int32} {n k : Nat} (h : SS B n k = 3) : mkF B n (plF B n k) = 1 := by
  have hv := ((SV_ok B n).2 k).2.1 h
  have hc := (tk_nam (B := B) (n := n) (p := plF B n k) (i := VV B n k) hv).mp ⟨h, rfl⟩
  exact ((tk_wrd (by omega)).mp hc).1
theorem one_num {S V : Nat → Nat} {lo : Option (Rd × Rd × Rd)} {k : Nat} (h : S k = 2) : oneR S V lo k = (k + 1, some ([stI 2 (V k)], fun _ => nI (V k))) := by unfold oneR; rw [if_pos h]
theorem one_nam {S V : Nat → Nat} {lo : Option (Rd × Rd × Rd)} {k : Nat} (h : S k = 3) : oneR S V lo k = (k + 1, some ([stI 3 (V k)], fun nm => nm (V k))) := by unfold oneR; rw [if_neg (by omega), if_pos h]
theorem one_non {S V : Nat → Nat} {k : Nat} (h : ¬ S k = 2) (h3 : ¬ S k = 3) : oneR S V none k = (k, none) := by unfold oneR; rw [if_neg h, if_neg h3]
theorem one_els {S V : Nat → Nat} {lo : Option (Rd × Rd × Rd)} {k : Nat} (h : ¬ S k = 2) (h3 : ¬ S k = 3) (h10 : ¬ S k = 10) (h14 : ¬ S k = 14) : oneR S V lo k = (k, none) := by
  unfold oneR
  rw [if_neg h, if_neg h3]
  match lo with
  | none => rfl
  | some (o, a, e) => simp only; rw [if_neg h10, if_neg h14]
theorem one_p0 {S V : Nat → Nat} {o a e : Rd} {k k' : Nat} (h : S k = 10) (he : e (k + 1) = (k', none)) : oneR S V (some (o, a, e)) k = (k', none) := by
  unfold oneR; rw [if_neg (by omega), if_neg (by omega)]; simp only; rw [if_pos h, he]
theorem one_p1 {S V : Nat → Nat} {o a e : Rd} {k k' : Nat} {x : List Int32 × Vl} (h : S k = 10) (he : e (k + 1) = (k', some x)) (h2 : S k' = 11) : oneR S V (some (o, a, e)) k = (k' + 1, some x) := by
  unfold oneR; rw [if_neg (by omega), if_neg (by omega)]; simp only; rw [if_pos h, he]; simp only; rw [if_pos h2]
theorem one_p2 {S V : Nat → Nat} {o a e : Rd} {k k' : Nat} {x : List Int32 × Vl} (h : S k = 10) (he : e (k + 1) = (k', some x)) (h2 : ¬ S k' = 11) : oneR S V (some (o, a, e)) k = (k', none) := by
  unfold oneR; rw [if_neg (by omega), if_neg (by omega)]; simp only; rw [if_pos h, he]; simp only; rw [if_neg h2]
theorem one_m0 {S V : Nat → Nat} {o a e : Rd} {k k' : Nat} (h : S k = 14) (he : o (k + 1) = (k', none)) : oneR S V (some (o, a, e)) k = (k', none) := by
  unfold oneR; rw [if_neg (by omega), if_neg (by omega)]; simp only; rw [if_neg (by omega), if_pos h, he]
theorem one_m1 {S V : Nat → Nat} {o a e : Rd} {k k' : Nat} {c : List Int32} {v : Vl} (h : S k = 14) (he : o (k + 1) = (k', some (c, v))) : oneR S V (some (o, a, e)) k = (k', some (c ++ [stI 18 0], fun nm => -(v nm))) := by
  unfold oneR; rw [if_neg (by omega), if_neg (by omega)]; simp only; rw [if_neg (by omega), if_pos h, he]
theorem not_n {S V : Nat → Nat} {k : Nat} (h : S k = 9) : notR S V none k = (k, none) := by unfold notR; rw [if_pos h]
theorem not_0 {S V : Nat → Nat} {o a e : Rd} {k k' : Nat} (h : S k = 9) (he : a (k + 1) = (k', none)) : notR S V (some (o, a, e)) k = (k', none) := by unfold notR; rw [if_pos h]; simp only; rw [he]
theorem not_1 {S V : Nat → Nat} {o a e : Rd} {k k' : Nat} {c : List Int32} {v : Vl} (h : S k = 9) (he : a (k + 1) = (k', some (c, v))) : notR S V (some (o, a, e)) k = (k', some (c ++ [stI 9 0], fun nm => if v nm = 0 then 1 else 0)) := by unfold notR; rw [if_pos h]; simp only; rw [he]
theorem not_e {S V : Nat → Nat} {lo : Option (Rd × Rd × Rd)} {k : Nat} (h : ¬ S k = 9) : notR S V lo k = bnR S (sumR S V lo) jN 1 k := by unfold notR; rw [if_neg h]
theorem bn_0 {S : Nat → Nat} {p : Rd} {J : Nat → Bool} {N k k' : Nat} (h : p k = (k', none)) : bnR S p J N k = (k', none) := by unfold bnR; rw [h]
theorem bn_1 {S : Nat → Nat} {p : Rd} {J : Nat → Bool} {N k k' : Nat} {c : List Int32} {v : Vl} (h : p k = (k', some (c, v))) : bnR S p J N k = lpR S p J N k' c v := by unfold bnR; rw [h]
theorem lp_z {S : Nat → Nat} {p : Rd} {J : Nat → Bool} {n k : Nat} {c : List Int32} {v : Vl} (h : ¬ J (S k) = true) : lpR S p J n k c v = (k, some (c, v)) := by
  cases n with
  | zero => rfl
  | succ n => simp only [lpR]; rw [if_neg h]
theorem lp_0 {S : Nat → Nat} {p : Rd} {J : Nat → Bool} {n k k' : Nat} {c : List Int32} {v : Vl} (h : J (S k) = true) (hp : p (k + 1) = (k', none)) : lpR S p J (n + 1) k c v = (k', none) := by simp only [lpR]; rw [if_pos h, hp]
theorem lp_1 {S : Nat → Nat} {p : Rd} {J : Nat → Bool} {n k k' : Nat} {c c2 : List Int32} {v v2 : Vl} (h : J (S k) = true) (hp : p (k + 1) = (k', some (c2, v2))) : lpR S p J (n + 1) k c v = lpR S p J n k' (c ++ c2 ++ [stI (S k) 0]) (fun nm => joV (nI (S k)) (v nm) (v2 nm)) := by simp only [lpR]; rw [if_pos h, hp]
theorem jo15 (a b : Int32) : joV (nI 15) a b = a * b := by unfold joV; rw [if_neg (by decide), if_neg (by decide), if_neg (by decide), if_neg (by decide), if_neg (by decide), if_neg (by decide)]
theorem jo14 (a b : Int32) : joV (nI 14) a b = a - b := by unfold joV; rw [if_neg (by decide), if_neg (by decide), if_neg (by decide), if_neg (by decide), if_neg (by decide), if_pos (by decide)]
theorem jo13 (a b : Int32) : joV (nI 13) a b = a + b := by unfold joV; rw [if_neg (by decide), if_neg (by decide), if_neg (by decide), if_neg (by decide), if_pos (by decide)]
theorem jo17 (a b : Int32) : joV (nI 17) a b = if a = b then 1 else 0 := by unfold joV; rw [if_neg (by decide), if_neg (by decide), if_neg (by decide), if_pos (by decide)]
theorem jo16 (a b : Int32) : joV (nI 16) a b = if b ≤ a then 0 else 1 := by unfold joV; rw [if_neg (by decide), if_neg (by decide), if_pos (by decide)]
theorem jo8 (a b : Int32) : joV (nI 8) a b = if a = 0 ∨ b = 0 then 0 else 1 := by unfold joV; rw [if_neg (by decide), if_pos (by decide)]
theorem jo7 (a b : Int32) : joV (nI 7) a b = if a = 0 ∧ b = 0 then 0 else 1 := by unfold joV; rw [if_pos (by decide)]
theorem MS.op {I : Mi} {L : Ml} {B : Nat → Int32} {n t k o o' : Nat} (h : MS I L B n t k o) : MS (iU I 48 28 (nI o')) L B n t k o' := ⟨h.1.sq (SaQ.rf.put (by omega)), ⟨by rw [iU_at (by omega)]; exact h.2.1.1, by rw [iU_at (by omega)]; exact h.2.1.2.1, by rw [iU_at (by omega)]; exact h.2.1.2.2.1, h.2.1.2.2.2⟩, by rw [iU_at (by omega)]; exact h.2.2.1, iU_same⟩
theorem MB.op {I : Mi} {f : Nat} {x : Int32} (h : MB I f) : MB (iU I 48 28 x) f := ⟨by rw [iU_at (by omega)]; exact h.1, by rw [iU_at (by omega)]; exact h.2⟩
theorem SaQ.op {I J : Mi} {x : Int32} (h : SaQ I J) : SaQ I (iU J 48 28 x) := h.put (by omega)
theorem sg_w {I : Mi} {L : Ml} {B : Nat → Int32} {n t k o c : Nat} {a : Int32} (hS : MS I L B n t k o) (hc : 10 ≤ c ∧ c ≤ 17) (h : ∀ x, sgF x = c ↔ x = a) (e : SS B n k = c) : L 48 27 = a.toInt64 := by
  have g := (tk_sgn hc h).mp e
  rw [hS.2.1.2.2.2.2 g.1, g.2]
theorem sw13 {I : Mi} {L : Ml} {B : Nat → Int32} {n t k o : Nat} (hS : MS I L B n t k o) (e : SS B n k = 13) : L 48 27 = (43 : Int64) := (sg_w hS (by decide) sg_13 e).trans (by decide)
theorem sw14 {I : Mi} {L : Ml} {B : Nat → Int32} {n t k o : Nat} (hS : MS I L B n t k o) (e : SS B n k = 14) : L 48 27 = (45 : Int64) := (sg_w hS (by decide) sg_14 e).trans (by decide)
theorem sw16 {I : Mi} {L : Ml} {B : Nat → Int32} {n t k o : Nat} (hS : MS I L B n t k o) (e : SS B n k = 16) : L 48 27 = (60 : Int64) := (sg_w hS (by decide) sg_16 e).trans (by decide)
theorem sw17 {I : Mi} {L : Ml} {B : Nat → Int32} {n t k o : Nat} (hS : MS I L B n t k o) (e : SS B n k = 17) : L 48 27 = (61 : Int64) := (sg_w hS (by decide) sg_17 e).trans (by decide)
theorem wd_S {B : Nat → Int32} {n k c : Nat} (hc : 4 ≤ c ∧ c ≤ 9) : cdF B n (plF B n k) = c ↔ SS B n k = c := (cd_lt (by omega) (by omega)).symm
theorem c_X6_atom5 {E : Ev} {d : Nat} {I : Mi} {L : Ml} {Z : Mz} {Q : Po}  {B : Nat → Int32} {n t k : Nat} (hd : 4 ≤ d) (hM : MZ Z) (hS : MS I L B n t k 5) (hk : k ≤ n) (hK : ∀ (k' : Nat) (c' : List Int32) (v' : Vl), oneR (SS B n) (VV B n) (lvR (SS B n) (VV B n) 0) k = (k', some (c', v')) → ∀ (I9 : Mi) (L9 : Ml), SaQ I I9 → MS I9 L9 B n t k' 5 → Q (some (.int (v' (nmI I)))) I9 L9 Z) (hF : ∀ k' : Nat, oneR (SS B n) (VV B n) (lvR (SS B n) (VV B n) 0) k = (k', none) → ∀ (rv : Int32) (I9 : Mi) (L9 : Ml), SaQ I I9 → MB I9 (plF B n k') → Q (some (.int rv)) I9 L9 Z) : AC E yX6_atom5 cX6_atom5 2 (some .int) d 0 0 [.ref 48] I L Z Q := by
  refine ac_go (ls := [some (.ref 48), none]) (by decide +kernel) (Nat.le_of_ble_eq_true rfl) rfl ?_
  refine aw_iconst (v := 0) dX6_atom5_0 (by decide) ?_
  refine aw_istore_n (ls' := [_, _]) dX6_atom5_1 (by decide) rfl rfl ?_
  refine aw_aload_n dX6_atom5_2 rfl rfl ?_
  refine aw_bipush (v := 45) dX6_atom5_3 (by decide) ?_
  refine aw_V1 dX6_atom5_5 cw_X6_211 ⟨_, _, rfl⟩ hM.1 (by omega) ⟨Nat.le_refl _, Nat.le_refl _⟩ (by decide) (c_X6_isSign_14 hM hS (fun c5 => ?_) (fun c5 => ?_))
  · refine aw_if_eq (tgt := 19) dX6_atom5_8 (by decide) (fun zz => absurd zz (by decide)) (fun _ => ?_)
    refine aw_aload_n dX6_atom5_11 rfl rfl ?_
    refine aw_V0 dX6_atom5_12 cw_X6_214 ⟨_, _, rfl⟩ hM.1 (by omega) ⟨Nat.le_refl _, Nat.le_refl _⟩ (by decide) (c_X6_opens5 (by omega) hM hS (fun I9 s9 m9 => ?_))
    refine aw_pop dX6_atom5_15 rfl ?_
    refine aw_goto (tgt := 102) dX6_atom5_16 (by decide) ?_
    refine aw_iload_n dX6_atom5_102 rfl ?_
    refine aw_ireturn (ty := .int) dX6_atom5_103 rfl rfl ?_
    exact hF k (one_non (by omega) (by omega)) _ _ _ s9 m9
  · refine aw_if_eq (tgt := 19) dX6_atom5_8 (by decide) (fun _ => ?_) (fun zz => absurd zz (by decide))
    refine aw_aload_n dX6_atom5_19 rfl rfl ?_
    refine aw_bipush (v := 40) dX6_atom5_20 (by decide) ?_
    refine aw_V1 dX6_atom5_22 cw_X6_211 ⟨_, _, rfl⟩ hM.1 (by omega) ⟨Nat.le_refl _, Nat.le_refl _⟩ (by decide) (c_X6_isSign_10 hM hS (fun c22 => ?_) (fun c22 => ?_))
    · refine aw_if_eq (tgt := 36) dX6_atom5_25 (by decide) (fun zz => absurd zz (by decide)) (fun _ => ?_)
      refine aw_aload_n dX6_atom5_28 rfl rfl ?_
      refine aw_V0 dX6_atom5_29 cw_X6_214 ⟨_, _, rfl⟩ hM.1 (by omega) ⟨Nat.le_refl _, Nat.le_refl _⟩ (by decide) (c_X6_opens5 (by omega) hM hS (fun I9 s9 m9 => ?_))
      refine aw_pop dX6_atom5_32 rfl ?_
      refine aw_goto (tgt := 102) dX6_atom5_33 (by decide) ?_
      refine aw_iload_n dX6_atom5_102 rfl ?_
      refine aw_ireturn (ty := .int) dX6_atom5_103 rfl rfl ?_
      exact hF k (one_non (by omega) (by omega)) _ _ _ s9 m9
    · refine aw_if_eq (tgt := 36) dX6_atom5_25 (by decide) (fun _ => ?_) (fun zz => absurd zz (by decide))
      refine aw_aload_n dX6_atom5_36 rfl rfl ?_
      refine aw_gi dX6_atom5_37 fw_X6_170 hM.1 ?_
      refine aw_if_ne (tgt := 64) dX6_atom5_40 (by decide) (fun zz => absurd hS.2.2.1 zz) (fun c40 => ?_)
      refine aw_aload_n dX6_atom5_43 rfl rfl ?_
      refine aw_gi dX6_atom5_44 fw_X6_153 hM.1 ?_
      refine aw_iconst (v := 2) dX6_atom5_47 (by decide) ?_
      refine aw_icmp_ne (tgt := 64) dX6_atom5_48 (by decide) (fun c48 => ?_) (fun c48 => ?_)
      · refine aw_aload_n dX6_atom5_64 rfl rfl ?_
        refine aw_gi dX6_atom5_65 fw_X6_170 hM.1 ?_
        refine aw_if_ne (tgt := 98) dX6_atom5_68 (by decide) (fun zz => absurd hS.2.2.1 zz) (fun c68 => ?_)
        refine aw_aload_n dX6_atom5_71 rfl rfl ?_
        refine aw_gi dX6_atom5_72 fw_X6_153 hM.1 ?_
        refine aw_iconst (v := 1) dX6_atom5_75 (by decide) ?_
        refine aw_icmp_ne (tgt := 98) dX6_atom5_76 (by decide) (fun c76 => ?_) (fun c76 => ?_)
        · refine aw_aload_n dX6_atom5_98 rfl rfl ?_
          have h2 : ¬ SS B n k = 2 := fun w => c48 (by rw [hS.2.1.2.1, tk_num.mp w]; rfl)
          have h3 : ¬ SS B n k = 3 := fun w => c76 (by rw [hS.2.1.2.1, s3_mk w]; rfl)
          refine aw_V0 dX6_atom5_99 cw_X6_183 ⟨_, _, rfl⟩ hM.1 (by omega) ⟨Nat.le_refl _, Nat.le_refl _⟩ (by decide) (c_X6_fail hM hS (fun I9 s9 m9 => ?_))
          refine aw_iload_n dX6_atom5_102 rfl ?_
          refine aw_ireturn (ty := .int) dX6_atom5_103 rfl rfl ?_
          exact hF k (one_non h2 h3) _ _ _ s9 m9
        · refine aw_aload_n dX6_atom5_79 rfl rfl ?_
          have h2 : ¬ SS B n k = 2 := fun w => c48 (by rw [hS.2.1.2.1, tk_num.mp w]; rfl)
          refine aw_V0 dX6_atom5_80 cw_X6_218 ⟨_, _, rfl⟩ hM.1 (by omega) ⟨Nat.le_refl _, Nat.le_refl _⟩ (by decide) (c_X6_name (by omega) hM hS (fun h3 => ?_) (fun h3 I9 s9 m9 => ?_))
          · refine aw_istore_n (ls' := [_, _]) dX6_atom5_83 (by decide) rfl rfl ?_
            refine aw_aload_n dX6_atom5_84 rfl rfl ?_
            refine aw_gi dX6_atom5_85 fw_X6_170 hM.1 ?_
            refine aw_if_ne (tgt := 102) dX6_atom5_88 (by decide) (fun zz => absurd hS.2.2.1 zz) (fun c88 => ?_)
            refine aw_aload_n dX6_atom5_91 rfl rfl ?_
            
            refine aw_V0 dX6_atom5_92 cw_X6_186 ⟨_, _, rfl⟩ hM.1 (by omega) ⟨Nat.le_refl _, Nat.le_refl _⟩ (by decide) (c_X6_next (by omega) hM hS (by omega) (by omega) (fun I2 L2 s2 m2 => ?_))
            refine aw_goto (tgt := 102) dX6_atom5_95 (by decide) ?_
            refine aw_iload_n dX6_atom5_102 rfl ?_
            refine aw_ireturn (ty := .int) dX6_atom5_103 rfl rfl ?_
            exact hK _ _ _ (one_nam h3) _ _ s2 m2
          · refine aw_istore_n (ls' := [_, _]) dX6_atom5_83 (by decide) rfl rfl ?_
            refine aw_aload_n dX6_atom5_84 rfl rfl ?_
            refine aw_gi dX6_atom5_85 fw_X6_170 hM.1 ?_
            refine aw_if_ne (tgt := 102) dX6_atom5_88 (by decide) (fun c88 => ?_) (fun zz => absurd zz (by rw [m9.1]; decide))
            refine aw_iload_n dX6_atom5_102 rfl ?_
            refine aw_ireturn (ty := .int) dX6_atom5_103 rfl rfl ?_
            exact hF k (one_non h2 h3) _ _ _ s9 m9
      · refine aw_aload_n dX6_atom5_51 rfl rfl ?_
        refine aw_gl dX6_atom5_52 fw_X6_164 hM.1 ?_
        have h2 : SS B n k = 2 := tk_num.mpr (by
          have e := hS.2.1.2.1
          rw [c48] at e
          exact ((nI_eq (a := 2) (by decide) (by have := mk_le B n (plF B n k); omega)).mp e).symm)
        have eL : L 48 27 = lN (VV B n k) := by rw [hS.2.1.2.2.2.1 (tk_num.mp h2)]; exact congrArg lN (tk_val h2).symm
        rw [eL]
        refine aw_l2i dX6_atom5_55 ?_
        rw [lN_i]
        refine aw_istore_n (ls' := [_, _]) dX6_atom5_56 (by decide) rfl rfl ?_
        refine aw_aload_n dX6_atom5_57 rfl rfl ?_
        
        refine aw_V0 dX6_atom5_58 cw_X6_186 ⟨_, _, rfl⟩ hM.1 (by omega) ⟨Nat.le_refl _, Nat.le_refl _⟩ (by decide) (c_X6_next (by omega) hM hS (by omega) (by omega) (fun I2 L2 s2 m2 => ?_))
        refine aw_goto (tgt := 102) dX6_atom5_61 (by decide) ?_
        refine aw_iload_n dX6_atom5_102 rfl ?_
        refine aw_ireturn (ty := .int) dX6_atom5_103 rfl rfl ?_
        exact hK _ _ _ (one_num h2) _ _ s2 m2
theorem l_X6_term5 {E : Ev} {d : Nat} {Z : Mz} {Q : Po} {B : Nat → Int32} {n t : Nat} (hd : 5 ≤ d) (hM : MZ Z) : ∀ (m k : Nat) (c : List Int32) (v : Vl) (x : Int32) (I : Mi) (L : Ml), n ≤ k + m → k ≤ n → MS I L B n t k 5 → x = v (nmI I) → (∀ (k' : Nat) (c' : List Int32) (v' : Vl), lpR (SS B n) (oneR (SS B n) (VV B n) (lvR (SS B n) (VV B n) 0)) jT m k c v = (k', some (c', v')) → ∀ (I9 : Mi) (L9 : Ml), SaQ I I9 → MS I9 L9 B n t k' 5 → Q (some (.int (v' (nmI I)))) I9 L9 Z) → (∀ k' : Nat, lpR (SS B n) (oneR (SS B n) (VV B n) (lvR (SS B n) (VV B n) 0)) jT m k c v = (k', none) → ∀ (rv : Int32) (I9 : Mi) (L9 : Ml), SaQ I I9 → MB I9 (plF B n k') → Q (some (.int rv)) I9 L9 Z) → AW E yX6_term5 cX6_term5 2 (some .int) (rmOf d 0 0) Q 0 0 5 [some (.ref 48), some (.int x)] [] I L Z := by
  intro m
  induction m with
  | zero =>
    intro k c v x I L hm hk hS hx hK hF
    have hz : SS B n k = 0 := by rw [show k = n by omega]; exact (SV_ok B n).1
    refine aw_aload_n dX6_term5_5 rfl rfl ?_
    refine aw_bipush (v := 42) dX6_term5_6 (by decide) ?_
    refine aw_V1 dX6_term5_8 cw_X6_211 ⟨_, _, rfl⟩ hM.1 (by omega) ⟨Nat.le_refl _, Nat.le_refl _⟩ (by decide) (c_X6_isSign_15 hM hS (fun zz => absurd zz (by omega)) (fun c8 => ?_))
    refine aw_if_eq (tgt := 28) dX6_term5_11 (by decide) (fun _ => ?_) (fun zz => absurd zz (by decide))
    refine aw_iload_n dX6_term5_28 rfl ?_
    refine aw_ireturn (ty := .int) dX6_term5_29 rfl rfl ?_
    rw [hx]
    exact hK _ _ _ rfl _ _ SaQ.rf hS
  | succ m ih =>
    intro k c v x I L hm hk hS hx hK hF
    have hJ := fun (J : Nat → Bool) (h : J (SS B n k) = true) => h
    refine aw_aload_n dX6_term5_5 rfl rfl ?_
    refine aw_bipush (v := 42) dX6_term5_6 (by decide) ?_
    refine aw_V1 dX6_term5_8 cw_X6_211 ⟨_, _, rfl⟩ hM.1 (by omega) ⟨Nat.le_refl _, Nat.le_refl _⟩ (by decide) (c_X6_isSign_15 hM hS (fun c8 => ?_) (fun c8 => ?_))
    · refine aw_if_eq (tgt := 28) dX6_term5_11 (by decide) (fun zz => absurd zz (by decide)) (fun _ => ?_)
      refine aw_aload_n dX6_term5_14 rfl rfl ?_
      
      refine aw_V0 dX6_term5_15 cw_X6_186 ⟨_, _, rfl⟩ hM.1 (by omega) ⟨Nat.le_refl _, Nat.le_refl _⟩ (by decide) (c_X6_next (by omega) hM hS (by omega) (by omega) (fun I2 L2 s2 m2 => ?_))
      refine aw_iload_n dX6_term5_18 rfl ?_
      refine aw_aload_n dX6_term5_19 rfl rfl ?_
      refine aw_V0 dX6_term5_20 cw_X6_222 ⟨_, _, rfl⟩ hM.1 (by omega) ⟨Nat.le_refl _, Nat.le_refl _⟩ (by simp [Value.category, psh]) (c_X6_atom5 (by omega) hM m2 (by have := lt_of_S (SV_ok B n).1 hk (by omega); omega) (fun k1 c1 v1 e1 I1 L1 s1 m1 => ?_) (fun k1 e1 rv1 I1 L1 s1 m1 => ?_))
      · refine aw_imul dX6_term5_23 ?_
        refine aw_istore_n (ls' := [_, _]) dX6_term5_24 (by decide) rfl rfl ?_
        refine aw_goto (tgt := 5) dX6_term5_25 (by decide) ?_
        have hkn := lt_of_S (SV_ok B n).1 hk (by omega)
        have ok1 := (all_ok (SV_ok B n) (lv_ok (SV_ok B n) 0)).1 (k + 1) (by omega)
        rw [e1] at ok1
        obtain ⟨b1, b2, b3⟩ := ok1
        simp only at b1 b2
        have b4 := (b3 _ _ rfl).1
        simp only at b4
        have e2 := lp_1 (n := m) (c := c) (v := v) (show jT (SS B n k) = true by rw [c8]; decide) e1
        refine ih k1 (c ++ c1 ++ [stI (SS B n k) 0]) (fun nm => joV (nI (SS B n k)) (v nm) (v1 nm)) _ I1 L1 (by omega) b2 m1 ?_ (fun k' c' v' e I9 L9 s9 m9 => ?_) (fun k' e rv I9 L9 s9 m9 => ?_)
        · rw [nmI_q s1, nmI_q s2, c8, jo15, hx]
        · rw [nmI_q s1, nmI_q s2]; exact hK k' c' v' (e2.trans e) I9 L9 ((s2.tr s1).tr s9) m9
        · exact hF k' (e2.trans e) rv I9 L9 ((s2.tr s1).tr s9) m9
      · refine aw_imul dX6_term5_23 ?_
        refine aw_istore_n (ls' := [_, _]) dX6_term5_24 (by decide) rfl rfl ?_
        refine aw_goto (tgt := 5) dX6_term5_25 (by decide) ?_
        refine aw_aload_n dX6_term5_5 rfl rfl ?_
        refine aw_bipush (v := 42) dX6_term5_6 (by decide) ?_
        refine aw_V1 dX6_term5_8 cw_X6_211 ⟨_, _, rfl⟩ hM.1 (by omega) ⟨Nat.le_refl _, Nat.le_refl _⟩ (by decide) (c_X6_isSignB hM m1 ?_)
        refine aw_if_eq (tgt := 28) dX6_term5_11 (by decide) (fun _ => ?_) (fun zz => absurd zz (by decide))
        refine aw_iload_n dX6_term5_28 rfl ?_
        refine aw_ireturn (ty := .int) dX6_term5_29 rfl rfl ?_
        exact hF _ (lp_0 (show jT (SS B n k) = true by rw [c8]; decide) e1) _ _ _ (s2.tr s1) m1
    · refine aw_if_eq (tgt := 28) dX6_term5_11 (by decide) (fun _ => ?_) (fun zz => absurd zz (by decide))
      refine aw_iload_n dX6_term5_28 rfl ?_
      refine aw_ireturn (ty := .int) dX6_term5_29 rfl rfl ?_
      rw [hx]
      exact hK _ _ _ (lp_z (by simp only [jT, beq_iff_eq]; exact c8)) _ _ SaQ.rf hS
theorem c_X6_term5 {E : Ev} {d : Nat} {I : Mi} {L : Ml} {Z : Mz} {Q : Po}  {B : Nat → Int32} {n t k : Nat} (hd : 5 ≤ d) (hM : MZ Z) (hS : MS I L B n t k 5) (hk : k ≤ n) (hK : ∀ (k' : Nat) (c' : List Int32) (v' : Vl), terR (SS B n) (VV B n) (lvR (SS B n) (VV B n) 0) k = (k', some (c', v')) → ∀ (I9 : Mi) (L9 : Ml), SaQ I I9 → MS I9 L9 B n t k' 5 → Q (some (.int (v' (nmI I)))) I9 L9 Z) (hF : ∀ k' : Nat, terR (SS B n) (VV B n) (lvR (SS B n) (VV B n) 0) k = (k', none) → ∀ (rv : Int32) (I9 : Mi) (L9 : Ml), SaQ I I9 → MB I9 (plF B n k') → Q (some (.int rv)) I9 L9 Z) : AC E yX6_term5 cX6_term5 2 (some .int) d 0 0 [.ref 48] I L Z Q := by
  refine ac_go (ls := [some (.ref 48), none]) (by decide +kernel) (Nat.le_of_ble_eq_true rfl) rfl ?_
  refine aw_aload_n dX6_term5_0 rfl rfl ?_
  refine aw_V0 dX6_term5_1 cw_X6_222 ⟨_, _, rfl⟩ hM.1 (by omega) ⟨Nat.le_refl _, Nat.le_refl _⟩ (by decide) (c_X6_atom5 (by omega) hM hS hk (fun k1 c1 v1 e1 I1 L1 s1 m1 => ?_) (fun k1 e1 rv1 I1 L1 s1 m1 => ?_))
  · refine aw_istore_n (ls' := [_, _]) dX6_term5_4 (by decide) rfl rfl ?_
    have e2 : terR (SS B n) (VV B n) (lvR (SS B n) (VV B n) 0) k = lpR (SS B n) (oneR (SS B n) (VV B n) (lvR (SS B n) (VV B n) 0)) jT 160 k1 c1 v1 := bn_1 e1
    have ok1 := (all_ok (SV_ok B n) (lv_ok (SV_ok B n) 0)).1 k (by omega)
    rw [e1] at ok1
    obtain ⟨b1, b2, b3⟩ := ok1
    simp only at b1 b2
    have hn6 := hS.1.2.2.2.1
    refine l_X6_term5 hd hM 160 k1 c1 v1 _ I1 L1 (by omega) b2 m1 (by rw [nmI_q s1]) (fun k' c' v' e I9 L9 s9 m9 => ?_) (fun k' e rv I9 L9 s9 m9 => ?_)
    · rw [nmI_q s1]; exact hK k' c' v' (e2.trans e) I9 L9 (s1.tr s9) m9
    · exact hF k' (e2.trans e) rv I9 L9 (s1.tr s9) m9
  · refine aw_istore_n (ls' := [_, _]) dX6_term5_4 (by decide) rfl rfl ?_
    refine aw_aload_n dX6_term5_5 rfl rfl ?_
    refine aw_bipush (v := 42) dX6_term5_6 (by decide) ?_
    refine aw_V1 dX6_term5_8 cw_X6_211 ⟨_, _, rfl⟩ hM.1 (by omega) ⟨Nat.le_refl _, Nat.le_refl _⟩ (by decide) (c_X6_isSignB hM m1 ?_)
    refine aw_if_eq (tgt := 28) dX6_term5_11 (by decide) (fun _ => ?_) (fun zz => absurd zz (by decide))
    refine aw_iload_n dX6_term5_28 rfl ?_
    refine aw_ireturn (ty := .int) dX6_term5_29 rfl rfl ?_
    exact hF _ (bn_0 e1) _ _ _ s1 m1
theorem l_X6_added5 {E : Ev} {d : Nat} {Z : Mz} {Q : Po} {B : Nat → Int32} {n t : Nat} (hd : 6 ≤ d) (hM : MZ Z) : ∀ (m k : Nat) (c : List Int32) (v : Vl) (x : Int32) (I : Mi) (L : Ml) (o2 o3 : Option Value), n ≤ k + m → k ≤ n → MS I L B n t k 5 → x = v (nmI I) → (∀ (k' : Nat) (c' : List Int32) (v' : Vl), lpR (SS B n) (terR (SS B n) (VV B n) (lvR (SS B n) (VV B n) 0)) jS m k c v = (k', some (c', v')) → ∀ (I9 : Mi) (L9 : Ml), SaQ I I9 → MS I9 L9 B n t k' 5 → Q (some (.int (v' (nmI I)))) I9 L9 Z) → (∀ k' : Nat, lpR (SS B n) (terR (SS B n) (VV B n) (lvR (SS B n) (VV B n) 0)) jS m k c v = (k', none) → ∀ (rv : Int32) (I9 : Mi) (L9 : Ml), SaQ I I9 → MB I9 (plF B n k') → Q (some (.int rv)) I9 L9 Z) → AW E yX6_added5 cX6_added5 4 (some .int) (rmOf d 0 0) Q 0 0 5 [some (.ref 48), some (.int x), o2, o3] [] I L Z := by
  intro m
  induction m with
  | zero =>
    intro k c v x I L o2 o3 hm hk hS hx hK hF
    have hz : SS B n k = 0 := by rw [show k = n by omega]; exact (SV_ok B n).1
    refine aw_aload_n dX6_added5_5 rfl rfl ?_
    refine aw_bipush (v := 43) dX6_added5_6 (by decide) ?_
    refine aw_V1 dX6_added5_8 cw_X6_211 ⟨_, _, rfl⟩ hM.1 (by omega) ⟨Nat.le_refl _, Nat.le_refl _⟩ (by decide) (c_X6_isSign_13 hM hS (fun zz => absurd zz (by omega)) (fun c8 => ?_))
    refine aw_if_ne (tgt := 23) dX6_added5_11 (by decide) (fun zz => absurd zz (by decide)) (fun _ => ?_)
    refine aw_aload_n dX6_added5_14 rfl rfl ?_
    refine aw_bipush (v := 45) dX6_added5_15 (by decide) ?_
    refine aw_V1 dX6_added5_17 cw_X6_211 ⟨_, _, rfl⟩ hM.1 (by omega) ⟨Nat.le_refl _, Nat.le_refl _⟩ (by decide) (c_X6_isSign_14 hM hS (fun zz => absurd zz (by omega)) (fun c17 => ?_))
    refine aw_if_eq (tgt := 66) dX6_added5_20 (by decide) (fun _ => ?_) (fun zz => absurd zz (by decide))
    refine aw_iload_n dX6_added5_66 rfl ?_
    refine aw_ireturn (ty := .int) dX6_added5_67 rfl rfl ?_
    rw [hx]
    exact hK _ _ _ rfl _ _ SaQ.rf hS
  | succ m ih =>
    intro k c v x I L o2 o3 hm hk hS hx hK hF
    have hJ := fun (J : Nat → Bool) (h : J (SS B n k) = true) => h
    refine aw_aload_n dX6_added5_5 rfl rfl ?_
    refine aw_bipush (v := 43) dX6_added5_6 (by decide) ?_
    refine aw_V1 dX6_added5_8 cw_X6_211 ⟨_, _, rfl⟩ hM.1 (by omega) ⟨Nat.le_refl _, Nat.le_refl _⟩ (by decide) (c_X6_isSign_13 hM hS (fun c8 => ?_) (fun c8 => ?_))
    · refine aw_if_ne (tgt := 23) dX6_added5_11 (by decide) (fun _ => ?_) (fun zz => absurd zz (by decide))
      refine aw_aload_n dX6_added5_23 rfl rfl ?_
      refine aw_gl dX6_added5_24 fw_X6_164 hM.1 ?_
      rw [sw13 hS c8]
      refine aw_ldc2 dX6_added5_27 kw_X6_228 ?_
      refine aw_lcmp dX6_added5_30 ?_
      refine aw_if_ne (tgt := 38) dX6_added5_31 (by decide) (fun zz => absurd (by decide) zz) (fun c31 => ?_)
      refine aw_iconst (v := 1) dX6_added5_34 (by decide) ?_
      refine aw_goto (tgt := 39) dX6_added5_35 (by decide) ?_
      refine aw_istore_n (ls' := [_, _, _, _]) dX6_added5_39 (by decide) rfl rfl ?_
      refine aw_aload_n dX6_added5_40 rfl rfl ?_
      
      refine aw_V0 dX6_added5_41 cw_X6_186 ⟨_, _, rfl⟩ hM.1 (by omega) ⟨Nat.le_refl _, Nat.le_refl _⟩ (by decide) (c_X6_next (by omega) hM hS (by omega) (by omega) (fun I2 L2 s2 m2 => ?_))
      refine aw_aload_n dX6_added5_44 rfl rfl ?_
      refine aw_V0 dX6_added5_45 cw_X6_225 ⟨_, _, rfl⟩ hM.1 (by omega) ⟨Nat.le_refl _, Nat.le_refl _⟩ (by decide) (c_X6_term5 (by omega) hM m2 (by have := lt_of_S (SV_ok B n).1 hk (by omega); omega) (fun k1 c1 v1 e1 I1 L1 s1 m1 => ?_) (fun k1 e1 rv1 I1 L1 s1 m1 => ?_))
      · refine aw_istore_n (ls' := [_, _, _, _]) dX6_added5_48 (by decide) rfl rfl ?_
        refine aw_iload_n dX6_added5_49 rfl ?_
        refine aw_if_eq (tgt := 59) dX6_added5_50 (by decide) (fun zz => absurd zz (by decide)) (fun _ => ?_)
        refine aw_iload_n dX6_added5_53 rfl ?_
        refine aw_iload_n dX6_added5_54 rfl ?_
        refine aw_iadd dX6_added5_55 ?_
        refine aw_goto (tgt := 62) dX6_added5_56 (by decide) ?_
        refine aw_istore_n (ls' := [_, _, _, _]) dX6_added5_62 (by decide) rfl rfl ?_
        refine aw_goto (tgt := 5) dX6_added5_63 (by decide) ?_
        have hkn := lt_of_S (SV_ok B n).1 hk (by omega)
        have ok1 := (all_ok (SV_ok B n) (lv_ok (SV_ok B n) 0)).2.1 (k + 1) (by omega)
        rw [e1] at ok1
        obtain ⟨b1, b2, b3⟩ := ok1
        simp only at b1 b2
        have b4 := (b3 _ _ rfl).1
        simp only at b4
        have e2 := lp_1 (n := m) (c := c) (v := v) (show jS (SS B n k) = true by rw [c8]; decide) e1
        refine ih k1 (c ++ c1 ++ [stI (SS B n k) 0]) (fun nm => joV (nI (SS B n k)) (v nm) (v1 nm)) _ I1 L1 _ _ (by omega) b2 m1 ?_ (fun k' c' v' e I9 L9 s9 m9 => ?_) (fun k' e rv I9 L9 s9 m9 => ?_)
        · rw [nmI_q s1, nmI_q s2, c8, jo13, hx]
        · rw [nmI_q s1, nmI_q s2]; exact hK k' c' v' (e2.trans e) I9 L9 ((s2.tr s1).tr s9) m9
        · exact hF k' (e2.trans e) rv I9 L9 ((s2.tr s1).tr s9) m9
      · refine aw_istore_n (ls' := [_, _, _, _]) dX6_added5_48 (by decide) rfl rfl ?_
        refine aw_iload_n dX6_added5_49 rfl ?_
        refine aw_if_eq (tgt := 59) dX6_added5_50 (by decide) (fun zz => absurd zz (by decide)) (fun _ => ?_)
        refine aw_iload_n dX6_added5_53 rfl ?_
        refine aw_iload_n dX6_added5_54 rfl ?_
        refine aw_iadd dX6_added5_55 ?_
        refine aw_goto (tgt := 62) dX6_added5_56 (by decide) ?_
        refine aw_istore_n (ls' := [_, _, _, _]) dX6_added5_62 (by decide) rfl rfl ?_
        refine aw_goto (tgt := 5) dX6_added5_63 (by decide) ?_
        refine aw_aload_n dX6_added5_5 rfl rfl ?_
        refine aw_bipush (v := 43) dX6_added5_6 (by decide) ?_
        refine aw_V1 dX6_added5_8 cw_X6_211 ⟨_, _, rfl⟩ hM.1 (by omega) ⟨Nat.le_refl _, Nat.le_refl _⟩ (by decide) (c_X6_isSignB hM m1 ?_)
        refine aw_if_ne (tgt := 23) dX6_added5_11 (by decide) (fun zz => absurd zz (by decide)) (fun _ => ?_)
        refine aw_aload_n dX6_added5_14 rfl rfl ?_
        refine aw_bipush (v := 45) dX6_added5_15 (by decide) ?_
        refine aw_V1 dX6_added5_17 cw_X6_211 ⟨_, _, rfl⟩ hM.1 (by omega) ⟨Nat.le_refl _, Nat.le_refl _⟩ (by decide) (c_X6_isSignB hM m1 ?_)
        refine aw_if_eq (tgt := 66) dX6_added5_20 (by decide) (fun _ => ?_) (fun zz => absurd zz (by decide))
        refine aw_iload_n dX6_added5_66 rfl ?_
        refine aw_ireturn (ty := .int) dX6_added5_67 rfl rfl ?_
        exact hF _ (lp_0 (show jS (SS B n k) = true by rw [c8]; decide) e1) _ _ _ (s2.tr s1) m1
    · refine aw_if_ne (tgt := 23) dX6_added5_11 (by decide) (fun zz => absurd zz (by decide)) (fun _ => ?_)
      refine aw_aload_n dX6_added5_14 rfl rfl ?_
      refine aw_bipush (v := 45) dX6_added5_15 (by decide) ?_
      refine aw_V1 dX6_added5_17 cw_X6_211 ⟨_, _, rfl⟩ hM.1 (by omega) ⟨Nat.le_refl _, Nat.le_refl _⟩ (by decide) (c_X6_isSign_14 hM hS (fun c17 => ?_) (fun c17 => ?_))
      · refine aw_if_eq (tgt := 66) dX6_added5_20 (by decide) (fun zz => absurd zz (by decide)) (fun _ => ?_)
        refine aw_aload_n dX6_added5_23 rfl rfl ?_
        refine aw_gl dX6_added5_24 fw_X6_164 hM.1 ?_
        rw [sw14 hS c17]
        refine aw_ldc2 dX6_added5_27 kw_X6_228 ?_
        refine aw_lcmp dX6_added5_30 ?_
        refine aw_if_ne (tgt := 38) dX6_added5_31 (by decide) (fun c31 => ?_) (fun zz => absurd zz (by decide))
        refine aw_iconst (v := 0) dX6_added5_38 (by decide) ?_
        refine aw_istore_n (ls' := [_, _, _, _]) dX6_added5_39 (by decide) rfl rfl ?_
        refine aw_aload_n dX6_added5_40 rfl rfl ?_
        
        refine aw_V0 dX6_added5_41 cw_X6_186 ⟨_, _, rfl⟩ hM.1 (by omega) ⟨Nat.le_refl _, Nat.le_refl _⟩ (by decide) (c_X6_next (by omega) hM hS (by omega) (by omega) (fun I2 L2 s2 m2 => ?_))
        refine aw_aload_n dX6_added5_44 rfl rfl ?_
        refine aw_V0 dX6_added5_45 cw_X6_225 ⟨_, _, rfl⟩ hM.1 (by omega) ⟨Nat.le_refl _, Nat.le_refl _⟩ (by decide) (c_X6_term5 (by omega) hM m2 (by have := lt_of_S (SV_ok B n).1 hk (by omega); omega) (fun k1 c1 v1 e1 I1 L1 s1 m1 => ?_) (fun k1 e1 rv1 I1 L1 s1 m1 => ?_))
        · refine aw_istore_n (ls' := [_, _, _, _]) dX6_added5_48 (by decide) rfl rfl ?_
          refine aw_iload_n dX6_added5_49 rfl ?_
          refine aw_if_eq (tgt := 59) dX6_added5_50 (by decide) (fun _ => ?_) (fun zz => absurd zz (by decide))
          refine aw_iload_n dX6_added5_59 rfl ?_
          refine aw_iload_n dX6_added5_60 rfl ?_
          refine aw_isub dX6_added5_61 ?_
          refine aw_istore_n (ls' := [_, _, _, _]) dX6_added5_62 (by decide) rfl rfl ?_
          refine aw_goto (tgt := 5) dX6_added5_63 (by decide) ?_
          have hkn := lt_of_S (SV_ok B n).1 hk (by omega)
          have ok1 := (all_ok (SV_ok B n) (lv_ok (SV_ok B n) 0)).2.1 (k + 1) (by omega)
          rw [e1] at ok1
          obtain ⟨b1, b2, b3⟩ := ok1
          simp only at b1 b2
          have b4 := (b3 _ _ rfl).1
          simp only at b4
          have e2 := lp_1 (n := m) (c := c) (v := v) (show jS (SS B n k) = true by rw [c17]; decide) e1
          refine ih k1 (c ++ c1 ++ [stI (SS B n k) 0]) (fun nm => joV (nI (SS B n k)) (v nm) (v1 nm)) _ I1 L1 _ _ (by omega) b2 m1 ?_ (fun k' c' v' e I9 L9 s9 m9 => ?_) (fun k' e rv I9 L9 s9 m9 => ?_)
          · rw [nmI_q s1, nmI_q s2, c17, jo14, hx]
          · rw [nmI_q s1, nmI_q s2]; exact hK k' c' v' (e2.trans e) I9 L9 ((s2.tr s1).tr s9) m9
          · exact hF k' (e2.trans e) rv I9 L9 ((s2.tr s1).tr s9) m9
        · refine aw_istore_n (ls' := [_, _, _, _]) dX6_added5_48 (by decide) rfl rfl ?_
          refine aw_iload_n dX6_added5_49 rfl ?_
          refine aw_if_eq (tgt := 59) dX6_added5_50 (by decide) (fun _ => ?_) (fun zz => absurd zz (by decide))
          refine aw_iload_n dX6_added5_59 rfl ?_
          refine aw_iload_n dX6_added5_60 rfl ?_
          refine aw_isub dX6_added5_61 ?_
          refine aw_istore_n (ls' := [_, _, _, _]) dX6_added5_62 (by decide) rfl rfl ?_
          refine aw_goto (tgt := 5) dX6_added5_63 (by decide) ?_
          refine aw_aload_n dX6_added5_5 rfl rfl ?_
          refine aw_bipush (v := 43) dX6_added5_6 (by decide) ?_
          refine aw_V1 dX6_added5_8 cw_X6_211 ⟨_, _, rfl⟩ hM.1 (by omega) ⟨Nat.le_refl _, Nat.le_refl _⟩ (by decide) (c_X6_isSignB hM m1 ?_)
          refine aw_if_ne (tgt := 23) dX6_added5_11 (by decide) (fun zz => absurd zz (by decide)) (fun _ => ?_)
          refine aw_aload_n dX6_added5_14 rfl rfl ?_
          refine aw_bipush (v := 45) dX6_added5_15 (by decide) ?_
          refine aw_V1 dX6_added5_17 cw_X6_211 ⟨_, _, rfl⟩ hM.1 (by omega) ⟨Nat.le_refl _, Nat.le_refl _⟩ (by decide) (c_X6_isSignB hM m1 ?_)
          refine aw_if_eq (tgt := 66) dX6_added5_20 (by decide) (fun _ => ?_) (fun zz => absurd zz (by decide))
          refine aw_iload_n dX6_added5_66 rfl ?_
          refine aw_ireturn (ty := .int) dX6_added5_67 rfl rfl ?_
          exact hF _ (lp_0 (show jS (SS B n k) = true by rw [c17]; decide) e1) _ _ _ (s2.tr s1) m1
      · refine aw_if_eq (tgt := 66) dX6_added5_20 (by decide) (fun _ => ?_) (fun zz => absurd zz (by decide))
        refine aw_iload_n dX6_added5_66 rfl ?_
        refine aw_ireturn (ty := .int) dX6_added5_67 rfl rfl ?_
        rw [hx]
        exact hK _ _ _ (lp_z (by simp only [jS, Bool.or_eq_true, beq_iff_eq]; omega)) _ _ SaQ.rf hS
theorem c_X6_added5 {E : Ev} {d : Nat} {I : Mi} {L : Ml} {Z : Mz} {Q : Po}  {B : Nat → Int32} {n t k : Nat} (hd : 6 ≤ d) (hM : MZ Z) (hS : MS I L B n t k 5) (hk : k ≤ n) (hK : ∀ (k' : Nat) (c' : List Int32) (v' : Vl), sumR (SS B n) (VV B n) (lvR (SS B n) (VV B n) 0) k = (k', some (c', v')) → ∀ (I9 : Mi) (L9 : Ml), SaQ I I9 → MS I9 L9 B n t k' 5 → Q (some (.int (v' (nmI I)))) I9 L9 Z) (hF : ∀ k' : Nat, sumR (SS B n) (VV B n) (lvR (SS B n) (VV B n) 0) k = (k', none) → ∀ (rv : Int32) (I9 : Mi) (L9 : Ml), SaQ I I9 → MB I9 (plF B n k') → Q (some (.int rv)) I9 L9 Z) : AC E yX6_added5 cX6_added5 4 (some .int) d 0 0 [.ref 48] I L Z Q := by
  refine ac_go (ls := [some (.ref 48), none, none, none]) (by decide +kernel) (Nat.le_of_ble_eq_true rfl) rfl ?_
  refine aw_aload_n dX6_added5_0 rfl rfl ?_
  refine aw_V0 dX6_added5_1 cw_X6_225 ⟨_, _, rfl⟩ hM.1 (by omega) ⟨Nat.le_refl _, Nat.le_refl _⟩ (by decide) (c_X6_term5 (by omega) hM hS hk (fun k1 c1 v1 e1 I1 L1 s1 m1 => ?_) (fun k1 e1 rv1 I1 L1 s1 m1 => ?_))
  · refine aw_istore_n (ls' := [_, _, _, _]) dX6_added5_4 (by decide) rfl rfl ?_
    have e2 : sumR (SS B n) (VV B n) (lvR (SS B n) (VV B n) 0) k = lpR (SS B n) (terR (SS B n) (VV B n) (lvR (SS B n) (VV B n) 0)) jS 160 k1 c1 v1 := bn_1 e1
    have ok1 := (all_ok (SV_ok B n) (lv_ok (SV_ok B n) 0)).2.1 k (by omega)
    rw [e1] at ok1
    obtain ⟨b1, b2, b3⟩ := ok1
    simp only at b1 b2
    have hn6 := hS.1.2.2.2.1
    refine l_X6_added5 hd hM 160 k1 c1 v1 _ I1 L1 _ _ (by omega) b2 m1 (by rw [nmI_q s1]) (fun k' c' v' e I9 L9 s9 m9 => ?_) (fun k' e rv I9 L9 s9 m9 => ?_)
    · rw [nmI_q s1]; exact hK k' c' v' (e2.trans e) I9 L9 (s1.tr s9) m9
    · exact hF k' (e2.trans e) rv I9 L9 (s1.tr s9) m9
  · refine aw_istore_n (ls' := [_, _, _, _]) dX6_added5_4 (by decide) rfl rfl ?_
    refine aw_aload_n dX6_added5_5 rfl rfl ?_
    refine aw_bipush (v := 43) dX6_added5_6 (by decide) ?_
    refine aw_V1 dX6_added5_8 cw_X6_211 ⟨_, _, rfl⟩ hM.1 (by omega) ⟨Nat.le_refl _, Nat.le_refl _⟩ (by decide) (c_X6_isSignB hM m1 ?_)
    refine aw_if_ne (tgt := 23) dX6_added5_11 (by decide) (fun zz => absurd zz (by decide)) (fun _ => ?_)
    refine aw_aload_n dX6_added5_14 rfl rfl ?_
    refine aw_bipush (v := 45) dX6_added5_15 (by decide) ?_
    refine aw_V1 dX6_added5_17 cw_X6_211 ⟨_, _, rfl⟩ hM.1 (by omega) ⟨Nat.le_refl _, Nat.le_refl _⟩ (by decide) (c_X6_isSignB hM m1 ?_)
    refine aw_if_eq (tgt := 66) dX6_added5_20 (by decide) (fun _ => ?_) (fun zz => absurd zz (by decide))
    refine aw_iload_n dX6_added5_66 rfl ?_
    refine aw_ireturn (ty := .int) dX6_added5_67 rfl rfl ?_
    exact hF _ (bn_0 e1) _ _ _ s1 m1
theorem c_X6_not5 {E : Ev} {d : Nat} {I : Mi} {L : Ml} {Z : Mz} {Q : Po}  {B : Nat → Int32} {n t k : Nat} (hd : 7 ≤ d) (hM : MZ Z) (hS : MS I L B n t k 5) (hk : k ≤ n) (hK : ∀ (k' : Nat) (c' : List Int32) (v' : Vl), notR (SS B n) (VV B n) (lvR (SS B n) (VV B n) 0) k = (k', some (c', v')) → ∀ (I9 : Mi) (L9 : Ml), SaQ I I9 → MS I9 L9 B n t k' 5 → Q (some (.int (v' (nmI I)))) I9 L9 Z) (hF : ∀ k' : Nat, notR (SS B n) (VV B n) (lvR (SS B n) (VV B n) 0) k = (k', none) → ∀ (rv : Int32) (I9 : Mi) (L9 : Ml), SaQ I I9 → MB I9 (plF B n k') → Q (some (.int rv)) I9 L9 Z) : AC E yX6_not5 cX6_not5 4 (some .int) d 0 0 [.ref 48] I L Z Q := by
  refine ac_go (ls := [some (.ref 48), none, none, none]) (by decide +kernel) (Nat.le_of_ble_eq_true rfl) rfl ?_
  refine aw_aload_n dX6_not5_0 rfl rfl ?_
  refine aw_bipush (v := 110) dX6_not5_1 (by decide) ?_
  refine aw_bipush (v := 111) dX6_not5_3 (by decide) ?_
  refine aw_bipush (v := 116) dX6_not5_5 (by decide) ?_
  refine aw_iconst (v := 0) dX6_not5_7 (by decide) ?_
  refine aw_iconst (v := 0) dX6_not5_8 (by decide) ?_
  refine aw_iconst (v := 0) dX6_not5_9 (by decide) ?_
  refine aw_iconst (v := 0) dX6_not5_10 (by decide) ?_
  refine aw_iconst (v := 0) dX6_not5_11 (by decide) ?_
  refine aw_V8 dX6_not5_12 cw_X6_189 ⟨_, _, rfl⟩ hM.1 (by omega) ⟨Nat.le_refl _, Nat.le_refl _⟩ (by decide) (c_X6_isWord_not (by omega) hM hS (fun c12 => ?_) (fun c12 => ?_))
  · refine aw_if_eq (tgt := 25) dX6_not5_15 (by decide) (fun zz => absurd zz (by decide)) (fun _ => ?_)
    refine aw_aload_n dX6_not5_18 rfl rfl ?_
    refine aw_V0 dX6_not5_19 cw_X6_214 ⟨_, _, rfl⟩ hM.1 (by omega) ⟨Nat.le_refl _, Nat.le_refl _⟩ (by decide) (c_X6_opens5 (by omega) hM hS (fun I9 s9 m9 => ?_))
    refine aw_pop dX6_not5_22 rfl ?_
    refine aw_iconst (v := 0) dX6_not5_23 (by decide) ?_
    refine aw_ireturn (ty := .int) dX6_not5_24 rfl rfl ?_
    have h9 := (wd_S (by decide)).mp c12
    exact hF _ (not_n h9) _ _ _ s9 m9
  · refine aw_if_eq (tgt := 25) dX6_not5_15 (by decide) (fun _ => ?_) (fun zz => absurd zz (by decide))
    refine aw_aload_n dX6_not5_25 rfl rfl ?_
    have h9 : ¬ SS B n k = 9 := fun w => c12 ((wd_S (by decide)).mpr w)
    refine aw_V0 dX6_not5_26 cw_X6_230 ⟨_, _, rfl⟩ hM.1 (by omega) ⟨Nat.le_refl _, Nat.le_refl _⟩ (by decide) (c_X6_added5 (by omega) hM hS hk (fun k1 c1 v1 e1 I1 L1 s1 m1 => ?_) (fun k1 e1 rv1 I1 L1 s1 m1 => ?_))
    · refine aw_istore_n (ls' := [_, _, _, _]) dX6_not5_29 (by decide) rfl rfl ?_
      have ok1 := (all_ok (SV_ok B n) (lv_ok (SV_ok B n) 0)).2.2.1 k (by omega)
      rw [e1] at ok1
      obtain ⟨b1, b2, b3⟩ := ok1
      simp only at b1 b2
      refine aw_aload_n dX6_not5_30 rfl rfl ?_
      refine aw_bipush (v := 60) dX6_not5_31 (by decide) ?_
      refine aw_V1 dX6_not5_33 cw_X6_211 ⟨_, _, rfl⟩ hM.1 (by omega) ⟨Nat.le_refl _, Nat.le_refl _⟩ (by decide) (c_X6_isSign_16 hM m1 (fun c33 => ?_) (fun c33 => ?_))
      · refine aw_if_ne (tgt := 50) dX6_not5_36 (by decide) (fun _ => ?_) (fun zz => absurd zz (by decide))
        refine aw_aload_n dX6_not5_50 rfl rfl ?_
        refine aw_gl dX6_not5_51 fw_X6_164 hM.1 ?_
        rw [sw16 m1 c33]
        refine aw_ldc2 dX6_not5_54 kw_X6_233 ?_
        refine aw_lcmp dX6_not5_57 ?_
        refine aw_if_ne (tgt := 65) dX6_not5_58 (by decide) (fun zz => absurd (by decide) zz) (fun c58 => ?_)
        refine aw_iconst (v := 1) dX6_not5_61 (by decide) ?_
        refine aw_goto (tgt := 66) dX6_not5_62 (by decide) ?_
        refine aw_istore_n (ls' := [_, _, _, _]) dX6_not5_66 (by decide) rfl rfl ?_
        refine aw_aload_n dX6_not5_67 rfl rfl ?_
        
        refine aw_V0 dX6_not5_68 cw_X6_186 ⟨_, _, rfl⟩ hM.1 (by omega) ⟨Nat.le_refl _, Nat.le_refl _⟩ (by decide) (c_X6_next (by omega) hM m1 (by omega) (by omega) (fun I2 L2 s2 m2 => ?_))
        refine aw_aload_n dX6_not5_71 rfl rfl ?_
        have d16 := c33
        have hk3 := lt_of_S (SV_ok B n).1 b2 (by omega)
        refine aw_V0 dX6_not5_72 cw_X6_230 ⟨_, _, rfl⟩ hM.1 (by omega) ⟨Nat.le_refl _, Nat.le_refl _⟩ (by decide) (c_X6_added5 (by omega) hM m2 (by omega) (fun k3 c3 v3 e3 I3 L3 s3 m3 => ?_) (fun k3 e3 rv3 I3 L3 s3 m3 => ?_))
        · refine aw_istore_n (ls' := [_, _, _, _]) dX6_not5_75 (by decide) rfl rfl ?_
          refine aw_iload_n dX6_not5_76 rfl ?_
          refine aw_if_eq (tgt := 88) dX6_not5_77 (by decide) (fun zz => absurd zz (by decide)) (fun _ => ?_)
          refine aw_iload_n dX6_not5_80 rfl ?_
          refine aw_iload_n dX6_not5_81 rfl ?_
          refine aw_icmp_ge (tgt := 97) dX6_not5_82 (by decide) (fun c82 => ?_) (fun c82 => ?_)
          · refine aw_iconst (v := 0) dX6_not5_97 (by decide) ?_
            refine aw_ireturn (ty := .int) dX6_not5_98 rfl rfl ?_
            have hq := hK _ _ _ ((not_e h9).trans ((bn_1 e1).trans ((lp_1 (show jN (SS B n k1) = true by rw [d16]; decide) e3).trans rfl))) _ _ ((s1.tr s2).tr s3) m3
            simp only [d16, jo16] at hq
            rw [nmI_q s2, nmI_q s1] at c82
            first | (rw [if_pos c82] at hq; exact hq) | (rw [if_neg c82] at hq; exact hq)
          · refine aw_goto (tgt := 93) dX6_not5_85 (by decide) ?_
            refine aw_iconst (v := 1) dX6_not5_93 (by decide) ?_
            refine aw_goto (tgt := 98) dX6_not5_94 (by decide) ?_
            refine aw_ireturn (ty := .int) dX6_not5_98 rfl rfl ?_
            have hq := hK _ _ _ ((not_e h9).trans ((bn_1 e1).trans ((lp_1 (show jN (SS B n k1) = true by rw [d16]; decide) e3).trans rfl))) _ _ ((s1.tr s2).tr s3) m3
            simp only [d16, jo16] at hq
            rw [nmI_q s2, nmI_q s1] at c82
            first | (rw [if_pos c82] at hq; exact hq) | (rw [if_neg c82] at hq; exact hq)
        · refine aw_istore_n (ls' := [_, _, _, _]) dX6_not5_75 (by decide) rfl rfl ?_
          refine aw_iload_n dX6_not5_76 rfl ?_
          refine aw_if_eq (tgt := 88) dX6_not5_77 (by decide) (fun zz => absurd zz (by decide)) (fun _ => ?_)
          refine aw_iload_n dX6_not5_80 rfl ?_
          refine aw_iload_n dX6_not5_81 rfl ?_
          refine aw_icmp_ge (tgt := 97) dX6_not5_82 (by decide) (fun c82 => ?_) (fun c82 => ?_)
          · refine aw_iconst (v := 0) dX6_not5_97 (by decide) ?_
            refine aw_ireturn (ty := .int) dX6_not5_98 rfl rfl ?_
            exact hF _ ((not_e h9).trans ((bn_1 e1).trans (lp_0 (show jN (SS B n k1) = true by rw [d16]; decide) e3))) _ _ _ ((s1.tr s2).tr s3) m3
          · refine aw_goto (tgt := 93) dX6_not5_85 (by decide) ?_
            refine aw_iconst (v := 1) dX6_not5_93 (by decide) ?_
            refine aw_goto (tgt := 98) dX6_not5_94 (by decide) ?_
            refine aw_ireturn (ty := .int) dX6_not5_98 rfl rfl ?_
            exact hF _ ((not_e h9).trans ((bn_1 e1).trans (lp_0 (show jN (SS B n k1) = true by rw [d16]; decide) e3))) _ _ _ ((s1.tr s2).tr s3) m3
      · refine aw_if_ne (tgt := 50) dX6_not5_36 (by decide) (fun zz => absurd zz (by decide)) (fun _ => ?_)
        refine aw_aload_n dX6_not5_39 rfl rfl ?_
        refine aw_bipush (v := 61) dX6_not5_40 (by decide) ?_
        refine aw_V1 dX6_not5_42 cw_X6_211 ⟨_, _, rfl⟩ hM.1 (by omega) ⟨Nat.le_refl _, Nat.le_refl _⟩ (by decide) (c_X6_isSign_17 hM m1 (fun c42 => ?_) (fun c42 => ?_))
        · refine aw_if_ne (tgt := 50) dX6_not5_45 (by decide) (fun _ => ?_) (fun zz => absurd zz (by decide))
          refine aw_aload_n dX6_not5_50 rfl rfl ?_
          refine aw_gl dX6_not5_51 fw_X6_164 hM.1 ?_
          rw [sw17 m1 c42]
          refine aw_ldc2 dX6_not5_54 kw_X6_233 ?_
          refine aw_lcmp dX6_not5_57 ?_
          refine aw_if_ne (tgt := 65) dX6_not5_58 (by decide) (fun c58 => ?_) (fun zz => absurd zz (by decide))
          refine aw_iconst (v := 0) dX6_not5_65 (by decide) ?_
          refine aw_istore_n (ls' := [_, _, _, _]) dX6_not5_66 (by decide) rfl rfl ?_
          refine aw_aload_n dX6_not5_67 rfl rfl ?_
          
          refine aw_V0 dX6_not5_68 cw_X6_186 ⟨_, _, rfl⟩ hM.1 (by omega) ⟨Nat.le_refl _, Nat.le_refl _⟩ (by decide) (c_X6_next (by omega) hM m1 (by omega) (by omega) (fun I2 L2 s2 m2 => ?_))
          refine aw_aload_n dX6_not5_71 rfl rfl ?_
          have d17 := c42
          have hk3 := lt_of_S (SV_ok B n).1 b2 (by omega)
          refine aw_V0 dX6_not5_72 cw_X6_230 ⟨_, _, rfl⟩ hM.1 (by omega) ⟨Nat.le_refl _, Nat.le_refl _⟩ (by decide) (c_X6_added5 (by omega) hM m2 (by omega) (fun k3 c3 v3 e3 I3 L3 s3 m3 => ?_) (fun k3 e3 rv3 I3 L3 s3 m3 => ?_))
          · refine aw_istore_n (ls' := [_, _, _, _]) dX6_not5_75 (by decide) rfl rfl ?_
            refine aw_iload_n dX6_not5_76 rfl ?_
            refine aw_if_eq (tgt := 88) dX6_not5_77 (by decide) (fun _ => ?_) (fun zz => absurd zz (by decide))
            refine aw_iload_n dX6_not5_88 rfl ?_
            refine aw_iload_n dX6_not5_89 rfl ?_
            refine aw_icmp_ne (tgt := 97) dX6_not5_90 (by decide) (fun c90 => ?_) (fun c90 => ?_)
            · refine aw_iconst (v := 0) dX6_not5_97 (by decide) ?_
              refine aw_ireturn (ty := .int) dX6_not5_98 rfl rfl ?_
              have hq := hK _ _ _ ((not_e h9).trans ((bn_1 e1).trans ((lp_1 (show jN (SS B n k1) = true by rw [d17]; decide) e3).trans rfl))) _ _ ((s1.tr s2).tr s3) m3
              simp only [d17, jo17] at hq
              rw [nmI_q s2, nmI_q s1] at c90
              first | (rw [if_pos c90] at hq; exact hq) | (rw [if_neg c90] at hq; exact hq)
            · refine aw_iconst (v := 1) dX6_not5_93 (by decide) ?_
              refine aw_goto (tgt := 98) dX6_not5_94 (by decide) ?_
              refine aw_ireturn (ty := .int) dX6_not5_98 rfl rfl ?_
              have hq := hK _ _ _ ((not_e h9).trans ((bn_1 e1).trans ((lp_1 (show jN (SS B n k1) = true by rw [d17]; decide) e3).trans rfl))) _ _ ((s1.tr s2).tr s3) m3
              simp only [d17, jo17] at hq
              rw [nmI_q s2, nmI_q s1] at c90
              first | (rw [if_pos c90] at hq; exact hq) | (rw [if_neg c90] at hq; exact hq)
          · refine aw_istore_n (ls' := [_, _, _, _]) dX6_not5_75 (by decide) rfl rfl ?_
            refine aw_iload_n dX6_not5_76 rfl ?_
            refine aw_if_eq (tgt := 88) dX6_not5_77 (by decide) (fun _ => ?_) (fun zz => absurd zz (by decide))
            refine aw_iload_n dX6_not5_88 rfl ?_
            refine aw_iload_n dX6_not5_89 rfl ?_
            refine aw_icmp_ne (tgt := 97) dX6_not5_90 (by decide) (fun c90 => ?_) (fun c90 => ?_)
            · refine aw_iconst (v := 0) dX6_not5_97 (by decide) ?_
              refine aw_ireturn (ty := .int) dX6_not5_98 rfl rfl ?_
              exact hF _ ((not_e h9).trans ((bn_1 e1).trans (lp_0 (show jN (SS B n k1) = true by rw [d17]; decide) e3))) _ _ _ ((s1.tr s2).tr s3) m3
            · refine aw_iconst (v := 1) dX6_not5_93 (by decide) ?_
              refine aw_goto (tgt := 98) dX6_not5_94 (by decide) ?_
              refine aw_ireturn (ty := .int) dX6_not5_98 rfl rfl ?_
              exact hF _ ((not_e h9).trans ((bn_1 e1).trans (lp_0 (show jN (SS B n k1) = true by rw [d17]; decide) e3))) _ _ _ ((s1.tr s2).tr s3) m3
        · refine aw_if_ne (tgt := 50) dX6_not5_45 (by decide) (fun zz => absurd zz (by decide)) (fun _ => ?_)
          refine aw_iload_n dX6_not5_48 rfl ?_
          refine aw_ireturn (ty := .int) dX6_not5_49 rfl rfl ?_
          exact hK _ _ _ ((not_e h9).trans ((bn_1 e1).trans (lp_z (by simp only [jN, Bool.or_eq_true, beq_iff_eq]; omega)))) _ _ s1 m1
    · refine aw_istore_n (ls' := [_, _, _, _]) dX6_not5_29 (by decide) rfl rfl ?_
      refine aw_aload_n dX6_not5_30 rfl rfl ?_
      refine aw_bipush (v := 60) dX6_not5_31 (by decide) ?_
      refine aw_V1 dX6_not5_33 cw_X6_211 ⟨_, _, rfl⟩ hM.1 (by omega) ⟨Nat.le_refl _, Nat.le_refl _⟩ (by decide) (c_X6_isSignB hM m1 ?_)
      refine aw_if_ne (tgt := 50) dX6_not5_36 (by decide) (fun zz => absurd zz (by decide)) (fun _ => ?_)
      refine aw_aload_n dX6_not5_39 rfl rfl ?_
      refine aw_bipush (v := 61) dX6_not5_40 (by decide) ?_
      refine aw_V1 dX6_not5_42 cw_X6_211 ⟨_, _, rfl⟩ hM.1 (by omega) ⟨Nat.le_refl _, Nat.le_refl _⟩ (by decide) (c_X6_isSignB hM m1 ?_)
      refine aw_if_ne (tgt := 50) dX6_not5_45 (by decide) (fun zz => absurd zz (by decide)) (fun _ => ?_)
      refine aw_iload_n dX6_not5_48 rfl ?_
      refine aw_ireturn (ty := .int) dX6_not5_49 rfl rfl ?_
      exact hF _ ((not_e h9).trans (bn_0 e1)) _ _ _ s1 m1
theorem l_X6_both5 {E : Ev} {d : Nat} {Z : Mz} {Q : Po} {B : Nat → Int32} {n t : Nat} (hd : 8 ≤ d) (hM : MZ Z) : ∀ (m k : Nat) (c : List Int32) (v : Vl) (x : Int32) (I : Mi) (L : Ml) (o2 : Option Value), n ≤ k + m → k ≤ n → MS I L B n t k 5 → x = v (nmI I) → (∀ (k' : Nat) (c' : List Int32) (v' : Vl), lpR (SS B n) (notR (SS B n) (VV B n) (lvR (SS B n) (VV B n) 0)) jA m k c v = (k', some (c', v')) → ∀ (I9 : Mi) (L9 : Ml), SaQ I I9 → MS I9 L9 B n t k' 5 → Q (some (.int (v' (nmI I)))) I9 L9 Z) → (∀ k' : Nat, lpR (SS B n) (notR (SS B n) (VV B n) (lvR (SS B n) (VV B n) 0)) jA m k c v = (k', none) → ∀ (rv : Int32) (I9 : Mi) (L9 : Ml), SaQ I I9 → MB I9 (plF B n k') → Q (some (.int rv)) I9 L9 Z) → AW E yX6_both5 cX6_both5 3 (some .int) (rmOf d 0 0) Q 0 0 5 [some (.ref 48), some (.int x), o2] [] I L Z := by
  intro m
  induction m with
  | zero =>
    intro k c v x I L o2 hm hk hS hx hK hF
    have hz : SS B n k = 0 := by rw [show k = n by omega]; exact (SV_ok B n).1
    refine aw_aload_n dX6_both5_5 rfl rfl ?_
    refine aw_bipush (v := 97) dX6_both5_6 (by decide) ?_
    refine aw_bipush (v := 110) dX6_both5_8 (by decide) ?_
    refine aw_bipush (v := 100) dX6_both5_10 (by decide) ?_
    refine aw_iconst (v := 0) dX6_both5_12 (by decide) ?_
    refine aw_iconst (v := 0) dX6_both5_13 (by decide) ?_
    refine aw_iconst (v := 0) dX6_both5_14 (by decide) ?_
    refine aw_iconst (v := 0) dX6_both5_15 (by decide) ?_
    refine aw_iconst (v := 0) dX6_both5_16 (by decide) ?_
    refine aw_V8 dX6_both5_17 cw_X6_189 ⟨_, _, rfl⟩ hM.1 (by omega) ⟨Nat.le_refl _, Nat.le_refl _⟩ (by decide) (c_X6_isWord_and (by omega) hM hS (fun zz => absurd zz (fun w => absurd ((wd_S (by decide)).mp w) (by omega))) (fun c17 => ?_))
    refine aw_if_eq (tgt := 49) dX6_both5_20 (by decide) (fun _ => ?_) (fun zz => absurd zz (by decide))
    refine aw_iload_n dX6_both5_49 rfl ?_
    refine aw_ireturn (ty := .int) dX6_both5_50 rfl rfl ?_
    rw [hx]
    exact hK _ _ _ rfl _ _ SaQ.rf hS
  | succ m ih =>
    intro k c v x I L o2 hm hk hS hx hK hF
    have hJ := fun (J : Nat → Bool) (h : J (SS B n k) = true) => h
    refine aw_aload_n dX6_both5_5 rfl rfl ?_
    refine aw_bipush (v := 97) dX6_both5_6 (by decide) ?_
    refine aw_bipush (v := 110) dX6_both5_8 (by decide) ?_
    refine aw_bipush (v := 100) dX6_both5_10 (by decide) ?_
    refine aw_iconst (v := 0) dX6_both5_12 (by decide) ?_
    refine aw_iconst (v := 0) dX6_both5_13 (by decide) ?_
    refine aw_iconst (v := 0) dX6_both5_14 (by decide) ?_
    refine aw_iconst (v := 0) dX6_both5_15 (by decide) ?_
    refine aw_iconst (v := 0) dX6_both5_16 (by decide) ?_
    refine aw_V8 dX6_both5_17 cw_X6_189 ⟨_, _, rfl⟩ hM.1 (by omega) ⟨Nat.le_refl _, Nat.le_refl _⟩ (by decide) (c_X6_isWord_and (by omega) hM hS (fun c17 => ?_) (fun c17 => ?_))
    · refine aw_if_eq (tgt := 49) dX6_both5_20 (by decide) (fun zz => absurd zz (by decide)) (fun _ => ?_)
      refine aw_aload_n dX6_both5_23 rfl rfl ?_
      have hs8 : SS B n k = 8 := (wd_S (by decide)).mp c17
      refine aw_V0 dX6_both5_24 cw_X6_186 ⟨_, _, rfl⟩ hM.1 (by omega) ⟨Nat.le_refl _, Nat.le_refl _⟩ (by decide) (c_X6_next (by omega) hM hS (by omega) (by omega) (fun I2 L2 s2 m2 => ?_))
      refine aw_aload_n dX6_both5_27 rfl rfl ?_
      refine aw_V0 dX6_both5_28 cw_X6_235 ⟨_, _, rfl⟩ hM.1 (by omega) ⟨Nat.le_refl _, Nat.le_refl _⟩ (by decide) (c_X6_not5 (by omega) hM m2 (by have := lt_of_S (SV_ok B n).1 hk (by omega); omega) (fun k1 c1 v1 e1 I1 L1 s1 m1 => ?_) (fun k1 e1 rv1 I1 L1 s1 m1 => ?_))
      · refine aw_istore_n (ls' := [_, _, _]) dX6_both5_31 (by decide) rfl rfl ?_
        refine aw_iload_n dX6_both5_32 rfl ?_
        refine aw_if_eq (tgt := 44) dX6_both5_33 (by decide) (fun c33 => ?_) (fun c33 => ?_)
        · refine aw_iconst (v := 0) dX6_both5_44 (by decide) ?_
          refine aw_istore_n (ls' := [_, _, _]) dX6_both5_45 (by decide) rfl rfl ?_
          refine aw_goto (tgt := 5) dX6_both5_46 (by decide) ?_
          have hkn := lt_of_S (SV_ok B n).1 hk (by omega)
          have ok1 := (all_ok (SV_ok B n) (lv_ok (SV_ok B n) 0)).2.2.2.1 (k + 1) (by omega)
          rw [e1] at ok1
          obtain ⟨b1, b2, b3⟩ := ok1
          simp only at b1 b2
          have b4 := (b3 _ _ rfl).1
          simp only at b4
          have e2 := lp_1 (n := m) (c := c) (v := v) (show jA (SS B n k) = true by rw [hs8]; decide) e1
          refine ih k1 (c ++ c1 ++ [stI (SS B n k) 0]) (fun nm => joV (nI (SS B n k)) (v nm) (v1 nm)) _ I1 L1 _ (by omega) b2 m1 ?_ (fun k' c' v' e I9 L9 s9 m9 => ?_) (fun k' e rv I9 L9 s9 m9 => ?_)
          · rw [nmI_q s1, nmI_q s2, hs8, jo8, ← hx]
            simp only [c33, not_true_eq_false, not_false_eq_true, and_true, true_and, and_false, false_and, or_true, true_or, or_false, false_or, ite_true, ite_false, if_true, if_false, reduceIte, and_self, or_self]
          · rw [nmI_q s1, nmI_q s2]; exact hK k' c' v' (e2.trans e) I9 L9 ((s2.tr s1).tr s9) m9
          · exact hF k' (e2.trans e) rv I9 L9 ((s2.tr s1).tr s9) m9
        · refine aw_iload_n dX6_both5_36 rfl ?_
          refine aw_if_eq (tgt := 44) dX6_both5_37 (by decide) (fun c37 => ?_) (fun c37 => ?_)
          · refine aw_iconst (v := 0) dX6_both5_44 (by decide) ?_
            refine aw_istore_n (ls' := [_, _, _]) dX6_both5_45 (by decide) rfl rfl ?_
            refine aw_goto (tgt := 5) dX6_both5_46 (by decide) ?_
            have hkn := lt_of_S (SV_ok B n).1 hk (by omega)
            have ok1 := (all_ok (SV_ok B n) (lv_ok (SV_ok B n) 0)).2.2.2.1 (k + 1) (by omega)
            rw [e1] at ok1
            obtain ⟨b1, b2, b3⟩ := ok1
            simp only at b1 b2
            have b4 := (b3 _ _ rfl).1
            simp only at b4
            have e2 := lp_1 (n := m) (c := c) (v := v) (show jA (SS B n k) = true by rw [hs8]; decide) e1
            refine ih k1 (c ++ c1 ++ [stI (SS B n k) 0]) (fun nm => joV (nI (SS B n k)) (v nm) (v1 nm)) _ I1 L1 _ (by omega) b2 m1 ?_ (fun k' c' v' e I9 L9 s9 m9 => ?_) (fun k' e rv I9 L9 s9 m9 => ?_)
            · rw [nmI_q s1, nmI_q s2, hs8, jo8, ← hx]
              rw [nmI_q s2] at c37
              simp only [c33, c37, not_true_eq_false, not_false_eq_true, and_true, true_and, and_false, false_and, or_true, true_or, or_false, false_or, ite_true, ite_false, if_true, if_false, reduceIte, and_self, or_self]
            · rw [nmI_q s1, nmI_q s2]; exact hK k' c' v' (e2.trans e) I9 L9 ((s2.tr s1).tr s9) m9
            · exact hF k' (e2.trans e) rv I9 L9 ((s2.tr s1).tr s9) m9
          · refine aw_iconst (v := 1) dX6_both5_40 (by decide) ?_
            refine aw_goto (tgt := 45) dX6_both5_41 (by decide) ?_
            refine aw_istore_n (ls' := [_, _, _]) dX6_both5_45 (by decide) rfl rfl ?_
            refine aw_goto (tgt := 5) dX6_both5_46 (by decide) ?_
            have hkn := lt_of_S (SV_ok B n).1 hk (by omega)
            have ok1 := (all_ok (SV_ok B n) (lv_ok (SV_ok B n) 0)).2.2.2.1 (k + 1) (by omega)
            rw [e1] at ok1
            obtain ⟨b1, b2, b3⟩ := ok1
            simp only at b1 b2
            have b4 := (b3 _ _ rfl).1
            simp only at b4
            have e2 := lp_1 (n := m) (c := c) (v := v) (show jA (SS B n k) = true by rw [hs8]; decide) e1
            refine ih k1 (c ++ c1 ++ [stI (SS B n k) 0]) (fun nm => joV (nI (SS B n k)) (v nm) (v1 nm)) _ I1 L1 _ (by omega) b2 m1 ?_ (fun k' c' v' e I9 L9 s9 m9 => ?_) (fun k' e rv I9 L9 s9 m9 => ?_)
            · rw [nmI_q s1, nmI_q s2, hs8, jo8, ← hx]
              rw [nmI_q s2] at c37
              simp only [c33, c37, not_true_eq_false, not_false_eq_true, and_true, true_and, and_false, false_and, or_true, true_or, or_false, false_or, ite_true, ite_false, if_true, if_false, reduceIte, and_self, or_self]
            · rw [nmI_q s1, nmI_q s2]; exact hK k' c' v' (e2.trans e) I9 L9 ((s2.tr s1).tr s9) m9
            · exact hF k' (e2.trans e) rv I9 L9 ((s2.tr s1).tr s9) m9
      · refine aw_istore_n (ls' := [_, _, _]) dX6_both5_31 (by decide) rfl rfl ?_
        refine aw_iload_n dX6_both5_32 rfl ?_
        refine aw_if_eq (tgt := 44) dX6_both5_33 (by decide) (fun c33 => ?_) (fun c33 => ?_)
        · refine aw_iconst (v := 0) dX6_both5_44 (by decide) ?_
          refine aw_istore_n (ls' := [_, _, _]) dX6_both5_45 (by decide) rfl rfl ?_
          refine aw_goto (tgt := 5) dX6_both5_46 (by decide) ?_
          refine aw_aload_n dX6_both5_5 rfl rfl ?_
          refine aw_bipush (v := 97) dX6_both5_6 (by decide) ?_
          refine aw_bipush (v := 110) dX6_both5_8 (by decide) ?_
          refine aw_bipush (v := 100) dX6_both5_10 (by decide) ?_
          refine aw_iconst (v := 0) dX6_both5_12 (by decide) ?_
          refine aw_iconst (v := 0) dX6_both5_13 (by decide) ?_
          refine aw_iconst (v := 0) dX6_both5_14 (by decide) ?_
          refine aw_iconst (v := 0) dX6_both5_15 (by decide) ?_
          refine aw_iconst (v := 0) dX6_both5_16 (by decide) ?_
          refine aw_V8 dX6_both5_17 cw_X6_189 ⟨_, _, rfl⟩ hM.1 (by omega) ⟨Nat.le_refl _, Nat.le_refl _⟩ (by decide) (c_X6_isWordB (by omega) hM m1 ?_)
          refine aw_if_eq (tgt := 49) dX6_both5_20 (by decide) (fun _ => ?_) (fun zz => absurd zz (by decide))
          refine aw_iload_n dX6_both5_49 rfl ?_
          refine aw_ireturn (ty := .int) dX6_both5_50 rfl rfl ?_
          exact hF _ (lp_0 (show jA (SS B n k) = true by rw [hs8]; decide) e1) _ _ _ (s2.tr s1) m1
        · refine aw_iload_n dX6_both5_36 rfl ?_
          refine aw_if_eq (tgt := 44) dX6_both5_37 (by decide) (fun c37 => ?_) (fun c37 => ?_)
          · refine aw_iconst (v := 0) dX6_both5_44 (by decide) ?_
            refine aw_istore_n (ls' := [_, _, _]) dX6_both5_45 (by decide) rfl rfl ?_
            refine aw_goto (tgt := 5) dX6_both5_46 (by decide) ?_
            refine aw_aload_n dX6_both5_5 rfl rfl ?_
            refine aw_bipush (v := 97) dX6_both5_6 (by decide) ?_
            refine aw_bipush (v := 110) dX6_both5_8 (by decide) ?_
            refine aw_bipush (v := 100) dX6_both5_10 (by decide) ?_
            refine aw_iconst (v := 0) dX6_both5_12 (by decide) ?_
            refine aw_iconst (v := 0) dX6_both5_13 (by decide) ?_
            refine aw_iconst (v := 0) dX6_both5_14 (by decide) ?_
            refine aw_iconst (v := 0) dX6_both5_15 (by decide) ?_
            refine aw_iconst (v := 0) dX6_both5_16 (by decide) ?_
            refine aw_V8 dX6_both5_17 cw_X6_189 ⟨_, _, rfl⟩ hM.1 (by omega) ⟨Nat.le_refl _, Nat.le_refl _⟩ (by decide) (c_X6_isWordB (by omega) hM m1 ?_)
            refine aw_if_eq (tgt := 49) dX6_both5_20 (by decide) (fun _ => ?_) (fun zz => absurd zz (by decide))
            refine aw_iload_n dX6_both5_49 rfl ?_
            refine aw_ireturn (ty := .int) dX6_both5_50 rfl rfl ?_
            exact hF _ (lp_0 (show jA (SS B n k) = true by rw [hs8]; decide) e1) _ _ _ (s2.tr s1) m1
          · refine aw_iconst (v := 1) dX6_both5_40 (by decide) ?_
            refine aw_goto (tgt := 45) dX6_both5_41 (by decide) ?_
            refine aw_istore_n (ls' := [_, _, _]) dX6_both5_45 (by decide) rfl rfl ?_
            refine aw_goto (tgt := 5) dX6_both5_46 (by decide) ?_
            refine aw_aload_n dX6_both5_5 rfl rfl ?_
            refine aw_bipush (v := 97) dX6_both5_6 (by decide) ?_
            refine aw_bipush (v := 110) dX6_both5_8 (by decide) ?_
            refine aw_bipush (v := 100) dX6_both5_10 (by decide) ?_
            refine aw_iconst (v := 0) dX6_both5_12 (by decide) ?_
            refine aw_iconst (v := 0) dX6_both5_13 (by decide) ?_
            refine aw_iconst (v := 0) dX6_both5_14 (by decide) ?_
            refine aw_iconst (v := 0) dX6_both5_15 (by decide) ?_
            refine aw_iconst (v := 0) dX6_both5_16 (by decide) ?_
            refine aw_V8 dX6_both5_17 cw_X6_189 ⟨_, _, rfl⟩ hM.1 (by omega) ⟨Nat.le_refl _, Nat.le_refl _⟩ (by decide) (c_X6_isWordB (by omega) hM m1 ?_)
            refine aw_if_eq (tgt := 49) dX6_both5_20 (by decide) (fun _ => ?_) (fun zz => absurd zz (by decide))
            refine aw_iload_n dX6_both5_49 rfl ?_
            refine aw_ireturn (ty := .int) dX6_both5_50 rfl rfl ?_
            exact hF _ (lp_0 (show jA (SS B n k) = true by rw [hs8]; decide) e1) _ _ _ (s2.tr s1) m1
    · refine aw_if_eq (tgt := 49) dX6_both5_20 (by decide) (fun _ => ?_) (fun zz => absurd zz (by decide))
      refine aw_iload_n dX6_both5_49 rfl ?_
      refine aw_ireturn (ty := .int) dX6_both5_50 rfl rfl ?_
      rw [hx]
      exact hK _ _ _ (lp_z (by simp only [jA, beq_iff_eq]; exact fun w => c17 ((wd_S (by decide)).mpr w))) _ _ SaQ.rf hS
theorem c_X6_both5 {E : Ev} {d : Nat} {I : Mi} {L : Ml} {Z : Mz} {Q : Po}  {B : Nat → Int32} {n t k : Nat} (hd : 8 ≤ d) (hM : MZ Z) (hS : MS I L B n t k 5) (hk : k ≤ n) (hK : ∀ (k' : Nat) (c' : List Int32) (v' : Vl), andR (SS B n) (VV B n) (lvR (SS B n) (VV B n) 0) k = (k', some (c', v')) → ∀ (I9 : Mi) (L9 : Ml), SaQ I I9 → MS I9 L9 B n t k' 5 → Q (some (.int (v' (nmI I)))) I9 L9 Z) (hF : ∀ k' : Nat, andR (SS B n) (VV B n) (lvR (SS B n) (VV B n) 0) k = (k', none) → ∀ (rv : Int32) (I9 : Mi) (L9 : Ml), SaQ I I9 → MB I9 (plF B n k') → Q (some (.int rv)) I9 L9 Z) : AC E yX6_both5 cX6_both5 3 (some .int) d 0 0 [.ref 48] I L Z Q := by
  refine ac_go (ls := [some (.ref 48), none, none]) (by decide +kernel) (Nat.le_of_ble_eq_true rfl) rfl ?_
  refine aw_aload_n dX6_both5_0 rfl rfl ?_
  refine aw_V0 dX6_both5_1 cw_X6_235 ⟨_, _, rfl⟩ hM.1 (by omega) ⟨Nat.le_refl _, Nat.le_refl _⟩ (by decide) (c_X6_not5 (by omega) hM hS hk (fun k1 c1 v1 e1 I1 L1 s1 m1 => ?_) (fun k1 e1 rv1 I1 L1 s1 m1 => ?_))
  · refine aw_istore_n (ls' := [_, _, _]) dX6_both5_4 (by decide) rfl rfl ?_
    have e2 : andR (SS B n) (VV B n) (lvR (SS B n) (VV B n) 0) k = lpR (SS B n) (notR (SS B n) (VV B n) (lvR (SS B n) (VV B n) 0)) jA 160 k1 c1 v1 := bn_1 e1
    have ok1 := (all_ok (SV_ok B n) (lv_ok (SV_ok B n) 0)).2.2.2.1 k (by omega)
    rw [e1] at ok1
    obtain ⟨b1, b2, b3⟩ := ok1
    simp only at b1 b2
    have hn6 := hS.1.2.2.2.1
    refine l_X6_both5 hd hM 160 k1 c1 v1 _ I1 L1 _ (by omega) b2 m1 (by rw [nmI_q s1]) (fun k' c' v' e I9 L9 s9 m9 => ?_) (fun k' e rv I9 L9 s9 m9 => ?_)
    · rw [nmI_q s1]; exact hK k' c' v' (e2.trans e) I9 L9 (s1.tr s9) m9
    · exact hF k' (e2.trans e) rv I9 L9 (s1.tr s9) m9
  · refine aw_istore_n (ls' := [_, _, _]) dX6_both5_4 (by decide) rfl rfl ?_
    refine aw_aload_n dX6_both5_5 rfl rfl ?_
    refine aw_bipush (v := 97) dX6_both5_6 (by decide) ?_
    refine aw_bipush (v := 110) dX6_both5_8 (by decide) ?_
    refine aw_bipush (v := 100) dX6_both5_10 (by decide) ?_
    refine aw_iconst (v := 0) dX6_both5_12 (by decide) ?_
    refine aw_iconst (v := 0) dX6_both5_13 (by decide) ?_
    refine aw_iconst (v := 0) dX6_both5_14 (by decide) ?_
    refine aw_iconst (v := 0) dX6_both5_15 (by decide) ?_
    refine aw_iconst (v := 0) dX6_both5_16 (by decide) ?_
    refine aw_V8 dX6_both5_17 cw_X6_189 ⟨_, _, rfl⟩ hM.1 (by omega) ⟨Nat.le_refl _, Nat.le_refl _⟩ (by decide) (c_X6_isWordB (by omega) hM m1 ?_)
    refine aw_if_eq (tgt := 49) dX6_both5_20 (by decide) (fun _ => ?_) (fun zz => absurd zz (by decide))
    refine aw_iload_n dX6_both5_49 rfl ?_
    refine aw_ireturn (ty := .int) dX6_both5_50 rfl rfl ?_
    exact hF _ (bn_0 e1) _ _ _ s1 m1
theorem l_X6_either5 {E : Ev} {d : Nat} {Z : Mz} {Q : Po} {B : Nat → Int32} {n t : Nat} (hd : 9 ≤ d) (hM : MZ Z) : ∀ (m k : Nat) (c : List Int32) (v : Vl) (x : Int32) (I : Mi) (L : Ml) (o2 : Option Value), n ≤ k + m → k ≤ n → MS I L B n t k 5 → x = v (nmI I) → (∀ (k' : Nat) (c' : List Int32) (v' : Vl), lpR (SS B n) (andR (SS B n) (VV B n) (lvR (SS B n) (VV B n) 0)) jO m k c v = (k', some (c', v')) → ∀ (I9 : Mi) (L9 : Ml), SaQ I I9 → MS I9 L9 B n t k' 5 → Q (some (.int (v' (nmI I)))) I9 L9 Z) → (∀ k' : Nat, lpR (SS B n) (andR (SS B n) (VV B n) (lvR (SS B n) (VV B n) 0)) jO m k c v = (k', none) → ∀ (rv : Int32) (I9 : Mi) (L9 : Ml), SaQ I I9 → MB I9 (plF B n k') → Q (some (.int rv)) I9 L9 Z) → AW E yX6_either5 cX6_either5 3 (some .int) (rmOf d 0 0) Q 0 0 5 [some (.ref 48), some (.int x), o2] [] I L Z := by
  intro m
  induction m with
  | zero =>
    intro k c v x I L o2 hm hk hS hx hK hF
    have hz : SS B n k = 0 := by rw [show k = n by omega]; exact (SV_ok B n).1
    refine aw_aload_n dX6_either5_5 rfl rfl ?_
    refine aw_bipush (v := 111) dX6_either5_6 (by decide) ?_
    refine aw_bipush (v := 114) dX6_either5_8 (by decide) ?_
    refine aw_iconst (v := 0) dX6_either5_10 (by decide) ?_
    refine aw_iconst (v := 0) dX6_either5_11 (by decide) ?_
    refine aw_iconst (v := 0) dX6_either5_12 (by decide) ?_
    refine aw_iconst (v := 0) dX6_either5_13 (by decide) ?_
    refine aw_iconst (v := 0) dX6_either5_14 (by decide) ?_
    refine aw_iconst (v := 0) dX6_either5_15 (by decide) ?_
    refine aw_V8 dX6_either5_16 cw_X6_189 ⟨_, _, rfl⟩ hM.1 (by omega) ⟨Nat.le_refl _, Nat.le_refl _⟩ (by decide) (c_X6_isWord_or (by omega) hM hS (fun zz => absurd zz (fun w => absurd ((wd_S (by decide)).mp w) (by omega))) (fun c16 => ?_))
    refine aw_if_eq (tgt := 48) dX6_either5_19 (by decide) (fun _ => ?_) (fun zz => absurd zz (by decide))
    refine aw_iload_n dX6_either5_48 rfl ?_
    refine aw_ireturn (ty := .int) dX6_either5_49 rfl rfl ?_
    rw [hx]
    exact hK _ _ _ rfl _ _ SaQ.rf hS
  | succ m ih =>
    intro k c v x I L o2 hm hk hS hx hK hF
    have hJ := fun (J : Nat → Bool) (h : J (SS B n k) = true) => h
    refine aw_aload_n dX6_either5_5 rfl rfl ?_
    refine aw_bipush (v := 111) dX6_either5_6 (by decide) ?_
    refine aw_bipush (v := 114) dX6_either5_8 (by decide) ?_
    refine aw_iconst (v := 0) dX6_either5_10 (by decide) ?_
    refine aw_iconst (v := 0) dX6_either5_11 (by decide) ?_
    refine aw_iconst (v := 0) dX6_either5_12 (by decide) ?_
    refine aw_iconst (v := 0) dX6_either5_13 (by decide) ?_
    refine aw_iconst (v := 0) dX6_either5_14 (by decide) ?_
    refine aw_iconst (v := 0) dX6_either5_15 (by decide) ?_
    refine aw_V8 dX6_either5_16 cw_X6_189 ⟨_, _, rfl⟩ hM.1 (by omega) ⟨Nat.le_refl _, Nat.le_refl _⟩ (by decide) (c_X6_isWord_or (by omega) hM hS (fun c16 => ?_) (fun c16 => ?_))
    · refine aw_if_eq (tgt := 48) dX6_either5_19 (by decide) (fun zz => absurd zz (by decide)) (fun _ => ?_)
      refine aw_aload_n dX6_either5_22 rfl rfl ?_
      have hs8 : SS B n k = 7 := (wd_S (by decide)).mp c16
      refine aw_V0 dX6_either5_23 cw_X6_186 ⟨_, _, rfl⟩ hM.1 (by omega) ⟨Nat.le_refl _, Nat.le_refl _⟩ (by decide) (c_X6_next (by omega) hM hS (by omega) (by omega) (fun I2 L2 s2 m2 => ?_))
      refine aw_aload_n dX6_either5_26 rfl rfl ?_
      refine aw_V0 dX6_either5_27 cw_X6_238 ⟨_, _, rfl⟩ hM.1 (by omega) ⟨Nat.le_refl _, Nat.le_refl _⟩ (by decide) (c_X6_both5 (by omega) hM m2 (by have := lt_of_S (SV_ok B n).1 hk (by omega); omega) (fun k1 c1 v1 e1 I1 L1 s1 m1 => ?_) (fun k1 e1 rv1 I1 L1 s1 m1 => ?_))
      · refine aw_istore_n (ls' := [_, _, _]) dX6_either5_30 (by decide) rfl rfl ?_
        refine aw_iload_n dX6_either5_31 rfl ?_
        refine aw_if_ne (tgt := 39) dX6_either5_32 (by decide) (fun c32 => ?_) (fun c32 => ?_)
        · refine aw_iconst (v := 1) dX6_either5_39 (by decide) ?_
          refine aw_goto (tgt := 44) dX6_either5_40 (by decide) ?_
          refine aw_istore_n (ls' := [_, _, _]) dX6_either5_44 (by decide) rfl rfl ?_
          refine aw_goto (tgt := 5) dX6_either5_45 (by decide) ?_
          have hkn := lt_of_S (SV_ok B n).1 hk (by omega)
          have ok1 := (all_ok (SV_ok B n) (lv_ok (SV_ok B n) 0)).2.2.2.2.1 (k + 1) (by omega)
          rw [e1] at ok1
          obtain ⟨b1, b2, b3⟩ := ok1
          simp only at b1 b2
          have b4 := (b3 _ _ rfl).1
          simp only at b4
          have e2 := lp_1 (n := m) (c := c) (v := v) (show jO (SS B n k) = true by rw [hs8]; decide) e1
          refine ih k1 (c ++ c1 ++ [stI (SS B n k) 0]) (fun nm => joV (nI (SS B n k)) (v nm) (v1 nm)) _ I1 L1 _ (by omega) b2 m1 ?_ (fun k' c' v' e I9 L9 s9 m9 => ?_) (fun k' e rv I9 L9 s9 m9 => ?_)
          · rw [nmI_q s1, nmI_q s2, hs8, jo7, ← hx]
            simp only [c32, not_true_eq_false, not_false_eq_true, and_true, true_and, and_false, false_and, or_true, true_or, or_false, false_or, ite_true, ite_false, if_true, if_false, reduceIte, and_self, or_self]
          · rw [nmI_q s1, nmI_q s2]; exact hK k' c' v' (e2.trans e) I9 L9 ((s2.tr s1).tr s9) m9
          · exact hF k' (e2.trans e) rv I9 L9 ((s2.tr s1).tr s9) m9
        · refine aw_iload_n dX6_either5_35 rfl ?_
          refine aw_if_eq (tgt := 43) dX6_either5_36 (by decide) (fun c36 => ?_) (fun c36 => ?_)
          · refine aw_iconst (v := 0) dX6_either5_43 (by decide) ?_
            refine aw_istore_n (ls' := [_, _, _]) dX6_either5_44 (by decide) rfl rfl ?_
            refine aw_goto (tgt := 5) dX6_either5_45 (by decide) ?_
            have hkn := lt_of_S (SV_ok B n).1 hk (by omega)
            have ok1 := (all_ok (SV_ok B n) (lv_ok (SV_ok B n) 0)).2.2.2.2.1 (k + 1) (by omega)
            rw [e1] at ok1
            obtain ⟨b1, b2, b3⟩ := ok1
            simp only at b1 b2
            have b4 := (b3 _ _ rfl).1
            simp only at b4
            have e2 := lp_1 (n := m) (c := c) (v := v) (show jO (SS B n k) = true by rw [hs8]; decide) e1
            refine ih k1 (c ++ c1 ++ [stI (SS B n k) 0]) (fun nm => joV (nI (SS B n k)) (v nm) (v1 nm)) _ I1 L1 _ (by omega) b2 m1 ?_ (fun k' c' v' e I9 L9 s9 m9 => ?_) (fun k' e rv I9 L9 s9 m9 => ?_)
            · rw [nmI_q s1, nmI_q s2, hs8, jo7, ← hx]
              rw [nmI_q s2] at c36
              simp only [c32, c36, not_true_eq_false, not_false_eq_true, and_true, true_and, and_false, false_and, or_true, true_or, or_false, false_or, ite_true, ite_false, if_true, if_false, reduceIte, and_self, or_self]
            · rw [nmI_q s1, nmI_q s2]; exact hK k' c' v' (e2.trans e) I9 L9 ((s2.tr s1).tr s9) m9
            · exact hF k' (e2.trans e) rv I9 L9 ((s2.tr s1).tr s9) m9
          · refine aw_iconst (v := 1) dX6_either5_39 (by decide) ?_
            refine aw_goto (tgt := 44) dX6_either5_40 (by decide) ?_
            refine aw_istore_n (ls' := [_, _, _]) dX6_either5_44 (by decide) rfl rfl ?_
            refine aw_goto (tgt := 5) dX6_either5_45 (by decide) ?_
            have hkn := lt_of_S (SV_ok B n).1 hk (by omega)
            have ok1 := (all_ok (SV_ok B n) (lv_ok (SV_ok B n) 0)).2.2.2.2.1 (k + 1) (by omega)
            rw [e1] at ok1
            obtain ⟨b1, b2, b3⟩ := ok1
            simp only at b1 b2
            have b4 := (b3 _ _ rfl).1
            simp only at b4
            have e2 := lp_1 (n := m) (c := c) (v := v) (show jO (SS B n k) = true by rw [hs8]; decide) e1
            refine ih k1 (c ++ c1 ++ [stI (SS B n k) 0]) (fun nm => joV (nI (SS B n k)) (v nm) (v1 nm)) _ I1 L1 _ (by omega) b2 m1 ?_ (fun k' c' v' e I9 L9 s9 m9 => ?_) (fun k' e rv I9 L9 s9 m9 => ?_)
            · rw [nmI_q s1, nmI_q s2, hs8, jo7, ← hx]
              rw [nmI_q s2] at c36
              simp only [c32, c36, not_true_eq_false, not_false_eq_true, and_true, true_and, and_false, false_and, or_true, true_or, or_false, false_or, ite_true, ite_false, if_true, if_false, reduceIte, and_self, or_self]
            · rw [nmI_q s1, nmI_q s2]; exact hK k' c' v' (e2.trans e) I9 L9 ((s2.tr s1).tr s9) m9
            · exact hF k' (e2.trans e) rv I9 L9 ((s2.tr s1).tr s9) m9
      · refine aw_istore_n (ls' := [_, _, _]) dX6_either5_30 (by decide) rfl rfl ?_
        refine aw_iload_n dX6_either5_31 rfl ?_
        refine aw_if_ne (tgt := 39) dX6_either5_32 (by decide) (fun c32 => ?_) (fun c32 => ?_)
        · refine aw_iconst (v := 1) dX6_either5_39 (by decide) ?_
          refine aw_goto (tgt := 44) dX6_either5_40 (by decide) ?_
          refine aw_istore_n (ls' := [_, _, _]) dX6_either5_44 (by decide) rfl rfl ?_
          refine aw_goto (tgt := 5) dX6_either5_45 (by decide) ?_
          refine aw_aload_n dX6_either5_5 rfl rfl ?_
          refine aw_bipush (v := 111) dX6_either5_6 (by decide) ?_
          refine aw_bipush (v := 114) dX6_either5_8 (by decide) ?_
          refine aw_iconst (v := 0) dX6_either5_10 (by decide) ?_
          refine aw_iconst (v := 0) dX6_either5_11 (by decide) ?_
          refine aw_iconst (v := 0) dX6_either5_12 (by decide) ?_
          refine aw_iconst (v := 0) dX6_either5_13 (by decide) ?_
          refine aw_iconst (v := 0) dX6_either5_14 (by decide) ?_
          refine aw_iconst (v := 0) dX6_either5_15 (by decide) ?_
          refine aw_V8 dX6_either5_16 cw_X6_189 ⟨_, _, rfl⟩ hM.1 (by omega) ⟨Nat.le_refl _, Nat.le_refl _⟩ (by decide) (c_X6_isWordB (by omega) hM m1 ?_)
          refine aw_if_eq (tgt := 48) dX6_either5_19 (by decide) (fun _ => ?_) (fun zz => absurd zz (by decide))
          refine aw_iload_n dX6_either5_48 rfl ?_
          refine aw_ireturn (ty := .int) dX6_either5_49 rfl rfl ?_
          exact hF _ (lp_0 (show jO (SS B n k) = true by rw [hs8]; decide) e1) _ _ _ (s2.tr s1) m1
        · refine aw_iload_n dX6_either5_35 rfl ?_
          refine aw_if_eq (tgt := 43) dX6_either5_36 (by decide) (fun c36 => ?_) (fun c36 => ?_)
          · refine aw_iconst (v := 0) dX6_either5_43 (by decide) ?_
            refine aw_istore_n (ls' := [_, _, _]) dX6_either5_44 (by decide) rfl rfl ?_
            refine aw_goto (tgt := 5) dX6_either5_45 (by decide) ?_
            refine aw_aload_n dX6_either5_5 rfl rfl ?_
            refine aw_bipush (v := 111) dX6_either5_6 (by decide) ?_
            refine aw_bipush (v := 114) dX6_either5_8 (by decide) ?_
            refine aw_iconst (v := 0) dX6_either5_10 (by decide) ?_
            refine aw_iconst (v := 0) dX6_either5_11 (by decide) ?_
            refine aw_iconst (v := 0) dX6_either5_12 (by decide) ?_
            refine aw_iconst (v := 0) dX6_either5_13 (by decide) ?_
            refine aw_iconst (v := 0) dX6_either5_14 (by decide) ?_
            refine aw_iconst (v := 0) dX6_either5_15 (by decide) ?_
            refine aw_V8 dX6_either5_16 cw_X6_189 ⟨_, _, rfl⟩ hM.1 (by omega) ⟨Nat.le_refl _, Nat.le_refl _⟩ (by decide) (c_X6_isWordB (by omega) hM m1 ?_)
            refine aw_if_eq (tgt := 48) dX6_either5_19 (by decide) (fun _ => ?_) (fun zz => absurd zz (by decide))
            refine aw_iload_n dX6_either5_48 rfl ?_
            refine aw_ireturn (ty := .int) dX6_either5_49 rfl rfl ?_
            exact hF _ (lp_0 (show jO (SS B n k) = true by rw [hs8]; decide) e1) _ _ _ (s2.tr s1) m1
          · refine aw_iconst (v := 1) dX6_either5_39 (by decide) ?_
            refine aw_goto (tgt := 44) dX6_either5_40 (by decide) ?_
            refine aw_istore_n (ls' := [_, _, _]) dX6_either5_44 (by decide) rfl rfl ?_
            refine aw_goto (tgt := 5) dX6_either5_45 (by decide) ?_
            refine aw_aload_n dX6_either5_5 rfl rfl ?_
            refine aw_bipush (v := 111) dX6_either5_6 (by decide) ?_
            refine aw_bipush (v := 114) dX6_either5_8 (by decide) ?_
            refine aw_iconst (v := 0) dX6_either5_10 (by decide) ?_
            refine aw_iconst (v := 0) dX6_either5_11 (by decide) ?_
            refine aw_iconst (v := 0) dX6_either5_12 (by decide) ?_
            refine aw_iconst (v := 0) dX6_either5_13 (by decide) ?_
            refine aw_iconst (v := 0) dX6_either5_14 (by decide) ?_
            refine aw_iconst (v := 0) dX6_either5_15 (by decide) ?_
            refine aw_V8 dX6_either5_16 cw_X6_189 ⟨_, _, rfl⟩ hM.1 (by omega) ⟨Nat.le_refl _, Nat.le_refl _⟩ (by decide) (c_X6_isWordB (by omega) hM m1 ?_)
            refine aw_if_eq (tgt := 48) dX6_either5_19 (by decide) (fun _ => ?_) (fun zz => absurd zz (by decide))
            refine aw_iload_n dX6_either5_48 rfl ?_
            refine aw_ireturn (ty := .int) dX6_either5_49 rfl rfl ?_
            exact hF _ (lp_0 (show jO (SS B n k) = true by rw [hs8]; decide) e1) _ _ _ (s2.tr s1) m1
    · refine aw_if_eq (tgt := 48) dX6_either5_19 (by decide) (fun _ => ?_) (fun zz => absurd zz (by decide))
      refine aw_iload_n dX6_either5_48 rfl ?_
      refine aw_ireturn (ty := .int) dX6_either5_49 rfl rfl ?_
      rw [hx]
      exact hK _ _ _ (lp_z (by simp only [jO, beq_iff_eq]; exact fun w => c16 ((wd_S (by decide)).mpr w))) _ _ SaQ.rf hS
theorem c_X6_either5 {E : Ev} {d : Nat} {I : Mi} {L : Ml} {Z : Mz} {Q : Po}  {B : Nat → Int32} {n t k : Nat} (hd : 9 ≤ d) (hM : MZ Z) (hS : MS I L B n t k 5) (hk : k ≤ n) (hK : ∀ (k' : Nat) (c' : List Int32) (v' : Vl), eitR (SS B n) (VV B n) (lvR (SS B n) (VV B n) 0) k = (k', some (c', v')) → ∀ (I9 : Mi) (L9 : Ml), SaQ I I9 → MS I9 L9 B n t k' 5 → Q (some (.int (v' (nmI I)))) I9 L9 Z) (hF : ∀ k' : Nat, eitR (SS B n) (VV B n) (lvR (SS B n) (VV B n) 0) k = (k', none) → ∀ (rv : Int32) (I9 : Mi) (L9 : Ml), SaQ I I9 → MB I9 (plF B n k') → Q (some (.int rv)) I9 L9 Z) : AC E yX6_either5 cX6_either5 3 (some .int) d 0 0 [.ref 48] I L Z Q := by
  refine ac_go (ls := [some (.ref 48), none, none]) (by decide +kernel) (Nat.le_of_ble_eq_true rfl) rfl ?_
  refine aw_aload_n dX6_either5_0 rfl rfl ?_
  refine aw_V0 dX6_either5_1 cw_X6_238 ⟨_, _, rfl⟩ hM.1 (by omega) ⟨Nat.le_refl _, Nat.le_refl _⟩ (by decide) (c_X6_both5 (by omega) hM hS hk (fun k1 c1 v1 e1 I1 L1 s1 m1 => ?_) (fun k1 e1 rv1 I1 L1 s1 m1 => ?_))
  · refine aw_istore_n (ls' := [_, _, _]) dX6_either5_4 (by decide) rfl rfl ?_
    have e2 : eitR (SS B n) (VV B n) (lvR (SS B n) (VV B n) 0) k = lpR (SS B n) (andR (SS B n) (VV B n) (lvR (SS B n) (VV B n) 0)) jO 160 k1 c1 v1 := bn_1 e1
    have ok1 := (all_ok (SV_ok B n) (lv_ok (SV_ok B n) 0)).2.2.2.2.1 k (by omega)
    rw [e1] at ok1
    obtain ⟨b1, b2, b3⟩ := ok1
    simp only at b1 b2
    have hn6 := hS.1.2.2.2.1
    refine l_X6_either5 hd hM 160 k1 c1 v1 _ I1 L1 _ (by omega) b2 m1 (by rw [nmI_q s1]) (fun k' c' v' e I9 L9 s9 m9 => ?_) (fun k' e rv I9 L9 s9 m9 => ?_)
    · rw [nmI_q s1]; exact hK k' c' v' (e2.trans e) I9 L9 (s1.tr s9) m9
    · exact hF k' (e2.trans e) rv I9 L9 (s1.tr s9) m9
  · refine aw_istore_n (ls' := [_, _, _]) dX6_either5_4 (by decide) rfl rfl ?_
    refine aw_aload_n dX6_either5_5 rfl rfl ?_
    refine aw_bipush (v := 111) dX6_either5_6 (by decide) ?_
    refine aw_bipush (v := 114) dX6_either5_8 (by decide) ?_
    refine aw_iconst (v := 0) dX6_either5_10 (by decide) ?_
    refine aw_iconst (v := 0) dX6_either5_11 (by decide) ?_
    refine aw_iconst (v := 0) dX6_either5_12 (by decide) ?_
    refine aw_iconst (v := 0) dX6_either5_13 (by decide) ?_
    refine aw_iconst (v := 0) dX6_either5_14 (by decide) ?_
    refine aw_iconst (v := 0) dX6_either5_15 (by decide) ?_
    refine aw_V8 dX6_either5_16 cw_X6_189 ⟨_, _, rfl⟩ hM.1 (by omega) ⟨Nat.le_refl _, Nat.le_refl _⟩ (by decide) (c_X6_isWordB (by omega) hM m1 ?_)
    refine aw_if_eq (tgt := 48) dX6_either5_19 (by decide) (fun _ => ?_) (fun zz => absurd zz (by decide))
    refine aw_iload_n dX6_either5_48 rfl ?_
    refine aw_ireturn (ty := .int) dX6_either5_49 rfl rfl ?_
    exact hF _ (bn_0 e1) _ _ _ s1 m1
theorem c_X6_atom4 {E : Ev} {d : Nat} {I : Mi} {L : Ml} {Z : Mz} {Q : Po}  {B : Nat → Int32} {n t k : Nat} (hd : 10 ≤ d) (hM : MZ Z) (hS : MS I L B n t k 4) (hk : k ≤ n) (hK : ∀ (k' : Nat) (c' : List Int32) (v' : Vl), oneR (SS B n) (VV B n) (lvR (SS B n) (VV B n) 1) k = (k', some (c', v')) → ∀ (I9 : Mi) (L9 : Ml), SaQ I I9 → MS I9 L9 B n t k' 4 → Q (some (.int (v' (nmI I)))) I9 L9 Z) (hF : ∀ k' : Nat, oneR (SS B n) (VV B n) (lvR (SS B n) (VV B n) 1) k = (k', none) → ∀ (rv : Int32) (I9 : Mi) (L9 : Ml), SaQ I I9 → MB I9 (plF B n k') → Q (some (.int rv)) I9 L9 Z) : AC E yX6_atom4 cX6_atom4 2 (some .int) d 0 0 [.ref 48] I L Z Q := by
  refine ac_go (ls := [some (.ref 48), none]) (by decide +kernel) (Nat.le_of_ble_eq_true rfl) rfl ?_
  refine aw_iconst (v := 0) dX6_atom4_0 (by decide) ?_
  refine aw_istore_n (ls' := [_, _]) dX6_atom4_1 (by decide) rfl rfl ?_
  refine aw_aload_n dX6_atom4_2 rfl rfl ?_
  refine aw_bipush (v := 45) dX6_atom4_3 (by decide) ?_
  refine aw_V1 dX6_atom4_5 cw_X6_211 ⟨_, _, rfl⟩ hM.1 (by omega) ⟨Nat.le_refl _, Nat.le_refl _⟩ (by decide) (c_X6_isSign_14 hM hS (fun c5 => ?_) (fun c5 => ?_))
  · refine aw_if_eq (tgt := 37) dX6_atom4_8 (by decide) (fun zz => absurd zz (by decide)) (fun _ => ?_)
    refine aw_aload_n dX6_atom4_11 rfl rfl ?_
    refine aw_V0 dX6_atom4_12 cw_X6_214 ⟨_, _, rfl⟩ hM.1 (by omega) ⟨Nat.le_refl _, Nat.le_refl _⟩ (by decide) (c_X6_opens (by omega) hM hS (by decide) (by omega) (by omega) (fun I0 L0 s0 m0 => ?_))
    refine aw_if_eq (tgt := 161) dX6_atom4_15 (by decide) (fun zz => absurd zz (by decide)) (fun _ => ?_)
    refine aw_aload_n dX6_atom4_18 rfl rfl ?_
    refine aw_V0 dX6_atom4_19 cw_X6_222 ⟨_, _, rfl⟩ hM.1 (by omega) ⟨Nat.le_refl _, Nat.le_refl _⟩ (by decide) (c_X6_atom5 (by omega) hM m0 (by have := lt_of_S (SV_ok B n).1 hk (by omega); omega) (fun k1 c1 v1 e1 I1 L1 s1 m1 => ?_) (fun k1 e1 rv1 I1 L1 s1 m1 => ?_))
    · refine aw_ineg dX6_atom4_22 ?_
      refine aw_istore_n (ls' := [_, _]) dX6_atom4_23 (by decide) rfl rfl ?_
      refine aw_aload_n dX6_atom4_24 rfl rfl ?_
      refine aw_dup dX6_atom4_25 rfl ?_
      refine aw_gi dX6_atom4_26 fw_X6_180 hM.1 ?_
      refine aw_iconst (v := 1) dX6_atom4_29 (by decide) ?_
      refine aw_isub dX6_atom4_30 ?_
      rw [m1.2.2.2, nI_pred]
      refine aw_pi dX6_atom4_31 fw_X6_180 (ww_X6_180 _) hM.1 rfl ?_
      refine aw_goto (tgt := 161) dX6_atom4_34 (by decide) ?_
      refine aw_iload_n dX6_atom4_161 rfl ?_
      refine aw_ireturn (ty := .int) dX6_atom4_162 rfl rfl ?_
      rw [nmI_q s0]
      exact hK _ _ _ (one_m1 c5 e1) _ _ (s0.tr s1).op (MS.op m1)
    · refine aw_ineg dX6_atom4_22 ?_
      refine aw_istore_n (ls' := [_, _]) dX6_atom4_23 (by decide) rfl rfl ?_
      refine aw_aload_n dX6_atom4_24 rfl rfl ?_
      refine aw_dup dX6_atom4_25 rfl ?_
      refine aw_gi dX6_atom4_26 fw_X6_180 hM.1 ?_
      refine aw_iconst (v := 1) dX6_atom4_29 (by decide) ?_
      refine aw_isub dX6_atom4_30 ?_
      refine aw_pi dX6_atom4_31 fw_X6_180 (ww_X6_180 _) hM.1 rfl ?_
      refine aw_goto (tgt := 161) dX6_atom4_34 (by decide) ?_
      refine aw_iload_n dX6_atom4_161 rfl ?_
      refine aw_ireturn (ty := .int) dX6_atom4_162 rfl rfl ?_
      exact hF _ (one_m0 c5 e1) _ _ _ (s0.tr s1).op m1.op
  · refine aw_if_eq (tgt := 37) dX6_atom4_8 (by decide) (fun _ => ?_) (fun zz => absurd zz (by decide))
    refine aw_aload_n dX6_atom4_37 rfl rfl ?_
    refine aw_bipush (v := 40) dX6_atom4_38 (by decide) ?_
    refine aw_V1 dX6_atom4_40 cw_X6_211 ⟨_, _, rfl⟩ hM.1 (by omega) ⟨Nat.le_refl _, Nat.le_refl _⟩ (by decide) (c_X6_isSign_10 hM hS (fun c40 => ?_) (fun c40 => ?_))
    · refine aw_if_eq (tgt := 95) dX6_atom4_43 (by decide) (fun zz => absurd zz (by decide)) (fun _ => ?_)
      refine aw_aload_n dX6_atom4_46 rfl rfl ?_
      refine aw_V0 dX6_atom4_47 cw_X6_214 ⟨_, _, rfl⟩ hM.1 (by omega) ⟨Nat.le_refl _, Nat.le_refl _⟩ (by decide) (c_X6_opens (by omega) hM hS (by decide) (by omega) (by omega) (fun I0 L0 s0 m0 => ?_))
      refine aw_if_eq (tgt := 161) dX6_atom4_50 (by decide) (fun zz => absurd zz (by decide)) (fun _ => ?_)
      refine aw_aload_n dX6_atom4_53 rfl rfl ?_
      refine aw_V0 dX6_atom4_54 cw_X6_241 ⟨_, _, rfl⟩ hM.1 (by omega) ⟨Nat.le_refl _, Nat.le_refl _⟩ (by decide) (c_X6_either5 (by omega) hM m0 (by have := lt_of_S (SV_ok B n).1 hk (by omega); omega) (fun k1 c1 v1 e1 I1 L1 s1 m1 => ?_) (fun k1 e1 rv1 I1 L1 s1 m1 => ?_))
      · refine aw_istore_n (ls' := [_, _]) dX6_atom4_57 (by decide) rfl rfl ?_
        refine aw_aload_n dX6_atom4_58 rfl rfl ?_
        refine aw_bipush (v := 41) dX6_atom4_59 (by decide) ?_
        refine aw_V1 dX6_atom4_61 cw_X6_211 ⟨_, _, rfl⟩ hM.1 (by omega) ⟨Nat.le_refl _, Nat.le_refl _⟩ (by decide) (c_X6_isSign_11 hM m1 (fun c61 => ?_) (fun c61 => ?_))
        · refine aw_if_ne (tgt := 71) dX6_atom4_64 (by decide) (fun _ => ?_) (fun zz => absurd zz (by decide))
          refine aw_aload_n dX6_atom4_71 rfl rfl ?_
          refine aw_dup dX6_atom4_72 rfl ?_
          refine aw_gi dX6_atom4_73 fw_X6_180 hM.1 ?_
          refine aw_iconst (v := 1) dX6_atom4_76 (by decide) ?_
          refine aw_isub dX6_atom4_77 ?_
          rw [m1.2.2.2, nI_pred]
          refine aw_pi dX6_atom4_78 fw_X6_180 (ww_X6_180 _) hM.1 rfl ?_
          refine aw_aload_n dX6_atom4_81 rfl rfl ?_
          refine aw_gi dX6_atom4_82 fw_X6_170 hM.1 ?_
          refine aw_if_ne (tgt := 161) dX6_atom4_85 (by decide) (fun zz => absurd (MS.op (o' := 4) m1).2.2.1 zz) (fun c85 => ?_)
          refine aw_aload_n dX6_atom4_88 rfl rfl ?_
          refine aw_V0 dX6_atom4_89 cw_X6_186 ⟨_, _, rfl⟩ hM.1 (by omega) ⟨Nat.le_refl _, Nat.le_refl _⟩ (by decide) (c_X6_next (o := 4) (by omega) hM (MS.op m1) (by omega) (by omega) (fun I2 L2 s2 m2 => ?_))
          refine aw_goto (tgt := 161) dX6_atom4_92 (by decide) ?_
          refine aw_iload_n dX6_atom4_161 rfl ?_
          refine aw_ireturn (ty := .int) dX6_atom4_162 rfl rfl ?_
          rw [nmI_q s0]
          exact hK _ _ _ (one_p1 c40 e1 c61) _ _ ((s0.tr s1).op.tr s2) m2
        · refine aw_if_ne (tgt := 71) dX6_atom4_64 (by decide) (fun zz => absurd zz (by decide)) (fun _ => ?_)
          refine aw_aload_n dX6_atom4_67 rfl rfl ?_
          refine aw_V0 dX6_atom4_68 cw_X6_183 ⟨_, _, rfl⟩ hM.1 (by omega) ⟨Nat.le_refl _, Nat.le_refl _⟩ (by decide) (c_X6_fail hM m1 (fun I9 s9 m9 => ?_))
          refine aw_aload_n dX6_atom4_71 rfl rfl ?_
          refine aw_dup dX6_atom4_72 rfl ?_
          refine aw_gi dX6_atom4_73 fw_X6_180 hM.1 ?_
          refine aw_iconst (v := 1) dX6_atom4_76 (by decide) ?_
          refine aw_isub dX6_atom4_77 ?_
          refine aw_pi dX6_atom4_78 fw_X6_180 (ww_X6_180 _) hM.1 rfl ?_
          refine aw_aload_n dX6_atom4_81 rfl rfl ?_
          refine aw_gi dX6_atom4_82 fw_X6_170 hM.1 ?_
          refine aw_if_ne (tgt := 161) dX6_atom4_85 (by decide) (fun c85 => ?_) (fun zz => absurd zz (by rw [m9.op.1]; decide))
          refine aw_iload_n dX6_atom4_161 rfl ?_
          refine aw_ireturn (ty := .int) dX6_atom4_162 rfl rfl ?_
          exact hF _ (one_p2 c40 e1 c61) _ _ _ ((s0.tr s1).tr s9).op m9.op
      · refine aw_istore_n (ls' := [_, _]) dX6_atom4_57 (by decide) rfl rfl ?_
        refine aw_aload_n dX6_atom4_58 rfl rfl ?_
        refine aw_bipush (v := 41) dX6_atom4_59 (by decide) ?_
        refine aw_V1 dX6_atom4_61 cw_X6_211 ⟨_, _, rfl⟩ hM.1 (by omega) ⟨Nat.le_refl _, Nat.le_refl _⟩ (by decide) (c_X6_isSignB hM m1 ?_)
        refine aw_if_ne (tgt := 71) dX6_atom4_64 (by decide) (fun zz => absurd zz (by decide)) (fun _ => ?_)
        refine aw_aload_n dX6_atom4_67 rfl rfl ?_
        refine aw_V0 dX6_atom4_68 cw_X6_183 ⟨_, _, rfl⟩ hM.1 (by omega) ⟨Nat.le_refl _, Nat.le_refl _⟩ (by decide) (c_X6_failB hM m1 ?_)
        refine aw_aload_n dX6_atom4_71 rfl rfl ?_
        refine aw_dup dX6_atom4_72 rfl ?_
        refine aw_gi dX6_atom4_73 fw_X6_180 hM.1 ?_
        refine aw_iconst (v := 1) dX6_atom4_76 (by decide) ?_
        refine aw_isub dX6_atom4_77 ?_
        refine aw_pi dX6_atom4_78 fw_X6_180 (ww_X6_180 _) hM.1 rfl ?_
        refine aw_aload_n dX6_atom4_81 rfl rfl ?_
        refine aw_gi dX6_atom4_82 fw_X6_170 hM.1 ?_
        refine aw_if_ne (tgt := 161) dX6_atom4_85 (by decide) (fun c85 => ?_) (fun zz => absurd zz (by rw [m1.op.1]; decide))
        refine aw_iload_n dX6_atom4_161 rfl ?_
        refine aw_ireturn (ty := .int) dX6_atom4_162 rfl rfl ?_
        exact hF _ (one_p0 c40 e1) _ _ _ (s0.tr s1).op m1.op
    · refine aw_if_eq (tgt := 95) dX6_atom4_43 (by decide) (fun _ => ?_) (fun zz => absurd zz (by decide))
      refine aw_aload_n dX6_atom4_95 rfl rfl ?_
      refine aw_gi dX6_atom4_96 fw_X6_170 hM.1 ?_
      refine aw_if_ne (tgt := 123) dX6_atom4_99 (by decide) (fun zz => absurd hS.2.2.1 zz) (fun c99 => ?_)
      refine aw_aload_n dX6_atom4_102 rfl rfl ?_
      refine aw_gi dX6_atom4_103 fw_X6_153 hM.1 ?_
      refine aw_iconst (v := 2) dX6_atom4_106 (by decide) ?_
      refine aw_icmp_ne (tgt := 123) dX6_atom4_107 (by decide) (fun c107 => ?_) (fun c107 => ?_)
      · refine aw_aload_n dX6_atom4_123 rfl rfl ?_
        refine aw_gi dX6_atom4_124 fw_X6_170 hM.1 ?_
        refine aw_if_ne (tgt := 157) dX6_atom4_127 (by decide) (fun zz => absurd hS.2.2.1 zz) (fun c127 => ?_)
        refine aw_aload_n dX6_atom4_130 rfl rfl ?_
        refine aw_gi dX6_atom4_131 fw_X6_153 hM.1 ?_
        refine aw_iconst (v := 1) dX6_atom4_134 (by decide) ?_
        refine aw_icmp_ne (tgt := 157) dX6_atom4_135 (by decide) (fun c135 => ?_) (fun c135 => ?_)
        · refine aw_aload_n dX6_atom4_157 rfl rfl ?_
          have h2 : ¬ SS B n k = 2 := fun w => c107 (by rw [hS.2.1.2.1, tk_num.mp w]; rfl)
          have h3 : ¬ SS B n k = 3 := fun w => c135 (by rw [hS.2.1.2.1, s3_mk w]; rfl)
          refine aw_V0 dX6_atom4_158 cw_X6_183 ⟨_, _, rfl⟩ hM.1 (by omega) ⟨Nat.le_refl _, Nat.le_refl _⟩ (by decide) (c_X6_fail hM hS (fun I9 s9 m9 => ?_))
          refine aw_iload_n dX6_atom4_161 rfl ?_
          refine aw_ireturn (ty := .int) dX6_atom4_162 rfl rfl ?_
          exact hF k (one_els h2 h3 (by omega) (by omega)) _ _ _ s9 m9
        · refine aw_aload_n dX6_atom4_138 rfl rfl ?_
          have h2 : ¬ SS B n k = 2 := fun w => c107 (by rw [hS.2.1.2.1, tk_num.mp w]; rfl)
          refine aw_V0 dX6_atom4_139 cw_X6_218 ⟨_, _, rfl⟩ hM.1 (by omega) ⟨Nat.le_refl _, Nat.le_refl _⟩ (by decide) (c_X6_name (by omega) hM hS (fun h3 => ?_) (fun h3 I9 s9 m9 => ?_))
          · refine aw_istore_n (ls' := [_, _]) dX6_atom4_142 (by decide) rfl rfl ?_
            refine aw_aload_n dX6_atom4_143 rfl rfl ?_
            refine aw_gi dX6_atom4_144 fw_X6_170 hM.1 ?_
            refine aw_if_ne (tgt := 161) dX6_atom4_147 (by decide) (fun zz => absurd hS.2.2.1 zz) (fun c147 => ?_)
            refine aw_aload_n dX6_atom4_150 rfl rfl ?_
            
            refine aw_V0 dX6_atom4_151 cw_X6_186 ⟨_, _, rfl⟩ hM.1 (by omega) ⟨Nat.le_refl _, Nat.le_refl _⟩ (by decide) (c_X6_next (by omega) hM hS (by omega) (by omega) (fun I2 L2 s2 m2 => ?_))
            refine aw_goto (tgt := 161) dX6_atom4_154 (by decide) ?_
            refine aw_iload_n dX6_atom4_161 rfl ?_
            refine aw_ireturn (ty := .int) dX6_atom4_162 rfl rfl ?_
            exact hK _ _ _ (one_nam h3) _ _ s2 m2
          · refine aw_istore_n (ls' := [_, _]) dX6_atom4_142 (by decide) rfl rfl ?_
            refine aw_aload_n dX6_atom4_143 rfl rfl ?_
            refine aw_gi dX6_atom4_144 fw_X6_170 hM.1 ?_
            refine aw_if_ne (tgt := 161) dX6_atom4_147 (by decide) (fun c147 => ?_) (fun zz => absurd zz (by rw [m9.1]; decide))
            refine aw_iload_n dX6_atom4_161 rfl ?_
            refine aw_ireturn (ty := .int) dX6_atom4_162 rfl rfl ?_
            exact hF k (one_els h2 h3 (by omega) (by omega)) _ _ _ s9 m9
      · refine aw_aload_n dX6_atom4_110 rfl rfl ?_
        refine aw_gl dX6_atom4_111 fw_X6_164 hM.1 ?_
        have h2 : SS B n k = 2 := tk_num.mpr (by
          have e := hS.2.1.2.1
          rw [c107] at e
          exact ((nI_eq (a := 2) (by decide) (by have := mk_le B n (plF B n k); omega)).mp e).symm)
        have eL : L 48 27 = lN (VV B n k) := by rw [hS.2.1.2.2.2.1 (tk_num.mp h2)]; exact congrArg lN (tk_val h2).symm
        rw [eL]
        refine aw_l2i dX6_atom4_114 ?_
        rw [lN_i]
        refine aw_istore_n (ls' := [_, _]) dX6_atom4_115 (by decide) rfl rfl ?_
        refine aw_aload_n dX6_atom4_116 rfl rfl ?_
        
        refine aw_V0 dX6_atom4_117 cw_X6_186 ⟨_, _, rfl⟩ hM.1 (by omega) ⟨Nat.le_refl _, Nat.le_refl _⟩ (by decide) (c_X6_next (by omega) hM hS (by omega) (by omega) (fun I2 L2 s2 m2 => ?_))
        refine aw_goto (tgt := 161) dX6_atom4_120 (by decide) ?_
        refine aw_iload_n dX6_atom4_161 rfl ?_
        refine aw_ireturn (ty := .int) dX6_atom4_162 rfl rfl ?_
        exact hK _ _ _ (one_num h2) _ _ s2 m2
theorem l_X6_term4 {E : Ev} {d : Nat} {Z : Mz} {Q : Po} {B : Nat → Int32} {n t : Nat} (hd : 11 ≤ d) (hM : MZ Z) : ∀ (m k : Nat) (c : List Int32) (v : Vl) (x : Int32) (I : Mi) (L : Ml), n ≤ k + m → k ≤ n → MS I L B n t k 4 → x = v (nmI I) → (∀ (k' : Nat) (c' : List Int32) (v' : Vl), lpR (SS B n) (oneR (SS B n) (VV B n) (lvR (SS B n) (VV B n) 1)) jT m k c v = (k', some (c', v')) → ∀ (I9 : Mi) (L9 : Ml), SaQ I I9 → MS I9 L9 B n t k' 4 → Q (some (.int (v' (nmI I)))) I9 L9 Z) → (∀ k' : Nat, lpR (SS B n) (oneR (SS B n) (VV B n) (lvR (SS B n) (VV B n) 1)) jT m k c v = (k', none) → ∀ (rv : Int32) (I9 : Mi) (L9 : Ml), SaQ I I9 → MB I9 (plF B n k') → Q (some (.int rv)) I9 L9 Z) → AW E yX6_term4 cX6_term4 2 (some .int) (rmOf d 0 0) Q 0 0 5 [some (.ref 48), some (.int x)] [] I L Z := by
  intro m
  induction m with
  | zero =>
    intro k c v x I L hm hk hS hx hK hF
    have hz : SS B n k = 0 := by rw [show k = n by omega]; exact (SV_ok B n).1
    refine aw_aload_n dX6_term4_5 rfl rfl ?_
    refine aw_bipush (v := 42) dX6_term4_6 (by decide) ?_
    refine aw_V1 dX6_term4_8 cw_X6_211 ⟨_, _, rfl⟩ hM.1 (by omega) ⟨Nat.le_refl _, Nat.le_refl _⟩ (by decide) (c_X6_isSign_15 hM hS (fun zz => absurd zz (by omega)) (fun c8 => ?_))
    refine aw_if_eq (tgt := 28) dX6_term4_11 (by decide) (fun _ => ?_) (fun zz => absurd zz (by decide))
    refine aw_iload_n dX6_term4_28 rfl ?_
    refine aw_ireturn (ty := .int) dX6_term4_29 rfl rfl ?_
    rw [hx]
    exact hK _ _ _ rfl _ _ SaQ.rf hS
  | succ m ih =>
    intro k c v x I L hm hk hS hx hK hF
    have hJ := fun (J : Nat → Bool) (h : J (SS B n k) = true) => h
    refine aw_aload_n dX6_term4_5 rfl rfl ?_
    refine aw_bipush (v := 42) dX6_term4_6 (by decide) ?_
    refine aw_V1 dX6_term4_8 cw_X6_211 ⟨_, _, rfl⟩ hM.1 (by omega) ⟨Nat.le_refl _, Nat.le_refl _⟩ (by decide) (c_X6_isSign_15 hM hS (fun c8 => ?_) (fun c8 => ?_))
    · refine aw_if_eq (tgt := 28) dX6_term4_11 (by decide) (fun zz => absurd zz (by decide)) (fun _ => ?_)
      refine aw_aload_n dX6_term4_14 rfl rfl ?_
      
      refine aw_V0 dX6_term4_15 cw_X6_186 ⟨_, _, rfl⟩ hM.1 (by omega) ⟨Nat.le_refl _, Nat.le_refl _⟩ (by decide) (c_X6_next (by omega) hM hS (by omega) (by omega) (fun I2 L2 s2 m2 => ?_))
      refine aw_iload_n dX6_term4_18 rfl ?_
      refine aw_aload_n dX6_term4_19 rfl rfl ?_
      refine aw_V0 dX6_term4_20 cw_X6_244 ⟨_, _, rfl⟩ hM.1 (by omega) ⟨Nat.le_refl _, Nat.le_refl _⟩ (by simp [Value.category, psh]) (c_X6_atom4 (by omega) hM m2 (by have := lt_of_S (SV_ok B n).1 hk (by omega); omega) (fun k1 c1 v1 e1 I1 L1 s1 m1 => ?_) (fun k1 e1 rv1 I1 L1 s1 m1 => ?_))
      · refine aw_imul dX6_term4_23 ?_
        refine aw_istore_n (ls' := [_, _]) dX6_term4_24 (by decide) rfl rfl ?_
        refine aw_goto (tgt := 5) dX6_term4_25 (by decide) ?_
        have hkn := lt_of_S (SV_ok B n).1 hk (by omega)
        have ok1 := (all_ok (SV_ok B n) (lv_ok (SV_ok B n) 1)).1 (k + 1) (by omega)
        rw [e1] at ok1
        obtain ⟨b1, b2, b3⟩ := ok1
        simp only at b1 b2
        have b4 := (b3 _ _ rfl).1
        simp only at b4
        have e2 := lp_1 (n := m) (c := c) (v := v) (show jT (SS B n k) = true by rw [c8]; decide) e1
        refine ih k1 (c ++ c1 ++ [stI (SS B n k) 0]) (fun nm => joV (nI (SS B n k)) (v nm) (v1 nm)) _ I1 L1 (by omega) b2 m1 ?_ (fun k' c' v' e I9 L9 s9 m9 => ?_) (fun k' e rv I9 L9 s9 m9 => ?_)
        · rw [nmI_q s1, nmI_q s2, c8, jo15, hx]
        · rw [nmI_q s1, nmI_q s2]; exact hK k' c' v' (e2.trans e) I9 L9 ((s2.tr s1).tr s9) m9
        · exact hF k' (e2.trans e) rv I9 L9 ((s2.tr s1).tr s9) m9
      · refine aw_imul dX6_term4_23 ?_
        refine aw_istore_n (ls' := [_, _]) dX6_term4_24 (by decide) rfl rfl ?_
        refine aw_goto (tgt := 5) dX6_term4_25 (by decide) ?_
        refine aw_aload_n dX6_term4_5 rfl rfl ?_
        refine aw_bipush (v := 42) dX6_term4_6 (by decide) ?_
        refine aw_V1 dX6_term4_8 cw_X6_211 ⟨_, _, rfl⟩ hM.1 (by omega) ⟨Nat.le_refl _, Nat.le_refl _⟩ (by decide) (c_X6_isSignB hM m1 ?_)
        refine aw_if_eq (tgt := 28) dX6_term4_11 (by decide) (fun _ => ?_) (fun zz => absurd zz (by decide))
        refine aw_iload_n dX6_term4_28 rfl ?_
        refine aw_ireturn (ty := .int) dX6_term4_29 rfl rfl ?_
        exact hF _ (lp_0 (show jT (SS B n k) = true by rw [c8]; decide) e1) _ _ _ (s2.tr s1) m1
    · refine aw_if_eq (tgt := 28) dX6_term4_11 (by decide) (fun _ => ?_) (fun zz => absurd zz (by decide))
      refine aw_iload_n dX6_term4_28 rfl ?_
      refine aw_ireturn (ty := .int) dX6_term4_29 rfl rfl ?_
      rw [hx]
      exact hK _ _ _ (lp_z (by simp only [jT, beq_iff_eq]; exact c8)) _ _ SaQ.rf hS
theorem c_X6_term4 {E : Ev} {d : Nat} {I : Mi} {L : Ml} {Z : Mz} {Q : Po}  {B : Nat → Int32} {n t k : Nat} (hd : 11 ≤ d) (hM : MZ Z) (hS : MS I L B n t k 4) (hk : k ≤ n) (hK : ∀ (k' : Nat) (c' : List Int32) (v' : Vl), terR (SS B n) (VV B n) (lvR (SS B n) (VV B n) 1) k = (k', some (c', v')) → ∀ (I9 : Mi) (L9 : Ml), SaQ I I9 → MS I9 L9 B n t k' 4 → Q (some (.int (v' (nmI I)))) I9 L9 Z) (hF : ∀ k' : Nat, terR (SS B n) (VV B n) (lvR (SS B n) (VV B n) 1) k = (k', none) → ∀ (rv : Int32) (I9 : Mi) (L9 : Ml), SaQ I I9 → MB I9 (plF B n k') → Q (some (.int rv)) I9 L9 Z) : AC E yX6_term4 cX6_term4 2 (some .int) d 0 0 [.ref 48] I L Z Q := by
  refine ac_go (ls := [some (.ref 48), none]) (by decide +kernel) (Nat.le_of_ble_eq_true rfl) rfl ?_
  refine aw_aload_n dX6_term4_0 rfl rfl ?_
  refine aw_V0 dX6_term4_1 cw_X6_244 ⟨_, _, rfl⟩ hM.1 (by omega) ⟨Nat.le_refl _, Nat.le_refl _⟩ (by decide) (c_X6_atom4 (by omega) hM hS hk (fun k1 c1 v1 e1 I1 L1 s1 m1 => ?_) (fun k1 e1 rv1 I1 L1 s1 m1 => ?_))
  · refine aw_istore_n (ls' := [_, _]) dX6_term4_4 (by decide) rfl rfl ?_
    have e2 : terR (SS B n) (VV B n) (lvR (SS B n) (VV B n) 1) k = lpR (SS B n) (oneR (SS B n) (VV B n) (lvR (SS B n) (VV B n) 1)) jT 160 k1 c1 v1 := bn_1 e1
    have ok1 := (all_ok (SV_ok B n) (lv_ok (SV_ok B n) 1)).1 k (by omega)
    rw [e1] at ok1
    obtain ⟨b1, b2, b3⟩ := ok1
    simp only at b1 b2
    have hn6 := hS.1.2.2.2.1
    refine l_X6_term4 hd hM 160 k1 c1 v1 _ I1 L1 (by omega) b2 m1 (by rw [nmI_q s1]) (fun k' c' v' e I9 L9 s9 m9 => ?_) (fun k' e rv I9 L9 s9 m9 => ?_)
    · rw [nmI_q s1]; exact hK k' c' v' (e2.trans e) I9 L9 (s1.tr s9) m9
    · exact hF k' (e2.trans e) rv I9 L9 (s1.tr s9) m9
  · refine aw_istore_n (ls' := [_, _]) dX6_term4_4 (by decide) rfl rfl ?_
    refine aw_aload_n dX6_term4_5 rfl rfl ?_
    refine aw_bipush (v := 42) dX6_term4_6 (by decide) ?_
    refine aw_V1 dX6_term4_8 cw_X6_211 ⟨_, _, rfl⟩ hM.1 (by omega) ⟨Nat.le_refl _, Nat.le_refl _⟩ (by decide) (c_X6_isSignB hM m1 ?_)
    refine aw_if_eq (tgt := 28) dX6_term4_11 (by decide) (fun _ => ?_) (fun zz => absurd zz (by decide))
    refine aw_iload_n dX6_term4_28 rfl ?_
    refine aw_ireturn (ty := .int) dX6_term4_29 rfl rfl ?_
    exact hF _ (bn_0 e1) _ _ _ s1 m1
theorem l_X6_added4 {E : Ev} {d : Nat} {Z : Mz} {Q : Po} {B : Nat → Int32} {n t : Nat} (hd : 12 ≤ d) (hM : MZ Z) : ∀ (m k : Nat) (c : List Int32) (v : Vl) (x : Int32) (I : Mi) (L : Ml) (o2 o3 : Option Value), n ≤ k + m → k ≤ n → MS I L B n t k 4 → x = v (nmI I) → (∀ (k' : Nat) (c' : List Int32) (v' : Vl), lpR (SS B n) (terR (SS B n) (VV B n) (lvR (SS B n) (VV B n) 1)) jS m k c v = (k', some (c', v')) → ∀ (I9 : Mi) (L9 : Ml), SaQ I I9 → MS I9 L9 B n t k' 4 → Q (some (.int (v' (nmI I)))) I9 L9 Z) → (∀ k' : Nat, lpR (SS B n) (terR (SS B n) (VV B n) (lvR (SS B n) (VV B n) 1)) jS m k c v = (k', none) → ∀ (rv : Int32) (I9 : Mi) (L9 : Ml), SaQ I I9 → MB I9 (plF B n k') → Q (some (.int rv)) I9 L9 Z) → AW E yX6_added4 cX6_added4 4 (some .int) (rmOf d 0 0) Q 0 0 5 [some (.ref 48), some (.int x), o2, o3] [] I L Z := by
  intro m
  induction m with
  | zero =>
    intro k c v x I L o2 o3 hm hk hS hx hK hF
    have hz : SS B n k = 0 := by rw [show k = n by omega]; exact (SV_ok B n).1
    refine aw_aload_n dX6_added4_5 rfl rfl ?_
    refine aw_bipush (v := 43) dX6_added4_6 (by decide) ?_
    refine aw_V1 dX6_added4_8 cw_X6_211 ⟨_, _, rfl⟩ hM.1 (by omega) ⟨Nat.le_refl _, Nat.le_refl _⟩ (by decide) (c_X6_isSign_13 hM hS (fun zz => absurd zz (by omega)) (fun c8 => ?_))
    refine aw_if_ne (tgt := 23) dX6_added4_11 (by decide) (fun zz => absurd zz (by decide)) (fun _ => ?_)
    refine aw_aload_n dX6_added4_14 rfl rfl ?_
    refine aw_bipush (v := 45) dX6_added4_15 (by decide) ?_
    refine aw_V1 dX6_added4_17 cw_X6_211 ⟨_, _, rfl⟩ hM.1 (by omega) ⟨Nat.le_refl _, Nat.le_refl _⟩ (by decide) (c_X6_isSign_14 hM hS (fun zz => absurd zz (by omega)) (fun c17 => ?_))
    refine aw_if_eq (tgt := 66) dX6_added4_20 (by decide) (fun _ => ?_) (fun zz => absurd zz (by decide))
    refine aw_iload_n dX6_added4_66 rfl ?_
    refine aw_ireturn (ty := .int) dX6_added4_67 rfl rfl ?_
    rw [hx]
    exact hK _ _ _ rfl _ _ SaQ.rf hS
  | succ m ih =>
    intro k c v x I L o2 o3 hm hk hS hx hK hF
    have hJ := fun (J : Nat → Bool) (h : J (SS B n k) = true) => h
    refine aw_aload_n dX6_added4_5 rfl rfl ?_
    refine aw_bipush (v := 43) dX6_added4_6 (by decide) ?_
    refine aw_V1 dX6_added4_8 cw_X6_211 ⟨_, _, rfl⟩ hM.1 (by omega) ⟨Nat.le_refl _, Nat.le_refl _⟩ (by decide) (c_X6_isSign_13 hM hS (fun c8 => ?_) (fun c8 => ?_))
    · refine aw_if_ne (tgt := 23) dX6_added4_11 (by decide) (fun _ => ?_) (fun zz => absurd zz (by decide))
      refine aw_aload_n dX6_added4_23 rfl rfl ?_
      refine aw_gl dX6_added4_24 fw_X6_164 hM.1 ?_
      rw [sw13 hS c8]
      refine aw_ldc2 dX6_added4_27 kw_X6_228 ?_
      refine aw_lcmp dX6_added4_30 ?_
      refine aw_if_ne (tgt := 38) dX6_added4_31 (by decide) (fun zz => absurd (by decide) zz) (fun c31 => ?_)
      refine aw_iconst (v := 1) dX6_added4_34 (by decide) ?_
      refine aw_goto (tgt := 39) dX6_added4_35 (by decide) ?_
      refine aw_istore_n (ls' := [_, _, _, _]) dX6_added4_39 (by decide) rfl rfl ?_
      refine aw_aload_n dX6_added4_40 rfl rfl ?_
      
      refine aw_V0 dX6_added4_41 cw_X6_186 ⟨_, _, rfl⟩ hM.1 (by omega) ⟨Nat.le_refl _, Nat.le_refl _⟩ (by decide) (c_X6_next (by omega) hM hS (by omega) (by omega) (fun I2 L2 s2 m2 => ?_))
      refine aw_aload_n dX6_added4_44 rfl rfl ?_
      refine aw_V0 dX6_added4_45 cw_X6_247 ⟨_, _, rfl⟩ hM.1 (by omega) ⟨Nat.le_refl _, Nat.le_refl _⟩ (by decide) (c_X6_term4 (by omega) hM m2 (by have := lt_of_S (SV_ok B n).1 hk (by omega); omega) (fun k1 c1 v1 e1 I1 L1 s1 m1 => ?_) (fun k1 e1 rv1 I1 L1 s1 m1 => ?_))
      · refine aw_istore_n (ls' := [_, _, _, _]) dX6_added4_48 (by decide) rfl rfl ?_
        refine aw_iload_n dX6_added4_49 rfl ?_
        refine aw_if_eq (tgt := 59) dX6_added4_50 (by decide) (fun zz => absurd zz (by decide)) (fun _ => ?_)
        refine aw_iload_n dX6_added4_53 rfl ?_
        refine aw_iload_n dX6_added4_54 rfl ?_
        refine aw_iadd dX6_added4_55 ?_
        refine aw_goto (tgt := 62) dX6_added4_56 (by decide) ?_
        refine aw_istore_n (ls' := [_, _, _, _]) dX6_added4_62 (by decide) rfl rfl ?_
        refine aw_goto (tgt := 5) dX6_added4_63 (by decide) ?_
        have hkn := lt_of_S (SV_ok B n).1 hk (by omega)
        have ok1 := (all_ok (SV_ok B n) (lv_ok (SV_ok B n) 1)).2.1 (k + 1) (by omega)
        rw [e1] at ok1
        obtain ⟨b1, b2, b3⟩ := ok1
        simp only at b1 b2
        have b4 := (b3 _ _ rfl).1
        simp only at b4
        have e2 := lp_1 (n := m) (c := c) (v := v) (show jS (SS B n k) = true by rw [c8]; decide) e1
        refine ih k1 (c ++ c1 ++ [stI (SS B n k) 0]) (fun nm => joV (nI (SS B n k)) (v nm) (v1 nm)) _ I1 L1 _ _ (by omega) b2 m1 ?_ (fun k' c' v' e I9 L9 s9 m9 => ?_) (fun k' e rv I9 L9 s9 m9 => ?_)
        · rw [nmI_q s1, nmI_q s2, c8, jo13, hx]
        · rw [nmI_q s1, nmI_q s2]; exact hK k' c' v' (e2.trans e) I9 L9 ((s2.tr s1).tr s9) m9
        · exact hF k' (e2.trans e) rv I9 L9 ((s2.tr s1).tr s9) m9
      · refine aw_istore_n (ls' := [_, _, _, _]) dX6_added4_48 (by decide) rfl rfl ?_
        refine aw_iload_n dX6_added4_49 rfl ?_
        refine aw_if_eq (tgt := 59) dX6_added4_50 (by decide) (fun zz => absurd zz (by decide)) (fun _ => ?_)
        refine aw_iload_n dX6_added4_53 rfl ?_
        refine aw_iload_n dX6_added4_54 rfl ?_
        refine aw_iadd dX6_added4_55 ?_
        refine aw_goto (tgt := 62) dX6_added4_56 (by decide) ?_
        refine aw_istore_n (ls' := [_, _, _, _]) dX6_added4_62 (by decide) rfl rfl ?_
        refine aw_goto (tgt := 5) dX6_added4_63 (by decide) ?_
        refine aw_aload_n dX6_added4_5 rfl rfl ?_
        refine aw_bipush (v := 43) dX6_added4_6 (by decide) ?_
        refine aw_V1 dX6_added4_8 cw_X6_211 ⟨_, _, rfl⟩ hM.1 (by omega) ⟨Nat.le_refl _, Nat.le_refl _⟩ (by decide) (c_X6_isSignB hM m1 ?_)
        refine aw_if_ne (tgt := 23) dX6_added4_11 (by decide) (fun zz => absurd zz (by decide)) (fun _ => ?_)
        refine aw_aload_n dX6_added4_14 rfl rfl ?_
        refine aw_bipush (v := 45) dX6_added4_15 (by decide) ?_
        refine aw_V1 dX6_added4_17 cw_X6_211 ⟨_, _, rfl⟩ hM.1 (by omega) ⟨Nat.le_refl _, Nat.le_refl _⟩ (by decide) (c_X6_isSignB hM m1 ?_)
        refine aw_if_eq (tgt := 66) dX6_added4_20 (by decide) (fun _ => ?_) (fun zz => absurd zz (by decide))
        refine aw_iload_n dX6_added4_66 rfl ?_
        refine aw_ireturn (ty := .int) dX6_added4_67 rfl rfl ?_
        exact hF _ (lp_0 (show jS (SS B n k) = true by rw [c8]; decide) e1) _ _ _ (s2.tr s1) m1
    · refine aw_if_ne (tgt := 23) dX6_added4_11 (by decide) (fun zz => absurd zz (by decide)) (fun _ => ?_)
      refine aw_aload_n dX6_added4_14 rfl rfl ?_
      refine aw_bipush (v := 45) dX6_added4_15 (by decide) ?_
      refine aw_V1 dX6_added4_17 cw_X6_211 ⟨_, _, rfl⟩ hM.1 (by omega) ⟨Nat.le_refl _, Nat.le_refl _⟩ (by decide) (c_X6_isSign_14 hM hS (fun c17 => ?_) (fun c17 => ?_))
      · refine aw_if_eq (tgt := 66) dX6_added4_20 (by decide) (fun zz => absurd zz (by decide)) (fun _ => ?_)
        refine aw_aload_n dX6_added4_23 rfl rfl ?_
        refine aw_gl dX6_added4_24 fw_X6_164 hM.1 ?_
        rw [sw14 hS c17]
        refine aw_ldc2 dX6_added4_27 kw_X6_228 ?_
        refine aw_lcmp dX6_added4_30 ?_
        refine aw_if_ne (tgt := 38) dX6_added4_31 (by decide) (fun c31 => ?_) (fun zz => absurd zz (by decide))
        refine aw_iconst (v := 0) dX6_added4_38 (by decide) ?_
        refine aw_istore_n (ls' := [_, _, _, _]) dX6_added4_39 (by decide) rfl rfl ?_
        refine aw_aload_n dX6_added4_40 rfl rfl ?_
        
        refine aw_V0 dX6_added4_41 cw_X6_186 ⟨_, _, rfl⟩ hM.1 (by omega) ⟨Nat.le_refl _, Nat.le_refl _⟩ (by decide) (c_X6_next (by omega) hM hS (by omega) (by omega) (fun I2 L2 s2 m2 => ?_))
        refine aw_aload_n dX6_added4_44 rfl rfl ?_
        refine aw_V0 dX6_added4_45 cw_X6_247 ⟨_, _, rfl⟩ hM.1 (by omega) ⟨Nat.le_refl _, Nat.le_refl _⟩ (by decide) (c_X6_term4 (by omega) hM m2 (by have := lt_of_S (SV_ok B n).1 hk (by omega); omega) (fun k1 c1 v1 e1 I1 L1 s1 m1 => ?_) (fun k1 e1 rv1 I1 L1 s1 m1 => ?_))
        · refine aw_istore_n (ls' := [_, _, _, _]) dX6_added4_48 (by decide) rfl rfl ?_
          refine aw_iload_n dX6_added4_49 rfl ?_
          refine aw_if_eq (tgt := 59) dX6_added4_50 (by decide) (fun _ => ?_) (fun zz => absurd zz (by decide))
          refine aw_iload_n dX6_added4_59 rfl ?_
          refine aw_iload_n dX6_added4_60 rfl ?_
          refine aw_isub dX6_added4_61 ?_
          refine aw_istore_n (ls' := [_, _, _, _]) dX6_added4_62 (by decide) rfl rfl ?_
          refine aw_goto (tgt := 5) dX6_added4_63 (by decide) ?_
          have hkn := lt_of_S (SV_ok B n).1 hk (by omega)
          have ok1 := (all_ok (SV_ok B n) (lv_ok (SV_ok B n) 1)).2.1 (k + 1) (by omega)
          rw [e1] at ok1
          obtain ⟨b1, b2, b3⟩ := ok1
          simp only at b1 b2
          have b4 := (b3 _ _ rfl).1
          simp only at b4
          have e2 := lp_1 (n := m) (c := c) (v := v) (show jS (SS B n k) = true by rw [c17]; decide) e1
          refine ih k1 (c ++ c1 ++ [stI (SS B n k) 0]) (fun nm => joV (nI (SS B n k)) (v nm) (v1 nm)) _ I1 L1 _ _ (by omega) b2 m1 ?_ (fun k' c' v' e I9 L9 s9 m9 => ?_) (fun k' e rv I9 L9 s9 m9 => ?_)
          · rw [nmI_q s1, nmI_q s2, c17, jo14, hx]
          · rw [nmI_q s1, nmI_q s2]; exact hK k' c' v' (e2.trans e) I9 L9 ((s2.tr s1).tr s9) m9
          · exact hF k' (e2.trans e) rv I9 L9 ((s2.tr s1).tr s9) m9
        · refine aw_istore_n (ls' := [_, _, _, _]) dX6_added4_48 (by decide) rfl rfl ?_
          refine aw_iload_n dX6_added4_49 rfl ?_
          refine aw_if_eq (tgt := 59) dX6_added4_50 (by decide) (fun _ => ?_) (fun zz => absurd zz (by decide))
          refine aw_iload_n dX6_added4_59 rfl ?_
          refine aw_iload_n dX6_added4_60 rfl ?_
          refine aw_isub dX6_added4_61 ?_
          refine aw_istore_n (ls' := [_, _, _, _]) dX6_added4_62 (by decide) rfl rfl ?_
          refine aw_goto (tgt := 5) dX6_added4_63 (by decide) ?_
          refine aw_aload_n dX6_added4_5 rfl rfl ?_
          refine aw_bipush (v := 43) dX6_added4_6 (by decide) ?_
          refine aw_V1 dX6_added4_8 cw_X6_211 ⟨_, _, rfl⟩ hM.1 (by omega) ⟨Nat.le_refl _, Nat.le_refl _⟩ (by decide) (c_X6_isSignB hM m1 ?_)
          refine aw_if_ne (tgt := 23) dX6_added4_11 (by decide) (fun zz => absurd zz (by decide)) (fun _ => ?_)
          refine aw_aload_n dX6_added4_14 rfl rfl ?_
          refine aw_bipush (v := 45) dX6_added4_15 (by decide) ?_
          refine aw_V1 dX6_added4_17 cw_X6_211 ⟨_, _, rfl⟩ hM.1 (by omega) ⟨Nat.le_refl _, Nat.le_refl _⟩ (by decide) (c_X6_isSignB hM m1 ?_)
          refine aw_if_eq (tgt := 66) dX6_added4_20 (by decide) (fun _ => ?_) (fun zz => absurd zz (by decide))
          refine aw_iload_n dX6_added4_66 rfl ?_
          refine aw_ireturn (ty := .int) dX6_added4_67 rfl rfl ?_
          exact hF _ (lp_0 (show jS (SS B n k) = true by rw [c17]; decide) e1) _ _ _ (s2.tr s1) m1
      · refine aw_if_eq (tgt := 66) dX6_added4_20 (by decide) (fun _ => ?_) (fun zz => absurd zz (by decide))
        refine aw_iload_n dX6_added4_66 rfl ?_
        refine aw_ireturn (ty := .int) dX6_added4_67 rfl rfl ?_
        rw [hx]
        exact hK _ _ _ (lp_z (by simp only [jS, Bool.or_eq_true, beq_iff_eq]; omega)) _ _ SaQ.rf hS
theorem c_X6_added4 {E : Ev} {d : Nat} {I : Mi} {L : Ml} {Z : Mz} {Q : Po}  {B : Nat → Int32} {n t k : Nat} (hd : 12 ≤ d) (hM : MZ Z) (hS : MS I L B n t k 4) (hk : k ≤ n) (hK : ∀ (k' : Nat) (c' : List Int32) (v' : Vl), sumR (SS B n) (VV B n) (lvR (SS B n) (VV B n) 1) k = (k', some (c', v')) → ∀ (I9 : Mi) (L9 : Ml), SaQ I I9 → MS I9 L9 B n t k' 4 → Q (some (.int (v' (nmI I)))) I9 L9 Z) (hF : ∀ k' : Nat, sumR (SS B n) (VV B n) (lvR (SS B n) (VV B n) 1) k = (k', none) → ∀ (rv : Int32) (I9 : Mi) (L9 : Ml), SaQ I I9 → MB I9 (plF B n k') → Q (some (.int rv)) I9 L9 Z) : AC E yX6_added4 cX6_added4 4 (some .int) d 0 0 [.ref 48] I L Z Q := by
  refine ac_go (ls := [some (.ref 48), none, none, none]) (by decide +kernel) (Nat.le_of_ble_eq_true rfl) rfl ?_
  refine aw_aload_n dX6_added4_0 rfl rfl ?_
  refine aw_V0 dX6_added4_1 cw_X6_247 ⟨_, _, rfl⟩ hM.1 (by omega) ⟨Nat.le_refl _, Nat.le_refl _⟩ (by decide) (c_X6_term4 (by omega) hM hS hk (fun k1 c1 v1 e1 I1 L1 s1 m1 => ?_) (fun k1 e1 rv1 I1 L1 s1 m1 => ?_))
  · refine aw_istore_n (ls' := [_, _, _, _]) dX6_added4_4 (by decide) rfl rfl ?_
    have e2 : sumR (SS B n) (VV B n) (lvR (SS B n) (VV B n) 1) k = lpR (SS B n) (terR (SS B n) (VV B n) (lvR (SS B n) (VV B n) 1)) jS 160 k1 c1 v1 := bn_1 e1
    have ok1 := (all_ok (SV_ok B n) (lv_ok (SV_ok B n) 1)).2.1 k (by omega)
    rw [e1] at ok1
    obtain ⟨b1, b2, b3⟩ := ok1
    simp only at b1 b2
    have hn6 := hS.1.2.2.2.1
    refine l_X6_added4 hd hM 160 k1 c1 v1 _ I1 L1 _ _ (by omega) b2 m1 (by rw [nmI_q s1]) (fun k' c' v' e I9 L9 s9 m9 => ?_) (fun k' e rv I9 L9 s9 m9 => ?_)
    · rw [nmI_q s1]; exact hK k' c' v' (e2.trans e) I9 L9 (s1.tr s9) m9
    · exact hF k' (e2.trans e) rv I9 L9 (s1.tr s9) m9
  · refine aw_istore_n (ls' := [_, _, _, _]) dX6_added4_4 (by decide) rfl rfl ?_
    refine aw_aload_n dX6_added4_5 rfl rfl ?_
    refine aw_bipush (v := 43) dX6_added4_6 (by decide) ?_
    refine aw_V1 dX6_added4_8 cw_X6_211 ⟨_, _, rfl⟩ hM.1 (by omega) ⟨Nat.le_refl _, Nat.le_refl _⟩ (by decide) (c_X6_isSignB hM m1 ?_)
    refine aw_if_ne (tgt := 23) dX6_added4_11 (by decide) (fun zz => absurd zz (by decide)) (fun _ => ?_)
    refine aw_aload_n dX6_added4_14 rfl rfl ?_
    refine aw_bipush (v := 45) dX6_added4_15 (by decide) ?_
    refine aw_V1 dX6_added4_17 cw_X6_211 ⟨_, _, rfl⟩ hM.1 (by omega) ⟨Nat.le_refl _, Nat.le_refl _⟩ (by decide) (c_X6_isSignB hM m1 ?_)
    refine aw_if_eq (tgt := 66) dX6_added4_20 (by decide) (fun _ => ?_) (fun zz => absurd zz (by decide))
    refine aw_iload_n dX6_added4_66 rfl ?_
    refine aw_ireturn (ty := .int) dX6_added4_67 rfl rfl ?_
    exact hF _ (bn_0 e1) _ _ _ s1 m1
theorem c_X6_not4 {E : Ev} {d : Nat} {I : Mi} {L : Ml} {Z : Mz} {Q : Po}  {B : Nat → Int32} {n t k : Nat} (hd : 13 ≤ d) (hM : MZ Z) (hS : MS I L B n t k 4) (hk : k ≤ n) (hK : ∀ (k' : Nat) (c' : List Int32) (v' : Vl), notR (SS B n) (VV B n) (lvR (SS B n) (VV B n) 1) k = (k', some (c', v')) → ∀ (I9 : Mi) (L9 : Ml), SaQ I I9 → MS I9 L9 B n t k' 4 → Q (some (.int (v' (nmI I)))) I9 L9 Z) (hF : ∀ k' : Nat, notR (SS B n) (VV B n) (lvR (SS B n) (VV B n) 1) k = (k', none) → ∀ (rv : Int32) (I9 : Mi) (L9 : Ml), SaQ I I9 → MB I9 (plF B n k') → Q (some (.int rv)) I9 L9 Z) : AC E yX6_not4 cX6_not4 4 (some .int) d 0 0 [.ref 48] I L Z Q := by
  refine ac_go (ls := [some (.ref 48), none, none, none]) (by decide +kernel) (Nat.le_of_ble_eq_true rfl) rfl ?_
  refine aw_aload_n dX6_not4_0 rfl rfl ?_
  refine aw_bipush (v := 110) dX6_not4_1 (by decide) ?_
  refine aw_bipush (v := 111) dX6_not4_3 (by decide) ?_
  refine aw_bipush (v := 116) dX6_not4_5 (by decide) ?_
  refine aw_iconst (v := 0) dX6_not4_7 (by decide) ?_
  refine aw_iconst (v := 0) dX6_not4_8 (by decide) ?_
  refine aw_iconst (v := 0) dX6_not4_9 (by decide) ?_
  refine aw_iconst (v := 0) dX6_not4_10 (by decide) ?_
  refine aw_iconst (v := 0) dX6_not4_11 (by decide) ?_
  refine aw_V8 dX6_not4_12 cw_X6_189 ⟨_, _, rfl⟩ hM.1 (by omega) ⟨Nat.le_refl _, Nat.le_refl _⟩ (by decide) (c_X6_isWord_not (by omega) hM hS (fun c12 => ?_) (fun c12 => ?_))
  · refine aw_if_eq (tgt := 52) dX6_not4_15 (by decide) (fun zz => absurd zz (by decide)) (fun _ => ?_)
    refine aw_aload_n dX6_not4_18 rfl rfl ?_
    have h9 := (wd_S (by decide)).mp c12
    refine aw_V0 dX6_not4_19 cw_X6_214 ⟨_, _, rfl⟩ hM.1 (by omega) ⟨Nat.le_refl _, Nat.le_refl _⟩ (by decide) (c_X6_opens (by omega) hM hS (by decide) (by omega) (by omega) (fun I0 L0 s0 m0 => ?_))
    refine aw_if_ne (tgt := 27) dX6_not4_22 (by decide) (fun _ => ?_) (fun zz => absurd zz (by decide))
    refine aw_aload_n dX6_not4_27 rfl rfl ?_
    refine aw_V0 dX6_not4_28 cw_X6_235 ⟨_, _, rfl⟩ hM.1 (by omega) ⟨Nat.le_refl _, Nat.le_refl _⟩ (by decide) (c_X6_not5 (by omega) hM m0 (by have := lt_of_S (SV_ok B n).1 hk (by omega); omega) (fun k1 c1 v1 e1 I1 L1 s1 m1 => ?_) (fun k1 e1 rv1 I1 L1 s1 m1 => ?_))
    · refine aw_istore_n (ls' := [_, _, _, _]) dX6_not4_31 (by decide) rfl rfl ?_
      refine aw_aload_n dX6_not4_32 rfl rfl ?_
      refine aw_dup dX6_not4_33 rfl ?_
      refine aw_gi dX6_not4_34 fw_X6_180 hM.1 ?_
      refine aw_iconst (v := 1) dX6_not4_37 (by decide) ?_
      refine aw_isub dX6_not4_38 ?_
      rw [m1.2.2.2, nI_pred]
      refine aw_pi dX6_not4_39 fw_X6_180 (ww_X6_180 _) hM.1 rfl ?_
      refine aw_iload_n dX6_not4_42 rfl ?_
      refine aw_if_ne (tgt := 50) dX6_not4_43 (by decide) (fun c43 => ?_) (fun c43 => ?_)
      · refine aw_iconst (v := 0) dX6_not4_50 (by decide) ?_
        refine aw_ireturn (ty := .int) dX6_not4_51 rfl rfl ?_
        have hq := hK _ _ _ (not_1 h9 e1) _ _ (s0.tr s1).op (MS.op m1)
        rw [nmI_q s0] at c43
        first | (rw [if_pos c43] at hq; exact hq) | (rw [if_neg c43] at hq; exact hq)
      · refine aw_iconst (v := 1) dX6_not4_46 (by decide) ?_
        refine aw_goto (tgt := 51) dX6_not4_47 (by decide) ?_
        refine aw_ireturn (ty := .int) dX6_not4_51 rfl rfl ?_
        have hq := hK _ _ _ (not_1 h9 e1) _ _ (s0.tr s1).op (MS.op m1)
        rw [nmI_q s0] at c43
        first | (rw [if_pos c43] at hq; exact hq) | (rw [if_neg c43] at hq; exact hq)
    · refine aw_istore_n (ls' := [_, _, _, _]) dX6_not4_31 (by decide) rfl rfl ?_
      refine aw_aload_n dX6_not4_32 rfl rfl ?_
      refine aw_dup dX6_not4_33 rfl ?_
      refine aw_gi dX6_not4_34 fw_X6_180 hM.1 ?_
      refine aw_iconst (v := 1) dX6_not4_37 (by decide) ?_
      refine aw_isub dX6_not4_38 ?_
      refine aw_pi dX6_not4_39 fw_X6_180 (ww_X6_180 _) hM.1 rfl ?_
      refine aw_iload_n dX6_not4_42 rfl ?_
      refine aw_if_ne (tgt := 50) dX6_not4_43 (by decide) (fun c43 => ?_) (fun c43 => ?_)
      · refine aw_iconst (v := 0) dX6_not4_50 (by decide) ?_
        refine aw_ireturn (ty := .int) dX6_not4_51 rfl rfl ?_
        exact hF _ (not_0 h9 e1) _ _ _ (s0.tr s1).op m1.op
      · refine aw_iconst (v := 1) dX6_not4_46 (by decide) ?_
        refine aw_goto (tgt := 51) dX6_not4_47 (by decide) ?_
        refine aw_ireturn (ty := .int) dX6_not4_51 rfl rfl ?_
        exact hF _ (not_0 h9 e1) _ _ _ (s0.tr s1).op m1.op
  · refine aw_if_eq (tgt := 52) dX6_not4_15 (by decide) (fun _ => ?_) (fun zz => absurd zz (by decide))
    refine aw_aload_n dX6_not4_52 rfl rfl ?_
    have h9 : ¬ SS B n k = 9 := fun w => c12 ((wd_S (by decide)).mpr w)
    refine aw_V0 dX6_not4_53 cw_X6_250 ⟨_, _, rfl⟩ hM.1 (by omega) ⟨Nat.le_refl _, Nat.le_refl _⟩ (by decide) (c_X6_added4 (by omega) hM hS hk (fun k1 c1 v1 e1 I1 L1 s1 m1 => ?_) (fun k1 e1 rv1 I1 L1 s1 m1 => ?_))
    · refine aw_istore_n (ls' := [_, _, _, _]) dX6_not4_56 (by decide) rfl rfl ?_
      have ok1 := (all_ok (SV_ok B n) (lv_ok (SV_ok B n) 1)).2.2.1 k (by omega)
      rw [e1] at ok1
      obtain ⟨b1, b2, b3⟩ := ok1
      simp only at b1 b2
      refine aw_aload_n dX6_not4_57 rfl rfl ?_
      refine aw_bipush (v := 60) dX6_not4_58 (by decide) ?_
      refine aw_V1 dX6_not4_60 cw_X6_211 ⟨_, _, rfl⟩ hM.1 (by omega) ⟨Nat.le_refl _, Nat.le_refl _⟩ (by decide) (c_X6_isSign_16 hM m1 (fun c60 => ?_) (fun c60 => ?_))
      · refine aw_if_ne (tgt := 77) dX6_not4_63 (by decide) (fun _ => ?_) (fun zz => absurd zz (by decide))
        refine aw_aload_n dX6_not4_77 rfl rfl ?_
        refine aw_gl dX6_not4_78 fw_X6_164 hM.1 ?_
        rw [sw16 m1 c60]
        refine aw_ldc2 dX6_not4_81 kw_X6_233 ?_
        refine aw_lcmp dX6_not4_84 ?_
        refine aw_if_ne (tgt := 92) dX6_not4_85 (by decide) (fun zz => absurd (by decide) zz) (fun c85 => ?_)
        refine aw_iconst (v := 1) dX6_not4_88 (by decide) ?_
        refine aw_goto (tgt := 93) dX6_not4_89 (by decide) ?_
        refine aw_istore_n (ls' := [_, _, _, _]) dX6_not4_93 (by decide) rfl rfl ?_
        refine aw_aload_n dX6_not4_94 rfl rfl ?_
        
        refine aw_V0 dX6_not4_95 cw_X6_186 ⟨_, _, rfl⟩ hM.1 (by omega) ⟨Nat.le_refl _, Nat.le_refl _⟩ (by decide) (c_X6_next (by omega) hM m1 (by omega) (by omega) (fun I2 L2 s2 m2 => ?_))
        refine aw_aload_n dX6_not4_98 rfl rfl ?_
        have d16 := c60
        have hk3 := lt_of_S (SV_ok B n).1 b2 (by omega)
        refine aw_V0 dX6_not4_99 cw_X6_250 ⟨_, _, rfl⟩ hM.1 (by omega) ⟨Nat.le_refl _, Nat.le_refl _⟩ (by decide) (c_X6_added4 (by omega) hM m2 (by omega) (fun k3 c3 v3 e3 I3 L3 s3 m3 => ?_) (fun k3 e3 rv3 I3 L3 s3 m3 => ?_))
        · refine aw_istore_n (ls' := [_, _, _, _]) dX6_not4_102 (by decide) rfl rfl ?_
          refine aw_iload_n dX6_not4_103 rfl ?_
          refine aw_if_eq (tgt := 115) dX6_not4_104 (by decide) (fun zz => absurd zz (by decide)) (fun _ => ?_)
          refine aw_iload_n dX6_not4_107 rfl ?_
          refine aw_iload_n dX6_not4_108 rfl ?_
          refine aw_icmp_ge (tgt := 124) dX6_not4_109 (by decide) (fun c109 => ?_) (fun c109 => ?_)
          · refine aw_iconst (v := 0) dX6_not4_124 (by decide) ?_
            refine aw_ireturn (ty := .int) dX6_not4_125 rfl rfl ?_
            have hq := hK _ _ _ ((not_e h9).trans ((bn_1 e1).trans ((lp_1 (show jN (SS B n k1) = true by rw [d16]; decide) e3).trans rfl))) _ _ ((s1.tr s2).tr s3) m3
            simp only [d16, jo16] at hq
            rw [nmI_q s2, nmI_q s1] at c109
            first | (rw [if_pos c109] at hq; exact hq) | (rw [if_neg c109] at hq; exact hq)
          · refine aw_goto (tgt := 120) dX6_not4_112 (by decide) ?_
            refine aw_iconst (v := 1) dX6_not4_120 (by decide) ?_
            refine aw_goto (tgt := 125) dX6_not4_121 (by decide) ?_
            refine aw_ireturn (ty := .int) dX6_not4_125 rfl rfl ?_
            have hq := hK _ _ _ ((not_e h9).trans ((bn_1 e1).trans ((lp_1 (show jN (SS B n k1) = true by rw [d16]; decide) e3).trans rfl))) _ _ ((s1.tr s2).tr s3) m3
            simp only [d16, jo16] at hq
            rw [nmI_q s2, nmI_q s1] at c109
            first | (rw [if_pos c109] at hq; exact hq) | (rw [if_neg c109] at hq; exact hq)
        · refine aw_istore_n (ls' := [_, _, _, _]) dX6_not4_102 (by decide) rfl rfl ?_
          refine aw_iload_n dX6_not4_103 rfl ?_
          refine aw_if_eq (tgt := 115) dX6_not4_104 (by decide) (fun zz => absurd zz (by decide)) (fun _ => ?_)
          refine aw_iload_n dX6_not4_107 rfl ?_
          refine aw_iload_n dX6_not4_108 rfl ?_
          refine aw_icmp_ge (tgt := 124) dX6_not4_109 (by decide) (fun c109 => ?_) (fun c109 => ?_)
          · refine aw_iconst (v := 0) dX6_not4_124 (by decide) ?_
            refine aw_ireturn (ty := .int) dX6_not4_125 rfl rfl ?_
            exact hF _ ((not_e h9).trans ((bn_1 e1).trans (lp_0 (show jN (SS B n k1) = true by rw [d16]; decide) e3))) _ _ _ ((s1.tr s2).tr s3) m3
          · refine aw_goto (tgt := 120) dX6_not4_112 (by decide) ?_
            refine aw_iconst (v := 1) dX6_not4_120 (by decide) ?_
            refine aw_goto (tgt := 125) dX6_not4_121 (by decide) ?_
            refine aw_ireturn (ty := .int) dX6_not4_125 rfl rfl ?_
            exact hF _ ((not_e h9).trans ((bn_1 e1).trans (lp_0 (show jN (SS B n k1) = true by rw [d16]; decide) e3))) _ _ _ ((s1.tr s2).tr s3) m3
      · refine aw_if_ne (tgt := 77) dX6_not4_63 (by decide) (fun zz => absurd zz (by decide)) (fun _ => ?_)
        refine aw_aload_n dX6_not4_66 rfl rfl ?_
        refine aw_bipush (v := 61) dX6_not4_67 (by decide) ?_
        refine aw_V1 dX6_not4_69 cw_X6_211 ⟨_, _, rfl⟩ hM.1 (by omega) ⟨Nat.le_refl _, Nat.le_refl _⟩ (by decide) (c_X6_isSign_17 hM m1 (fun c69 => ?_) (fun c69 => ?_))
        · refine aw_if_ne (tgt := 77) dX6_not4_72 (by decide) (fun _ => ?_) (fun zz => absurd zz (by decide))
          refine aw_aload_n dX6_not4_77 rfl rfl ?_
          refine aw_gl dX6_not4_78 fw_X6_164 hM.1 ?_
          rw [sw17 m1 c69]
          refine aw_ldc2 dX6_not4_81 kw_X6_233 ?_
          refine aw_lcmp dX6_not4_84 ?_
          refine aw_if_ne (tgt := 92) dX6_not4_85 (by decide) (fun c85 => ?_) (fun zz => absurd zz (by decide))
          refine aw_iconst (v := 0) dX6_not4_92 (by decide) ?_
          refine aw_istore_n (ls' := [_, _, _, _]) dX6_not4_93 (by decide) rfl rfl ?_
          refine aw_aload_n dX6_not4_94 rfl rfl ?_
          
          refine aw_V0 dX6_not4_95 cw_X6_186 ⟨_, _, rfl⟩ hM.1 (by omega) ⟨Nat.le_refl _, Nat.le_refl _⟩ (by decide) (c_X6_next (by omega) hM m1 (by omega) (by omega) (fun I2 L2 s2 m2 => ?_))
          refine aw_aload_n dX6_not4_98 rfl rfl ?_
          have d17 := c69
          have hk3 := lt_of_S (SV_ok B n).1 b2 (by omega)
          refine aw_V0 dX6_not4_99 cw_X6_250 ⟨_, _, rfl⟩ hM.1 (by omega) ⟨Nat.le_refl _, Nat.le_refl _⟩ (by decide) (c_X6_added4 (by omega) hM m2 (by omega) (fun k3 c3 v3 e3 I3 L3 s3 m3 => ?_) (fun k3 e3 rv3 I3 L3 s3 m3 => ?_))
          · refine aw_istore_n (ls' := [_, _, _, _]) dX6_not4_102 (by decide) rfl rfl ?_
            refine aw_iload_n dX6_not4_103 rfl ?_
            refine aw_if_eq (tgt := 115) dX6_not4_104 (by decide) (fun _ => ?_) (fun zz => absurd zz (by decide))
            refine aw_iload_n dX6_not4_115 rfl ?_
            refine aw_iload_n dX6_not4_116 rfl ?_
            refine aw_icmp_ne (tgt := 124) dX6_not4_117 (by decide) (fun c117 => ?_) (fun c117 => ?_)
            · refine aw_iconst (v := 0) dX6_not4_124 (by decide) ?_
              refine aw_ireturn (ty := .int) dX6_not4_125 rfl rfl ?_
              have hq := hK _ _ _ ((not_e h9).trans ((bn_1 e1).trans ((lp_1 (show jN (SS B n k1) = true by rw [d17]; decide) e3).trans rfl))) _ _ ((s1.tr s2).tr s3) m3
              simp only [d17, jo17] at hq
              rw [nmI_q s2, nmI_q s1] at c117
              first | (rw [if_pos c117] at hq; exact hq) | (rw [if_neg c117] at hq; exact hq)
            · refine aw_iconst (v := 1) dX6_not4_120 (by decide) ?_
              refine aw_goto (tgt := 125) dX6_not4_121 (by decide) ?_
              refine aw_ireturn (ty := .int) dX6_not4_125 rfl rfl ?_
              have hq := hK _ _ _ ((not_e h9).trans ((bn_1 e1).trans ((lp_1 (show jN (SS B n k1) = true by rw [d17]; decide) e3).trans rfl))) _ _ ((s1.tr s2).tr s3) m3
              simp only [d17, jo17] at hq
              rw [nmI_q s2, nmI_q s1] at c117
              first | (rw [if_pos c117] at hq; exact hq) | (rw [if_neg c117] at hq; exact hq)
          · refine aw_istore_n (ls' := [_, _, _, _]) dX6_not4_102 (by decide) rfl rfl ?_
            refine aw_iload_n dX6_not4_103 rfl ?_
            refine aw_if_eq (tgt := 115) dX6_not4_104 (by decide) (fun _ => ?_) (fun zz => absurd zz (by decide))
            refine aw_iload_n dX6_not4_115 rfl ?_
            refine aw_iload_n dX6_not4_116 rfl ?_
            refine aw_icmp_ne (tgt := 124) dX6_not4_117 (by decide) (fun c117 => ?_) (fun c117 => ?_)
            · refine aw_iconst (v := 0) dX6_not4_124 (by decide) ?_
              refine aw_ireturn (ty := .int) dX6_not4_125 rfl rfl ?_
              exact hF _ ((not_e h9).trans ((bn_1 e1).trans (lp_0 (show jN (SS B n k1) = true by rw [d17]; decide) e3))) _ _ _ ((s1.tr s2).tr s3) m3
            · refine aw_iconst (v := 1) dX6_not4_120 (by decide) ?_
              refine aw_goto (tgt := 125) dX6_not4_121 (by decide) ?_
              refine aw_ireturn (ty := .int) dX6_not4_125 rfl rfl ?_
              exact hF _ ((not_e h9).trans ((bn_1 e1).trans (lp_0 (show jN (SS B n k1) = true by rw [d17]; decide) e3))) _ _ _ ((s1.tr s2).tr s3) m3
        · refine aw_if_ne (tgt := 77) dX6_not4_72 (by decide) (fun zz => absurd zz (by decide)) (fun _ => ?_)
          refine aw_iload_n dX6_not4_75 rfl ?_
          refine aw_ireturn (ty := .int) dX6_not4_76 rfl rfl ?_
          exact hK _ _ _ ((not_e h9).trans ((bn_1 e1).trans (lp_z (by simp only [jN, Bool.or_eq_true, beq_iff_eq]; omega)))) _ _ s1 m1
    · refine aw_istore_n (ls' := [_, _, _, _]) dX6_not4_56 (by decide) rfl rfl ?_
      refine aw_aload_n dX6_not4_57 rfl rfl ?_
      refine aw_bipush (v := 60) dX6_not4_58 (by decide) ?_
      refine aw_V1 dX6_not4_60 cw_X6_211 ⟨_, _, rfl⟩ hM.1 (by omega) ⟨Nat.le_refl _, Nat.le_refl _⟩ (by decide) (c_X6_isSignB hM m1 ?_)
      refine aw_if_ne (tgt := 77) dX6_not4_63 (by decide) (fun zz => absurd zz (by decide)) (fun _ => ?_)
      refine aw_aload_n dX6_not4_66 rfl rfl ?_
      refine aw_bipush (v := 61) dX6_not4_67 (by decide) ?_
      refine aw_V1 dX6_not4_69 cw_X6_211 ⟨_, _, rfl⟩ hM.1 (by omega) ⟨Nat.le_refl _, Nat.le_refl _⟩ (by decide) (c_X6_isSignB hM m1 ?_)
      refine aw_if_ne (tgt := 77) dX6_not4_72 (by decide) (fun zz => absurd zz (by decide)) (fun _ => ?_)
      refine aw_iload_n dX6_not4_75 rfl ?_
      refine aw_ireturn (ty := .int) dX6_not4_76 rfl rfl ?_
      exact hF _ ((not_e h9).trans (bn_0 e1)) _ _ _ s1 m1
theorem l_X6_both4 {E : Ev} {d : Nat} {Z : Mz} {Q : Po} {B : Nat → Int32} {n t : Nat} (hd : 14 ≤ d) (hM : MZ Z) : ∀ (m k : Nat) (c : List Int32) (v : Vl) (x : Int32) (I : Mi) (L : Ml) (o2 : Option Value), n ≤ k + m → k ≤ n → MS I L B n t k 4 → x = v (nmI I) → (∀ (k' : Nat) (c' : List Int32) (v' : Vl), lpR (SS B n) (notR (SS B n) (VV B n) (lvR (SS B n) (VV B n) 1)) jA m k c v = (k', some (c', v')) → ∀ (I9 : Mi) (L9 : Ml), SaQ I I9 → MS I9 L9 B n t k' 4 → Q (some (.int (v' (nmI I)))) I9 L9 Z) → (∀ k' : Nat, lpR (SS B n) (notR (SS B n) (VV B n) (lvR (SS B n) (VV B n) 1)) jA m k c v = (k', none) → ∀ (rv : Int32) (I9 : Mi) (L9 : Ml), SaQ I I9 → MB I9 (plF B n k') → Q (some (.int rv)) I9 L9 Z) → AW E yX6_both4 cX6_both4 3 (some .int) (rmOf d 0 0) Q 0 0 5 [some (.ref 48), some (.int x), o2] [] I L Z := by
  intro m
  induction m with
  | zero =>
    intro k c v x I L o2 hm hk hS hx hK hF
    have hz : SS B n k = 0 := by rw [show k = n by omega]; exact (SV_ok B n).1
    refine aw_aload_n dX6_both4_5 rfl rfl ?_
    refine aw_bipush (v := 97) dX6_both4_6 (by decide) ?_
    refine aw_bipush (v := 110) dX6_both4_8 (by decide) ?_
    refine aw_bipush (v := 100) dX6_both4_10 (by decide) ?_
    refine aw_iconst (v := 0) dX6_both4_12 (by decide) ?_
    refine aw_iconst (v := 0) dX6_both4_13 (by decide) ?_
    refine aw_iconst (v := 0) dX6_both4_14 (by decide) ?_
    refine aw_iconst (v := 0) dX6_both4_15 (by decide) ?_
    refine aw_iconst (v := 0) dX6_both4_16 (by decide) ?_
    refine aw_V8 dX6_both4_17 cw_X6_189 ⟨_, _, rfl⟩ hM.1 (by omega) ⟨Nat.le_refl _, Nat.le_refl _⟩ (by decide) (c_X6_isWord_and (by omega) hM hS (fun zz => absurd zz (fun w => absurd ((wd_S (by decide)).mp w) (by omega))) (fun c17 => ?_))
    refine aw_if_eq (tgt := 49) dX6_both4_20 (by decide) (fun _ => ?_) (fun zz => absurd zz (by decide))
    refine aw_iload_n dX6_both4_49 rfl ?_
    refine aw_ireturn (ty := .int) dX6_both4_50 rfl rfl ?_
    rw [hx]
    exact hK _ _ _ rfl _ _ SaQ.rf hS
  | succ m ih =>
    intro k c v x I L o2 hm hk hS hx hK hF
    have hJ := fun (J : Nat → Bool) (h : J (SS B n k) = true) => h
    refine aw_aload_n dX6_both4_5 rfl rfl ?_
    refine aw_bipush (v := 97) dX6_both4_6 (by decide) ?_
    refine aw_bipush (v := 110) dX6_both4_8 (by decide) ?_
    refine aw_bipush (v := 100) dX6_both4_10 (by decide) ?_
    refine aw_iconst (v := 0) dX6_both4_12 (by decide) ?_
    refine aw_iconst (v := 0) dX6_both4_13 (by decide) ?_
    refine aw_iconst (v := 0) dX6_both4_14 (by decide) ?_
    refine aw_iconst (v := 0) dX6_both4_15 (by decide) ?_
    refine aw_iconst (v := 0) dX6_both4_16 (by decide) ?_
    refine aw_V8 dX6_both4_17 cw_X6_189 ⟨_, _, rfl⟩ hM.1 (by omega) ⟨Nat.le_refl _, Nat.le_refl _⟩ (by decide) (c_X6_isWord_and (by omega) hM hS (fun c17 => ?_) (fun c17 => ?_))
    · refine aw_if_eq (tgt := 49) dX6_both4_20 (by decide) (fun zz => absurd zz (by decide)) (fun _ => ?_)
      refine aw_aload_n dX6_both4_23 rfl rfl ?_
      have hs8 : SS B n k = 8 := (wd_S (by decide)).mp c17
      refine aw_V0 dX6_both4_24 cw_X6_186 ⟨_, _, rfl⟩ hM.1 (by omega) ⟨Nat.le_refl _, Nat.le_refl _⟩ (by decide) (c_X6_next (by omega) hM hS (by omega) (by omega) (fun I2 L2 s2 m2 => ?_))
      refine aw_aload_n dX6_both4_27 rfl rfl ?_
      refine aw_V0 dX6_both4_28 cw_X6_253 ⟨_, _, rfl⟩ hM.1 (by omega) ⟨Nat.le_refl _, Nat.le_refl _⟩ (by decide) (c_X6_not4 (by omega) hM m2 (by have := lt_of_S (SV_ok B n).1 hk (by omega); omega) (fun k1 c1 v1 e1 I1 L1 s1 m1 => ?_) (fun k1 e1 rv1 I1 L1 s1 m1 => ?_))
      · refine aw_istore_n (ls' := [_, _, _]) dX6_both4_31 (by decide) rfl rfl ?_
        refine aw_iload_n dX6_both4_32 rfl ?_
        refine aw_if_eq (tgt := 44) dX6_both4_33 (by decide) (fun c33 => ?_) (fun c33 => ?_)
        · refine aw_iconst (v := 0) dX6_both4_44 (by decide) ?_
          refine aw_istore_n (ls' := [_, _, _]) dX6_both4_45 (by decide) rfl rfl ?_
          refine aw_goto (tgt := 5) dX6_both4_46 (by decide) ?_
          have hkn := lt_of_S (SV_ok B n).1 hk (by omega)
          have ok1 := (all_ok (SV_ok B n) (lv_ok (SV_ok B n) 1)).2.2.2.1 (k + 1) (by omega)
          rw [e1] at ok1
          obtain ⟨b1, b2, b3⟩ := ok1
          simp only at b1 b2
          have b4 := (b3 _ _ rfl).1
          simp only at b4
          have e2 := lp_1 (n := m) (c := c) (v := v) (show jA (SS B n k) = true by rw [hs8]; decide) e1
          refine ih k1 (c ++ c1 ++ [stI (SS B n k) 0]) (fun nm => joV (nI (SS B n k)) (v nm) (v1 nm)) _ I1 L1 _ (by omega) b2 m1 ?_ (fun k' c' v' e I9 L9 s9 m9 => ?_) (fun k' e rv I9 L9 s9 m9 => ?_)
          · rw [nmI_q s1, nmI_q s2, hs8, jo8, ← hx]
            simp only [c33, not_true_eq_false, not_false_eq_true, and_true, true_and, and_false, false_and, or_true, true_or, or_false, false_or, ite_true, ite_false, if_true, if_false, reduceIte, and_self, or_self]
          · rw [nmI_q s1, nmI_q s2]; exact hK k' c' v' (e2.trans e) I9 L9 ((s2.tr s1).tr s9) m9
          · exact hF k' (e2.trans e) rv I9 L9 ((s2.tr s1).tr s9) m9
        · refine aw_iload_n dX6_both4_36 rfl ?_
          refine aw_if_eq (tgt := 44) dX6_both4_37 (by decide) (fun c37 => ?_) (fun c37 => ?_)
          · refine aw_iconst (v := 0) dX6_both4_44 (by decide) ?_
            refine aw_istore_n (ls' := [_, _, _]) dX6_both4_45 (by decide) rfl rfl ?_
            refine aw_goto (tgt := 5) dX6_both4_46 (by decide) ?_
            have hkn := lt_of_S (SV_ok B n).1 hk (by omega)
            have ok1 := (all_ok (SV_ok B n) (lv_ok (SV_ok B n) 1)).2.2.2.1 (k + 1) (by omega)
            rw [e1] at ok1
            obtain ⟨b1, b2, b3⟩ := ok1
            simp only at b1 b2
            have b4 := (b3 _ _ rfl).1
            simp only at b4
            have e2 := lp_1 (n := m) (c := c) (v := v) (show jA (SS B n k) = true by rw [hs8]; decide) e1
            refine ih k1 (c ++ c1 ++ [stI (SS B n k) 0]) (fun nm => joV (nI (SS B n k)) (v nm) (v1 nm)) _ I1 L1 _ (by omega) b2 m1 ?_ (fun k' c' v' e I9 L9 s9 m9 => ?_) (fun k' e rv I9 L9 s9 m9 => ?_)
            · rw [nmI_q s1, nmI_q s2, hs8, jo8, ← hx]
              rw [nmI_q s2] at c37
              simp only [c33, c37, not_true_eq_false, not_false_eq_true, and_true, true_and, and_false, false_and, or_true, true_or, or_false, false_or, ite_true, ite_false, if_true, if_false, reduceIte, and_self, or_self]
            · rw [nmI_q s1, nmI_q s2]; exact hK k' c' v' (e2.trans e) I9 L9 ((s2.tr s1).tr s9) m9
            · exact hF k' (e2.trans e) rv I9 L9 ((s2.tr s1).tr s9) m9
          · refine aw_iconst (v := 1) dX6_both4_40 (by decide) ?_
            refine aw_goto (tgt := 45) dX6_both4_41 (by decide) ?_
            refine aw_istore_n (ls' := [_, _, _]) dX6_both4_45 (by decide) rfl rfl ?_
            refine aw_goto (tgt := 5) dX6_both4_46 (by decide) ?_
            have hkn := lt_of_S (SV_ok B n).1 hk (by omega)
            have ok1 := (all_ok (SV_ok B n) (lv_ok (SV_ok B n) 1)).2.2.2.1 (k + 1) (by omega)
            rw [e1] at ok1
            obtain ⟨b1, b2, b3⟩ := ok1
            simp only at b1 b2
            have b4 := (b3 _ _ rfl).1
            simp only at b4
            have e2 := lp_1 (n := m) (c := c) (v := v) (show jA (SS B n k) = true by rw [hs8]; decide) e1
            refine ih k1 (c ++ c1 ++ [stI (SS B n k) 0]) (fun nm => joV (nI (SS B n k)) (v nm) (v1 nm)) _ I1 L1 _ (by omega) b2 m1 ?_ (fun k' c' v' e I9 L9 s9 m9 => ?_) (fun k' e rv I9 L9 s9 m9 => ?_)
            · rw [nmI_q s1, nmI_q s2, hs8, jo8, ← hx]
              rw [nmI_q s2] at c37
              simp only [c33, c37, not_true_eq_false, not_false_eq_true, and_true, true_and, and_false, false_and, or_true, true_or, or_false, false_or, ite_true, ite_false, if_true, if_false, reduceIte, and_self, or_self]
            · rw [nmI_q s1, nmI_q s2]; exact hK k' c' v' (e2.trans e) I9 L9 ((s2.tr s1).tr s9) m9
            · exact hF k' (e2.trans e) rv I9 L9 ((s2.tr s1).tr s9) m9
      · refine aw_istore_n (ls' := [_, _, _]) dX6_both4_31 (by decide) rfl rfl ?_
        refine aw_iload_n dX6_both4_32 rfl ?_
        refine aw_if_eq (tgt := 44) dX6_both4_33 (by decide) (fun c33 => ?_) (fun c33 => ?_)
        · refine aw_iconst (v := 0) dX6_both4_44 (by decide) ?_
          refine aw_istore_n (ls' := [_, _, _]) dX6_both4_45 (by decide) rfl rfl ?_
          refine aw_goto (tgt := 5) dX6_both4_46 (by decide) ?_
          refine aw_aload_n dX6_both4_5 rfl rfl ?_
          refine aw_bipush (v := 97) dX6_both4_6 (by decide) ?_
          refine aw_bipush (v := 110) dX6_both4_8 (by decide) ?_
          refine aw_bipush (v := 100) dX6_both4_10 (by decide) ?_
          refine aw_iconst (v := 0) dX6_both4_12 (by decide) ?_
          refine aw_iconst (v := 0) dX6_both4_13 (by decide) ?_
          refine aw_iconst (v := 0) dX6_both4_14 (by decide) ?_
          refine aw_iconst (v := 0) dX6_both4_15 (by decide) ?_
          refine aw_iconst (v := 0) dX6_both4_16 (by decide) ?_
          refine aw_V8 dX6_both4_17 cw_X6_189 ⟨_, _, rfl⟩ hM.1 (by omega) ⟨Nat.le_refl _, Nat.le_refl _⟩ (by decide) (c_X6_isWordB (by omega) hM m1 ?_)
          refine aw_if_eq (tgt := 49) dX6_both4_20 (by decide) (fun _ => ?_) (fun zz => absurd zz (by decide))
          refine aw_iload_n dX6_both4_49 rfl ?_
          refine aw_ireturn (ty := .int) dX6_both4_50 rfl rfl ?_
          exact hF _ (lp_0 (show jA (SS B n k) = true by rw [hs8]; decide) e1) _ _ _ (s2.tr s1) m1
        · refine aw_iload_n dX6_both4_36 rfl ?_
          refine aw_if_eq (tgt := 44) dX6_both4_37 (by decide) (fun c37 => ?_) (fun c37 => ?_)
          · refine aw_iconst (v := 0) dX6_both4_44 (by decide) ?_
            refine aw_istore_n (ls' := [_, _, _]) dX6_both4_45 (by decide) rfl rfl ?_
            refine aw_goto (tgt := 5) dX6_both4_46 (by decide) ?_
            refine aw_aload_n dX6_both4_5 rfl rfl ?_
            refine aw_bipush (v := 97) dX6_both4_6 (by decide) ?_
            refine aw_bipush (v := 110) dX6_both4_8 (by decide) ?_
            refine aw_bipush (v := 100) dX6_both4_10 (by decide) ?_
            refine aw_iconst (v := 0) dX6_both4_12 (by decide) ?_
            refine aw_iconst (v := 0) dX6_both4_13 (by decide) ?_
            refine aw_iconst (v := 0) dX6_both4_14 (by decide) ?_
            refine aw_iconst (v := 0) dX6_both4_15 (by decide) ?_
            refine aw_iconst (v := 0) dX6_both4_16 (by decide) ?_
            refine aw_V8 dX6_both4_17 cw_X6_189 ⟨_, _, rfl⟩ hM.1 (by omega) ⟨Nat.le_refl _, Nat.le_refl _⟩ (by decide) (c_X6_isWordB (by omega) hM m1 ?_)
            refine aw_if_eq (tgt := 49) dX6_both4_20 (by decide) (fun _ => ?_) (fun zz => absurd zz (by decide))
            refine aw_iload_n dX6_both4_49 rfl ?_
            refine aw_ireturn (ty := .int) dX6_both4_50 rfl rfl ?_
            exact hF _ (lp_0 (show jA (SS B n k) = true by rw [hs8]; decide) e1) _ _ _ (s2.tr s1) m1
          · refine aw_iconst (v := 1) dX6_both4_40 (by decide) ?_
            refine aw_goto (tgt := 45) dX6_both4_41 (by decide) ?_
            refine aw_istore_n (ls' := [_, _, _]) dX6_both4_45 (by decide) rfl rfl ?_
            refine aw_goto (tgt := 5) dX6_both4_46 (by decide) ?_
            refine aw_aload_n dX6_both4_5 rfl rfl ?_
            refine aw_bipush (v := 97) dX6_both4_6 (by decide) ?_
            refine aw_bipush (v := 110) dX6_both4_8 (by decide) ?_
            refine aw_bipush (v := 100) dX6_both4_10 (by decide) ?_
            refine aw_iconst (v := 0) dX6_both4_12 (by decide) ?_
            refine aw_iconst (v := 0) dX6_both4_13 (by decide) ?_
            refine aw_iconst (v := 0) dX6_both4_14 (by decide) ?_
            refine aw_iconst (v := 0) dX6_both4_15 (by decide) ?_
            refine aw_iconst (v := 0) dX6_both4_16 (by decide) ?_
            refine aw_V8 dX6_both4_17 cw_X6_189 ⟨_, _, rfl⟩ hM.1 (by omega) ⟨Nat.le_refl _, Nat.le_refl _⟩ (by decide) (c_X6_isWordB (by omega) hM m1 ?_)
            refine aw_if_eq (tgt := 49) dX6_both4_20 (by decide) (fun _ => ?_) (fun zz => absurd zz (by decide))
            refine aw_iload_n dX6_both4_49 rfl ?_
            refine aw_ireturn (ty := .int) dX6_both4_50 rfl rfl ?_
            exact hF _ (lp_0 (show jA (SS B n k) = true by rw [hs8]; decide) e1) _ _ _ (s2.tr s1) m1
    · refine aw_if_eq (tgt := 49) dX6_both4_20 (by decide) (fun _ => ?_) (fun zz => absurd zz (by decide))
      refine aw_iload_n dX6_both4_49 rfl ?_
      refine aw_ireturn (ty := .int) dX6_both4_50 rfl rfl ?_
      rw [hx]
      exact hK _ _ _ (lp_z (by simp only [jA, beq_iff_eq]; exact fun w => c17 ((wd_S (by decide)).mpr w))) _ _ SaQ.rf hS
theorem c_X6_both4 {E : Ev} {d : Nat} {I : Mi} {L : Ml} {Z : Mz} {Q : Po}  {B : Nat → Int32} {n t k : Nat} (hd : 14 ≤ d) (hM : MZ Z) (hS : MS I L B n t k 4) (hk : k ≤ n) (hK : ∀ (k' : Nat) (c' : List Int32) (v' : Vl), andR (SS B n) (VV B n) (lvR (SS B n) (VV B n) 1) k = (k', some (c', v')) → ∀ (I9 : Mi) (L9 : Ml), SaQ I I9 → MS I9 L9 B n t k' 4 → Q (some (.int (v' (nmI I)))) I9 L9 Z) (hF : ∀ k' : Nat, andR (SS B n) (VV B n) (lvR (SS B n) (VV B n) 1) k = (k', none) → ∀ (rv : Int32) (I9 : Mi) (L9 : Ml), SaQ I I9 → MB I9 (plF B n k') → Q (some (.int rv)) I9 L9 Z) : AC E yX6_both4 cX6_both4 3 (some .int) d 0 0 [.ref 48] I L Z Q := by
  refine ac_go (ls := [some (.ref 48), none, none]) (by decide +kernel) (Nat.le_of_ble_eq_true rfl) rfl ?_
  refine aw_aload_n dX6_both4_0 rfl rfl ?_
  refine aw_V0 dX6_both4_1 cw_X6_253 ⟨_, _, rfl⟩ hM.1 (by omega) ⟨Nat.le_refl _, Nat.le_refl _⟩ (by decide) (c_X6_not4 (by omega) hM hS hk (fun k1 c1 v1 e1 I1 L1 s1 m1 => ?_) (fun k1 e1 rv1 I1 L1 s1 m1 => ?_))
  · refine aw_istore_n (ls' := [_, _, _]) dX6_both4_4 (by decide) rfl rfl ?_
    have e2 : andR (SS B n) (VV B n) (lvR (SS B n) (VV B n) 1) k = lpR (SS B n) (notR (SS B n) (VV B n) (lvR (SS B n) (VV B n) 1)) jA 160 k1 c1 v1 := bn_1 e1
    have ok1 := (all_ok (SV_ok B n) (lv_ok (SV_ok B n) 1)).2.2.2.1 k (by omega)
    rw [e1] at ok1
    obtain ⟨b1, b2, b3⟩ := ok1
    simp only at b1 b2
    have hn6 := hS.1.2.2.2.1
    refine l_X6_both4 hd hM 160 k1 c1 v1 _ I1 L1 _ (by omega) b2 m1 (by rw [nmI_q s1]) (fun k' c' v' e I9 L9 s9 m9 => ?_) (fun k' e rv I9 L9 s9 m9 => ?_)
    · rw [nmI_q s1]; exact hK k' c' v' (e2.trans e) I9 L9 (s1.tr s9) m9
    · exact hF k' (e2.trans e) rv I9 L9 (s1.tr s9) m9
  · refine aw_istore_n (ls' := [_, _, _]) dX6_both4_4 (by decide) rfl rfl ?_
    refine aw_aload_n dX6_both4_5 rfl rfl ?_
    refine aw_bipush (v := 97) dX6_both4_6 (by decide) ?_
    refine aw_bipush (v := 110) dX6_both4_8 (by decide) ?_
    refine aw_bipush (v := 100) dX6_both4_10 (by decide) ?_
    refine aw_iconst (v := 0) dX6_both4_12 (by decide) ?_
    refine aw_iconst (v := 0) dX6_both4_13 (by decide) ?_
    refine aw_iconst (v := 0) dX6_both4_14 (by decide) ?_
    refine aw_iconst (v := 0) dX6_both4_15 (by decide) ?_
    refine aw_iconst (v := 0) dX6_both4_16 (by decide) ?_
    refine aw_V8 dX6_both4_17 cw_X6_189 ⟨_, _, rfl⟩ hM.1 (by omega) ⟨Nat.le_refl _, Nat.le_refl _⟩ (by decide) (c_X6_isWordB (by omega) hM m1 ?_)
    refine aw_if_eq (tgt := 49) dX6_both4_20 (by decide) (fun _ => ?_) (fun zz => absurd zz (by decide))
    refine aw_iload_n dX6_both4_49 rfl ?_
    refine aw_ireturn (ty := .int) dX6_both4_50 rfl rfl ?_
    exact hF _ (bn_0 e1) _ _ _ s1 m1
theorem l_X6_either4 {E : Ev} {d : Nat} {Z : Mz} {Q : Po} {B : Nat → Int32} {n t : Nat} (hd : 15 ≤ d) (hM : MZ Z) : ∀ (m k : Nat) (c : List Int32) (v : Vl) (x : Int32) (I : Mi) (L : Ml) (o2 : Option Value), n ≤ k + m → k ≤ n → MS I L B n t k 4 → x = v (nmI I) → (∀ (k' : Nat) (c' : List Int32) (v' : Vl), lpR (SS B n) (andR (SS B n) (VV B n) (lvR (SS B n) (VV B n) 1)) jO m k c v = (k', some (c', v')) → ∀ (I9 : Mi) (L9 : Ml), SaQ I I9 → MS I9 L9 B n t k' 4 → Q (some (.int (v' (nmI I)))) I9 L9 Z) → (∀ k' : Nat, lpR (SS B n) (andR (SS B n) (VV B n) (lvR (SS B n) (VV B n) 1)) jO m k c v = (k', none) → ∀ (rv : Int32) (I9 : Mi) (L9 : Ml), SaQ I I9 → MB I9 (plF B n k') → Q (some (.int rv)) I9 L9 Z) → AW E yX6_either4 cX6_either4 3 (some .int) (rmOf d 0 0) Q 0 0 5 [some (.ref 48), some (.int x), o2] [] I L Z := by
  intro m
  induction m with
  | zero =>
    intro k c v x I L o2 hm hk hS hx hK hF
    have hz : SS B n k = 0 := by rw [show k = n by omega]; exact (SV_ok B n).1
    refine aw_aload_n dX6_either4_5 rfl rfl ?_
    refine aw_bipush (v := 111) dX6_either4_6 (by decide) ?_
    refine aw_bipush (v := 114) dX6_either4_8 (by decide) ?_
    refine aw_iconst (v := 0) dX6_either4_10 (by decide) ?_
    refine aw_iconst (v := 0) dX6_either4_11 (by decide) ?_
    refine aw_iconst (v := 0) dX6_either4_12 (by decide) ?_
    refine aw_iconst (v := 0) dX6_either4_13 (by decide) ?_
    refine aw_iconst (v := 0) dX6_either4_14 (by decide) ?_
    refine aw_iconst (v := 0) dX6_either4_15 (by decide) ?_
    refine aw_V8 dX6_either4_16 cw_X6_189 ⟨_, _, rfl⟩ hM.1 (by omega) ⟨Nat.le_refl _, Nat.le_refl _⟩ (by decide) (c_X6_isWord_or (by omega) hM hS (fun zz => absurd zz (fun w => absurd ((wd_S (by decide)).mp w) (by omega))) (fun c16 => ?_))
    refine aw_if_eq (tgt := 48) dX6_either4_19 (by decide) (fun _ => ?_) (fun zz => absurd zz (by decide))
    refine aw_iload_n dX6_either4_48 rfl ?_
    refine aw_ireturn (ty := .int) dX6_either4_49 rfl rfl ?_
    rw [hx]
    exact hK _ _ _ rfl _ _ SaQ.rf hS
  | succ m ih =>
    intro k c v x I L o2 hm hk hS hx hK hF
    have hJ := fun (J : Nat → Bool) (h : J (SS B n k) = true) => h
    refine aw_aload_n dX6_either4_5 rfl rfl ?_
    refine aw_bipush (v := 111) dX6_either4_6 (by decide) ?_
    refine aw_bipush (v := 114) dX6_either4_8 (by decide) ?_
    refine aw_iconst (v := 0) dX6_either4_10 (by decide) ?_
    refine aw_iconst (v := 0) dX6_either4_11 (by decide) ?_
    refine aw_iconst (v := 0) dX6_either4_12 (by decide) ?_
    refine aw_iconst (v := 0) dX6_either4_13 (by decide) ?_
    refine aw_iconst (v := 0) dX6_either4_14 (by decide) ?_
    refine aw_iconst (v := 0) dX6_either4_15 (by decide) ?_
    refine aw_V8 dX6_either4_16 cw_X6_189 ⟨_, _, rfl⟩ hM.1 (by omega) ⟨Nat.le_refl _, Nat.le_refl _⟩ (by decide) (c_X6_isWord_or (by omega) hM hS (fun c16 => ?_) (fun c16 => ?_))
    · refine aw_if_eq (tgt := 48) dX6_either4_19 (by decide) (fun zz => absurd zz (by decide)) (fun _ => ?_)
      refine aw_aload_n dX6_either4_22 rfl rfl ?_
      have hs8 : SS B n k = 7 := (wd_S (by decide)).mp c16
      refine aw_V0 dX6_either4_23 cw_X6_186 ⟨_, _, rfl⟩ hM.1 (by omega) ⟨Nat.le_refl _, Nat.le_refl _⟩ (by decide) (c_X6_next (by omega) hM hS (by omega) (by omega) (fun I2 L2 s2 m2 => ?_))
      refine aw_aload_n dX6_either4_26 rfl rfl ?_
      refine aw_V0 dX6_either4_27 cw_X6_256 ⟨_, _, rfl⟩ hM.1 (by omega) ⟨Nat.le_refl _, Nat.le_refl _⟩ (by decide) (c_X6_both4 (by omega) hM m2 (by have := lt_of_S (SV_ok B n).1 hk (by omega); omega) (fun k1 c1 v1 e1 I1 L1 s1 m1 => ?_) (fun k1 e1 rv1 I1 L1 s1 m1 => ?_))
      · refine aw_istore_n (ls' := [_, _, _]) dX6_either4_30 (by decide) rfl rfl ?_
        refine aw_iload_n dX6_either4_31 rfl ?_
        refine aw_if_ne (tgt := 39) dX6_either4_32 (by decide) (fun c32 => ?_) (fun c32 => ?_)
        · refine aw_iconst (v := 1) dX6_either4_39 (by decide) ?_
          refine aw_goto (tgt := 44) dX6_either4_40 (by decide) ?_
          refine aw_istore_n (ls' := [_, _, _]) dX6_either4_44 (by decide) rfl rfl ?_
          refine aw_goto (tgt := 5) dX6_either4_45 (by decide) ?_
          have hkn := lt_of_S (SV_ok B n).1 hk (by omega)
          have ok1 := (all_ok (SV_ok B n) (lv_ok (SV_ok B n) 1)).2.2.2.2.1 (k + 1) (by omega)
          rw [e1] at ok1
          obtain ⟨b1, b2, b3⟩ := ok1
          simp only at b1 b2
          have b4 := (b3 _ _ rfl).1
          simp only at b4
          have e2 := lp_1 (n := m) (c := c) (v := v) (show jO (SS B n k) = true by rw [hs8]; decide) e1
          refine ih k1 (c ++ c1 ++ [stI (SS B n k) 0]) (fun nm => joV (nI (SS B n k)) (v nm) (v1 nm)) _ I1 L1 _ (by omega) b2 m1 ?_ (fun k' c' v' e I9 L9 s9 m9 => ?_) (fun k' e rv I9 L9 s9 m9 => ?_)
          · rw [nmI_q s1, nmI_q s2, hs8, jo7, ← hx]
            simp only [c32, not_true_eq_false, not_false_eq_true, and_true, true_and, and_false, false_and, or_true, true_or, or_false, false_or, ite_true, ite_false, if_true, if_false, reduceIte, and_self, or_self]
          · rw [nmI_q s1, nmI_q s2]; exact hK k' c' v' (e2.trans e) I9 L9 ((s2.tr s1).tr s9) m9
          · exact hF k' (e2.trans e) rv I9 L9 ((s2.tr s1).tr s9) m9
        · refine aw_iload_n dX6_either4_35 rfl ?_
          refine aw_if_eq (tgt := 43) dX6_either4_36 (by decide) (fun c36 => ?_) (fun c36 => ?_)
          · refine aw_iconst (v := 0) dX6_either4_43 (by decide) ?_
            refine aw_istore_n (ls' := [_, _, _]) dX6_either4_44 (by decide) rfl rfl ?_
            refine aw_goto (tgt := 5) dX6_either4_45 (by decide) ?_
            have hkn := lt_of_S (SV_ok B n).1 hk (by omega)
            have ok1 := (all_ok (SV_ok B n) (lv_ok (SV_ok B n) 1)).2.2.2.2.1 (k + 1) (by omega)
            rw [e1] at ok1
            obtain ⟨b1, b2, b3⟩ := ok1
            simp only at b1 b2
            have b4 := (b3 _ _ rfl).1
            simp only at b4
            have e2 := lp_1 (n := m) (c := c) (v := v) (show jO (SS B n k) = true by rw [hs8]; decide) e1
            refine ih k1 (c ++ c1 ++ [stI (SS B n k) 0]) (fun nm => joV (nI (SS B n k)) (v nm) (v1 nm)) _ I1 L1 _ (by omega) b2 m1 ?_ (fun k' c' v' e I9 L9 s9 m9 => ?_) (fun k' e rv I9 L9 s9 m9 => ?_)
            · rw [nmI_q s1, nmI_q s2, hs8, jo7, ← hx]
              rw [nmI_q s2] at c36
              simp only [c32, c36, not_true_eq_false, not_false_eq_true, and_true, true_and, and_false, false_and, or_true, true_or, or_false, false_or, ite_true, ite_false, if_true, if_false, reduceIte, and_self, or_self]
            · rw [nmI_q s1, nmI_q s2]; exact hK k' c' v' (e2.trans e) I9 L9 ((s2.tr s1).tr s9) m9
            · exact hF k' (e2.trans e) rv I9 L9 ((s2.tr s1).tr s9) m9
          · refine aw_iconst (v := 1) dX6_either4_39 (by decide) ?_
            refine aw_goto (tgt := 44) dX6_either4_40 (by decide) ?_
            refine aw_istore_n (ls' := [_, _, _]) dX6_either4_44 (by decide) rfl rfl ?_
            refine aw_goto (tgt := 5) dX6_either4_45 (by decide) ?_
            have hkn := lt_of_S (SV_ok B n).1 hk (by omega)
            have ok1 := (all_ok (SV_ok B n) (lv_ok (SV_ok B n) 1)).2.2.2.2.1 (k + 1) (by omega)
            rw [e1] at ok1
            obtain ⟨b1, b2, b3⟩ := ok1
            simp only at b1 b2
            have b4 := (b3 _ _ rfl).1
            simp only at b4
            have e2 := lp_1 (n := m) (c := c) (v := v) (show jO (SS B n k) = true by rw [hs8]; decide) e1
            refine ih k1 (c ++ c1 ++ [stI (SS B n k) 0]) (fun nm => joV (nI (SS B n k)) (v nm) (v1 nm)) _ I1 L1 _ (by omega) b2 m1 ?_ (fun k' c' v' e I9 L9 s9 m9 => ?_) (fun k' e rv I9 L9 s9 m9 => ?_)
            · rw [nmI_q s1, nmI_q s2, hs8, jo7, ← hx]
              rw [nmI_q s2] at c36
              simp only [c32, c36, not_true_eq_false, not_false_eq_true, and_true, true_and, and_false, false_and, or_true, true_or, or_false, false_or, ite_true, ite_false, if_true, if_false, reduceIte, and_self, or_self]
            · rw [nmI_q s1, nmI_q s2]; exact hK k' c' v' (e2.trans e) I9 L9 ((s2.tr s1).tr s9) m9
            · exact hF k' (e2.trans e) rv I9 L9 ((s2.tr s1).tr s9) m9
      · refine aw_istore_n (ls' := [_, _, _]) dX6_either4_30 (by decide) rfl rfl ?_
        refine aw_iload_n dX6_either4_31 rfl ?_
        refine aw_if_ne (tgt := 39) dX6_either4_32 (by decide) (fun c32 => ?_) (fun c32 => ?_)
        · refine aw_iconst (v := 1) dX6_either4_39 (by decide) ?_
          refine aw_goto (tgt := 44) dX6_either4_40 (by decide) ?_
          refine aw_istore_n (ls' := [_, _, _]) dX6_either4_44 (by decide) rfl rfl ?_
          refine aw_goto (tgt := 5) dX6_either4_45 (by decide) ?_
          refine aw_aload_n dX6_either4_5 rfl rfl ?_
          refine aw_bipush (v := 111) dX6_either4_6 (by decide) ?_
          refine aw_bipush (v := 114) dX6_either4_8 (by decide) ?_
          refine aw_iconst (v := 0) dX6_either4_10 (by decide) ?_
          refine aw_iconst (v := 0) dX6_either4_11 (by decide) ?_
          refine aw_iconst (v := 0) dX6_either4_12 (by decide) ?_
          refine aw_iconst (v := 0) dX6_either4_13 (by decide) ?_
          refine aw_iconst (v := 0) dX6_either4_14 (by decide) ?_
          refine aw_iconst (v := 0) dX6_either4_15 (by decide) ?_
          refine aw_V8 dX6_either4_16 cw_X6_189 ⟨_, _, rfl⟩ hM.1 (by omega) ⟨Nat.le_refl _, Nat.le_refl _⟩ (by decide) (c_X6_isWordB (by omega) hM m1 ?_)
          refine aw_if_eq (tgt := 48) dX6_either4_19 (by decide) (fun _ => ?_) (fun zz => absurd zz (by decide))
          refine aw_iload_n dX6_either4_48 rfl ?_
          refine aw_ireturn (ty := .int) dX6_either4_49 rfl rfl ?_
          exact hF _ (lp_0 (show jO (SS B n k) = true by rw [hs8]; decide) e1) _ _ _ (s2.tr s1) m1
        · refine aw_iload_n dX6_either4_35 rfl ?_
          refine aw_if_eq (tgt := 43) dX6_either4_36 (by decide) (fun c36 => ?_) (fun c36 => ?_)
          · refine aw_iconst (v := 0) dX6_either4_43 (by decide) ?_
            refine aw_istore_n (ls' := [_, _, _]) dX6_either4_44 (by decide) rfl rfl ?_
            refine aw_goto (tgt := 5) dX6_either4_45 (by decide) ?_
            refine aw_aload_n dX6_either4_5 rfl rfl ?_
            refine aw_bipush (v := 111) dX6_either4_6 (by decide) ?_
            refine aw_bipush (v := 114) dX6_either4_8 (by decide) ?_
            refine aw_iconst (v := 0) dX6_either4_10 (by decide) ?_
            refine aw_iconst (v := 0) dX6_either4_11 (by decide) ?_
            refine aw_iconst (v := 0) dX6_either4_12 (by decide) ?_
            refine aw_iconst (v := 0) dX6_either4_13 (by decide) ?_
            refine aw_iconst (v := 0) dX6_either4_14 (by decide) ?_
            refine aw_iconst (v := 0) dX6_either4_15 (by decide) ?_
            refine aw_V8 dX6_either4_16 cw_X6_189 ⟨_, _, rfl⟩ hM.1 (by omega) ⟨Nat.le_refl _, Nat.le_refl _⟩ (by decide) (c_X6_isWordB (by omega) hM m1 ?_)
            refine aw_if_eq (tgt := 48) dX6_either4_19 (by decide) (fun _ => ?_) (fun zz => absurd zz (by decide))
            refine aw_iload_n dX6_either4_48 rfl ?_
            refine aw_ireturn (ty := .int) dX6_either4_49 rfl rfl ?_
            exact hF _ (lp_0 (show jO (SS B n k) = true by rw [hs8]; decide) e1) _ _ _ (s2.tr s1) m1
          · refine aw_iconst (v := 1) dX6_either4_39 (by decide) ?_
            refine aw_goto (tgt := 44) dX6_either4_40 (by decide) ?_
            refine aw_istore_n (ls' := [_, _, _]) dX6_either4_44 (by decide) rfl rfl ?_
            refine aw_goto (tgt := 5) dX6_either4_45 (by decide) ?_
            refine aw_aload_n dX6_either4_5 rfl rfl ?_
            refine aw_bipush (v := 111) dX6_either4_6 (by decide) ?_
            refine aw_bipush (v := 114) dX6_either4_8 (by decide) ?_
            refine aw_iconst (v := 0) dX6_either4_10 (by decide) ?_
            refine aw_iconst (v := 0) dX6_either4_11 (by decide) ?_
            refine aw_iconst (v := 0) dX6_either4_12 (by decide) ?_
            refine aw_iconst (v := 0) dX6_either4_13 (by decide) ?_
            refine aw_iconst (v := 0) dX6_either4_14 (by decide) ?_
            refine aw_iconst (v := 0) dX6_either4_15 (by decide) ?_
            refine aw_V8 dX6_either4_16 cw_X6_189 ⟨_, _, rfl⟩ hM.1 (by omega) ⟨Nat.le_refl _, Nat.le_refl _⟩ (by decide) (c_X6_isWordB (by omega) hM m1 ?_)
            refine aw_if_eq (tgt := 48) dX6_either4_19 (by decide) (fun _ => ?_) (fun zz => absurd zz (by decide))
            refine aw_iload_n dX6_either4_48 rfl ?_
            refine aw_ireturn (ty := .int) dX6_either4_49 rfl rfl ?_
            exact hF _ (lp_0 (show jO (SS B n k) = true by rw [hs8]; decide) e1) _ _ _ (s2.tr s1) m1
    · refine aw_if_eq (tgt := 48) dX6_either4_19 (by decide) (fun _ => ?_) (fun zz => absurd zz (by decide))
      refine aw_iload_n dX6_either4_48 rfl ?_
      refine aw_ireturn (ty := .int) dX6_either4_49 rfl rfl ?_
      rw [hx]
      exact hK _ _ _ (lp_z (by simp only [jO, beq_iff_eq]; exact fun w => c16 ((wd_S (by decide)).mpr w))) _ _ SaQ.rf hS
theorem c_X6_either4 {E : Ev} {d : Nat} {I : Mi} {L : Ml} {Z : Mz} {Q : Po}  {B : Nat → Int32} {n t k : Nat} (hd : 15 ≤ d) (hM : MZ Z) (hS : MS I L B n t k 4) (hk : k ≤ n) (hK : ∀ (k' : Nat) (c' : List Int32) (v' : Vl), eitR (SS B n) (VV B n) (lvR (SS B n) (VV B n) 1) k = (k', some (c', v')) → ∀ (I9 : Mi) (L9 : Ml), SaQ I I9 → MS I9 L9 B n t k' 4 → Q (some (.int (v' (nmI I)))) I9 L9 Z) (hF : ∀ k' : Nat, eitR (SS B n) (VV B n) (lvR (SS B n) (VV B n) 1) k = (k', none) → ∀ (rv : Int32) (I9 : Mi) (L9 : Ml), SaQ I I9 → MB I9 (plF B n k') → Q (some (.int rv)) I9 L9 Z) : AC E yX6_either4 cX6_either4 3 (some .int) d 0 0 [.ref 48] I L Z Q := by
  refine ac_go (ls := [some (.ref 48), none, none]) (by decide +kernel) (Nat.le_of_ble_eq_true rfl) rfl ?_
  refine aw_aload_n dX6_either4_0 rfl rfl ?_
  refine aw_V0 dX6_either4_1 cw_X6_256 ⟨_, _, rfl⟩ hM.1 (by omega) ⟨Nat.le_refl _, Nat.le_refl _⟩ (by decide) (c_X6_both4 (by omega) hM hS hk (fun k1 c1 v1 e1 I1 L1 s1 m1 => ?_) (fun k1 e1 rv1 I1 L1 s1 m1 => ?_))
  · refine aw_istore_n (ls' := [_, _, _]) dX6_either4_4 (by decide) rfl rfl ?_
    have e2 : eitR (SS B n) (VV B n) (lvR (SS B n) (VV B n) 1) k = lpR (SS B n) (andR (SS B n) (VV B n) (lvR (SS B n) (VV B n) 1)) jO 160 k1 c1 v1 := bn_1 e1
    have ok1 := (all_ok (SV_ok B n) (lv_ok (SV_ok B n) 1)).2.2.2.2.1 k (by omega)
    rw [e1] at ok1
    obtain ⟨b1, b2, b3⟩ := ok1
    simp only at b1 b2
    have hn6 := hS.1.2.2.2.1
    refine l_X6_either4 hd hM 160 k1 c1 v1 _ I1 L1 _ (by omega) b2 m1 (by rw [nmI_q s1]) (fun k' c' v' e I9 L9 s9 m9 => ?_) (fun k' e rv I9 L9 s9 m9 => ?_)
    · rw [nmI_q s1]; exact hK k' c' v' (e2.trans e) I9 L9 (s1.tr s9) m9
    · exact hF k' (e2.trans e) rv I9 L9 (s1.tr s9) m9
  · refine aw_istore_n (ls' := [_, _, _]) dX6_either4_4 (by decide) rfl rfl ?_
    refine aw_aload_n dX6_either4_5 rfl rfl ?_
    refine aw_bipush (v := 111) dX6_either4_6 (by decide) ?_
    refine aw_bipush (v := 114) dX6_either4_8 (by decide) ?_
    refine aw_iconst (v := 0) dX6_either4_10 (by decide) ?_
    refine aw_iconst (v := 0) dX6_either4_11 (by decide) ?_
    refine aw_iconst (v := 0) dX6_either4_12 (by decide) ?_
    refine aw_iconst (v := 0) dX6_either4_13 (by decide) ?_
    refine aw_iconst (v := 0) dX6_either4_14 (by decide) ?_
    refine aw_iconst (v := 0) dX6_either4_15 (by decide) ?_
    refine aw_V8 dX6_either4_16 cw_X6_189 ⟨_, _, rfl⟩ hM.1 (by omega) ⟨Nat.le_refl _, Nat.le_refl _⟩ (by decide) (c_X6_isWordB (by omega) hM m1 ?_)
    refine aw_if_eq (tgt := 48) dX6_either4_19 (by decide) (fun _ => ?_) (fun zz => absurd zz (by decide))
    refine aw_iload_n dX6_either4_48 rfl ?_
    refine aw_ireturn (ty := .int) dX6_either4_49 rfl rfl ?_
    exact hF _ (bn_0 e1) _ _ _ s1 m1
theorem c_X6_atom3 {E : Ev} {d : Nat} {I : Mi} {L : Ml} {Z : Mz} {Q : Po}  {B : Nat → Int32} {n t k : Nat} (hd : 16 ≤ d) (hM : MZ Z) (hS : MS I L B n t k 3) (hk : k ≤ n) (hK : ∀ (k' : Nat) (c' : List Int32) (v' : Vl), oneR (SS B n) (VV B n) (lvR (SS B n) (VV B n) 2) k = (k', some (c', v')) → ∀ (I9 : Mi) (L9 : Ml), SaQ I I9 → MS I9 L9 B n t k' 3 → Q (some (.int (v' (nmI I)))) I9 L9 Z) (hF : ∀ k' : Nat, oneR (SS B n) (VV B n) (lvR (SS B n) (VV B n) 2) k = (k', none) → ∀ (rv : Int32) (I9 : Mi) (L9 : Ml), SaQ I I9 → MB I9 (plF B n k') → Q (some (.int rv)) I9 L9 Z) : AC E yX6_atom3 cX6_atom3 2 (some .int) d 0 0 [.ref 48] I L Z Q := by
  refine ac_go (ls := [some (.ref 48), none]) (by decide +kernel) (Nat.le_of_ble_eq_true rfl) rfl ?_
  refine aw_iconst (v := 0) dX6_atom3_0 (by decide) ?_
  refine aw_istore_n (ls' := [_, _]) dX6_atom3_1 (by decide) rfl rfl ?_
  refine aw_aload_n dX6_atom3_2 rfl rfl ?_
  refine aw_bipush (v := 45) dX6_atom3_3 (by decide) ?_
  refine aw_V1 dX6_atom3_5 cw_X6_211 ⟨_, _, rfl⟩ hM.1 (by omega) ⟨Nat.le_refl _, Nat.le_refl _⟩ (by decide) (c_X6_isSign_14 hM hS (fun c5 => ?_) (fun c5 => ?_))
  · refine aw_if_eq (tgt := 37) dX6_atom3_8 (by decide) (fun zz => absurd zz (by decide)) (fun _ => ?_)
    refine aw_aload_n dX6_atom3_11 rfl rfl ?_
    refine aw_V0 dX6_atom3_12 cw_X6_214 ⟨_, _, rfl⟩ hM.1 (by omega) ⟨Nat.le_refl _, Nat.le_refl _⟩ (by decide) (c_X6_opens (by omega) hM hS (by decide) (by omega) (by omega) (fun I0 L0 s0 m0 => ?_))
    refine aw_if_eq (tgt := 161) dX6_atom3_15 (by decide) (fun zz => absurd zz (by decide)) (fun _ => ?_)
    refine aw_aload_n dX6_atom3_18 rfl rfl ?_
    refine aw_V0 dX6_atom3_19 cw_X6_244 ⟨_, _, rfl⟩ hM.1 (by omega) ⟨Nat.le_refl _, Nat.le_refl _⟩ (by decide) (c_X6_atom4 (by omega) hM m0 (by have := lt_of_S (SV_ok B n).1 hk (by omega); omega) (fun k1 c1 v1 e1 I1 L1 s1 m1 => ?_) (fun k1 e1 rv1 I1 L1 s1 m1 => ?_))
    · refine aw_ineg dX6_atom3_22 ?_
      refine aw_istore_n (ls' := [_, _]) dX6_atom3_23 (by decide) rfl rfl ?_
      refine aw_aload_n dX6_atom3_24 rfl rfl ?_
      refine aw_dup dX6_atom3_25 rfl ?_
      refine aw_gi dX6_atom3_26 fw_X6_180 hM.1 ?_
      refine aw_iconst (v := 1) dX6_atom3_29 (by decide) ?_
      refine aw_isub dX6_atom3_30 ?_
      rw [m1.2.2.2, nI_pred]
      refine aw_pi dX6_atom3_31 fw_X6_180 (ww_X6_180 _) hM.1 rfl ?_
      refine aw_goto (tgt := 161) dX6_atom3_34 (by decide) ?_
      refine aw_iload_n dX6_atom3_161 rfl ?_
      refine aw_ireturn (ty := .int) dX6_atom3_162 rfl rfl ?_
      rw [nmI_q s0]
      exact hK _ _ _ (one_m1 c5 e1) _ _ (s0.tr s1).op (MS.op m1)
    · refine aw_ineg dX6_atom3_22 ?_
      refine aw_istore_n (ls' := [_, _]) dX6_atom3_23 (by decide) rfl rfl ?_
      refine aw_aload_n dX6_atom3_24 rfl rfl ?_
      refine aw_dup dX6_atom3_25 rfl ?_
      refine aw_gi dX6_atom3_26 fw_X6_180 hM.1 ?_
      refine aw_iconst (v := 1) dX6_atom3_29 (by decide) ?_
      refine aw_isub dX6_atom3_30 ?_
      refine aw_pi dX6_atom3_31 fw_X6_180 (ww_X6_180 _) hM.1 rfl ?_
      refine aw_goto (tgt := 161) dX6_atom3_34 (by decide) ?_
      refine aw_iload_n dX6_atom3_161 rfl ?_
      refine aw_ireturn (ty := .int) dX6_atom3_162 rfl rfl ?_
      exact hF _ (one_m0 c5 e1) _ _ _ (s0.tr s1).op m1.op
  · refine aw_if_eq (tgt := 37) dX6_atom3_8 (by decide) (fun _ => ?_) (fun zz => absurd zz (by decide))
    refine aw_aload_n dX6_atom3_37 rfl rfl ?_
    refine aw_bipush (v := 40) dX6_atom3_38 (by decide) ?_
    refine aw_V1 dX6_atom3_40 cw_X6_211 ⟨_, _, rfl⟩ hM.1 (by omega) ⟨Nat.le_refl _, Nat.le_refl _⟩ (by decide) (c_X6_isSign_10 hM hS (fun c40 => ?_) (fun c40 => ?_))
    · refine aw_if_eq (tgt := 95) dX6_atom3_43 (by decide) (fun zz => absurd zz (by decide)) (fun _ => ?_)
      refine aw_aload_n dX6_atom3_46 rfl rfl ?_
      refine aw_V0 dX6_atom3_47 cw_X6_214 ⟨_, _, rfl⟩ hM.1 (by omega) ⟨Nat.le_refl _, Nat.le_refl _⟩ (by decide) (c_X6_opens (by omega) hM hS (by decide) (by omega) (by omega) (fun I0 L0 s0 m0 => ?_))
      refine aw_if_eq (tgt := 161) dX6_atom3_50 (by decide) (fun zz => absurd zz (by decide)) (fun _ => ?_)
      refine aw_aload_n dX6_atom3_53 rfl rfl ?_
      refine aw_V0 dX6_atom3_54 cw_X6_259 ⟨_, _, rfl⟩ hM.1 (by omega) ⟨Nat.le_refl _, Nat.le_refl _⟩ (by decide) (c_X6_either4 (by omega) hM m0 (by have := lt_of_S (SV_ok B n).1 hk (by omega); omega) (fun k1 c1 v1 e1 I1 L1 s1 m1 => ?_) (fun k1 e1 rv1 I1 L1 s1 m1 => ?_))
      · refine aw_istore_n (ls' := [_, _]) dX6_atom3_57 (by decide) rfl rfl ?_
        refine aw_aload_n dX6_atom3_58 rfl rfl ?_
        refine aw_bipush (v := 41) dX6_atom3_59 (by decide) ?_
        refine aw_V1 dX6_atom3_61 cw_X6_211 ⟨_, _, rfl⟩ hM.1 (by omega) ⟨Nat.le_refl _, Nat.le_refl _⟩ (by decide) (c_X6_isSign_11 hM m1 (fun c61 => ?_) (fun c61 => ?_))
        · refine aw_if_ne (tgt := 71) dX6_atom3_64 (by decide) (fun _ => ?_) (fun zz => absurd zz (by decide))
          refine aw_aload_n dX6_atom3_71 rfl rfl ?_
          refine aw_dup dX6_atom3_72 rfl ?_
          refine aw_gi dX6_atom3_73 fw_X6_180 hM.1 ?_
          refine aw_iconst (v := 1) dX6_atom3_76 (by decide) ?_
          refine aw_isub dX6_atom3_77 ?_
          rw [m1.2.2.2, nI_pred]
          refine aw_pi dX6_atom3_78 fw_X6_180 (ww_X6_180 _) hM.1 rfl ?_
          refine aw_aload_n dX6_atom3_81 rfl rfl ?_
          refine aw_gi dX6_atom3_82 fw_X6_170 hM.1 ?_
          refine aw_if_ne (tgt := 161) dX6_atom3_85 (by decide) (fun zz => absurd (MS.op (o' := 3) m1).2.2.1 zz) (fun c85 => ?_)
          refine aw_aload_n dX6_atom3_88 rfl rfl ?_
          refine aw_V0 dX6_atom3_89 cw_X6_186 ⟨_, _, rfl⟩ hM.1 (by omega) ⟨Nat.le_refl _, Nat.le_refl _⟩ (by decide) (c_X6_next (o := 3) (by omega) hM (MS.op m1) (by omega) (by omega) (fun I2 L2 s2 m2 => ?_))
          refine aw_goto (tgt := 161) dX6_atom3_92 (by decide) ?_
          refine aw_iload_n dX6_atom3_161 rfl ?_
          refine aw_ireturn (ty := .int) dX6_atom3_162 rfl rfl ?_
          rw [nmI_q s0]
          exact hK _ _ _ (one_p1 c40 e1 c61) _ _ ((s0.tr s1).op.tr s2) m2
        · refine aw_if_ne (tgt := 71) dX6_atom3_64 (by decide) (fun zz => absurd zz (by decide)) (fun _ => ?_)
          refine aw_aload_n dX6_atom3_67 rfl rfl ?_
          refine aw_V0 dX6_atom3_68 cw_X6_183 ⟨_, _, rfl⟩ hM.1 (by omega) ⟨Nat.le_refl _, Nat.le_refl _⟩ (by decide) (c_X6_fail hM m1 (fun I9 s9 m9 => ?_))
          refine aw_aload_n dX6_atom3_71 rfl rfl ?_
          refine aw_dup dX6_atom3_72 rfl ?_
          refine aw_gi dX6_atom3_73 fw_X6_180 hM.1 ?_
          refine aw_iconst (v := 1) dX6_atom3_76 (by decide) ?_
          refine aw_isub dX6_atom3_77 ?_
          refine aw_pi dX6_atom3_78 fw_X6_180 (ww_X6_180 _) hM.1 rfl ?_
          refine aw_aload_n dX6_atom3_81 rfl rfl ?_
          refine aw_gi dX6_atom3_82 fw_X6_170 hM.1 ?_
          refine aw_if_ne (tgt := 161) dX6_atom3_85 (by decide) (fun c85 => ?_) (fun zz => absurd zz (by rw [m9.op.1]; decide))
          refine aw_iload_n dX6_atom3_161 rfl ?_
          refine aw_ireturn (ty := .int) dX6_atom3_162 rfl rfl ?_
          exact hF _ (one_p2 c40 e1 c61) _ _ _ ((s0.tr s1).tr s9).op m9.op
      · refine aw_istore_n (ls' := [_, _]) dX6_atom3_57 (by decide) rfl rfl ?_
        refine aw_aload_n dX6_atom3_58 rfl rfl ?_
        refine aw_bipush (v := 41) dX6_atom3_59 (by decide) ?_
        refine aw_V1 dX6_atom3_61 cw_X6_211 ⟨_, _, rfl⟩ hM.1 (by omega) ⟨Nat.le_refl _, Nat.le_refl _⟩ (by decide) (c_X6_isSignB hM m1 ?_)
        refine aw_if_ne (tgt := 71) dX6_atom3_64 (by decide) (fun zz => absurd zz (by decide)) (fun _ => ?_)
        refine aw_aload_n dX6_atom3_67 rfl rfl ?_
        refine aw_V0 dX6_atom3_68 cw_X6_183 ⟨_, _, rfl⟩ hM.1 (by omega) ⟨Nat.le_refl _, Nat.le_refl _⟩ (by decide) (c_X6_failB hM m1 ?_)
        refine aw_aload_n dX6_atom3_71 rfl rfl ?_
        refine aw_dup dX6_atom3_72 rfl ?_
        refine aw_gi dX6_atom3_73 fw_X6_180 hM.1 ?_
        refine aw_iconst (v := 1) dX6_atom3_76 (by decide) ?_
        refine aw_isub dX6_atom3_77 ?_
        refine aw_pi dX6_atom3_78 fw_X6_180 (ww_X6_180 _) hM.1 rfl ?_
        refine aw_aload_n dX6_atom3_81 rfl rfl ?_
        refine aw_gi dX6_atom3_82 fw_X6_170 hM.1 ?_
        refine aw_if_ne (tgt := 161) dX6_atom3_85 (by decide) (fun c85 => ?_) (fun zz => absurd zz (by rw [m1.op.1]; decide))
        refine aw_iload_n dX6_atom3_161 rfl ?_
        refine aw_ireturn (ty := .int) dX6_atom3_162 rfl rfl ?_
        exact hF _ (one_p0 c40 e1) _ _ _ (s0.tr s1).op m1.op
    · refine aw_if_eq (tgt := 95) dX6_atom3_43 (by decide) (fun _ => ?_) (fun zz => absurd zz (by decide))
      refine aw_aload_n dX6_atom3_95 rfl rfl ?_
      refine aw_gi dX6_atom3_96 fw_X6_170 hM.1 ?_
      refine aw_if_ne (tgt := 123) dX6_atom3_99 (by decide) (fun zz => absurd hS.2.2.1 zz) (fun c99 => ?_)
      refine aw_aload_n dX6_atom3_102 rfl rfl ?_
      refine aw_gi dX6_atom3_103 fw_X6_153 hM.1 ?_
      refine aw_iconst (v := 2) dX6_atom3_106 (by decide) ?_
      refine aw_icmp_ne (tgt := 123) dX6_atom3_107 (by decide) (fun c107 => ?_) (fun c107 => ?_)
      · refine aw_aload_n dX6_atom3_123 rfl rfl ?_
        refine aw_gi dX6_atom3_124 fw_X6_170 hM.1 ?_
        refine aw_if_ne (tgt := 157) dX6_atom3_127 (by decide) (fun zz => absurd hS.2.2.1 zz) (fun c127 => ?_)
        refine aw_aload_n dX6_atom3_130 rfl rfl ?_
        refine aw_gi dX6_atom3_131 fw_X6_153 hM.1 ?_
        refine aw_iconst (v := 1) dX6_atom3_134 (by decide) ?_
        refine aw_icmp_ne (tgt := 157) dX6_atom3_135 (by decide) (fun c135 => ?_) (fun c135 => ?_)
        · refine aw_aload_n dX6_atom3_157 rfl rfl ?_
          have h2 : ¬ SS B n k = 2 := fun w => c107 (by rw [hS.2.1.2.1, tk_num.mp w]; rfl)
          have h3 : ¬ SS B n k = 3 := fun w => c135 (by rw [hS.2.1.2.1, s3_mk w]; rfl)
          refine aw_V0 dX6_atom3_158 cw_X6_183 ⟨_, _, rfl⟩ hM.1 (by omega) ⟨Nat.le_refl _, Nat.le_refl _⟩ (by decide) (c_X6_fail hM hS (fun I9 s9 m9 => ?_))
          refine aw_iload_n dX6_atom3_161 rfl ?_
          refine aw_ireturn (ty := .int) dX6_atom3_162 rfl rfl ?_
          exact hF k (one_els h2 h3 (by omega) (by omega)) _ _ _ s9 m9
        · refine aw_aload_n dX6_atom3_138 rfl rfl ?_
          have h2 : ¬ SS B n k = 2 := fun w => c107 (by rw [hS.2.1.2.1, tk_num.mp w]; rfl)
          refine aw_V0 dX6_atom3_139 cw_X6_218 ⟨_, _, rfl⟩ hM.1 (by omega) ⟨Nat.le_refl _, Nat.le_refl _⟩ (by decide) (c_X6_name (by omega) hM hS (fun h3 => ?_) (fun h3 I9 s9 m9 => ?_))
          · refine aw_istore_n (ls' := [_, _]) dX6_atom3_142 (by decide) rfl rfl ?_
            refine aw_aload_n dX6_atom3_143 rfl rfl ?_
            refine aw_gi dX6_atom3_144 fw_X6_170 hM.1 ?_
            refine aw_if_ne (tgt := 161) dX6_atom3_147 (by decide) (fun zz => absurd hS.2.2.1 zz) (fun c147 => ?_)
            refine aw_aload_n dX6_atom3_150 rfl rfl ?_
            
            refine aw_V0 dX6_atom3_151 cw_X6_186 ⟨_, _, rfl⟩ hM.1 (by omega) ⟨Nat.le_refl _, Nat.le_refl _⟩ (by decide) (c_X6_next (by omega) hM hS (by omega) (by omega) (fun I2 L2 s2 m2 => ?_))
            refine aw_goto (tgt := 161) dX6_atom3_154 (by decide) ?_
            refine aw_iload_n dX6_atom3_161 rfl ?_
            refine aw_ireturn (ty := .int) dX6_atom3_162 rfl rfl ?_
            exact hK _ _ _ (one_nam h3) _ _ s2 m2
          · refine aw_istore_n (ls' := [_, _]) dX6_atom3_142 (by decide) rfl rfl ?_
            refine aw_aload_n dX6_atom3_143 rfl rfl ?_
            refine aw_gi dX6_atom3_144 fw_X6_170 hM.1 ?_
            refine aw_if_ne (tgt := 161) dX6_atom3_147 (by decide) (fun c147 => ?_) (fun zz => absurd zz (by rw [m9.1]; decide))
            refine aw_iload_n dX6_atom3_161 rfl ?_
            refine aw_ireturn (ty := .int) dX6_atom3_162 rfl rfl ?_
            exact hF k (one_els h2 h3 (by omega) (by omega)) _ _ _ s9 m9
      · refine aw_aload_n dX6_atom3_110 rfl rfl ?_
        refine aw_gl dX6_atom3_111 fw_X6_164 hM.1 ?_
        have h2 : SS B n k = 2 := tk_num.mpr (by
          have e := hS.2.1.2.1
          rw [c107] at e
          exact ((nI_eq (a := 2) (by decide) (by have := mk_le B n (plF B n k); omega)).mp e).symm)
        have eL : L 48 27 = lN (VV B n k) := by rw [hS.2.1.2.2.2.1 (tk_num.mp h2)]; exact congrArg lN (tk_val h2).symm
        rw [eL]
        refine aw_l2i dX6_atom3_114 ?_
        rw [lN_i]
        refine aw_istore_n (ls' := [_, _]) dX6_atom3_115 (by decide) rfl rfl ?_
        refine aw_aload_n dX6_atom3_116 rfl rfl ?_
        
        refine aw_V0 dX6_atom3_117 cw_X6_186 ⟨_, _, rfl⟩ hM.1 (by omega) ⟨Nat.le_refl _, Nat.le_refl _⟩ (by decide) (c_X6_next (by omega) hM hS (by omega) (by omega) (fun I2 L2 s2 m2 => ?_))
        refine aw_goto (tgt := 161) dX6_atom3_120 (by decide) ?_
        refine aw_iload_n dX6_atom3_161 rfl ?_
        refine aw_ireturn (ty := .int) dX6_atom3_162 rfl rfl ?_
        exact hK _ _ _ (one_num h2) _ _ s2 m2
theorem l_X6_term3 {E : Ev} {d : Nat} {Z : Mz} {Q : Po} {B : Nat → Int32} {n t : Nat} (hd : 17 ≤ d) (hM : MZ Z) : ∀ (m k : Nat) (c : List Int32) (v : Vl) (x : Int32) (I : Mi) (L : Ml), n ≤ k + m → k ≤ n → MS I L B n t k 3 → x = v (nmI I) → (∀ (k' : Nat) (c' : List Int32) (v' : Vl), lpR (SS B n) (oneR (SS B n) (VV B n) (lvR (SS B n) (VV B n) 2)) jT m k c v = (k', some (c', v')) → ∀ (I9 : Mi) (L9 : Ml), SaQ I I9 → MS I9 L9 B n t k' 3 → Q (some (.int (v' (nmI I)))) I9 L9 Z) → (∀ k' : Nat, lpR (SS B n) (oneR (SS B n) (VV B n) (lvR (SS B n) (VV B n) 2)) jT m k c v = (k', none) → ∀ (rv : Int32) (I9 : Mi) (L9 : Ml), SaQ I I9 → MB I9 (plF B n k') → Q (some (.int rv)) I9 L9 Z) → AW E yX6_term3 cX6_term3 2 (some .int) (rmOf d 0 0) Q 0 0 5 [some (.ref 48), some (.int x)] [] I L Z := by
  intro m
  induction m with
  | zero =>
    intro k c v x I L hm hk hS hx hK hF
    have hz : SS B n k = 0 := by rw [show k = n by omega]; exact (SV_ok B n).1
    refine aw_aload_n dX6_term3_5 rfl rfl ?_
    refine aw_bipush (v := 42) dX6_term3_6 (by decide) ?_
    refine aw_V1 dX6_term3_8 cw_X6_211 ⟨_, _, rfl⟩ hM.1 (by omega) ⟨Nat.le_refl _, Nat.le_refl _⟩ (by decide) (c_X6_isSign_15 hM hS (fun zz => absurd zz (by omega)) (fun c8 => ?_))
    refine aw_if_eq (tgt := 28) dX6_term3_11 (by decide) (fun _ => ?_) (fun zz => absurd zz (by decide))
    refine aw_iload_n dX6_term3_28 rfl ?_
    refine aw_ireturn (ty := .int) dX6_term3_29 rfl rfl ?_
    rw [hx]
    exact hK _ _ _ rfl _ _ SaQ.rf hS
  | succ m ih =>
    intro k c v x I L hm hk hS hx hK hF
    have hJ := fun (J : Nat → Bool) (h : J (SS B n k) = true) => h
    refine aw_aload_n dX6_term3_5 rfl rfl ?_
    refine aw_bipush (v := 42) dX6_term3_6 (by decide) ?_
    refine aw_V1 dX6_term3_8 cw_X6_211 ⟨_, _, rfl⟩ hM.1 (by omega) ⟨Nat.le_refl _, Nat.le_refl _⟩ (by decide) (c_X6_isSign_15 hM hS (fun c8 => ?_) (fun c8 => ?_))
    · refine aw_if_eq (tgt := 28) dX6_term3_11 (by decide) (fun zz => absurd zz (by decide)) (fun _ => ?_)
      refine aw_aload_n dX6_term3_14 rfl rfl ?_
      
      refine aw_V0 dX6_term3_15 cw_X6_186 ⟨_, _, rfl⟩ hM.1 (by omega) ⟨Nat.le_refl _, Nat.le_refl _⟩ (by decide) (c_X6_next (by omega) hM hS (by omega) (by omega) (fun I2 L2 s2 m2 => ?_))
      refine aw_iload_n dX6_term3_18 rfl ?_
      refine aw_aload_n dX6_term3_19 rfl rfl ?_
      refine aw_V0 dX6_term3_20 cw_X6_262 ⟨_, _, rfl⟩ hM.1 (by omega) ⟨Nat.le_refl _, Nat.le_refl _⟩ (by simp [Value.category, psh]) (c_X6_atom3 (by omega) hM m2 (by have := lt_of_S (SV_ok B n).1 hk (by omega); omega) (fun k1 c1 v1 e1 I1 L1 s1 m1 => ?_) (fun k1 e1 rv1 I1 L1 s1 m1 => ?_))
      · refine aw_imul dX6_term3_23 ?_
        refine aw_istore_n (ls' := [_, _]) dX6_term3_24 (by decide) rfl rfl ?_
        refine aw_goto (tgt := 5) dX6_term3_25 (by decide) ?_
        have hkn := lt_of_S (SV_ok B n).1 hk (by omega)
        have ok1 := (all_ok (SV_ok B n) (lv_ok (SV_ok B n) 2)).1 (k + 1) (by omega)
        rw [e1] at ok1
        obtain ⟨b1, b2, b3⟩ := ok1
        simp only at b1 b2
        have b4 := (b3 _ _ rfl).1
        simp only at b4
        have e2 := lp_1 (n := m) (c := c) (v := v) (show jT (SS B n k) = true by rw [c8]; decide) e1
        refine ih k1 (c ++ c1 ++ [stI (SS B n k) 0]) (fun nm => joV (nI (SS B n k)) (v nm) (v1 nm)) _ I1 L1 (by omega) b2 m1 ?_ (fun k' c' v' e I9 L9 s9 m9 => ?_) (fun k' e rv I9 L9 s9 m9 => ?_)
        · rw [nmI_q s1, nmI_q s2, c8, jo15, hx]
        · rw [nmI_q s1, nmI_q s2]; exact hK k' c' v' (e2.trans e) I9 L9 ((s2.tr s1).tr s9) m9
        · exact hF k' (e2.trans e) rv I9 L9 ((s2.tr s1).tr s9) m9
      · refine aw_imul dX6_term3_23 ?_
        refine aw_istore_n (ls' := [_, _]) dX6_term3_24 (by decide) rfl rfl ?_
        refine aw_goto (tgt := 5) dX6_term3_25 (by decide) ?_
        refine aw_aload_n dX6_term3_5 rfl rfl ?_
        refine aw_bipush (v := 42) dX6_term3_6 (by decide) ?_
        refine aw_V1 dX6_term3_8 cw_X6_211 ⟨_, _, rfl⟩ hM.1 (by omega) ⟨Nat.le_refl _, Nat.le_refl _⟩ (by decide) (c_X6_isSignB hM m1 ?_)
        refine aw_if_eq (tgt := 28) dX6_term3_11 (by decide) (fun _ => ?_) (fun zz => absurd zz (by decide))
        refine aw_iload_n dX6_term3_28 rfl ?_
        refine aw_ireturn (ty := .int) dX6_term3_29 rfl rfl ?_
        exact hF _ (lp_0 (show jT (SS B n k) = true by rw [c8]; decide) e1) _ _ _ (s2.tr s1) m1
    · refine aw_if_eq (tgt := 28) dX6_term3_11 (by decide) (fun _ => ?_) (fun zz => absurd zz (by decide))
      refine aw_iload_n dX6_term3_28 rfl ?_
      refine aw_ireturn (ty := .int) dX6_term3_29 rfl rfl ?_
      rw [hx]
      exact hK _ _ _ (lp_z (by simp only [jT, beq_iff_eq]; exact c8)) _ _ SaQ.rf hS
theorem c_X6_term3 {E : Ev} {d : Nat} {I : Mi} {L : Ml} {Z : Mz} {Q : Po}  {B : Nat → Int32} {n t k : Nat} (hd : 17 ≤ d) (hM : MZ Z) (hS : MS I L B n t k 3) (hk : k ≤ n) (hK : ∀ (k' : Nat) (c' : List Int32) (v' : Vl), terR (SS B n) (VV B n) (lvR (SS B n) (VV B n) 2) k = (k', some (c', v')) → ∀ (I9 : Mi) (L9 : Ml), SaQ I I9 → MS I9 L9 B n t k' 3 → Q (some (.int (v' (nmI I)))) I9 L9 Z) (hF : ∀ k' : Nat, terR (SS B n) (VV B n) (lvR (SS B n) (VV B n) 2) k = (k', none) → ∀ (rv : Int32) (I9 : Mi) (L9 : Ml), SaQ I I9 → MB I9 (plF B n k') → Q (some (.int rv)) I9 L9 Z) : AC E yX6_term3 cX6_term3 2 (some .int) d 0 0 [.ref 48] I L Z Q := by
  refine ac_go (ls := [some (.ref 48), none]) (by decide +kernel) (Nat.le_of_ble_eq_true rfl) rfl ?_
  refine aw_aload_n dX6_term3_0 rfl rfl ?_
  refine aw_V0 dX6_term3_1 cw_X6_262 ⟨_, _, rfl⟩ hM.1 (by omega) ⟨Nat.le_refl _, Nat.le_refl _⟩ (by decide) (c_X6_atom3 (by omega) hM hS hk (fun k1 c1 v1 e1 I1 L1 s1 m1 => ?_) (fun k1 e1 rv1 I1 L1 s1 m1 => ?_))
  · refine aw_istore_n (ls' := [_, _]) dX6_term3_4 (by decide) rfl rfl ?_
    have e2 : terR (SS B n) (VV B n) (lvR (SS B n) (VV B n) 2) k = lpR (SS B n) (oneR (SS B n) (VV B n) (lvR (SS B n) (VV B n) 2)) jT 160 k1 c1 v1 := bn_1 e1
    have ok1 := (all_ok (SV_ok B n) (lv_ok (SV_ok B n) 2)).1 k (by omega)
    rw [e1] at ok1
    obtain ⟨b1, b2, b3⟩ := ok1
    simp only at b1 b2
    have hn6 := hS.1.2.2.2.1
    refine l_X6_term3 hd hM 160 k1 c1 v1 _ I1 L1 (by omega) b2 m1 (by rw [nmI_q s1]) (fun k' c' v' e I9 L9 s9 m9 => ?_) (fun k' e rv I9 L9 s9 m9 => ?_)
    · rw [nmI_q s1]; exact hK k' c' v' (e2.trans e) I9 L9 (s1.tr s9) m9
    · exact hF k' (e2.trans e) rv I9 L9 (s1.tr s9) m9
  · refine aw_istore_n (ls' := [_, _]) dX6_term3_4 (by decide) rfl rfl ?_
    refine aw_aload_n dX6_term3_5 rfl rfl ?_
    refine aw_bipush (v := 42) dX6_term3_6 (by decide) ?_
    refine aw_V1 dX6_term3_8 cw_X6_211 ⟨_, _, rfl⟩ hM.1 (by omega) ⟨Nat.le_refl _, Nat.le_refl _⟩ (by decide) (c_X6_isSignB hM m1 ?_)
    refine aw_if_eq (tgt := 28) dX6_term3_11 (by decide) (fun _ => ?_) (fun zz => absurd zz (by decide))
    refine aw_iload_n dX6_term3_28 rfl ?_
    refine aw_ireturn (ty := .int) dX6_term3_29 rfl rfl ?_
    exact hF _ (bn_0 e1) _ _ _ s1 m1
theorem l_X6_added3 {E : Ev} {d : Nat} {Z : Mz} {Q : Po} {B : Nat → Int32} {n t : Nat} (hd : 18 ≤ d) (hM : MZ Z) : ∀ (m k : Nat) (c : List Int32) (v : Vl) (x : Int32) (I : Mi) (L : Ml) (o2 o3 : Option Value), n ≤ k + m → k ≤ n → MS I L B n t k 3 → x = v (nmI I) → (∀ (k' : Nat) (c' : List Int32) (v' : Vl), lpR (SS B n) (terR (SS B n) (VV B n) (lvR (SS B n) (VV B n) 2)) jS m k c v = (k', some (c', v')) → ∀ (I9 : Mi) (L9 : Ml), SaQ I I9 → MS I9 L9 B n t k' 3 → Q (some (.int (v' (nmI I)))) I9 L9 Z) → (∀ k' : Nat, lpR (SS B n) (terR (SS B n) (VV B n) (lvR (SS B n) (VV B n) 2)) jS m k c v = (k', none) → ∀ (rv : Int32) (I9 : Mi) (L9 : Ml), SaQ I I9 → MB I9 (plF B n k') → Q (some (.int rv)) I9 L9 Z) → AW E yX6_added3 cX6_added3 4 (some .int) (rmOf d 0 0) Q 0 0 5 [some (.ref 48), some (.int x), o2, o3] [] I L Z := by
  intro m
  induction m with
  | zero =>
    intro k c v x I L o2 o3 hm hk hS hx hK hF
    have hz : SS B n k = 0 := by rw [show k = n by omega]; exact (SV_ok B n).1
    refine aw_aload_n dX6_added3_5 rfl rfl ?_
    refine aw_bipush (v := 43) dX6_added3_6 (by decide) ?_
    refine aw_V1 dX6_added3_8 cw_X6_211 ⟨_, _, rfl⟩ hM.1 (by omega) ⟨Nat.le_refl _, Nat.le_refl _⟩ (by decide) (c_X6_isSign_13 hM hS (fun zz => absurd zz (by omega)) (fun c8 => ?_))
    refine aw_if_ne (tgt := 23) dX6_added3_11 (by decide) (fun zz => absurd zz (by decide)) (fun _ => ?_)
    refine aw_aload_n dX6_added3_14 rfl rfl ?_
    refine aw_bipush (v := 45) dX6_added3_15 (by decide) ?_
    refine aw_V1 dX6_added3_17 cw_X6_211 ⟨_, _, rfl⟩ hM.1 (by omega) ⟨Nat.le_refl _, Nat.le_refl _⟩ (by decide) (c_X6_isSign_14 hM hS (fun zz => absurd zz (by omega)) (fun c17 => ?_))
    refine aw_if_eq (tgt := 66) dX6_added3_20 (by decide) (fun _ => ?_) (fun zz => absurd zz (by decide))
    refine aw_iload_n dX6_added3_66 rfl ?_
    refine aw_ireturn (ty := .int) dX6_added3_67 rfl rfl ?_
    rw [hx]
    exact hK _ _ _ rfl _ _ SaQ.rf hS
  | succ m ih =>
    intro k c v x I L o2 o3 hm hk hS hx hK hF
    have hJ := fun (J : Nat → Bool) (h : J (SS B n k) = true) => h
    refine aw_aload_n dX6_added3_5 rfl rfl ?_
    refine aw_bipush (v := 43) dX6_added3_6 (by decide) ?_
    refine aw_V1 dX6_added3_8 cw_X6_211 ⟨_, _, rfl⟩ hM.1 (by omega) ⟨Nat.le_refl _, Nat.le_refl _⟩ (by decide) (c_X6_isSign_13 hM hS (fun c8 => ?_) (fun c8 => ?_))
    · refine aw_if_ne (tgt := 23) dX6_added3_11 (by decide) (fun _ => ?_) (fun zz => absurd zz (by decide))
      refine aw_aload_n dX6_added3_23 rfl rfl ?_
      refine aw_gl dX6_added3_24 fw_X6_164 hM.1 ?_
      rw [sw13 hS c8]
      refine aw_ldc2 dX6_added3_27 kw_X6_228 ?_
      refine aw_lcmp dX6_added3_30 ?_
      refine aw_if_ne (tgt := 38) dX6_added3_31 (by decide) (fun zz => absurd (by decide) zz) (fun c31 => ?_)
      refine aw_iconst (v := 1) dX6_added3_34 (by decide) ?_
      refine aw_goto (tgt := 39) dX6_added3_35 (by decide) ?_
      refine aw_istore_n (ls' := [_, _, _, _]) dX6_added3_39 (by decide) rfl rfl ?_
      refine aw_aload_n dX6_added3_40 rfl rfl ?_
      
      refine aw_V0 dX6_added3_41 cw_X6_186 ⟨_, _, rfl⟩ hM.1 (by omega) ⟨Nat.le_refl _, Nat.le_refl _⟩ (by decide) (c_X6_next (by omega) hM hS (by omega) (by omega) (fun I2 L2 s2 m2 => ?_))
      refine aw_aload_n dX6_added3_44 rfl rfl ?_
      refine aw_V0 dX6_added3_45 cw_X6_265 ⟨_, _, rfl⟩ hM.1 (by omega) ⟨Nat.le_refl _, Nat.le_refl _⟩ (by decide) (c_X6_term3 (by omega) hM m2 (by have := lt_of_S (SV_ok B n).1 hk (by omega); omega) (fun k1 c1 v1 e1 I1 L1 s1 m1 => ?_) (fun k1 e1 rv1 I1 L1 s1 m1 => ?_))
      · refine aw_istore_n (ls' := [_, _, _, _]) dX6_added3_48 (by decide) rfl rfl ?_
        refine aw_iload_n dX6_added3_49 rfl ?_
        refine aw_if_eq (tgt := 59) dX6_added3_50 (by decide) (fun zz => absurd zz (by decide)) (fun _ => ?_)
        refine aw_iload_n dX6_added3_53 rfl ?_
        refine aw_iload_n dX6_added3_54 rfl ?_
        refine aw_iadd dX6_added3_55 ?_
        refine aw_goto (tgt := 62) dX6_added3_56 (by decide) ?_
        refine aw_istore_n (ls' := [_, _, _, _]) dX6_added3_62 (by decide) rfl rfl ?_
        refine aw_goto (tgt := 5) dX6_added3_63 (by decide) ?_
        have hkn := lt_of_S (SV_ok B n).1 hk (by omega)
        have ok1 := (all_ok (SV_ok B n) (lv_ok (SV_ok B n) 2)).2.1 (k + 1) (by omega)
        rw [e1] at ok1
        obtain ⟨b1, b2, b3⟩ := ok1
        simp only at b1 b2
        have b4 := (b3 _ _ rfl).1
        simp only at b4
        have e2 := lp_1 (n := m) (c := c) (v := v) (show jS (SS B n k) = true by rw [c8]; decide) e1
        refine ih k1 (c ++ c1 ++ [stI (SS B n k) 0]) (fun nm => joV (nI (SS B n k)) (v nm) (v1 nm)) _ I1 L1 _ _ (by omega) b2 m1 ?_ (fun k' c' v' e I9 L9 s9 m9 => ?_) (fun k' e rv I9 L9 s9 m9 => ?_)
        · rw [nmI_q s1, nmI_q s2, c8, jo13, hx]
        · rw [nmI_q s1, nmI_q s2]; exact hK k' c' v' (e2.trans e) I9 L9 ((s2.tr s1).tr s9) m9
        · exact hF k' (e2.trans e) rv I9 L9 ((s2.tr s1).tr s9) m9
      · refine aw_istore_n (ls' := [_, _, _, _]) dX6_added3_48 (by decide) rfl rfl ?_
        refine aw_iload_n dX6_added3_49 rfl ?_
        refine aw_if_eq (tgt := 59) dX6_added3_50 (by decide) (fun zz => absurd zz (by decide)) (fun _ => ?_)
        refine aw_iload_n dX6_added3_53 rfl ?_
        refine aw_iload_n dX6_added3_54 rfl ?_
        refine aw_iadd dX6_added3_55 ?_
        refine aw_goto (tgt := 62) dX6_added3_56 (by decide) ?_
        refine aw_istore_n (ls' := [_, _, _, _]) dX6_added3_62 (by decide) rfl rfl ?_
        refine aw_goto (tgt := 5) dX6_added3_63 (by decide) ?_
        refine aw_aload_n dX6_added3_5 rfl rfl ?_
        refine aw_bipush (v := 43) dX6_added3_6 (by decide) ?_
        refine aw_V1 dX6_added3_8 cw_X6_211 ⟨_, _, rfl⟩ hM.1 (by omega) ⟨Nat.le_refl _, Nat.le_refl _⟩ (by decide) (c_X6_isSignB hM m1 ?_)
        refine aw_if_ne (tgt := 23) dX6_added3_11 (by decide) (fun zz => absurd zz (by decide)) (fun _ => ?_)
        refine aw_aload_n dX6_added3_14 rfl rfl ?_
        refine aw_bipush (v := 45) dX6_added3_15 (by decide) ?_
        refine aw_V1 dX6_added3_17 cw_X6_211 ⟨_, _, rfl⟩ hM.1 (by omega) ⟨Nat.le_refl _, Nat.le_refl _⟩ (by decide) (c_X6_isSignB hM m1 ?_)
        refine aw_if_eq (tgt := 66) dX6_added3_20 (by decide) (fun _ => ?_) (fun zz => absurd zz (by decide))
        refine aw_iload_n dX6_added3_66 rfl ?_
        refine aw_ireturn (ty := .int) dX6_added3_67 rfl rfl ?_
        exact hF _ (lp_0 (show jS (SS B n k) = true by rw [c8]; decide) e1) _ _ _ (s2.tr s1) m1
    · refine aw_if_ne (tgt := 23) dX6_added3_11 (by decide) (fun zz => absurd zz (by decide)) (fun _ => ?_)
      refine aw_aload_n dX6_added3_14 rfl rfl ?_
      refine aw_bipush (v := 45) dX6_added3_15 (by decide) ?_
      refine aw_V1 dX6_added3_17 cw_X6_211 ⟨_, _, rfl⟩ hM.1 (by omega) ⟨Nat.le_refl _, Nat.le_refl _⟩ (by decide) (c_X6_isSign_14 hM hS (fun c17 => ?_) (fun c17 => ?_))
      · refine aw_if_eq (tgt := 66) dX6_added3_20 (by decide) (fun zz => absurd zz (by decide)) (fun _ => ?_)
        refine aw_aload_n dX6_added3_23 rfl rfl ?_
        refine aw_gl dX6_added3_24 fw_X6_164 hM.1 ?_
        rw [sw14 hS c17]
        refine aw_ldc2 dX6_added3_27 kw_X6_228 ?_
        refine aw_lcmp dX6_added3_30 ?_
        refine aw_if_ne (tgt := 38) dX6_added3_31 (by decide) (fun c31 => ?_) (fun zz => absurd zz (by decide))
        refine aw_iconst (v := 0) dX6_added3_38 (by decide) ?_
        refine aw_istore_n (ls' := [_, _, _, _]) dX6_added3_39 (by decide) rfl rfl ?_
        refine aw_aload_n dX6_added3_40 rfl rfl ?_
        
        refine aw_V0 dX6_added3_41 cw_X6_186 ⟨_, _, rfl⟩ hM.1 (by omega) ⟨Nat.le_refl _, Nat.le_refl _⟩ (by decide) (c_X6_next (by omega) hM hS (by omega) (by omega) (fun I2 L2 s2 m2 => ?_))
        refine aw_aload_n dX6_added3_44 rfl rfl ?_
        refine aw_V0 dX6_added3_45 cw_X6_265 ⟨_, _, rfl⟩ hM.1 (by omega) ⟨Nat.le_refl _, Nat.le_refl _⟩ (by decide) (c_X6_term3 (by omega) hM m2 (by have := lt_of_S (SV_ok B n).1 hk (by omega); omega) (fun k1 c1 v1 e1 I1 L1 s1 m1 => ?_) (fun k1 e1 rv1 I1 L1 s1 m1 => ?_))
        · refine aw_istore_n (ls' := [_, _, _, _]) dX6_added3_48 (by decide) rfl rfl ?_
          refine aw_iload_n dX6_added3_49 rfl ?_
          refine aw_if_eq (tgt := 59) dX6_added3_50 (by decide) (fun _ => ?_) (fun zz => absurd zz (by decide))
          refine aw_iload_n dX6_added3_59 rfl ?_
          refine aw_iload_n dX6_added3_60 rfl ?_
          refine aw_isub dX6_added3_61 ?_
          refine aw_istore_n (ls' := [_, _, _, _]) dX6_added3_62 (by decide) rfl rfl ?_
          refine aw_goto (tgt := 5) dX6_added3_63 (by decide) ?_
          have hkn := lt_of_S (SV_ok B n).1 hk (by omega)
          have ok1 := (all_ok (SV_ok B n) (lv_ok (SV_ok B n) 2)).2.1 (k + 1) (by omega)
          rw [e1] at ok1
          obtain ⟨b1, b2, b3⟩ := ok1
          simp only at b1 b2
          have b4 := (b3 _ _ rfl).1
          simp only at b4
          have e2 := lp_1 (n := m) (c := c) (v := v) (show jS (SS B n k) = true by rw [c17]; decide) e1
          refine ih k1 (c ++ c1 ++ [stI (SS B n k) 0]) (fun nm => joV (nI (SS B n k)) (v nm) (v1 nm)) _ I1 L1 _ _ (by omega) b2 m1 ?_ (fun k' c' v' e I9 L9 s9 m9 => ?_) (fun k' e rv I9 L9 s9 m9 => ?_)
          · rw [nmI_q s1, nmI_q s2, c17, jo14, hx]
          · rw [nmI_q s1, nmI_q s2]; exact hK k' c' v' (e2.trans e) I9 L9 ((s2.tr s1).tr s9) m9
          · exact hF k' (e2.trans e) rv I9 L9 ((s2.tr s1).tr s9) m9
        · refine aw_istore_n (ls' := [_, _, _, _]) dX6_added3_48 (by decide) rfl rfl ?_
          refine aw_iload_n dX6_added3_49 rfl ?_
          refine aw_if_eq (tgt := 59) dX6_added3_50 (by decide) (fun _ => ?_) (fun zz => absurd zz (by decide))
          refine aw_iload_n dX6_added3_59 rfl ?_
          refine aw_iload_n dX6_added3_60 rfl ?_
          refine aw_isub dX6_added3_61 ?_
          refine aw_istore_n (ls' := [_, _, _, _]) dX6_added3_62 (by decide) rfl rfl ?_
          refine aw_goto (tgt := 5) dX6_added3_63 (by decide) ?_
          refine aw_aload_n dX6_added3_5 rfl rfl ?_
          refine aw_bipush (v := 43) dX6_added3_6 (by decide) ?_
          refine aw_V1 dX6_added3_8 cw_X6_211 ⟨_, _, rfl⟩ hM.1 (by omega) ⟨Nat.le_refl _, Nat.le_refl _⟩ (by decide) (c_X6_isSignB hM m1 ?_)
          refine aw_if_ne (tgt := 23) dX6_added3_11 (by decide) (fun zz => absurd zz (by decide)) (fun _ => ?_)
          refine aw_aload_n dX6_added3_14 rfl rfl ?_
          refine aw_bipush (v := 45) dX6_added3_15 (by decide) ?_
          refine aw_V1 dX6_added3_17 cw_X6_211 ⟨_, _, rfl⟩ hM.1 (by omega) ⟨Nat.le_refl _, Nat.le_refl _⟩ (by decide) (c_X6_isSignB hM m1 ?_)
          refine aw_if_eq (tgt := 66) dX6_added3_20 (by decide) (fun _ => ?_) (fun zz => absurd zz (by decide))
          refine aw_iload_n dX6_added3_66 rfl ?_
          refine aw_ireturn (ty := .int) dX6_added3_67 rfl rfl ?_
          exact hF _ (lp_0 (show jS (SS B n k) = true by rw [c17]; decide) e1) _ _ _ (s2.tr s1) m1
      · refine aw_if_eq (tgt := 66) dX6_added3_20 (by decide) (fun _ => ?_) (fun zz => absurd zz (by decide))
        refine aw_iload_n dX6_added3_66 rfl ?_
        refine aw_ireturn (ty := .int) dX6_added3_67 rfl rfl ?_
        rw [hx]
        exact hK _ _ _ (lp_z (by simp only [jS, Bool.or_eq_true, beq_iff_eq]; omega)) _ _ SaQ.rf hS
theorem c_X6_added3 {E : Ev} {d : Nat} {I : Mi} {L : Ml} {Z : Mz} {Q : Po}  {B : Nat → Int32} {n t k : Nat} (hd : 18 ≤ d) (hM : MZ Z) (hS : MS I L B n t k 3) (hk : k ≤ n) (hK : ∀ (k' : Nat) (c' : List Int32) (v' : Vl), sumR (SS B n) (VV B n) (lvR (SS B n) (VV B n) 2) k = (k', some (c', v')) → ∀ (I9 : Mi) (L9 : Ml), SaQ I I9 → MS I9 L9 B n t k' 3 → Q (some (.int (v' (nmI I)))) I9 L9 Z) (hF : ∀ k' : Nat, sumR (SS B n) (VV B n) (lvR (SS B n) (VV B n) 2) k = (k', none) → ∀ (rv : Int32) (I9 : Mi) (L9 : Ml), SaQ I I9 → MB I9 (plF B n k') → Q (some (.int rv)) I9 L9 Z) : AC E yX6_added3 cX6_added3 4 (some .int) d 0 0 [.ref 48] I L Z Q := by
  refine ac_go (ls := [some (.ref 48), none, none, none]) (by decide +kernel) (Nat.le_of_ble_eq_true rfl) rfl ?_
  refine aw_aload_n dX6_added3_0 rfl rfl ?_
  refine aw_V0 dX6_added3_1 cw_X6_265 ⟨_, _, rfl⟩ hM.1 (by omega) ⟨Nat.le_refl _, Nat.le_refl _⟩ (by decide) (c_X6_term3 (by omega) hM hS hk (fun k1 c1 v1 e1 I1 L1 s1 m1 => ?_) (fun k1 e1 rv1 I1 L1 s1 m1 => ?_))
  · refine aw_istore_n (ls' := [_, _, _, _]) dX6_added3_4 (by decide) rfl rfl ?_
    have e2 : sumR (SS B n) (VV B n) (lvR (SS B n) (VV B n) 2) k = lpR (SS B n) (terR (SS B n) (VV B n) (lvR (SS B n) (VV B n) 2)) jS 160 k1 c1 v1 := bn_1 e1
    have ok1 := (all_ok (SV_ok B n) (lv_ok (SV_ok B n) 2)).2.1 k (by omega)
    rw [e1] at ok1
    obtain ⟨b1, b2, b3⟩ := ok1
    simp only at b1 b2
    have hn6 := hS.1.2.2.2.1
    refine l_X6_added3 hd hM 160 k1 c1 v1 _ I1 L1 _ _ (by omega) b2 m1 (by rw [nmI_q s1]) (fun k' c' v' e I9 L9 s9 m9 => ?_) (fun k' e rv I9 L9 s9 m9 => ?_)
    · rw [nmI_q s1]; exact hK k' c' v' (e2.trans e) I9 L9 (s1.tr s9) m9
    · exact hF k' (e2.trans e) rv I9 L9 (s1.tr s9) m9
  · refine aw_istore_n (ls' := [_, _, _, _]) dX6_added3_4 (by decide) rfl rfl ?_
    refine aw_aload_n dX6_added3_5 rfl rfl ?_
    refine aw_bipush (v := 43) dX6_added3_6 (by decide) ?_
    refine aw_V1 dX6_added3_8 cw_X6_211 ⟨_, _, rfl⟩ hM.1 (by omega) ⟨Nat.le_refl _, Nat.le_refl _⟩ (by decide) (c_X6_isSignB hM m1 ?_)
    refine aw_if_ne (tgt := 23) dX6_added3_11 (by decide) (fun zz => absurd zz (by decide)) (fun _ => ?_)
    refine aw_aload_n dX6_added3_14 rfl rfl ?_
    refine aw_bipush (v := 45) dX6_added3_15 (by decide) ?_
    refine aw_V1 dX6_added3_17 cw_X6_211 ⟨_, _, rfl⟩ hM.1 (by omega) ⟨Nat.le_refl _, Nat.le_refl _⟩ (by decide) (c_X6_isSignB hM m1 ?_)
    refine aw_if_eq (tgt := 66) dX6_added3_20 (by decide) (fun _ => ?_) (fun zz => absurd zz (by decide))
    refine aw_iload_n dX6_added3_66 rfl ?_
    refine aw_ireturn (ty := .int) dX6_added3_67 rfl rfl ?_
    exact hF _ (bn_0 e1) _ _ _ s1 m1
theorem c_X6_not3 {E : Ev} {d : Nat} {I : Mi} {L : Ml} {Z : Mz} {Q : Po}  {B : Nat → Int32} {n t k : Nat} (hd : 19 ≤ d) (hM : MZ Z) (hS : MS I L B n t k 3) (hk : k ≤ n) (hK : ∀ (k' : Nat) (c' : List Int32) (v' : Vl), notR (SS B n) (VV B n) (lvR (SS B n) (VV B n) 2) k = (k', some (c', v')) → ∀ (I9 : Mi) (L9 : Ml), SaQ I I9 → MS I9 L9 B n t k' 3 → Q (some (.int (v' (nmI I)))) I9 L9 Z) (hF : ∀ k' : Nat, notR (SS B n) (VV B n) (lvR (SS B n) (VV B n) 2) k = (k', none) → ∀ (rv : Int32) (I9 : Mi) (L9 : Ml), SaQ I I9 → MB I9 (plF B n k') → Q (some (.int rv)) I9 L9 Z) : AC E yX6_not3 cX6_not3 4 (some .int) d 0 0 [.ref 48] I L Z Q := by
  refine ac_go (ls := [some (.ref 48), none, none, none]) (by decide +kernel) (Nat.le_of_ble_eq_true rfl) rfl ?_
  refine aw_aload_n dX6_not3_0 rfl rfl ?_
  refine aw_bipush (v := 110) dX6_not3_1 (by decide) ?_
  refine aw_bipush (v := 111) dX6_not3_3 (by decide) ?_
  refine aw_bipush (v := 116) dX6_not3_5 (by decide) ?_
  refine aw_iconst (v := 0) dX6_not3_7 (by decide) ?_
  refine aw_iconst (v := 0) dX6_not3_8 (by decide) ?_
  refine aw_iconst (v := 0) dX6_not3_9 (by decide) ?_
  refine aw_iconst (v := 0) dX6_not3_10 (by decide) ?_
  refine aw_iconst (v := 0) dX6_not3_11 (by decide) ?_
  refine aw_V8 dX6_not3_12 cw_X6_189 ⟨_, _, rfl⟩ hM.1 (by omega) ⟨Nat.le_refl _, Nat.le_refl _⟩ (by decide) (c_X6_isWord_not (by omega) hM hS (fun c12 => ?_) (fun c12 => ?_))
  · refine aw_if_eq (tgt := 52) dX6_not3_15 (by decide) (fun zz => absurd zz (by decide)) (fun _ => ?_)
    refine aw_aload_n dX6_not3_18 rfl rfl ?_
    have h9 := (wd_S (by decide)).mp c12
    refine aw_V0 dX6_not3_19 cw_X6_214 ⟨_, _, rfl⟩ hM.1 (by omega) ⟨Nat.le_refl _, Nat.le_refl _⟩ (by decide) (c_X6_opens (by omega) hM hS (by decide) (by omega) (by omega) (fun I0 L0 s0 m0 => ?_))
    refine aw_if_ne (tgt := 27) dX6_not3_22 (by decide) (fun _ => ?_) (fun zz => absurd zz (by decide))
    refine aw_aload_n dX6_not3_27 rfl rfl ?_
    refine aw_V0 dX6_not3_28 cw_X6_253 ⟨_, _, rfl⟩ hM.1 (by omega) ⟨Nat.le_refl _, Nat.le_refl _⟩ (by decide) (c_X6_not4 (by omega) hM m0 (by have := lt_of_S (SV_ok B n).1 hk (by omega); omega) (fun k1 c1 v1 e1 I1 L1 s1 m1 => ?_) (fun k1 e1 rv1 I1 L1 s1 m1 => ?_))
    · refine aw_istore_n (ls' := [_, _, _, _]) dX6_not3_31 (by decide) rfl rfl ?_
      refine aw_aload_n dX6_not3_32 rfl rfl ?_
      refine aw_dup dX6_not3_33 rfl ?_
      refine aw_gi dX6_not3_34 fw_X6_180 hM.1 ?_
      refine aw_iconst (v := 1) dX6_not3_37 (by decide) ?_
      refine aw_isub dX6_not3_38 ?_
      rw [m1.2.2.2, nI_pred]
      refine aw_pi dX6_not3_39 fw_X6_180 (ww_X6_180 _) hM.1 rfl ?_
      refine aw_iload_n dX6_not3_42 rfl ?_
      refine aw_if_ne (tgt := 50) dX6_not3_43 (by decide) (fun c43 => ?_) (fun c43 => ?_)
      · refine aw_iconst (v := 0) dX6_not3_50 (by decide) ?_
        refine aw_ireturn (ty := .int) dX6_not3_51 rfl rfl ?_
        have hq := hK _ _ _ (not_1 h9 e1) _ _ (s0.tr s1).op (MS.op m1)
        rw [nmI_q s0] at c43
        first | (rw [if_pos c43] at hq; exact hq) | (rw [if_neg c43] at hq; exact hq)
      · refine aw_iconst (v := 1) dX6_not3_46 (by decide) ?_
        refine aw_goto (tgt := 51) dX6_not3_47 (by decide) ?_
        refine aw_ireturn (ty := .int) dX6_not3_51 rfl rfl ?_
        have hq := hK _ _ _ (not_1 h9 e1) _ _ (s0.tr s1).op (MS.op m1)
        rw [nmI_q s0] at c43
        first | (rw [if_pos c43] at hq; exact hq) | (rw [if_neg c43] at hq; exact hq)
    · refine aw_istore_n (ls' := [_, _, _, _]) dX6_not3_31 (by decide) rfl rfl ?_
      refine aw_aload_n dX6_not3_32 rfl rfl ?_
      refine aw_dup dX6_not3_33 rfl ?_
      refine aw_gi dX6_not3_34 fw_X6_180 hM.1 ?_
      refine aw_iconst (v := 1) dX6_not3_37 (by decide) ?_
      refine aw_isub dX6_not3_38 ?_
      refine aw_pi dX6_not3_39 fw_X6_180 (ww_X6_180 _) hM.1 rfl ?_
      refine aw_iload_n dX6_not3_42 rfl ?_
      refine aw_if_ne (tgt := 50) dX6_not3_43 (by decide) (fun c43 => ?_) (fun c43 => ?_)
      · refine aw_iconst (v := 0) dX6_not3_50 (by decide) ?_
        refine aw_ireturn (ty := .int) dX6_not3_51 rfl rfl ?_
        exact hF _ (not_0 h9 e1) _ _ _ (s0.tr s1).op m1.op
      · refine aw_iconst (v := 1) dX6_not3_46 (by decide) ?_
        refine aw_goto (tgt := 51) dX6_not3_47 (by decide) ?_
        refine aw_ireturn (ty := .int) dX6_not3_51 rfl rfl ?_
        exact hF _ (not_0 h9 e1) _ _ _ (s0.tr s1).op m1.op
  · refine aw_if_eq (tgt := 52) dX6_not3_15 (by decide) (fun _ => ?_) (fun zz => absurd zz (by decide))
    refine aw_aload_n dX6_not3_52 rfl rfl ?_
    have h9 : ¬ SS B n k = 9 := fun w => c12 ((wd_S (by decide)).mpr w)
    refine aw_V0 dX6_not3_53 cw_X6_268 ⟨_, _, rfl⟩ hM.1 (by omega) ⟨Nat.le_refl _, Nat.le_refl _⟩ (by decide) (c_X6_added3 (by omega) hM hS hk (fun k1 c1 v1 e1 I1 L1 s1 m1 => ?_) (fun k1 e1 rv1 I1 L1 s1 m1 => ?_))
    · refine aw_istore_n (ls' := [_, _, _, _]) dX6_not3_56 (by decide) rfl rfl ?_
      have ok1 := (all_ok (SV_ok B n) (lv_ok (SV_ok B n) 2)).2.2.1 k (by omega)
      rw [e1] at ok1
      obtain ⟨b1, b2, b3⟩ := ok1
      simp only at b1 b2
      refine aw_aload_n dX6_not3_57 rfl rfl ?_
      refine aw_bipush (v := 60) dX6_not3_58 (by decide) ?_
      refine aw_V1 dX6_not3_60 cw_X6_211 ⟨_, _, rfl⟩ hM.1 (by omega) ⟨Nat.le_refl _, Nat.le_refl _⟩ (by decide) (c_X6_isSign_16 hM m1 (fun c60 => ?_) (fun c60 => ?_))
      · refine aw_if_ne (tgt := 77) dX6_not3_63 (by decide) (fun _ => ?_) (fun zz => absurd zz (by decide))
        refine aw_aload_n dX6_not3_77 rfl rfl ?_
        refine aw_gl dX6_not3_78 fw_X6_164 hM.1 ?_
        rw [sw16 m1 c60]
        refine aw_ldc2 dX6_not3_81 kw_X6_233 ?_
        refine aw_lcmp dX6_not3_84 ?_
        refine aw_if_ne (tgt := 92) dX6_not3_85 (by decide) (fun zz => absurd (by decide) zz) (fun c85 => ?_)
        refine aw_iconst (v := 1) dX6_not3_88 (by decide) ?_
        refine aw_goto (tgt := 93) dX6_not3_89 (by decide) ?_
        refine aw_istore_n (ls' := [_, _, _, _]) dX6_not3_93 (by decide) rfl rfl ?_
        refine aw_aload_n dX6_not3_94 rfl rfl ?_
        
        refine aw_V0 dX6_not3_95 cw_X6_186 ⟨_, _, rfl⟩ hM.1 (by omega) ⟨Nat.le_refl _, Nat.le_refl _⟩ (by decide) (c_X6_next (by omega) hM m1 (by omega) (by omega) (fun I2 L2 s2 m2 => ?_))
        refine aw_aload_n dX6_not3_98 rfl rfl ?_
        have d16 := c60
        have hk3 := lt_of_S (SV_ok B n).1 b2 (by omega)
        refine aw_V0 dX6_not3_99 cw_X6_268 ⟨_, _, rfl⟩ hM.1 (by omega) ⟨Nat.le_refl _, Nat.le_refl _⟩ (by decide) (c_X6_added3 (by omega) hM m2 (by omega) (fun k3 c3 v3 e3 I3 L3 s3 m3 => ?_) (fun k3 e3 rv3 I3 L3 s3 m3 => ?_))
        · refine aw_istore_n (ls' := [_, _, _, _]) dX6_not3_102 (by decide) rfl rfl ?_
          refine aw_iload_n dX6_not3_103 rfl ?_
          refine aw_if_eq (tgt := 115) dX6_not3_104 (by decide) (fun zz => absurd zz (by decide)) (fun _ => ?_)
          refine aw_iload_n dX6_not3_107 rfl ?_
          refine aw_iload_n dX6_not3_108 rfl ?_
          refine aw_icmp_ge (tgt := 124) dX6_not3_109 (by decide) (fun c109 => ?_) (fun c109 => ?_)
          · refine aw_iconst (v := 0) dX6_not3_124 (by decide) ?_
            refine aw_ireturn (ty := .int) dX6_not3_125 rfl rfl ?_
            have hq := hK _ _ _ ((not_e h9).trans ((bn_1 e1).trans ((lp_1 (show jN (SS B n k1) = true by rw [d16]; decide) e3).trans rfl))) _ _ ((s1.tr s2).tr s3) m3
            simp only [d16, jo16] at hq
            rw [nmI_q s2, nmI_q s1] at c109
            first | (rw [if_pos c109] at hq; exact hq) | (rw [if_neg c109] at hq; exact hq)
          · refine aw_goto (tgt := 120) dX6_not3_112 (by decide) ?_
            refine aw_iconst (v := 1) dX6_not3_120 (by decide) ?_
            refine aw_goto (tgt := 125) dX6_not3_121 (by decide) ?_
            refine aw_ireturn (ty := .int) dX6_not3_125 rfl rfl ?_
            have hq := hK _ _ _ ((not_e h9).trans ((bn_1 e1).trans ((lp_1 (show jN (SS B n k1) = true by rw [d16]; decide) e3).trans rfl))) _ _ ((s1.tr s2).tr s3) m3
            simp only [d16, jo16] at hq
            rw [nmI_q s2, nmI_q s1] at c109
            first | (rw [if_pos c109] at hq; exact hq) | (rw [if_neg c109] at hq; exact hq)
        · refine aw_istore_n (ls' := [_, _, _, _]) dX6_not3_102 (by decide) rfl rfl ?_
          refine aw_iload_n dX6_not3_103 rfl ?_
          refine aw_if_eq (tgt := 115) dX6_not3_104 (by decide) (fun zz => absurd zz (by decide)) (fun _ => ?_)
          refine aw_iload_n dX6_not3_107 rfl ?_
          refine aw_iload_n dX6_not3_108 rfl ?_
          refine aw_icmp_ge (tgt := 124) dX6_not3_109 (by decide) (fun c109 => ?_) (fun c109 => ?_)
          · refine aw_iconst (v := 0) dX6_not3_124 (by decide) ?_
            refine aw_ireturn (ty := .int) dX6_not3_125 rfl rfl ?_
            exact hF _ ((not_e h9).trans ((bn_1 e1).trans (lp_0 (show jN (SS B n k1) = true by rw [d16]; decide) e3))) _ _ _ ((s1.tr s2).tr s3) m3
          · refine aw_goto (tgt := 120) dX6_not3_112 (by decide) ?_
            refine aw_iconst (v := 1) dX6_not3_120 (by decide) ?_
            refine aw_goto (tgt := 125) dX6_not3_121 (by decide) ?_
            refine aw_ireturn (ty := .int) dX6_not3_125 rfl rfl ?_
            exact hF _ ((not_e h9).trans ((bn_1 e1).trans (lp_0 (show jN (SS B n k1) = true by rw [d16]; decide) e3))) _ _ _ ((s1.tr s2).tr s3) m3
      · refine aw_if_ne (tgt := 77) dX6_not3_63 (by decide) (fun zz => absurd zz (by decide)) (fun _ => ?_)
        refine aw_aload_n dX6_not3_66 rfl rfl ?_
        refine aw_bipush (v := 61) dX6_not3_67 (by decide) ?_
        refine aw_V1 dX6_not3_69 cw_X6_211 ⟨_, _, rfl⟩ hM.1 (by omega) ⟨Nat.le_refl _, Nat.le_refl _⟩ (by decide) (c_X6_isSign_17 hM m1 (fun c69 => ?_) (fun c69 => ?_))
        · refine aw_if_ne (tgt := 77) dX6_not3_72 (by decide) (fun _ => ?_) (fun zz => absurd zz (by decide))
          refine aw_aload_n dX6_not3_77 rfl rfl ?_
          refine aw_gl dX6_not3_78 fw_X6_164 hM.1 ?_
          rw [sw17 m1 c69]
          refine aw_ldc2 dX6_not3_81 kw_X6_233 ?_
          refine aw_lcmp dX6_not3_84 ?_
          refine aw_if_ne (tgt := 92) dX6_not3_85 (by decide) (fun c85 => ?_) (fun zz => absurd zz (by decide))
          refine aw_iconst (v := 0) dX6_not3_92 (by decide) ?_
          refine aw_istore_n (ls' := [_, _, _, _]) dX6_not3_93 (by decide) rfl rfl ?_
          refine aw_aload_n dX6_not3_94 rfl rfl ?_
          
          refine aw_V0 dX6_not3_95 cw_X6_186 ⟨_, _, rfl⟩ hM.1 (by omega) ⟨Nat.le_refl _, Nat.le_refl _⟩ (by decide) (c_X6_next (by omega) hM m1 (by omega) (by omega) (fun I2 L2 s2 m2 => ?_))
          refine aw_aload_n dX6_not3_98 rfl rfl ?_
          have d17 := c69
          have hk3 := lt_of_S (SV_ok B n).1 b2 (by omega)
          refine aw_V0 dX6_not3_99 cw_X6_268 ⟨_, _, rfl⟩ hM.1 (by omega) ⟨Nat.le_refl _, Nat.le_refl _⟩ (by decide) (c_X6_added3 (by omega) hM m2 (by omega) (fun k3 c3 v3 e3 I3 L3 s3 m3 => ?_) (fun k3 e3 rv3 I3 L3 s3 m3 => ?_))
          · refine aw_istore_n (ls' := [_, _, _, _]) dX6_not3_102 (by decide) rfl rfl ?_
            refine aw_iload_n dX6_not3_103 rfl ?_
            refine aw_if_eq (tgt := 115) dX6_not3_104 (by decide) (fun _ => ?_) (fun zz => absurd zz (by decide))
            refine aw_iload_n dX6_not3_115 rfl ?_
            refine aw_iload_n dX6_not3_116 rfl ?_
            refine aw_icmp_ne (tgt := 124) dX6_not3_117 (by decide) (fun c117 => ?_) (fun c117 => ?_)
            · refine aw_iconst (v := 0) dX6_not3_124 (by decide) ?_
              refine aw_ireturn (ty := .int) dX6_not3_125 rfl rfl ?_
              have hq := hK _ _ _ ((not_e h9).trans ((bn_1 e1).trans ((lp_1 (show jN (SS B n k1) = true by rw [d17]; decide) e3).trans rfl))) _ _ ((s1.tr s2).tr s3) m3
              simp only [d17, jo17] at hq
              rw [nmI_q s2, nmI_q s1] at c117
              first | (rw [if_pos c117] at hq; exact hq) | (rw [if_neg c117] at hq; exact hq)
            · refine aw_iconst (v := 1) dX6_not3_120 (by decide) ?_
              refine aw_goto (tgt := 125) dX6_not3_121 (by decide) ?_
              refine aw_ireturn (ty := .int) dX6_not3_125 rfl rfl ?_
              have hq := hK _ _ _ ((not_e h9).trans ((bn_1 e1).trans ((lp_1 (show jN (SS B n k1) = true by rw [d17]; decide) e3).trans rfl))) _ _ ((s1.tr s2).tr s3) m3
              simp only [d17, jo17] at hq
              rw [nmI_q s2, nmI_q s1] at c117
              first | (rw [if_pos c117] at hq; exact hq) | (rw [if_neg c117] at hq; exact hq)
          · refine aw_istore_n (ls' := [_, _, _, _]) dX6_not3_102 (by decide) rfl rfl ?_
            refine aw_iload_n dX6_not3_103 rfl ?_
            refine aw_if_eq (tgt := 115) dX6_not3_104 (by decide) (fun _ => ?_) (fun zz => absurd zz (by decide))
            refine aw_iload_n dX6_not3_115 rfl ?_
            refine aw_iload_n dX6_not3_116 rfl ?_
            refine aw_icmp_ne (tgt := 124) dX6_not3_117 (by decide) (fun c117 => ?_) (fun c117 => ?_)
            · refine aw_iconst (v := 0) dX6_not3_124 (by decide) ?_
              refine aw_ireturn (ty := .int) dX6_not3_125 rfl rfl ?_
              exact hF _ ((not_e h9).trans ((bn_1 e1).trans (lp_0 (show jN (SS B n k1) = true by rw [d17]; decide) e3))) _ _ _ ((s1.tr s2).tr s3) m3
            · refine aw_iconst (v := 1) dX6_not3_120 (by decide) ?_
              refine aw_goto (tgt := 125) dX6_not3_121 (by decide) ?_
              refine aw_ireturn (ty := .int) dX6_not3_125 rfl rfl ?_
              exact hF _ ((not_e h9).trans ((bn_1 e1).trans (lp_0 (show jN (SS B n k1) = true by rw [d17]; decide) e3))) _ _ _ ((s1.tr s2).tr s3) m3
        · refine aw_if_ne (tgt := 77) dX6_not3_72 (by decide) (fun zz => absurd zz (by decide)) (fun _ => ?_)
          refine aw_iload_n dX6_not3_75 rfl ?_
          refine aw_ireturn (ty := .int) dX6_not3_76 rfl rfl ?_
          exact hK _ _ _ ((not_e h9).trans ((bn_1 e1).trans (lp_z (by simp only [jN, Bool.or_eq_true, beq_iff_eq]; omega)))) _ _ s1 m1
    · refine aw_istore_n (ls' := [_, _, _, _]) dX6_not3_56 (by decide) rfl rfl ?_
      refine aw_aload_n dX6_not3_57 rfl rfl ?_
      refine aw_bipush (v := 60) dX6_not3_58 (by decide) ?_
      refine aw_V1 dX6_not3_60 cw_X6_211 ⟨_, _, rfl⟩ hM.1 (by omega) ⟨Nat.le_refl _, Nat.le_refl _⟩ (by decide) (c_X6_isSignB hM m1 ?_)
      refine aw_if_ne (tgt := 77) dX6_not3_63 (by decide) (fun zz => absurd zz (by decide)) (fun _ => ?_)
      refine aw_aload_n dX6_not3_66 rfl rfl ?_
      refine aw_bipush (v := 61) dX6_not3_67 (by decide) ?_
      refine aw_V1 dX6_not3_69 cw_X6_211 ⟨_, _, rfl⟩ hM.1 (by omega) ⟨Nat.le_refl _, Nat.le_refl _⟩ (by decide) (c_X6_isSignB hM m1 ?_)
      refine aw_if_ne (tgt := 77) dX6_not3_72 (by decide) (fun zz => absurd zz (by decide)) (fun _ => ?_)
      refine aw_iload_n dX6_not3_75 rfl ?_
      refine aw_ireturn (ty := .int) dX6_not3_76 rfl rfl ?_
      exact hF _ ((not_e h9).trans (bn_0 e1)) _ _ _ s1 m1
theorem l_X6_both3 {E : Ev} {d : Nat} {Z : Mz} {Q : Po} {B : Nat → Int32} {n t : Nat} (hd : 20 ≤ d) (hM : MZ Z) : ∀ (m k : Nat) (c : List Int32) (v : Vl) (x : Int32) (I : Mi) (L : Ml) (o2 : Option Value), n ≤ k + m → k ≤ n → MS I L B n t k 3 → x = v (nmI I) → (∀ (k' : Nat) (c' : List Int32) (v' : Vl), lpR (SS B n) (notR (SS B n) (VV B n) (lvR (SS B n) (VV B n) 2)) jA m k c v = (k', some (c', v')) → ∀ (I9 : Mi) (L9 : Ml), SaQ I I9 → MS I9 L9 B n t k' 3 → Q (some (.int (v' (nmI I)))) I9 L9 Z) → (∀ k' : Nat, lpR (SS B n) (notR (SS B n) (VV B n) (lvR (SS B n) (VV B n) 2)) jA m k c v = (k', none) → ∀ (rv : Int32) (I9 : Mi) (L9 : Ml), SaQ I I9 → MB I9 (plF B n k') → Q (some (.int rv)) I9 L9 Z) → AW E yX6_both3 cX6_both3 3 (some .int) (rmOf d 0 0) Q 0 0 5 [some (.ref 48), some (.int x), o2] [] I L Z := by
  intro m
  induction m with
  | zero =>
    intro k c v x I L o2 hm hk hS hx hK hF
    have hz : SS B n k = 0 := by rw [show k = n by omega]; exact (SV_ok B n).1
    refine aw_aload_n dX6_both3_5 rfl rfl ?_
    refine aw_bipush (v := 97) dX6_both3_6 (by decide) ?_
    refine aw_bipush (v := 110) dX6_both3_8 (by decide) ?_
    refine aw_bipush (v := 100) dX6_both3_10 (by decide) ?_
    refine aw_iconst (v := 0) dX6_both3_12 (by decide) ?_
    refine aw_iconst (v := 0) dX6_both3_13 (by decide) ?_
    refine aw_iconst (v := 0) dX6_both3_14 (by decide) ?_
    refine aw_iconst (v := 0) dX6_both3_15 (by decide) ?_
    refine aw_iconst (v := 0) dX6_both3_16 (by decide) ?_
    refine aw_V8 dX6_both3_17 cw_X6_189 ⟨_, _, rfl⟩ hM.1 (by omega) ⟨Nat.le_refl _, Nat.le_refl _⟩ (by decide) (c_X6_isWord_and (by omega) hM hS (fun zz => absurd zz (fun w => absurd ((wd_S (by decide)).mp w) (by omega))) (fun c17 => ?_))
    refine aw_if_eq (tgt := 49) dX6_both3_20 (by decide) (fun _ => ?_) (fun zz => absurd zz (by decide))
    refine aw_iload_n dX6_both3_49 rfl ?_
    refine aw_ireturn (ty := .int) dX6_both3_50 rfl rfl ?_
    rw [hx]
    exact hK _ _ _ rfl _ _ SaQ.rf hS
  | succ m ih =>
    intro k c v x I L o2 hm hk hS hx hK hF
    have hJ := fun (J : Nat → Bool) (h : J (SS B n k) = true) => h
    refine aw_aload_n dX6_both3_5 rfl rfl ?_
    refine aw_bipush (v := 97) dX6_both3_6 (by decide) ?_
    refine aw_bipush (v := 110) dX6_both3_8 (by decide) ?_
    refine aw_bipush (v := 100) dX6_both3_10 (by decide) ?_
    refine aw_iconst (v := 0) dX6_both3_12 (by decide) ?_
    refine aw_iconst (v := 0) dX6_both3_13 (by decide) ?_
    refine aw_iconst (v := 0) dX6_both3_14 (by decide) ?_
    refine aw_iconst (v := 0) dX6_both3_15 (by decide) ?_
    refine aw_iconst (v := 0) dX6_both3_16 (by decide) ?_
    refine aw_V8 dX6_both3_17 cw_X6_189 ⟨_, _, rfl⟩ hM.1 (by omega) ⟨Nat.le_refl _, Nat.le_refl _⟩ (by decide) (c_X6_isWord_and (by omega) hM hS (fun c17 => ?_) (fun c17 => ?_))
    · refine aw_if_eq (tgt := 49) dX6_both3_20 (by decide) (fun zz => absurd zz (by decide)) (fun _ => ?_)
      refine aw_aload_n dX6_both3_23 rfl rfl ?_
      have hs8 : SS B n k = 8 := (wd_S (by decide)).mp c17
      refine aw_V0 dX6_both3_24 cw_X6_186 ⟨_, _, rfl⟩ hM.1 (by omega) ⟨Nat.le_refl _, Nat.le_refl _⟩ (by decide) (c_X6_next (by omega) hM hS (by omega) (by omega) (fun I2 L2 s2 m2 => ?_))
      refine aw_aload_n dX6_both3_27 rfl rfl ?_
      refine aw_V0 dX6_both3_28 cw_X6_271 ⟨_, _, rfl⟩ hM.1 (by omega) ⟨Nat.le_refl _, Nat.le_refl _⟩ (by decide) (c_X6_not3 (by omega) hM m2 (by have := lt_of_S (SV_ok B n).1 hk (by omega); omega) (fun k1 c1 v1 e1 I1 L1 s1 m1 => ?_) (fun k1 e1 rv1 I1 L1 s1 m1 => ?_))
      · refine aw_istore_n (ls' := [_, _, _]) dX6_both3_31 (by decide) rfl rfl ?_
        refine aw_iload_n dX6_both3_32 rfl ?_
        refine aw_if_eq (tgt := 44) dX6_both3_33 (by decide) (fun c33 => ?_) (fun c33 => ?_)
        · refine aw_iconst (v := 0) dX6_both3_44 (by decide) ?_
          refine aw_istore_n (ls' := [_, _, _]) dX6_both3_45 (by decide) rfl rfl ?_
          refine aw_goto (tgt := 5) dX6_both3_46 (by decide) ?_
          have hkn := lt_of_S (SV_ok B n).1 hk (by omega)
          have ok1 := (all_ok (SV_ok B n) (lv_ok (SV_ok B n) 2)).2.2.2.1 (k + 1) (by omega)
          rw [e1] at ok1
          obtain ⟨b1, b2, b3⟩ := ok1
          simp only at b1 b2
          have b4 := (b3 _ _ rfl).1
          simp only at b4
          have e2 := lp_1 (n := m) (c := c) (v := v) (show jA (SS B n k) = true by rw [hs8]; decide) e1
          refine ih k1 (c ++ c1 ++ [stI (SS B n k) 0]) (fun nm => joV (nI (SS B n k)) (v nm) (v1 nm)) _ I1 L1 _ (by omega) b2 m1 ?_ (fun k' c' v' e I9 L9 s9 m9 => ?_) (fun k' e rv I9 L9 s9 m9 => ?_)
          · rw [nmI_q s1, nmI_q s2, hs8, jo8, ← hx]
            simp only [c33, not_true_eq_false, not_false_eq_true, and_true, true_and, and_false, false_and, or_true, true_or, or_false, false_or, ite_true, ite_false, if_true, if_false, reduceIte, and_self, or_self]
          · rw [nmI_q s1, nmI_q s2]; exact hK k' c' v' (e2.trans e) I9 L9 ((s2.tr s1).tr s9) m9
          · exact hF k' (e2.trans e) rv I9 L9 ((s2.tr s1).tr s9) m9
        · refine aw_iload_n dX6_both3_36 rfl ?_
          refine aw_if_eq (tgt := 44) dX6_both3_37 (by decide) (fun c37 => ?_) (fun c37 => ?_)
          · refine aw_iconst (v := 0) dX6_both3_44 (by decide) ?_
            refine aw_istore_n (ls' := [_, _, _]) dX6_both3_45 (by decide) rfl rfl ?_
            refine aw_goto (tgt := 5) dX6_both3_46 (by decide) ?_
            have hkn := lt_of_S (SV_ok B n).1 hk (by omega)
            have ok1 := (all_ok (SV_ok B n) (lv_ok (SV_ok B n) 2)).2.2.2.1 (k + 1) (by omega)
            rw [e1] at ok1
            obtain ⟨b1, b2, b3⟩ := ok1
            simp only at b1 b2
            have b4 := (b3 _ _ rfl).1
            simp only at b4
            have e2 := lp_1 (n := m) (c := c) (v := v) (show jA (SS B n k) = true by rw [hs8]; decide) e1
            refine ih k1 (c ++ c1 ++ [stI (SS B n k) 0]) (fun nm => joV (nI (SS B n k)) (v nm) (v1 nm)) _ I1 L1 _ (by omega) b2 m1 ?_ (fun k' c' v' e I9 L9 s9 m9 => ?_) (fun k' e rv I9 L9 s9 m9 => ?_)
            · rw [nmI_q s1, nmI_q s2, hs8, jo8, ← hx]
              rw [nmI_q s2] at c37
              simp only [c33, c37, not_true_eq_false, not_false_eq_true, and_true, true_and, and_false, false_and, or_true, true_or, or_false, false_or, ite_true, ite_false, if_true, if_false, reduceIte, and_self, or_self]
            · rw [nmI_q s1, nmI_q s2]; exact hK k' c' v' (e2.trans e) I9 L9 ((s2.tr s1).tr s9) m9
            · exact hF k' (e2.trans e) rv I9 L9 ((s2.tr s1).tr s9) m9
          · refine aw_iconst (v := 1) dX6_both3_40 (by decide) ?_
            refine aw_goto (tgt := 45) dX6_both3_41 (by decide) ?_
            refine aw_istore_n (ls' := [_, _, _]) dX6_both3_45 (by decide) rfl rfl ?_
            refine aw_goto (tgt := 5) dX6_both3_46 (by decide) ?_
            have hkn := lt_of_S (SV_ok B n).1 hk (by omega)
            have ok1 := (all_ok (SV_ok B n) (lv_ok (SV_ok B n) 2)).2.2.2.1 (k + 1) (by omega)
            rw [e1] at ok1
            obtain ⟨b1, b2, b3⟩ := ok1
            simp only at b1 b2
            have b4 := (b3 _ _ rfl).1
            simp only at b4
            have e2 := lp_1 (n := m) (c := c) (v := v) (show jA (SS B n k) = true by rw [hs8]; decide) e1
            refine ih k1 (c ++ c1 ++ [stI (SS B n k) 0]) (fun nm => joV (nI (SS B n k)) (v nm) (v1 nm)) _ I1 L1 _ (by omega) b2 m1 ?_ (fun k' c' v' e I9 L9 s9 m9 => ?_) (fun k' e rv I9 L9 s9 m9 => ?_)
            · rw [nmI_q s1, nmI_q s2, hs8, jo8, ← hx]
              rw [nmI_q s2] at c37
              simp only [c33, c37, not_true_eq_false, not_false_eq_true, and_true, true_and, and_false, false_and, or_true, true_or, or_false, false_or, ite_true, ite_false, if_true, if_false, reduceIte, and_self, or_self]
            · rw [nmI_q s1, nmI_q s2]; exact hK k' c' v' (e2.trans e) I9 L9 ((s2.tr s1).tr s9) m9
            · exact hF k' (e2.trans e) rv I9 L9 ((s2.tr s1).tr s9) m9
      · refine aw_istore_n (ls' := [_, _, _]) dX6_both3_31 (by decide) rfl rfl ?_
        refine aw_iload_n dX6_both3_32 rfl ?_
        refine aw_if_eq (tgt := 44) dX6_both3_33 (by decide) (fun c33 => ?_) (fun c33 => ?_)
        · refine aw_iconst (v := 0) dX6_both3_44 (by decide) ?_
          refine aw_istore_n (ls' := [_, _, _]) dX6_both3_45 (by decide) rfl rfl ?_
          refine aw_goto (tgt := 5) dX6_both3_46 (by decide) ?_
          refine aw_aload_n dX6_both3_5 rfl rfl ?_
          refine aw_bipush (v := 97) dX6_both3_6 (by decide) ?_
          refine aw_bipush (v := 110) dX6_both3_8 (by decide) ?_
          refine aw_bipush (v := 100) dX6_both3_10 (by decide) ?_
          refine aw_iconst (v := 0) dX6_both3_12 (by decide) ?_
          refine aw_iconst (v := 0) dX6_both3_13 (by decide) ?_
          refine aw_iconst (v := 0) dX6_both3_14 (by decide) ?_
          refine aw_iconst (v := 0) dX6_both3_15 (by decide) ?_
          refine aw_iconst (v := 0) dX6_both3_16 (by decide) ?_
          refine aw_V8 dX6_both3_17 cw_X6_189 ⟨_, _, rfl⟩ hM.1 (by omega) ⟨Nat.le_refl _, Nat.le_refl _⟩ (by decide) (c_X6_isWordB (by omega) hM m1 ?_)
          refine aw_if_eq (tgt := 49) dX6_both3_20 (by decide) (fun _ => ?_) (fun zz => absurd zz (by decide))
          refine aw_iload_n dX6_both3_49 rfl ?_
          refine aw_ireturn (ty := .int) dX6_both3_50 rfl rfl ?_
          exact hF _ (lp_0 (show jA (SS B n k) = true by rw [hs8]; decide) e1) _ _ _ (s2.tr s1) m1
        · refine aw_iload_n dX6_both3_36 rfl ?_
          refine aw_if_eq (tgt := 44) dX6_both3_37 (by decide) (fun c37 => ?_) (fun c37 => ?_)
          · refine aw_iconst (v := 0) dX6_both3_44 (by decide) ?_
            refine aw_istore_n (ls' := [_, _, _]) dX6_both3_45 (by decide) rfl rfl ?_
            refine aw_goto (tgt := 5) dX6_both3_46 (by decide) ?_
            refine aw_aload_n dX6_both3_5 rfl rfl ?_
            refine aw_bipush (v := 97) dX6_both3_6 (by decide) ?_
            refine aw_bipush (v := 110) dX6_both3_8 (by decide) ?_
            refine aw_bipush (v := 100) dX6_both3_10 (by decide) ?_
            refine aw_iconst (v := 0) dX6_both3_12 (by decide) ?_
            refine aw_iconst (v := 0) dX6_both3_13 (by decide) ?_
            refine aw_iconst (v := 0) dX6_both3_14 (by decide) ?_
            refine aw_iconst (v := 0) dX6_both3_15 (by decide) ?_
            refine aw_iconst (v := 0) dX6_both3_16 (by decide) ?_
            refine aw_V8 dX6_both3_17 cw_X6_189 ⟨_, _, rfl⟩ hM.1 (by omega) ⟨Nat.le_refl _, Nat.le_refl _⟩ (by decide) (c_X6_isWordB (by omega) hM m1 ?_)
            refine aw_if_eq (tgt := 49) dX6_both3_20 (by decide) (fun _ => ?_) (fun zz => absurd zz (by decide))
            refine aw_iload_n dX6_both3_49 rfl ?_
            refine aw_ireturn (ty := .int) dX6_both3_50 rfl rfl ?_
            exact hF _ (lp_0 (show jA (SS B n k) = true by rw [hs8]; decide) e1) _ _ _ (s2.tr s1) m1
          · refine aw_iconst (v := 1) dX6_both3_40 (by decide) ?_
            refine aw_goto (tgt := 45) dX6_both3_41 (by decide) ?_
            refine aw_istore_n (ls' := [_, _, _]) dX6_both3_45 (by decide) rfl rfl ?_
            refine aw_goto (tgt := 5) dX6_both3_46 (by decide) ?_
            refine aw_aload_n dX6_both3_5 rfl rfl ?_
            refine aw_bipush (v := 97) dX6_both3_6 (by decide) ?_
            refine aw_bipush (v := 110) dX6_both3_8 (by decide) ?_
            refine aw_bipush (v := 100) dX6_both3_10 (by decide) ?_
            refine aw_iconst (v := 0) dX6_both3_12 (by decide) ?_
            refine aw_iconst (v := 0) dX6_both3_13 (by decide) ?_
            refine aw_iconst (v := 0) dX6_both3_14 (by decide) ?_
            refine aw_iconst (v := 0) dX6_both3_15 (by decide) ?_
            refine aw_iconst (v := 0) dX6_both3_16 (by decide) ?_
            refine aw_V8 dX6_both3_17 cw_X6_189 ⟨_, _, rfl⟩ hM.1 (by omega) ⟨Nat.le_refl _, Nat.le_refl _⟩ (by decide) (c_X6_isWordB (by omega) hM m1 ?_)
            refine aw_if_eq (tgt := 49) dX6_both3_20 (by decide) (fun _ => ?_) (fun zz => absurd zz (by decide))
            refine aw_iload_n dX6_both3_49 rfl ?_
            refine aw_ireturn (ty := .int) dX6_both3_50 rfl rfl ?_
            exact hF _ (lp_0 (show jA (SS B n k) = true by rw [hs8]; decide) e1) _ _ _ (s2.tr s1) m1
    · refine aw_if_eq (tgt := 49) dX6_both3_20 (by decide) (fun _ => ?_) (fun zz => absurd zz (by decide))
      refine aw_iload_n dX6_both3_49 rfl ?_
      refine aw_ireturn (ty := .int) dX6_both3_50 rfl rfl ?_
      rw [hx]
      exact hK _ _ _ (lp_z (by simp only [jA, beq_iff_eq]; exact fun w => c17 ((wd_S (by decide)).mpr w))) _ _ SaQ.rf hS
theorem c_X6_both3 {E : Ev} {d : Nat} {I : Mi} {L : Ml} {Z : Mz} {Q : Po}  {B : Nat → Int32} {n t k : Nat} (hd : 20 ≤ d) (hM : MZ Z) (hS : MS I L B n t k 3) (hk : k ≤ n) (hK : ∀ (k' : Nat) (c' : List Int32) (v' : Vl), andR (SS B n) (VV B n) (lvR (SS B n) (VV B n) 2) k = (k', some (c', v')) → ∀ (I9 : Mi) (L9 : Ml), SaQ I I9 → MS I9 L9 B n t k' 3 → Q (some (.int (v' (nmI I)))) I9 L9 Z) (hF : ∀ k' : Nat, andR (SS B n) (VV B n) (lvR (SS B n) (VV B n) 2) k = (k', none) → ∀ (rv : Int32) (I9 : Mi) (L9 : Ml), SaQ I I9 → MB I9 (plF B n k') → Q (some (.int rv)) I9 L9 Z) : AC E yX6_both3 cX6_both3 3 (some .int) d 0 0 [.ref 48] I L Z Q := by
  refine ac_go (ls := [some (.ref 48), none, none]) (by decide +kernel) (Nat.le_of_ble_eq_true rfl) rfl ?_
  refine aw_aload_n dX6_both3_0 rfl rfl ?_
  refine aw_V0 dX6_both3_1 cw_X6_271 ⟨_, _, rfl⟩ hM.1 (by omega) ⟨Nat.le_refl _, Nat.le_refl _⟩ (by decide) (c_X6_not3 (by omega) hM hS hk (fun k1 c1 v1 e1 I1 L1 s1 m1 => ?_) (fun k1 e1 rv1 I1 L1 s1 m1 => ?_))
  · refine aw_istore_n (ls' := [_, _, _]) dX6_both3_4 (by decide) rfl rfl ?_
    have e2 : andR (SS B n) (VV B n) (lvR (SS B n) (VV B n) 2) k = lpR (SS B n) (notR (SS B n) (VV B n) (lvR (SS B n) (VV B n) 2)) jA 160 k1 c1 v1 := bn_1 e1
    have ok1 := (all_ok (SV_ok B n) (lv_ok (SV_ok B n) 2)).2.2.2.1 k (by omega)
    rw [e1] at ok1
    obtain ⟨b1, b2, b3⟩ := ok1
    simp only at b1 b2
    have hn6 := hS.1.2.2.2.1
    refine l_X6_both3 hd hM 160 k1 c1 v1 _ I1 L1 _ (by omega) b2 m1 (by rw [nmI_q s1]) (fun k' c' v' e I9 L9 s9 m9 => ?_) (fun k' e rv I9 L9 s9 m9 => ?_)
    · rw [nmI_q s1]; exact hK k' c' v' (e2.trans e) I9 L9 (s1.tr s9) m9
    · exact hF k' (e2.trans e) rv I9 L9 (s1.tr s9) m9
  · refine aw_istore_n (ls' := [_, _, _]) dX6_both3_4 (by decide) rfl rfl ?_
    refine aw_aload_n dX6_both3_5 rfl rfl ?_
    refine aw_bipush (v := 97) dX6_both3_6 (by decide) ?_
    refine aw_bipush (v := 110) dX6_both3_8 (by decide) ?_
    refine aw_bipush (v := 100) dX6_both3_10 (by decide) ?_
    refine aw_iconst (v := 0) dX6_both3_12 (by decide) ?_
    refine aw_iconst (v := 0) dX6_both3_13 (by decide) ?_
    refine aw_iconst (v := 0) dX6_both3_14 (by decide) ?_
    refine aw_iconst (v := 0) dX6_both3_15 (by decide) ?_
    refine aw_iconst (v := 0) dX6_both3_16 (by decide) ?_
    refine aw_V8 dX6_both3_17 cw_X6_189 ⟨_, _, rfl⟩ hM.1 (by omega) ⟨Nat.le_refl _, Nat.le_refl _⟩ (by decide) (c_X6_isWordB (by omega) hM m1 ?_)
    refine aw_if_eq (tgt := 49) dX6_both3_20 (by decide) (fun _ => ?_) (fun zz => absurd zz (by decide))
    refine aw_iload_n dX6_both3_49 rfl ?_
    refine aw_ireturn (ty := .int) dX6_both3_50 rfl rfl ?_
    exact hF _ (bn_0 e1) _ _ _ s1 m1
theorem l_X6_either3 {E : Ev} {d : Nat} {Z : Mz} {Q : Po} {B : Nat → Int32} {n t : Nat} (hd : 21 ≤ d) (hM : MZ Z) : ∀ (m k : Nat) (c : List Int32) (v : Vl) (x : Int32) (I : Mi) (L : Ml) (o2 : Option Value), n ≤ k + m → k ≤ n → MS I L B n t k 3 → x = v (nmI I) → (∀ (k' : Nat) (c' : List Int32) (v' : Vl), lpR (SS B n) (andR (SS B n) (VV B n) (lvR (SS B n) (VV B n) 2)) jO m k c v = (k', some (c', v')) → ∀ (I9 : Mi) (L9 : Ml), SaQ I I9 → MS I9 L9 B n t k' 3 → Q (some (.int (v' (nmI I)))) I9 L9 Z) → (∀ k' : Nat, lpR (SS B n) (andR (SS B n) (VV B n) (lvR (SS B n) (VV B n) 2)) jO m k c v = (k', none) → ∀ (rv : Int32) (I9 : Mi) (L9 : Ml), SaQ I I9 → MB I9 (plF B n k') → Q (some (.int rv)) I9 L9 Z) → AW E yX6_either3 cX6_either3 3 (some .int) (rmOf d 0 0) Q 0 0 5 [some (.ref 48), some (.int x), o2] [] I L Z := by
  intro m
  induction m with
  | zero =>
    intro k c v x I L o2 hm hk hS hx hK hF
    have hz : SS B n k = 0 := by rw [show k = n by omega]; exact (SV_ok B n).1
    refine aw_aload_n dX6_either3_5 rfl rfl ?_
    refine aw_bipush (v := 111) dX6_either3_6 (by decide) ?_
    refine aw_bipush (v := 114) dX6_either3_8 (by decide) ?_
    refine aw_iconst (v := 0) dX6_either3_10 (by decide) ?_
    refine aw_iconst (v := 0) dX6_either3_11 (by decide) ?_
    refine aw_iconst (v := 0) dX6_either3_12 (by decide) ?_
    refine aw_iconst (v := 0) dX6_either3_13 (by decide) ?_
    refine aw_iconst (v := 0) dX6_either3_14 (by decide) ?_
    refine aw_iconst (v := 0) dX6_either3_15 (by decide) ?_
    refine aw_V8 dX6_either3_16 cw_X6_189 ⟨_, _, rfl⟩ hM.1 (by omega) ⟨Nat.le_refl _, Nat.le_refl _⟩ (by decide) (c_X6_isWord_or (by omega) hM hS (fun zz => absurd zz (fun w => absurd ((wd_S (by decide)).mp w) (by omega))) (fun c16 => ?_))
    refine aw_if_eq (tgt := 48) dX6_either3_19 (by decide) (fun _ => ?_) (fun zz => absurd zz (by decide))
    refine aw_iload_n dX6_either3_48 rfl ?_
    refine aw_ireturn (ty := .int) dX6_either3_49 rfl rfl ?_
    rw [hx]
    exact hK _ _ _ rfl _ _ SaQ.rf hS
  | succ m ih =>
    intro k c v x I L o2 hm hk hS hx hK hF
    have hJ := fun (J : Nat → Bool) (h : J (SS B n k) = true) => h
    refine aw_aload_n dX6_either3_5 rfl rfl ?_
    refine aw_bipush (v := 111) dX6_either3_6 (by decide) ?_
    refine aw_bipush (v := 114) dX6_either3_8 (by decide) ?_
    refine aw_iconst (v := 0) dX6_either3_10 (by decide) ?_
    refine aw_iconst (v := 0) dX6_either3_11 (by decide) ?_
    refine aw_iconst (v := 0) dX6_either3_12 (by decide) ?_
    refine aw_iconst (v := 0) dX6_either3_13 (by decide) ?_
    refine aw_iconst (v := 0) dX6_either3_14 (by decide) ?_
    refine aw_iconst (v := 0) dX6_either3_15 (by decide) ?_
    refine aw_V8 dX6_either3_16 cw_X6_189 ⟨_, _, rfl⟩ hM.1 (by omega) ⟨Nat.le_refl _, Nat.le_refl _⟩ (by decide) (c_X6_isWord_or (by omega) hM hS (fun c16 => ?_) (fun c16 => ?_))
    · refine aw_if_eq (tgt := 48) dX6_either3_19 (by decide) (fun zz => absurd zz (by decide)) (fun _ => ?_)
      refine aw_aload_n dX6_either3_22 rfl rfl ?_
      have hs8 : SS B n k = 7 := (wd_S (by decide)).mp c16
      refine aw_V0 dX6_either3_23 cw_X6_186 ⟨_, _, rfl⟩ hM.1 (by omega) ⟨Nat.le_refl _, Nat.le_refl _⟩ (by decide) (c_X6_next (by omega) hM hS (by omega) (by omega) (fun I2 L2 s2 m2 => ?_))
      refine aw_aload_n dX6_either3_26 rfl rfl ?_
      refine aw_V0 dX6_either3_27 cw_X6_274 ⟨_, _, rfl⟩ hM.1 (by omega) ⟨Nat.le_refl _, Nat.le_refl _⟩ (by decide) (c_X6_both3 (by omega) hM m2 (by have := lt_of_S (SV_ok B n).1 hk (by omega); omega) (fun k1 c1 v1 e1 I1 L1 s1 m1 => ?_) (fun k1 e1 rv1 I1 L1 s1 m1 => ?_))
      · refine aw_istore_n (ls' := [_, _, _]) dX6_either3_30 (by decide) rfl rfl ?_
        refine aw_iload_n dX6_either3_31 rfl ?_
        refine aw_if_ne (tgt := 39) dX6_either3_32 (by decide) (fun c32 => ?_) (fun c32 => ?_)
        · refine aw_iconst (v := 1) dX6_either3_39 (by decide) ?_
          refine aw_goto (tgt := 44) dX6_either3_40 (by decide) ?_
          refine aw_istore_n (ls' := [_, _, _]) dX6_either3_44 (by decide) rfl rfl ?_
          refine aw_goto (tgt := 5) dX6_either3_45 (by decide) ?_
          have hkn := lt_of_S (SV_ok B n).1 hk (by omega)
          have ok1 := (all_ok (SV_ok B n) (lv_ok (SV_ok B n) 2)).2.2.2.2.1 (k + 1) (by omega)
          rw [e1] at ok1
          obtain ⟨b1, b2, b3⟩ := ok1
          simp only at b1 b2
          have b4 := (b3 _ _ rfl).1
          simp only at b4
          have e2 := lp_1 (n := m) (c := c) (v := v) (show jO (SS B n k) = true by rw [hs8]; decide) e1
          refine ih k1 (c ++ c1 ++ [stI (SS B n k) 0]) (fun nm => joV (nI (SS B n k)) (v nm) (v1 nm)) _ I1 L1 _ (by omega) b2 m1 ?_ (fun k' c' v' e I9 L9 s9 m9 => ?_) (fun k' e rv I9 L9 s9 m9 => ?_)
          · rw [nmI_q s1, nmI_q s2, hs8, jo7, ← hx]
            simp only [c32, not_true_eq_false, not_false_eq_true, and_true, true_and, and_false, false_and, or_true, true_or, or_false, false_or, ite_true, ite_false, if_true, if_false, reduceIte, and_self, or_self]
          · rw [nmI_q s1, nmI_q s2]; exact hK k' c' v' (e2.trans e) I9 L9 ((s2.tr s1).tr s9) m9
          · exact hF k' (e2.trans e) rv I9 L9 ((s2.tr s1).tr s9) m9
        · refine aw_iload_n dX6_either3_35 rfl ?_
          refine aw_if_eq (tgt := 43) dX6_either3_36 (by decide) (fun c36 => ?_) (fun c36 => ?_)
          · refine aw_iconst (v := 0) dX6_either3_43 (by decide) ?_
            refine aw_istore_n (ls' := [_, _, _]) dX6_either3_44 (by decide) rfl rfl ?_
            refine aw_goto (tgt := 5) dX6_either3_45 (by decide) ?_
            have hkn := lt_of_S (SV_ok B n).1 hk (by omega)
            have ok1 := (all_ok (SV_ok B n) (lv_ok (SV_ok B n) 2)).2.2.2.2.1 (k + 1) (by omega)
            rw [e1] at ok1
            obtain ⟨b1, b2, b3⟩ := ok1
            simp only at b1 b2
            have b4 := (b3 _ _ rfl).1
            simp only at b4
            have e2 := lp_1 (n := m) (c := c) (v := v) (show jO (SS B n k) = true by rw [hs8]; decide) e1
            refine ih k1 (c ++ c1 ++ [stI (SS B n k) 0]) (fun nm => joV (nI (SS B n k)) (v nm) (v1 nm)) _ I1 L1 _ (by omega) b2 m1 ?_ (fun k' c' v' e I9 L9 s9 m9 => ?_) (fun k' e rv I9 L9 s9 m9 => ?_)
            · rw [nmI_q s1, nmI_q s2, hs8, jo7, ← hx]
              rw [nmI_q s2] at c36
              simp only [c32, c36, not_true_eq_false, not_false_eq_true, and_true, true_and, and_false, false_and, or_true, true_or, or_false, false_or, ite_true, ite_false, if_true, if_false, reduceIte, and_self, or_self]
            · rw [nmI_q s1, nmI_q s2]; exact hK k' c' v' (e2.trans e) I9 L9 ((s2.tr s1).tr s9) m9
            · exact hF k' (e2.trans e) rv I9 L9 ((s2.tr s1).tr s9) m9
          · refine aw_iconst (v := 1) dX6_either3_39 (by decide) ?_
            refine aw_goto (tgt := 44) dX6_either3_40 (by decide) ?_
            refine aw_istore_n (ls' := [_, _, _]) dX6_either3_44 (by decide) rfl rfl ?_
            refine aw_goto (tgt := 5) dX6_either3_45 (by decide) ?_
            have hkn := lt_of_S (SV_ok B n).1 hk (by omega)
            have ok1 := (all_ok (SV_ok B n) (lv_ok (SV_ok B n) 2)).2.2.2.2.1 (k + 1) (by omega)
            rw [e1] at ok1
            obtain ⟨b1, b2, b3⟩ := ok1
            simp only at b1 b2
            have b4 := (b3 _ _ rfl).1
            simp only at b4
            have e2 := lp_1 (n := m) (c := c) (v := v) (show jO (SS B n k) = true by rw [hs8]; decide) e1
            refine ih k1 (c ++ c1 ++ [stI (SS B n k) 0]) (fun nm => joV (nI (SS B n k)) (v nm) (v1 nm)) _ I1 L1 _ (by omega) b2 m1 ?_ (fun k' c' v' e I9 L9 s9 m9 => ?_) (fun k' e rv I9 L9 s9 m9 => ?_)
            · rw [nmI_q s1, nmI_q s2, hs8, jo7, ← hx]
              rw [nmI_q s2] at c36
              simp only [c32, c36, not_true_eq_false, not_false_eq_true, and_true, true_and, and_false, false_and, or_true, true_or, or_false, false_or, ite_true, ite_false, if_true, if_false, reduceIte, and_self, or_self]
            · rw [nmI_q s1, nmI_q s2]; exact hK k' c' v' (e2.trans e) I9 L9 ((s2.tr s1).tr s9) m9
            · exact hF k' (e2.trans e) rv I9 L9 ((s2.tr s1).tr s9) m9
      · refine aw_istore_n (ls' := [_, _, _]) dX6_either3_30 (by decide) rfl rfl ?_
        refine aw_iload_n dX6_either3_31 rfl ?_
        refine aw_if_ne (tgt := 39) dX6_either3_32 (by decide) (fun c32 => ?_) (fun c32 => ?_)
        · refine aw_iconst (v := 1) dX6_either3_39 (by decide) ?_
          refine aw_goto (tgt := 44) dX6_either3_40 (by decide) ?_
          refine aw_istore_n (ls' := [_, _, _]) dX6_either3_44 (by decide) rfl rfl ?_
          refine aw_goto (tgt := 5) dX6_either3_45 (by decide) ?_
          refine aw_aload_n dX6_either3_5 rfl rfl ?_
          refine aw_bipush (v := 111) dX6_either3_6 (by decide) ?_
          refine aw_bipush (v := 114) dX6_either3_8 (by decide) ?_
          refine aw_iconst (v := 0) dX6_either3_10 (by decide) ?_
          refine aw_iconst (v := 0) dX6_either3_11 (by decide) ?_
          refine aw_iconst (v := 0) dX6_either3_12 (by decide) ?_
          refine aw_iconst (v := 0) dX6_either3_13 (by decide) ?_
          refine aw_iconst (v := 0) dX6_either3_14 (by decide) ?_
          refine aw_iconst (v := 0) dX6_either3_15 (by decide) ?_
          refine aw_V8 dX6_either3_16 cw_X6_189 ⟨_, _, rfl⟩ hM.1 (by omega) ⟨Nat.le_refl _, Nat.le_refl _⟩ (by decide) (c_X6_isWordB (by omega) hM m1 ?_)
          refine aw_if_eq (tgt := 48) dX6_either3_19 (by decide) (fun _ => ?_) (fun zz => absurd zz (by decide))
          refine aw_iload_n dX6_either3_48 rfl ?_
          refine aw_ireturn (ty := .int) dX6_either3_49 rfl rfl ?_
          exact hF _ (lp_0 (show jO (SS B n k) = true by rw [hs8]; decide) e1) _ _ _ (s2.tr s1) m1
        · refine aw_iload_n dX6_either3_35 rfl ?_
          refine aw_if_eq (tgt := 43) dX6_either3_36 (by decide) (fun c36 => ?_) (fun c36 => ?_)
          · refine aw_iconst (v := 0) dX6_either3_43 (by decide) ?_
            refine aw_istore_n (ls' := [_, _, _]) dX6_either3_44 (by decide) rfl rfl ?_
            refine aw_goto (tgt := 5) dX6_either3_45 (by decide) ?_
            refine aw_aload_n dX6_either3_5 rfl rfl ?_
            refine aw_bipush (v := 111) dX6_either3_6 (by decide) ?_
            refine aw_bipush (v := 114) dX6_either3_8 (by decide) ?_
            refine aw_iconst (v := 0) dX6_either3_10 (by decide) ?_
            refine aw_iconst (v := 0) dX6_either3_11 (by decide) ?_
            refine aw_iconst (v := 0) dX6_either3_12 (by decide) ?_
            refine aw_iconst (v := 0) dX6_either3_13 (by decide) ?_
            refine aw_iconst (v := 0) dX6_either3_14 (by decide) ?_
            refine aw_iconst (v := 0) dX6_either3_15 (by decide) ?_
            refine aw_V8 dX6_either3_16 cw_X6_189 ⟨_, _, rfl⟩ hM.1 (by omega) ⟨Nat.le_refl _, Nat.le_refl _⟩ (by decide) (c_X6_isWordB (by omega) hM m1 ?_)
            refine aw_if_eq (tgt := 48) dX6_either3_19 (by decide) (fun _ => ?_) (fun zz => absurd zz (by decide))
            refine aw_iload_n dX6_either3_48 rfl ?_
            refine aw_ireturn (ty := .int) dX6_either3_49 rfl rfl ?_
            exact hF _ (lp_0 (show jO (SS B n k) = true by rw [hs8]; decide) e1) _ _ _ (s2.tr s1) m1
          · refine aw_iconst (v := 1) dX6_either3_39 (by decide) ?_
            refine aw_goto (tgt := 44) dX6_either3_40 (by decide) ?_
            refine aw_istore_n (ls' := [_, _, _]) dX6_either3_44 (by decide) rfl rfl ?_
            refine aw_goto (tgt := 5) dX6_either3_45 (by decide) ?_
            refine aw_aload_n dX6_either3_5 rfl rfl ?_
            refine aw_bipush (v := 111) dX6_either3_6 (by decide) ?_
            refine aw_bipush (v := 114) dX6_either3_8 (by decide) ?_
            refine aw_iconst (v := 0) dX6_either3_10 (by decide) ?_
            refine aw_iconst (v := 0) dX6_either3_11 (by decide) ?_
            refine aw_iconst (v := 0) dX6_either3_12 (by decide) ?_
            refine aw_iconst (v := 0) dX6_either3_13 (by decide) ?_
            refine aw_iconst (v := 0) dX6_either3_14 (by decide) ?_
            refine aw_iconst (v := 0) dX6_either3_15 (by decide) ?_
            refine aw_V8 dX6_either3_16 cw_X6_189 ⟨_, _, rfl⟩ hM.1 (by omega) ⟨Nat.le_refl _, Nat.le_refl _⟩ (by decide) (c_X6_isWordB (by omega) hM m1 ?_)
            refine aw_if_eq (tgt := 48) dX6_either3_19 (by decide) (fun _ => ?_) (fun zz => absurd zz (by decide))
            refine aw_iload_n dX6_either3_48 rfl ?_
            refine aw_ireturn (ty := .int) dX6_either3_49 rfl rfl ?_
            exact hF _ (lp_0 (show jO (SS B n k) = true by rw [hs8]; decide) e1) _ _ _ (s2.tr s1) m1
    · refine aw_if_eq (tgt := 48) dX6_either3_19 (by decide) (fun _ => ?_) (fun zz => absurd zz (by decide))
      refine aw_iload_n dX6_either3_48 rfl ?_
      refine aw_ireturn (ty := .int) dX6_either3_49 rfl rfl ?_
      rw [hx]
      exact hK _ _ _ (lp_z (by simp only [jO, beq_iff_eq]; exact fun w => c16 ((wd_S (by decide)).mpr w))) _ _ SaQ.rf hS
theorem c_X6_either3 {E : Ev} {d : Nat} {I : Mi} {L : Ml} {Z : Mz} {Q : Po}  {B : Nat → Int32} {n t k : Nat} (hd : 21 ≤ d) (hM : MZ Z) (hS : MS I L B n t k 3) (hk : k ≤ n) (hK : ∀ (k' : Nat) (c' : List Int32) (v' : Vl), eitR (SS B n) (VV B n) (lvR (SS B n) (VV B n) 2) k = (k', some (c', v')) → ∀ (I9 : Mi) (L9 : Ml), SaQ I I9 → MS I9 L9 B n t k' 3 → Q (some (.int (v' (nmI I)))) I9 L9 Z) (hF : ∀ k' : Nat, eitR (SS B n) (VV B n) (lvR (SS B n) (VV B n) 2) k = (k', none) → ∀ (rv : Int32) (I9 : Mi) (L9 : Ml), SaQ I I9 → MB I9 (plF B n k') → Q (some (.int rv)) I9 L9 Z) : AC E yX6_either3 cX6_either3 3 (some .int) d 0 0 [.ref 48] I L Z Q := by
  refine ac_go (ls := [some (.ref 48), none, none]) (by decide +kernel) (Nat.le_of_ble_eq_true rfl) rfl ?_
  refine aw_aload_n dX6_either3_0 rfl rfl ?_
  refine aw_V0 dX6_either3_1 cw_X6_274 ⟨_, _, rfl⟩ hM.1 (by omega) ⟨Nat.le_refl _, Nat.le_refl _⟩ (by decide) (c_X6_both3 (by omega) hM hS hk (fun k1 c1 v1 e1 I1 L1 s1 m1 => ?_) (fun k1 e1 rv1 I1 L1 s1 m1 => ?_))
  · refine aw_istore_n (ls' := [_, _, _]) dX6_either3_4 (by decide) rfl rfl ?_
    have e2 : eitR (SS B n) (VV B n) (lvR (SS B n) (VV B n) 2) k = lpR (SS B n) (andR (SS B n) (VV B n) (lvR (SS B n) (VV B n) 2)) jO 160 k1 c1 v1 := bn_1 e1
    have ok1 := (all_ok (SV_ok B n) (lv_ok (SV_ok B n) 2)).2.2.2.2.1 k (by omega)
    rw [e1] at ok1
    obtain ⟨b1, b2, b3⟩ := ok1
    simp only at b1 b2
    have hn6 := hS.1.2.2.2.1
    refine l_X6_either3 hd hM 160 k1 c1 v1 _ I1 L1 _ (by omega) b2 m1 (by rw [nmI_q s1]) (fun k' c' v' e I9 L9 s9 m9 => ?_) (fun k' e rv I9 L9 s9 m9 => ?_)
    · rw [nmI_q s1]; exact hK k' c' v' (e2.trans e) I9 L9 (s1.tr s9) m9
    · exact hF k' (e2.trans e) rv I9 L9 (s1.tr s9) m9
  · refine aw_istore_n (ls' := [_, _, _]) dX6_either3_4 (by decide) rfl rfl ?_
    refine aw_aload_n dX6_either3_5 rfl rfl ?_
    refine aw_bipush (v := 111) dX6_either3_6 (by decide) ?_
    refine aw_bipush (v := 114) dX6_either3_8 (by decide) ?_
    refine aw_iconst (v := 0) dX6_either3_10 (by decide) ?_
    refine aw_iconst (v := 0) dX6_either3_11 (by decide) ?_
    refine aw_iconst (v := 0) dX6_either3_12 (by decide) ?_
    refine aw_iconst (v := 0) dX6_either3_13 (by decide) ?_
    refine aw_iconst (v := 0) dX6_either3_14 (by decide) ?_
    refine aw_iconst (v := 0) dX6_either3_15 (by decide) ?_
    refine aw_V8 dX6_either3_16 cw_X6_189 ⟨_, _, rfl⟩ hM.1 (by omega) ⟨Nat.le_refl _, Nat.le_refl _⟩ (by decide) (c_X6_isWordB (by omega) hM m1 ?_)
    refine aw_if_eq (tgt := 48) dX6_either3_19 (by decide) (fun _ => ?_) (fun zz => absurd zz (by decide))
    refine aw_iload_n dX6_either3_48 rfl ?_
    refine aw_ireturn (ty := .int) dX6_either3_49 rfl rfl ?_
    exact hF _ (bn_0 e1) _ _ _ s1 m1
theorem c_X6_atom2 {E : Ev} {d : Nat} {I : Mi} {L : Ml} {Z : Mz} {Q : Po}  {B : Nat → Int32} {n t k : Nat} (hd : 22 ≤ d) (hM : MZ Z) (hS : MS I L B n t k 2) (hk : k ≤ n) (hK : ∀ (k' : Nat) (c' : List Int32) (v' : Vl), oneR (SS B n) (VV B n) (lvR (SS B n) (VV B n) 3) k = (k', some (c', v')) → ∀ (I9 : Mi) (L9 : Ml), SaQ I I9 → MS I9 L9 B n t k' 2 → Q (some (.int (v' (nmI I)))) I9 L9 Z) (hF : ∀ k' : Nat, oneR (SS B n) (VV B n) (lvR (SS B n) (VV B n) 3) k = (k', none) → ∀ (rv : Int32) (I9 : Mi) (L9 : Ml), SaQ I I9 → MB I9 (plF B n k') → Q (some (.int rv)) I9 L9 Z) : AC E yX6_atom2 cX6_atom2 2 (some .int) d 0 0 [.ref 48] I L Z Q := by
  refine ac_go (ls := [some (.ref 48), none]) (by decide +kernel) (Nat.le_of_ble_eq_true rfl) rfl ?_
  refine aw_iconst (v := 0) dX6_atom2_0 (by decide) ?_
  refine aw_istore_n (ls' := [_, _]) dX6_atom2_1 (by decide) rfl rfl ?_
  refine aw_aload_n dX6_atom2_2 rfl rfl ?_
  refine aw_bipush (v := 45) dX6_atom2_3 (by decide) ?_
  refine aw_V1 dX6_atom2_5 cw_X6_211 ⟨_, _, rfl⟩ hM.1 (by omega) ⟨Nat.le_refl _, Nat.le_refl _⟩ (by decide) (c_X6_isSign_14 hM hS (fun c5 => ?_) (fun c5 => ?_))
  · refine aw_if_eq (tgt := 37) dX6_atom2_8 (by decide) (fun zz => absurd zz (by decide)) (fun _ => ?_)
    refine aw_aload_n dX6_atom2_11 rfl rfl ?_
    refine aw_V0 dX6_atom2_12 cw_X6_214 ⟨_, _, rfl⟩ hM.1 (by omega) ⟨Nat.le_refl _, Nat.le_refl _⟩ (by decide) (c_X6_opens (by omega) hM hS (by decide) (by omega) (by omega) (fun I0 L0 s0 m0 => ?_))
    refine aw_if_eq (tgt := 161) dX6_atom2_15 (by decide) (fun zz => absurd zz (by decide)) (fun _ => ?_)
    refine aw_aload_n dX6_atom2_18 rfl rfl ?_
    refine aw_V0 dX6_atom2_19 cw_X6_262 ⟨_, _, rfl⟩ hM.1 (by omega) ⟨Nat.le_refl _, Nat.le_refl _⟩ (by decide) (c_X6_atom3 (by omega) hM m0 (by have := lt_of_S (SV_ok B n).1 hk (by omega); omega) (fun k1 c1 v1 e1 I1 L1 s1 m1 => ?_) (fun k1 e1 rv1 I1 L1 s1 m1 => ?_))
    · refine aw_ineg dX6_atom2_22 ?_
      refine aw_istore_n (ls' := [_, _]) dX6_atom2_23 (by decide) rfl rfl ?_
      refine aw_aload_n dX6_atom2_24 rfl rfl ?_
      refine aw_dup dX6_atom2_25 rfl ?_
      refine aw_gi dX6_atom2_26 fw_X6_180 hM.1 ?_
      refine aw_iconst (v := 1) dX6_atom2_29 (by decide) ?_
      refine aw_isub dX6_atom2_30 ?_
      rw [m1.2.2.2, nI_pred]
      refine aw_pi dX6_atom2_31 fw_X6_180 (ww_X6_180 _) hM.1 rfl ?_
      refine aw_goto (tgt := 161) dX6_atom2_34 (by decide) ?_
      refine aw_iload_n dX6_atom2_161 rfl ?_
      refine aw_ireturn (ty := .int) dX6_atom2_162 rfl rfl ?_
      rw [nmI_q s0]
      exact hK _ _ _ (one_m1 c5 e1) _ _ (s0.tr s1).op (MS.op m1)
    · refine aw_ineg dX6_atom2_22 ?_
      refine aw_istore_n (ls' := [_, _]) dX6_atom2_23 (by decide) rfl rfl ?_
      refine aw_aload_n dX6_atom2_24 rfl rfl ?_
      refine aw_dup dX6_atom2_25 rfl ?_
      refine aw_gi dX6_atom2_26 fw_X6_180 hM.1 ?_
      refine aw_iconst (v := 1) dX6_atom2_29 (by decide) ?_
      refine aw_isub dX6_atom2_30 ?_
      refine aw_pi dX6_atom2_31 fw_X6_180 (ww_X6_180 _) hM.1 rfl ?_
      refine aw_goto (tgt := 161) dX6_atom2_34 (by decide) ?_
      refine aw_iload_n dX6_atom2_161 rfl ?_
      refine aw_ireturn (ty := .int) dX6_atom2_162 rfl rfl ?_
      exact hF _ (one_m0 c5 e1) _ _ _ (s0.tr s1).op m1.op
  · refine aw_if_eq (tgt := 37) dX6_atom2_8 (by decide) (fun _ => ?_) (fun zz => absurd zz (by decide))
    refine aw_aload_n dX6_atom2_37 rfl rfl ?_
    refine aw_bipush (v := 40) dX6_atom2_38 (by decide) ?_
    refine aw_V1 dX6_atom2_40 cw_X6_211 ⟨_, _, rfl⟩ hM.1 (by omega) ⟨Nat.le_refl _, Nat.le_refl _⟩ (by decide) (c_X6_isSign_10 hM hS (fun c40 => ?_) (fun c40 => ?_))
    · refine aw_if_eq (tgt := 95) dX6_atom2_43 (by decide) (fun zz => absurd zz (by decide)) (fun _ => ?_)
      refine aw_aload_n dX6_atom2_46 rfl rfl ?_
      refine aw_V0 dX6_atom2_47 cw_X6_214 ⟨_, _, rfl⟩ hM.1 (by omega) ⟨Nat.le_refl _, Nat.le_refl _⟩ (by decide) (c_X6_opens (by omega) hM hS (by decide) (by omega) (by omega) (fun I0 L0 s0 m0 => ?_))
      refine aw_if_eq (tgt := 161) dX6_atom2_50 (by decide) (fun zz => absurd zz (by decide)) (fun _ => ?_)
      refine aw_aload_n dX6_atom2_53 rfl rfl ?_
      refine aw_V0 dX6_atom2_54 cw_X6_277 ⟨_, _, rfl⟩ hM.1 (by omega) ⟨Nat.le_refl _, Nat.le_refl _⟩ (by decide) (c_X6_either3 (by omega) hM m0 (by have := lt_of_S (SV_ok B n).1 hk (by omega); omega) (fun k1 c1 v1 e1 I1 L1 s1 m1 => ?_) (fun k1 e1 rv1 I1 L1 s1 m1 => ?_))
      · refine aw_istore_n (ls' := [_, _]) dX6_atom2_57 (by decide) rfl rfl ?_
        refine aw_aload_n dX6_atom2_58 rfl rfl ?_
        refine aw_bipush (v := 41) dX6_atom2_59 (by decide) ?_
        refine aw_V1 dX6_atom2_61 cw_X6_211 ⟨_, _, rfl⟩ hM.1 (by omega) ⟨Nat.le_refl _, Nat.le_refl _⟩ (by decide) (c_X6_isSign_11 hM m1 (fun c61 => ?_) (fun c61 => ?_))
        · refine aw_if_ne (tgt := 71) dX6_atom2_64 (by decide) (fun _ => ?_) (fun zz => absurd zz (by decide))
          refine aw_aload_n dX6_atom2_71 rfl rfl ?_
          refine aw_dup dX6_atom2_72 rfl ?_
          refine aw_gi dX6_atom2_73 fw_X6_180 hM.1 ?_
          refine aw_iconst (v := 1) dX6_atom2_76 (by decide) ?_
          refine aw_isub dX6_atom2_77 ?_
          rw [m1.2.2.2, nI_pred]
          refine aw_pi dX6_atom2_78 fw_X6_180 (ww_X6_180 _) hM.1 rfl ?_
          refine aw_aload_n dX6_atom2_81 rfl rfl ?_
          refine aw_gi dX6_atom2_82 fw_X6_170 hM.1 ?_
          refine aw_if_ne (tgt := 161) dX6_atom2_85 (by decide) (fun zz => absurd (MS.op (o' := 2) m1).2.2.1 zz) (fun c85 => ?_)
          refine aw_aload_n dX6_atom2_88 rfl rfl ?_
          refine aw_V0 dX6_atom2_89 cw_X6_186 ⟨_, _, rfl⟩ hM.1 (by omega) ⟨Nat.le_refl _, Nat.le_refl _⟩ (by decide) (c_X6_next (o := 2) (by omega) hM (MS.op m1) (by omega) (by omega) (fun I2 L2 s2 m2 => ?_))
          refine aw_goto (tgt := 161) dX6_atom2_92 (by decide) ?_
          refine aw_iload_n dX6_atom2_161 rfl ?_
          refine aw_ireturn (ty := .int) dX6_atom2_162 rfl rfl ?_
          rw [nmI_q s0]
          exact hK _ _ _ (one_p1 c40 e1 c61) _ _ ((s0.tr s1).op.tr s2) m2
        · refine aw_if_ne (tgt := 71) dX6_atom2_64 (by decide) (fun zz => absurd zz (by decide)) (fun _ => ?_)
          refine aw_aload_n dX6_atom2_67 rfl rfl ?_
          refine aw_V0 dX6_atom2_68 cw_X6_183 ⟨_, _, rfl⟩ hM.1 (by omega) ⟨Nat.le_refl _, Nat.le_refl _⟩ (by decide) (c_X6_fail hM m1 (fun I9 s9 m9 => ?_))
          refine aw_aload_n dX6_atom2_71 rfl rfl ?_
          refine aw_dup dX6_atom2_72 rfl ?_
          refine aw_gi dX6_atom2_73 fw_X6_180 hM.1 ?_
          refine aw_iconst (v := 1) dX6_atom2_76 (by decide) ?_
          refine aw_isub dX6_atom2_77 ?_
          refine aw_pi dX6_atom2_78 fw_X6_180 (ww_X6_180 _) hM.1 rfl ?_
          refine aw_aload_n dX6_atom2_81 rfl rfl ?_
          refine aw_gi dX6_atom2_82 fw_X6_170 hM.1 ?_
          refine aw_if_ne (tgt := 161) dX6_atom2_85 (by decide) (fun c85 => ?_) (fun zz => absurd zz (by rw [m9.op.1]; decide))
          refine aw_iload_n dX6_atom2_161 rfl ?_
          refine aw_ireturn (ty := .int) dX6_atom2_162 rfl rfl ?_
          exact hF _ (one_p2 c40 e1 c61) _ _ _ ((s0.tr s1).tr s9).op m9.op
      · refine aw_istore_n (ls' := [_, _]) dX6_atom2_57 (by decide) rfl rfl ?_
        refine aw_aload_n dX6_atom2_58 rfl rfl ?_
        refine aw_bipush (v := 41) dX6_atom2_59 (by decide) ?_
        refine aw_V1 dX6_atom2_61 cw_X6_211 ⟨_, _, rfl⟩ hM.1 (by omega) ⟨Nat.le_refl _, Nat.le_refl _⟩ (by decide) (c_X6_isSignB hM m1 ?_)
        refine aw_if_ne (tgt := 71) dX6_atom2_64 (by decide) (fun zz => absurd zz (by decide)) (fun _ => ?_)
        refine aw_aload_n dX6_atom2_67 rfl rfl ?_
        refine aw_V0 dX6_atom2_68 cw_X6_183 ⟨_, _, rfl⟩ hM.1 (by omega) ⟨Nat.le_refl _, Nat.le_refl _⟩ (by decide) (c_X6_failB hM m1 ?_)
        refine aw_aload_n dX6_atom2_71 rfl rfl ?_
        refine aw_dup dX6_atom2_72 rfl ?_
        refine aw_gi dX6_atom2_73 fw_X6_180 hM.1 ?_
        refine aw_iconst (v := 1) dX6_atom2_76 (by decide) ?_
        refine aw_isub dX6_atom2_77 ?_
        refine aw_pi dX6_atom2_78 fw_X6_180 (ww_X6_180 _) hM.1 rfl ?_
        refine aw_aload_n dX6_atom2_81 rfl rfl ?_
        refine aw_gi dX6_atom2_82 fw_X6_170 hM.1 ?_
        refine aw_if_ne (tgt := 161) dX6_atom2_85 (by decide) (fun c85 => ?_) (fun zz => absurd zz (by rw [m1.op.1]; decide))
        refine aw_iload_n dX6_atom2_161 rfl ?_
        refine aw_ireturn (ty := .int) dX6_atom2_162 rfl rfl ?_
        exact hF _ (one_p0 c40 e1) _ _ _ (s0.tr s1).op m1.op
    · refine aw_if_eq (tgt := 95) dX6_atom2_43 (by decide) (fun _ => ?_) (fun zz => absurd zz (by decide))
      refine aw_aload_n dX6_atom2_95 rfl rfl ?_
      refine aw_gi dX6_atom2_96 fw_X6_170 hM.1 ?_
      refine aw_if_ne (tgt := 123) dX6_atom2_99 (by decide) (fun zz => absurd hS.2.2.1 zz) (fun c99 => ?_)
      refine aw_aload_n dX6_atom2_102 rfl rfl ?_
      refine aw_gi dX6_atom2_103 fw_X6_153 hM.1 ?_
      refine aw_iconst (v := 2) dX6_atom2_106 (by decide) ?_
      refine aw_icmp_ne (tgt := 123) dX6_atom2_107 (by decide) (fun c107 => ?_) (fun c107 => ?_)
      · refine aw_aload_n dX6_atom2_123 rfl rfl ?_
        refine aw_gi dX6_atom2_124 fw_X6_170 hM.1 ?_
        refine aw_if_ne (tgt := 157) dX6_atom2_127 (by decide) (fun zz => absurd hS.2.2.1 zz) (fun c127 => ?_)
        refine aw_aload_n dX6_atom2_130 rfl rfl ?_
        refine aw_gi dX6_atom2_131 fw_X6_153 hM.1 ?_
        refine aw_iconst (v := 1) dX6_atom2_134 (by decide) ?_
        refine aw_icmp_ne (tgt := 157) dX6_atom2_135 (by decide) (fun c135 => ?_) (fun c135 => ?_)
        · refine aw_aload_n dX6_atom2_157 rfl rfl ?_
          have h2 : ¬ SS B n k = 2 := fun w => c107 (by rw [hS.2.1.2.1, tk_num.mp w]; rfl)
          have h3 : ¬ SS B n k = 3 := fun w => c135 (by rw [hS.2.1.2.1, s3_mk w]; rfl)
          refine aw_V0 dX6_atom2_158 cw_X6_183 ⟨_, _, rfl⟩ hM.1 (by omega) ⟨Nat.le_refl _, Nat.le_refl _⟩ (by decide) (c_X6_fail hM hS (fun I9 s9 m9 => ?_))
          refine aw_iload_n dX6_atom2_161 rfl ?_
          refine aw_ireturn (ty := .int) dX6_atom2_162 rfl rfl ?_
          exact hF k (one_els h2 h3 (by omega) (by omega)) _ _ _ s9 m9
        · refine aw_aload_n dX6_atom2_138 rfl rfl ?_
          have h2 : ¬ SS B n k = 2 := fun w => c107 (by rw [hS.2.1.2.1, tk_num.mp w]; rfl)
          refine aw_V0 dX6_atom2_139 cw_X6_218 ⟨_, _, rfl⟩ hM.1 (by omega) ⟨Nat.le_refl _, Nat.le_refl _⟩ (by decide) (c_X6_name (by omega) hM hS (fun h3 => ?_) (fun h3 I9 s9 m9 => ?_))
          · refine aw_istore_n (ls' := [_, _]) dX6_atom2_142 (by decide) rfl rfl ?_
            refine aw_aload_n dX6_atom2_143 rfl rfl ?_
            refine aw_gi dX6_atom2_144 fw_X6_170 hM.1 ?_
            refine aw_if_ne (tgt := 161) dX6_atom2_147 (by decide) (fun zz => absurd hS.2.2.1 zz) (fun c147 => ?_)
            refine aw_aload_n dX6_atom2_150 rfl rfl ?_
            
            refine aw_V0 dX6_atom2_151 cw_X6_186 ⟨_, _, rfl⟩ hM.1 (by omega) ⟨Nat.le_refl _, Nat.le_refl _⟩ (by decide) (c_X6_next (by omega) hM hS (by omega) (by omega) (fun I2 L2 s2 m2 => ?_))
            refine aw_goto (tgt := 161) dX6_atom2_154 (by decide) ?_
            refine aw_iload_n dX6_atom2_161 rfl ?_
            refine aw_ireturn (ty := .int) dX6_atom2_162 rfl rfl ?_
            exact hK _ _ _ (one_nam h3) _ _ s2 m2
          · refine aw_istore_n (ls' := [_, _]) dX6_atom2_142 (by decide) rfl rfl ?_
            refine aw_aload_n dX6_atom2_143 rfl rfl ?_
            refine aw_gi dX6_atom2_144 fw_X6_170 hM.1 ?_
            refine aw_if_ne (tgt := 161) dX6_atom2_147 (by decide) (fun c147 => ?_) (fun zz => absurd zz (by rw [m9.1]; decide))
            refine aw_iload_n dX6_atom2_161 rfl ?_
            refine aw_ireturn (ty := .int) dX6_atom2_162 rfl rfl ?_
            exact hF k (one_els h2 h3 (by omega) (by omega)) _ _ _ s9 m9
      · refine aw_aload_n dX6_atom2_110 rfl rfl ?_
        refine aw_gl dX6_atom2_111 fw_X6_164 hM.1 ?_
        have h2 : SS B n k = 2 := tk_num.mpr (by
          have e := hS.2.1.2.1
          rw [c107] at e
          exact ((nI_eq (a := 2) (by decide) (by have := mk_le B n (plF B n k); omega)).mp e).symm)
        have eL : L 48 27 = lN (VV B n k) := by rw [hS.2.1.2.2.2.1 (tk_num.mp h2)]; exact congrArg lN (tk_val h2).symm
        rw [eL]
        refine aw_l2i dX6_atom2_114 ?_
        rw [lN_i]
        refine aw_istore_n (ls' := [_, _]) dX6_atom2_115 (by decide) rfl rfl ?_
        refine aw_aload_n dX6_atom2_116 rfl rfl ?_
        
        refine aw_V0 dX6_atom2_117 cw_X6_186 ⟨_, _, rfl⟩ hM.1 (by omega) ⟨Nat.le_refl _, Nat.le_refl _⟩ (by decide) (c_X6_next (by omega) hM hS (by omega) (by omega) (fun I2 L2 s2 m2 => ?_))
        refine aw_goto (tgt := 161) dX6_atom2_120 (by decide) ?_
        refine aw_iload_n dX6_atom2_161 rfl ?_
        refine aw_ireturn (ty := .int) dX6_atom2_162 rfl rfl ?_
        exact hK _ _ _ (one_num h2) _ _ s2 m2
theorem l_X6_term2 {E : Ev} {d : Nat} {Z : Mz} {Q : Po} {B : Nat → Int32} {n t : Nat} (hd : 23 ≤ d) (hM : MZ Z) : ∀ (m k : Nat) (c : List Int32) (v : Vl) (x : Int32) (I : Mi) (L : Ml), n ≤ k + m → k ≤ n → MS I L B n t k 2 → x = v (nmI I) → (∀ (k' : Nat) (c' : List Int32) (v' : Vl), lpR (SS B n) (oneR (SS B n) (VV B n) (lvR (SS B n) (VV B n) 3)) jT m k c v = (k', some (c', v')) → ∀ (I9 : Mi) (L9 : Ml), SaQ I I9 → MS I9 L9 B n t k' 2 → Q (some (.int (v' (nmI I)))) I9 L9 Z) → (∀ k' : Nat, lpR (SS B n) (oneR (SS B n) (VV B n) (lvR (SS B n) (VV B n) 3)) jT m k c v = (k', none) → ∀ (rv : Int32) (I9 : Mi) (L9 : Ml), SaQ I I9 → MB I9 (plF B n k') → Q (some (.int rv)) I9 L9 Z) → AW E yX6_term2 cX6_term2 2 (some .int) (rmOf d 0 0) Q 0 0 5 [some (.ref 48), some (.int x)] [] I L Z := by
  intro m
  induction m with
  | zero =>
    intro k c v x I L hm hk hS hx hK hF
    have hz : SS B n k = 0 := by rw [show k = n by omega]; exact (SV_ok B n).1
    refine aw_aload_n dX6_term2_5 rfl rfl ?_
    refine aw_bipush (v := 42) dX6_term2_6 (by decide) ?_
    refine aw_V1 dX6_term2_8 cw_X6_211 ⟨_, _, rfl⟩ hM.1 (by omega) ⟨Nat.le_refl _, Nat.le_refl _⟩ (by decide) (c_X6_isSign_15 hM hS (fun zz => absurd zz (by omega)) (fun c8 => ?_))
    refine aw_if_eq (tgt := 28) dX6_term2_11 (by decide) (fun _ => ?_) (fun zz => absurd zz (by decide))
    refine aw_iload_n dX6_term2_28 rfl ?_
    refine aw_ireturn (ty := .int) dX6_term2_29 rfl rfl ?_
    rw [hx]
    exact hK _ _ _ rfl _ _ SaQ.rf hS
  | succ m ih =>
    intro k c v x I L hm hk hS hx hK hF
    have hJ := fun (J : Nat → Bool) (h : J (SS B n k) = true) => h
    refine aw_aload_n dX6_term2_5 rfl rfl ?_
    refine aw_bipush (v := 42) dX6_term2_6 (by decide) ?_
    refine aw_V1 dX6_term2_8 cw_X6_211 ⟨_, _, rfl⟩ hM.1 (by omega) ⟨Nat.le_refl _, Nat.le_refl _⟩ (by decide) (c_X6_isSign_15 hM hS (fun c8 => ?_) (fun c8 => ?_))
    · refine aw_if_eq (tgt := 28) dX6_term2_11 (by decide) (fun zz => absurd zz (by decide)) (fun _ => ?_)
      refine aw_aload_n dX6_term2_14 rfl rfl ?_
      
      refine aw_V0 dX6_term2_15 cw_X6_186 ⟨_, _, rfl⟩ hM.1 (by omega) ⟨Nat.le_refl _, Nat.le_refl _⟩ (by decide) (c_X6_next (by omega) hM hS (by omega) (by omega) (fun I2 L2 s2 m2 => ?_))
      refine aw_iload_n dX6_term2_18 rfl ?_
      refine aw_aload_n dX6_term2_19 rfl rfl ?_
      refine aw_V0 dX6_term2_20 cw_X6_280 ⟨_, _, rfl⟩ hM.1 (by omega) ⟨Nat.le_refl _, Nat.le_refl _⟩ (by simp [Value.category, psh]) (c_X6_atom2 (by omega) hM m2 (by have := lt_of_S (SV_ok B n).1 hk (by omega); omega) (fun k1 c1 v1 e1 I1 L1 s1 m1 => ?_) (fun k1 e1 rv1 I1 L1 s1 m1 => ?_))
      · refine aw_imul dX6_term2_23 ?_
        refine aw_istore_n (ls' := [_, _]) dX6_term2_24 (by decide) rfl rfl ?_
        refine aw_goto (tgt := 5) dX6_term2_25 (by decide) ?_
        have hkn := lt_of_S (SV_ok B n).1 hk (by omega)
        have ok1 := (all_ok (SV_ok B n) (lv_ok (SV_ok B n) 3)).1 (k + 1) (by omega)
        rw [e1] at ok1
        obtain ⟨b1, b2, b3⟩ := ok1
        simp only at b1 b2
        have b4 := (b3 _ _ rfl).1
        simp only at b4
        have e2 := lp_1 (n := m) (c := c) (v := v) (show jT (SS B n k) = true by rw [c8]; decide) e1
        refine ih k1 (c ++ c1 ++ [stI (SS B n k) 0]) (fun nm => joV (nI (SS B n k)) (v nm) (v1 nm)) _ I1 L1 (by omega) b2 m1 ?_ (fun k' c' v' e I9 L9 s9 m9 => ?_) (fun k' e rv I9 L9 s9 m9 => ?_)
        · rw [nmI_q s1, nmI_q s2, c8, jo15, hx]
        · rw [nmI_q s1, nmI_q s2]; exact hK k' c' v' (e2.trans e) I9 L9 ((s2.tr s1).tr s9) m9
        · exact hF k' (e2.trans e) rv I9 L9 ((s2.tr s1).tr s9) m9
      · refine aw_imul dX6_term2_23 ?_
        refine aw_istore_n (ls' := [_, _]) dX6_term2_24 (by decide) rfl rfl ?_
        refine aw_goto (tgt := 5) dX6_term2_25 (by decide) ?_
        refine aw_aload_n dX6_term2_5 rfl rfl ?_
        refine aw_bipush (v := 42) dX6_term2_6 (by decide) ?_
        refine aw_V1 dX6_term2_8 cw_X6_211 ⟨_, _, rfl⟩ hM.1 (by omega) ⟨Nat.le_refl _, Nat.le_refl _⟩ (by decide) (c_X6_isSignB hM m1 ?_)
        refine aw_if_eq (tgt := 28) dX6_term2_11 (by decide) (fun _ => ?_) (fun zz => absurd zz (by decide))
        refine aw_iload_n dX6_term2_28 rfl ?_
        refine aw_ireturn (ty := .int) dX6_term2_29 rfl rfl ?_
        exact hF _ (lp_0 (show jT (SS B n k) = true by rw [c8]; decide) e1) _ _ _ (s2.tr s1) m1
    · refine aw_if_eq (tgt := 28) dX6_term2_11 (by decide) (fun _ => ?_) (fun zz => absurd zz (by decide))
      refine aw_iload_n dX6_term2_28 rfl ?_
      refine aw_ireturn (ty := .int) dX6_term2_29 rfl rfl ?_
      rw [hx]
      exact hK _ _ _ (lp_z (by simp only [jT, beq_iff_eq]; exact c8)) _ _ SaQ.rf hS
theorem c_X6_term2 {E : Ev} {d : Nat} {I : Mi} {L : Ml} {Z : Mz} {Q : Po}  {B : Nat → Int32} {n t k : Nat} (hd : 23 ≤ d) (hM : MZ Z) (hS : MS I L B n t k 2) (hk : k ≤ n) (hK : ∀ (k' : Nat) (c' : List Int32) (v' : Vl), terR (SS B n) (VV B n) (lvR (SS B n) (VV B n) 3) k = (k', some (c', v')) → ∀ (I9 : Mi) (L9 : Ml), SaQ I I9 → MS I9 L9 B n t k' 2 → Q (some (.int (v' (nmI I)))) I9 L9 Z) (hF : ∀ k' : Nat, terR (SS B n) (VV B n) (lvR (SS B n) (VV B n) 3) k = (k', none) → ∀ (rv : Int32) (I9 : Mi) (L9 : Ml), SaQ I I9 → MB I9 (plF B n k') → Q (some (.int rv)) I9 L9 Z) : AC E yX6_term2 cX6_term2 2 (some .int) d 0 0 [.ref 48] I L Z Q := by
  refine ac_go (ls := [some (.ref 48), none]) (by decide +kernel) (Nat.le_of_ble_eq_true rfl) rfl ?_
  refine aw_aload_n dX6_term2_0 rfl rfl ?_
  refine aw_V0 dX6_term2_1 cw_X6_280 ⟨_, _, rfl⟩ hM.1 (by omega) ⟨Nat.le_refl _, Nat.le_refl _⟩ (by decide) (c_X6_atom2 (by omega) hM hS hk (fun k1 c1 v1 e1 I1 L1 s1 m1 => ?_) (fun k1 e1 rv1 I1 L1 s1 m1 => ?_))
  · refine aw_istore_n (ls' := [_, _]) dX6_term2_4 (by decide) rfl rfl ?_
    have e2 : terR (SS B n) (VV B n) (lvR (SS B n) (VV B n) 3) k = lpR (SS B n) (oneR (SS B n) (VV B n) (lvR (SS B n) (VV B n) 3)) jT 160 k1 c1 v1 := bn_1 e1
    have ok1 := (all_ok (SV_ok B n) (lv_ok (SV_ok B n) 3)).1 k (by omega)
    rw [e1] at ok1
    obtain ⟨b1, b2, b3⟩ := ok1
    simp only at b1 b2
    have hn6 := hS.1.2.2.2.1
    refine l_X6_term2 hd hM 160 k1 c1 v1 _ I1 L1 (by omega) b2 m1 (by rw [nmI_q s1]) (fun k' c' v' e I9 L9 s9 m9 => ?_) (fun k' e rv I9 L9 s9 m9 => ?_)
    · rw [nmI_q s1]; exact hK k' c' v' (e2.trans e) I9 L9 (s1.tr s9) m9
    · exact hF k' (e2.trans e) rv I9 L9 (s1.tr s9) m9
  · refine aw_istore_n (ls' := [_, _]) dX6_term2_4 (by decide) rfl rfl ?_
    refine aw_aload_n dX6_term2_5 rfl rfl ?_
    refine aw_bipush (v := 42) dX6_term2_6 (by decide) ?_
    refine aw_V1 dX6_term2_8 cw_X6_211 ⟨_, _, rfl⟩ hM.1 (by omega) ⟨Nat.le_refl _, Nat.le_refl _⟩ (by decide) (c_X6_isSignB hM m1 ?_)
    refine aw_if_eq (tgt := 28) dX6_term2_11 (by decide) (fun _ => ?_) (fun zz => absurd zz (by decide))
    refine aw_iload_n dX6_term2_28 rfl ?_
    refine aw_ireturn (ty := .int) dX6_term2_29 rfl rfl ?_
    exact hF _ (bn_0 e1) _ _ _ s1 m1
theorem l_X6_added2 {E : Ev} {d : Nat} {Z : Mz} {Q : Po} {B : Nat → Int32} {n t : Nat} (hd : 24 ≤ d) (hM : MZ Z) : ∀ (m k : Nat) (c : List Int32) (v : Vl) (x : Int32) (I : Mi) (L : Ml) (o2 o3 : Option Value), n ≤ k + m → k ≤ n → MS I L B n t k 2 → x = v (nmI I) → (∀ (k' : Nat) (c' : List Int32) (v' : Vl), lpR (SS B n) (terR (SS B n) (VV B n) (lvR (SS B n) (VV B n) 3)) jS m k c v = (k', some (c', v')) → ∀ (I9 : Mi) (L9 : Ml), SaQ I I9 → MS I9 L9 B n t k' 2 → Q (some (.int (v' (nmI I)))) I9 L9 Z) → (∀ k' : Nat, lpR (SS B n) (terR (SS B n) (VV B n) (lvR (SS B n) (VV B n) 3)) jS m k c v = (k', none) → ∀ (rv : Int32) (I9 : Mi) (L9 : Ml), SaQ I I9 → MB I9 (plF B n k') → Q (some (.int rv)) I9 L9 Z) → AW E yX6_added2 cX6_added2 4 (some .int) (rmOf d 0 0) Q 0 0 5 [some (.ref 48), some (.int x), o2, o3] [] I L Z := by
  intro m
  induction m with
  | zero =>
    intro k c v x I L o2 o3 hm hk hS hx hK hF
    have hz : SS B n k = 0 := by rw [show k = n by omega]; exact (SV_ok B n).1
    refine aw_aload_n dX6_added2_5 rfl rfl ?_
    refine aw_bipush (v := 43) dX6_added2_6 (by decide) ?_
    refine aw_V1 dX6_added2_8 cw_X6_211 ⟨_, _, rfl⟩ hM.1 (by omega) ⟨Nat.le_refl _, Nat.le_refl _⟩ (by decide) (c_X6_isSign_13 hM hS (fun zz => absurd zz (by omega)) (fun c8 => ?_))
    refine aw_if_ne (tgt := 23) dX6_added2_11 (by decide) (fun zz => absurd zz (by decide)) (fun _ => ?_)
    refine aw_aload_n dX6_added2_14 rfl rfl ?_
    refine aw_bipush (v := 45) dX6_added2_15 (by decide) ?_
    refine aw_V1 dX6_added2_17 cw_X6_211 ⟨_, _, rfl⟩ hM.1 (by omega) ⟨Nat.le_refl _, Nat.le_refl _⟩ (by decide) (c_X6_isSign_14 hM hS (fun zz => absurd zz (by omega)) (fun c17 => ?_))
    refine aw_if_eq (tgt := 66) dX6_added2_20 (by decide) (fun _ => ?_) (fun zz => absurd zz (by decide))
    refine aw_iload_n dX6_added2_66 rfl ?_
    refine aw_ireturn (ty := .int) dX6_added2_67 rfl rfl ?_
    rw [hx]
    exact hK _ _ _ rfl _ _ SaQ.rf hS
  | succ m ih =>
    intro k c v x I L o2 o3 hm hk hS hx hK hF
    have hJ := fun (J : Nat → Bool) (h : J (SS B n k) = true) => h
    refine aw_aload_n dX6_added2_5 rfl rfl ?_
    refine aw_bipush (v := 43) dX6_added2_6 (by decide) ?_
    refine aw_V1 dX6_added2_8 cw_X6_211 ⟨_, _, rfl⟩ hM.1 (by omega) ⟨Nat.le_refl _, Nat.le_refl _⟩ (by decide) (c_X6_isSign_13 hM hS (fun c8 => ?_) (fun c8 => ?_))
    · refine aw_if_ne (tgt := 23) dX6_added2_11 (by decide) (fun _ => ?_) (fun zz => absurd zz (by decide))
      refine aw_aload_n dX6_added2_23 rfl rfl ?_
      refine aw_gl dX6_added2_24 fw_X6_164 hM.1 ?_
      rw [sw13 hS c8]
      refine aw_ldc2 dX6_added2_27 kw_X6_228 ?_
      refine aw_lcmp dX6_added2_30 ?_
      refine aw_if_ne (tgt := 38) dX6_added2_31 (by decide) (fun zz => absurd (by decide) zz) (fun c31 => ?_)
      refine aw_iconst (v := 1) dX6_added2_34 (by decide) ?_
      refine aw_goto (tgt := 39) dX6_added2_35 (by decide) ?_
      refine aw_istore_n (ls' := [_, _, _, _]) dX6_added2_39 (by decide) rfl rfl ?_
      refine aw_aload_n dX6_added2_40 rfl rfl ?_
      
      refine aw_V0 dX6_added2_41 cw_X6_186 ⟨_, _, rfl⟩ hM.1 (by omega) ⟨Nat.le_refl _, Nat.le_refl _⟩ (by decide) (c_X6_next (by omega) hM hS (by omega) (by omega) (fun I2 L2 s2 m2 => ?_))
      refine aw_aload_n dX6_added2_44 rfl rfl ?_
      refine aw_V0 dX6_added2_45 cw_X6_283 ⟨_, _, rfl⟩ hM.1 (by omega) ⟨Nat.le_refl _, Nat.le_refl _⟩ (by decide) (c_X6_term2 (by omega) hM m2 (by have := lt_of_S (SV_ok B n).1 hk (by omega); omega) (fun k1 c1 v1 e1 I1 L1 s1 m1 => ?_) (fun k1 e1 rv1 I1 L1 s1 m1 => ?_))
      · refine aw_istore_n (ls' := [_, _, _, _]) dX6_added2_48 (by decide) rfl rfl ?_
        refine aw_iload_n dX6_added2_49 rfl ?_
        refine aw_if_eq (tgt := 59) dX6_added2_50 (by decide) (fun zz => absurd zz (by decide)) (fun _ => ?_)
        refine aw_iload_n dX6_added2_53 rfl ?_
        refine aw_iload_n dX6_added2_54 rfl ?_
        refine aw_iadd dX6_added2_55 ?_
        refine aw_goto (tgt := 62) dX6_added2_56 (by decide) ?_
        refine aw_istore_n (ls' := [_, _, _, _]) dX6_added2_62 (by decide) rfl rfl ?_
        refine aw_goto (tgt := 5) dX6_added2_63 (by decide) ?_
        have hkn := lt_of_S (SV_ok B n).1 hk (by omega)
        have ok1 := (all_ok (SV_ok B n) (lv_ok (SV_ok B n) 3)).2.1 (k + 1) (by omega)
        rw [e1] at ok1
        obtain ⟨b1, b2, b3⟩ := ok1
        simp only at b1 b2
        have b4 := (b3 _ _ rfl).1
        simp only at b4
        have e2 := lp_1 (n := m) (c := c) (v := v) (show jS (SS B n k) = true by rw [c8]; decide) e1
        refine ih k1 (c ++ c1 ++ [stI (SS B n k) 0]) (fun nm => joV (nI (SS B n k)) (v nm) (v1 nm)) _ I1 L1 _ _ (by omega) b2 m1 ?_ (fun k' c' v' e I9 L9 s9 m9 => ?_) (fun k' e rv I9 L9 s9 m9 => ?_)
        · rw [nmI_q s1, nmI_q s2, c8, jo13, hx]
        · rw [nmI_q s1, nmI_q s2]; exact hK k' c' v' (e2.trans e) I9 L9 ((s2.tr s1).tr s9) m9
        · exact hF k' (e2.trans e) rv I9 L9 ((s2.tr s1).tr s9) m9
      · refine aw_istore_n (ls' := [_, _, _, _]) dX6_added2_48 (by decide) rfl rfl ?_
        refine aw_iload_n dX6_added2_49 rfl ?_
        refine aw_if_eq (tgt := 59) dX6_added2_50 (by decide) (fun zz => absurd zz (by decide)) (fun _ => ?_)
        refine aw_iload_n dX6_added2_53 rfl ?_
        refine aw_iload_n dX6_added2_54 rfl ?_
        refine aw_iadd dX6_added2_55 ?_
        refine aw_goto (tgt := 62) dX6_added2_56 (by decide) ?_
        refine aw_istore_n (ls' := [_, _, _, _]) dX6_added2_62 (by decide) rfl rfl ?_
        refine aw_goto (tgt := 5) dX6_added2_63 (by decide) ?_
        refine aw_aload_n dX6_added2_5 rfl rfl ?_
        refine aw_bipush (v := 43) dX6_added2_6 (by decide) ?_
        refine aw_V1 dX6_added2_8 cw_X6_211 ⟨_, _, rfl⟩ hM.1 (by omega) ⟨Nat.le_refl _, Nat.le_refl _⟩ (by decide) (c_X6_isSignB hM m1 ?_)
        refine aw_if_ne (tgt := 23) dX6_added2_11 (by decide) (fun zz => absurd zz (by decide)) (fun _ => ?_)
        refine aw_aload_n dX6_added2_14 rfl rfl ?_
        refine aw_bipush (v := 45) dX6_added2_15 (by decide) ?_
        refine aw_V1 dX6_added2_17 cw_X6_211 ⟨_, _, rfl⟩ hM.1 (by omega) ⟨Nat.le_refl _, Nat.le_refl _⟩ (by decide) (c_X6_isSignB hM m1 ?_)
        refine aw_if_eq (tgt := 66) dX6_added2_20 (by decide) (fun _ => ?_) (fun zz => absurd zz (by decide))
        refine aw_iload_n dX6_added2_66 rfl ?_
        refine aw_ireturn (ty := .int) dX6_added2_67 rfl rfl ?_
        exact hF _ (lp_0 (show jS (SS B n k) = true by rw [c8]; decide) e1) _ _ _ (s2.tr s1) m1
    · refine aw_if_ne (tgt := 23) dX6_added2_11 (by decide) (fun zz => absurd zz (by decide)) (fun _ => ?_)
      refine aw_aload_n dX6_added2_14 rfl rfl ?_
      refine aw_bipush (v := 45) dX6_added2_15 (by decide) ?_
      refine aw_V1 dX6_added2_17 cw_X6_211 ⟨_, _, rfl⟩ hM.1 (by omega) ⟨Nat.le_refl _, Nat.le_refl _⟩ (by decide) (c_X6_isSign_14 hM hS (fun c17 => ?_) (fun c17 => ?_))
      · refine aw_if_eq (tgt := 66) dX6_added2_20 (by decide) (fun zz => absurd zz (by decide)) (fun _ => ?_)
        refine aw_aload_n dX6_added2_23 rfl rfl ?_
        refine aw_gl dX6_added2_24 fw_X6_164 hM.1 ?_
        rw [sw14 hS c17]
        refine aw_ldc2 dX6_added2_27 kw_X6_228 ?_
        refine aw_lcmp dX6_added2_30 ?_
        refine aw_if_ne (tgt := 38) dX6_added2_31 (by decide) (fun c31 => ?_) (fun zz => absurd zz (by decide))
        refine aw_iconst (v := 0) dX6_added2_38 (by decide) ?_
        refine aw_istore_n (ls' := [_, _, _, _]) dX6_added2_39 (by decide) rfl rfl ?_
        refine aw_aload_n dX6_added2_40 rfl rfl ?_
        
        refine aw_V0 dX6_added2_41 cw_X6_186 ⟨_, _, rfl⟩ hM.1 (by omega) ⟨Nat.le_refl _, Nat.le_refl _⟩ (by decide) (c_X6_next (by omega) hM hS (by omega) (by omega) (fun I2 L2 s2 m2 => ?_))
        refine aw_aload_n dX6_added2_44 rfl rfl ?_
        refine aw_V0 dX6_added2_45 cw_X6_283 ⟨_, _, rfl⟩ hM.1 (by omega) ⟨Nat.le_refl _, Nat.le_refl _⟩ (by decide) (c_X6_term2 (by omega) hM m2 (by have := lt_of_S (SV_ok B n).1 hk (by omega); omega) (fun k1 c1 v1 e1 I1 L1 s1 m1 => ?_) (fun k1 e1 rv1 I1 L1 s1 m1 => ?_))
        · refine aw_istore_n (ls' := [_, _, _, _]) dX6_added2_48 (by decide) rfl rfl ?_
          refine aw_iload_n dX6_added2_49 rfl ?_
          refine aw_if_eq (tgt := 59) dX6_added2_50 (by decide) (fun _ => ?_) (fun zz => absurd zz (by decide))
          refine aw_iload_n dX6_added2_59 rfl ?_
          refine aw_iload_n dX6_added2_60 rfl ?_
          refine aw_isub dX6_added2_61 ?_
          refine aw_istore_n (ls' := [_, _, _, _]) dX6_added2_62 (by decide) rfl rfl ?_
          refine aw_goto (tgt := 5) dX6_added2_63 (by decide) ?_
          have hkn := lt_of_S (SV_ok B n).1 hk (by omega)
          have ok1 := (all_ok (SV_ok B n) (lv_ok (SV_ok B n) 3)).2.1 (k + 1) (by omega)
          rw [e1] at ok1
          obtain ⟨b1, b2, b3⟩ := ok1
          simp only at b1 b2
          have b4 := (b3 _ _ rfl).1
          simp only at b4
          have e2 := lp_1 (n := m) (c := c) (v := v) (show jS (SS B n k) = true by rw [c17]; decide) e1
          refine ih k1 (c ++ c1 ++ [stI (SS B n k) 0]) (fun nm => joV (nI (SS B n k)) (v nm) (v1 nm)) _ I1 L1 _ _ (by omega) b2 m1 ?_ (fun k' c' v' e I9 L9 s9 m9 => ?_) (fun k' e rv I9 L9 s9 m9 => ?_)
          · rw [nmI_q s1, nmI_q s2, c17, jo14, hx]
          · rw [nmI_q s1, nmI_q s2]; exact hK k' c' v' (e2.trans e) I9 L9 ((s2.tr s1).tr s9) m9
          · exact hF k' (e2.trans e) rv I9 L9 ((s2.tr s1).tr s9) m9
        · refine aw_istore_n (ls' := [_, _, _, _]) dX6_added2_48 (by decide) rfl rfl ?_
          refine aw_iload_n dX6_added2_49 rfl ?_
          refine aw_if_eq (tgt := 59) dX6_added2_50 (by decide) (fun _ => ?_) (fun zz => absurd zz (by decide))
          refine aw_iload_n dX6_added2_59 rfl ?_
          refine aw_iload_n dX6_added2_60 rfl ?_
          refine aw_isub dX6_added2_61 ?_
          refine aw_istore_n (ls' := [_, _, _, _]) dX6_added2_62 (by decide) rfl rfl ?_
          refine aw_goto (tgt := 5) dX6_added2_63 (by decide) ?_
          refine aw_aload_n dX6_added2_5 rfl rfl ?_
          refine aw_bipush (v := 43) dX6_added2_6 (by decide) ?_
          refine aw_V1 dX6_added2_8 cw_X6_211 ⟨_, _, rfl⟩ hM.1 (by omega) ⟨Nat.le_refl _, Nat.le_refl _⟩ (by decide) (c_X6_isSignB hM m1 ?_)
          refine aw_if_ne (tgt := 23) dX6_added2_11 (by decide) (fun zz => absurd zz (by decide)) (fun _ => ?_)
          refine aw_aload_n dX6_added2_14 rfl rfl ?_
          refine aw_bipush (v := 45) dX6_added2_15 (by decide) ?_
          refine aw_V1 dX6_added2_17 cw_X6_211 ⟨_, _, rfl⟩ hM.1 (by omega) ⟨Nat.le_refl _, Nat.le_refl _⟩ (by decide) (c_X6_isSignB hM m1 ?_)
          refine aw_if_eq (tgt := 66) dX6_added2_20 (by decide) (fun _ => ?_) (fun zz => absurd zz (by decide))
          refine aw_iload_n dX6_added2_66 rfl ?_
          refine aw_ireturn (ty := .int) dX6_added2_67 rfl rfl ?_
          exact hF _ (lp_0 (show jS (SS B n k) = true by rw [c17]; decide) e1) _ _ _ (s2.tr s1) m1
      · refine aw_if_eq (tgt := 66) dX6_added2_20 (by decide) (fun _ => ?_) (fun zz => absurd zz (by decide))
        refine aw_iload_n dX6_added2_66 rfl ?_
        refine aw_ireturn (ty := .int) dX6_added2_67 rfl rfl ?_
        rw [hx]
        exact hK _ _ _ (lp_z (by simp only [jS, Bool.or_eq_true, beq_iff_eq]; omega)) _ _ SaQ.rf hS
theorem c_X6_added2 {E : Ev} {d : Nat} {I : Mi} {L : Ml} {Z : Mz} {Q : Po}  {B : Nat → Int32} {n t k : Nat} (hd : 24 ≤ d) (hM : MZ Z) (hS : MS I L B n t k 2) (hk : k ≤ n) (hK : ∀ (k' : Nat) (c' : List Int32) (v' : Vl), sumR (SS B n) (VV B n) (lvR (SS B n) (VV B n) 3) k = (k', some (c', v')) → ∀ (I9 : Mi) (L9 : Ml), SaQ I I9 → MS I9 L9 B n t k' 2 → Q (some (.int (v' (nmI I)))) I9 L9 Z) (hF : ∀ k' : Nat, sumR (SS B n) (VV B n) (lvR (SS B n) (VV B n) 3) k = (k', none) → ∀ (rv : Int32) (I9 : Mi) (L9 : Ml), SaQ I I9 → MB I9 (plF B n k') → Q (some (.int rv)) I9 L9 Z) : AC E yX6_added2 cX6_added2 4 (some .int) d 0 0 [.ref 48] I L Z Q := by
  refine ac_go (ls := [some (.ref 48), none, none, none]) (by decide +kernel) (Nat.le_of_ble_eq_true rfl) rfl ?_
  refine aw_aload_n dX6_added2_0 rfl rfl ?_
  refine aw_V0 dX6_added2_1 cw_X6_283 ⟨_, _, rfl⟩ hM.1 (by omega) ⟨Nat.le_refl _, Nat.le_refl _⟩ (by decide) (c_X6_term2 (by omega) hM hS hk (fun k1 c1 v1 e1 I1 L1 s1 m1 => ?_) (fun k1 e1 rv1 I1 L1 s1 m1 => ?_))
  · refine aw_istore_n (ls' := [_, _, _, _]) dX6_added2_4 (by decide) rfl rfl ?_
    have e2 : sumR (SS B n) (VV B n) (lvR (SS B n) (VV B n) 3) k = lpR (SS B n) (terR (SS B n) (VV B n) (lvR (SS B n) (VV B n) 3)) jS 160 k1 c1 v1 := bn_1 e1
    have ok1 := (all_ok (SV_ok B n) (lv_ok (SV_ok B n) 3)).2.1 k (by omega)
    rw [e1] at ok1
    obtain ⟨b1, b2, b3⟩ := ok1
    simp only at b1 b2
    have hn6 := hS.1.2.2.2.1
    refine l_X6_added2 hd hM 160 k1 c1 v1 _ I1 L1 _ _ (by omega) b2 m1 (by rw [nmI_q s1]) (fun k' c' v' e I9 L9 s9 m9 => ?_) (fun k' e rv I9 L9 s9 m9 => ?_)
    · rw [nmI_q s1]; exact hK k' c' v' (e2.trans e) I9 L9 (s1.tr s9) m9
    · exact hF k' (e2.trans e) rv I9 L9 (s1.tr s9) m9
  · refine aw_istore_n (ls' := [_, _, _, _]) dX6_added2_4 (by decide) rfl rfl ?_
    refine aw_aload_n dX6_added2_5 rfl rfl ?_
    refine aw_bipush (v := 43) dX6_added2_6 (by decide) ?_
    refine aw_V1 dX6_added2_8 cw_X6_211 ⟨_, _, rfl⟩ hM.1 (by omega) ⟨Nat.le_refl _, Nat.le_refl _⟩ (by decide) (c_X6_isSignB hM m1 ?_)
    refine aw_if_ne (tgt := 23) dX6_added2_11 (by decide) (fun zz => absurd zz (by decide)) (fun _ => ?_)
    refine aw_aload_n dX6_added2_14 rfl rfl ?_
    refine aw_bipush (v := 45) dX6_added2_15 (by decide) ?_
    refine aw_V1 dX6_added2_17 cw_X6_211 ⟨_, _, rfl⟩ hM.1 (by omega) ⟨Nat.le_refl _, Nat.le_refl _⟩ (by decide) (c_X6_isSignB hM m1 ?_)
    refine aw_if_eq (tgt := 66) dX6_added2_20 (by decide) (fun _ => ?_) (fun zz => absurd zz (by decide))
    refine aw_iload_n dX6_added2_66 rfl ?_
    refine aw_ireturn (ty := .int) dX6_added2_67 rfl rfl ?_
    exact hF _ (bn_0 e1) _ _ _ s1 m1
theorem c_X6_not2 {E : Ev} {d : Nat} {I : Mi} {L : Ml} {Z : Mz} {Q : Po}  {B : Nat → Int32} {n t k : Nat} (hd : 25 ≤ d) (hM : MZ Z) (hS : MS I L B n t k 2) (hk : k ≤ n) (hK : ∀ (k' : Nat) (c' : List Int32) (v' : Vl), notR (SS B n) (VV B n) (lvR (SS B n) (VV B n) 3) k = (k', some (c', v')) → ∀ (I9 : Mi) (L9 : Ml), SaQ I I9 → MS I9 L9 B n t k' 2 → Q (some (.int (v' (nmI I)))) I9 L9 Z) (hF : ∀ k' : Nat, notR (SS B n) (VV B n) (lvR (SS B n) (VV B n) 3) k = (k', none) → ∀ (rv : Int32) (I9 : Mi) (L9 : Ml), SaQ I I9 → MB I9 (plF B n k') → Q (some (.int rv)) I9 L9 Z) : AC E yX6_not2 cX6_not2 4 (some .int) d 0 0 [.ref 48] I L Z Q := by
  refine ac_go (ls := [some (.ref 48), none, none, none]) (by decide +kernel) (Nat.le_of_ble_eq_true rfl) rfl ?_
  refine aw_aload_n dX6_not2_0 rfl rfl ?_
  refine aw_bipush (v := 110) dX6_not2_1 (by decide) ?_
  refine aw_bipush (v := 111) dX6_not2_3 (by decide) ?_
  refine aw_bipush (v := 116) dX6_not2_5 (by decide) ?_
  refine aw_iconst (v := 0) dX6_not2_7 (by decide) ?_
  refine aw_iconst (v := 0) dX6_not2_8 (by decide) ?_
  refine aw_iconst (v := 0) dX6_not2_9 (by decide) ?_
  refine aw_iconst (v := 0) dX6_not2_10 (by decide) ?_
  refine aw_iconst (v := 0) dX6_not2_11 (by decide) ?_
  refine aw_V8 dX6_not2_12 cw_X6_189 ⟨_, _, rfl⟩ hM.1 (by omega) ⟨Nat.le_refl _, Nat.le_refl _⟩ (by decide) (c_X6_isWord_not (by omega) hM hS (fun c12 => ?_) (fun c12 => ?_))
  · refine aw_if_eq (tgt := 52) dX6_not2_15 (by decide) (fun zz => absurd zz (by decide)) (fun _ => ?_)
    refine aw_aload_n dX6_not2_18 rfl rfl ?_
    have h9 := (wd_S (by decide)).mp c12
    refine aw_V0 dX6_not2_19 cw_X6_214 ⟨_, _, rfl⟩ hM.1 (by omega) ⟨Nat.le_refl _, Nat.le_refl _⟩ (by decide) (c_X6_opens (by omega) hM hS (by decide) (by omega) (by omega) (fun I0 L0 s0 m0 => ?_))
    refine aw_if_ne (tgt := 27) dX6_not2_22 (by decide) (fun _ => ?_) (fun zz => absurd zz (by decide))
    refine aw_aload_n dX6_not2_27 rfl rfl ?_
    refine aw_V0 dX6_not2_28 cw_X6_271 ⟨_, _, rfl⟩ hM.1 (by omega) ⟨Nat.le_refl _, Nat.le_refl _⟩ (by decide) (c_X6_not3 (by omega) hM m0 (by have := lt_of_S (SV_ok B n).1 hk (by omega); omega) (fun k1 c1 v1 e1 I1 L1 s1 m1 => ?_) (fun k1 e1 rv1 I1 L1 s1 m1 => ?_))
    · refine aw_istore_n (ls' := [_, _, _, _]) dX6_not2_31 (by decide) rfl rfl ?_
      refine aw_aload_n dX6_not2_32 rfl rfl ?_
      refine aw_dup dX6_not2_33 rfl ?_
      refine aw_gi dX6_not2_34 fw_X6_180 hM.1 ?_
      refine aw_iconst (v := 1) dX6_not2_37 (by decide) ?_
      refine aw_isub dX6_not2_38 ?_
      rw [m1.2.2.2, nI_pred]
      refine aw_pi dX6_not2_39 fw_X6_180 (ww_X6_180 _) hM.1 rfl ?_
      refine aw_iload_n dX6_not2_42 rfl ?_
      refine aw_if_ne (tgt := 50) dX6_not2_43 (by decide) (fun c43 => ?_) (fun c43 => ?_)
      · refine aw_iconst (v := 0) dX6_not2_50 (by decide) ?_
        refine aw_ireturn (ty := .int) dX6_not2_51 rfl rfl ?_
        have hq := hK _ _ _ (not_1 h9 e1) _ _ (s0.tr s1).op (MS.op m1)
        rw [nmI_q s0] at c43
        first | (rw [if_pos c43] at hq; exact hq) | (rw [if_neg c43] at hq; exact hq)
      · refine aw_iconst (v := 1) dX6_not2_46 (by decide) ?_
        refine aw_goto (tgt := 51) dX6_not2_47 (by decide) ?_
        refine aw_ireturn (ty := .int) dX6_not2_51 rfl rfl ?_
        have hq := hK _ _ _ (not_1 h9 e1) _ _ (s0.tr s1).op (MS.op m1)
        rw [nmI_q s0] at c43
        first | (rw [if_pos c43] at hq; exact hq) | (rw [if_neg c43] at hq; exact hq)
    · refine aw_istore_n (ls' := [_, _, _, _]) dX6_not2_31 (by decide) rfl rfl ?_
      refine aw_aload_n dX6_not2_32 rfl rfl ?_
      refine aw_dup dX6_not2_33 rfl ?_
      refine aw_gi dX6_not2_34 fw_X6_180 hM.1 ?_
      refine aw_iconst (v := 1) dX6_not2_37 (by decide) ?_
      refine aw_isub dX6_not2_38 ?_
      refine aw_pi dX6_not2_39 fw_X6_180 (ww_X6_180 _) hM.1 rfl ?_
      refine aw_iload_n dX6_not2_42 rfl ?_
      refine aw_if_ne (tgt := 50) dX6_not2_43 (by decide) (fun c43 => ?_) (fun c43 => ?_)
      · refine aw_iconst (v := 0) dX6_not2_50 (by decide) ?_
        refine aw_ireturn (ty := .int) dX6_not2_51 rfl rfl ?_
        exact hF _ (not_0 h9 e1) _ _ _ (s0.tr s1).op m1.op
      · refine aw_iconst (v := 1) dX6_not2_46 (by decide) ?_
        refine aw_goto (tgt := 51) dX6_not2_47 (by decide) ?_
        refine aw_ireturn (ty := .int) dX6_not2_51 rfl rfl ?_
        exact hF _ (not_0 h9 e1) _ _ _ (s0.tr s1).op m1.op
  · refine aw_if_eq (tgt := 52) dX6_not2_15 (by decide) (fun _ => ?_) (fun zz => absurd zz (by decide))
    refine aw_aload_n dX6_not2_52 rfl rfl ?_
    have h9 : ¬ SS B n k = 9 := fun w => c12 ((wd_S (by decide)).mpr w)
    refine aw_V0 dX6_not2_53 cw_X6_286 ⟨_, _, rfl⟩ hM.1 (by omega) ⟨Nat.le_refl _, Nat.le_refl _⟩ (by decide) (c_X6_added2 (by omega) hM hS hk (fun k1 c1 v1 e1 I1 L1 s1 m1 => ?_) (fun k1 e1 rv1 I1 L1 s1 m1 => ?_))
    · refine aw_istore_n (ls' := [_, _, _, _]) dX6_not2_56 (by decide) rfl rfl ?_
      have ok1 := (all_ok (SV_ok B n) (lv_ok (SV_ok B n) 3)).2.2.1 k (by omega)
      rw [e1] at ok1
      obtain ⟨b1, b2, b3⟩ := ok1
      simp only at b1 b2
      refine aw_aload_n dX6_not2_57 rfl rfl ?_
      refine aw_bipush (v := 60) dX6_not2_58 (by decide) ?_
      refine aw_V1 dX6_not2_60 cw_X6_211 ⟨_, _, rfl⟩ hM.1 (by omega) ⟨Nat.le_refl _, Nat.le_refl _⟩ (by decide) (c_X6_isSign_16 hM m1 (fun c60 => ?_) (fun c60 => ?_))
      · refine aw_if_ne (tgt := 77) dX6_not2_63 (by decide) (fun _ => ?_) (fun zz => absurd zz (by decide))
        refine aw_aload_n dX6_not2_77 rfl rfl ?_
        refine aw_gl dX6_not2_78 fw_X6_164 hM.1 ?_
        rw [sw16 m1 c60]
        refine aw_ldc2 dX6_not2_81 kw_X6_233 ?_
        refine aw_lcmp dX6_not2_84 ?_
        refine aw_if_ne (tgt := 92) dX6_not2_85 (by decide) (fun zz => absurd (by decide) zz) (fun c85 => ?_)
        refine aw_iconst (v := 1) dX6_not2_88 (by decide) ?_
        refine aw_goto (tgt := 93) dX6_not2_89 (by decide) ?_
        refine aw_istore_n (ls' := [_, _, _, _]) dX6_not2_93 (by decide) rfl rfl ?_
        refine aw_aload_n dX6_not2_94 rfl rfl ?_
        
        refine aw_V0 dX6_not2_95 cw_X6_186 ⟨_, _, rfl⟩ hM.1 (by omega) ⟨Nat.le_refl _, Nat.le_refl _⟩ (by decide) (c_X6_next (by omega) hM m1 (by omega) (by omega) (fun I2 L2 s2 m2 => ?_))
        refine aw_aload_n dX6_not2_98 rfl rfl ?_
        have d16 := c60
        have hk3 := lt_of_S (SV_ok B n).1 b2 (by omega)
        refine aw_V0 dX6_not2_99 cw_X6_286 ⟨_, _, rfl⟩ hM.1 (by omega) ⟨Nat.le_refl _, Nat.le_refl _⟩ (by decide) (c_X6_added2 (by omega) hM m2 (by omega) (fun k3 c3 v3 e3 I3 L3 s3 m3 => ?_) (fun k3 e3 rv3 I3 L3 s3 m3 => ?_))
        · refine aw_istore_n (ls' := [_, _, _, _]) dX6_not2_102 (by decide) rfl rfl ?_
          refine aw_iload_n dX6_not2_103 rfl ?_
          refine aw_if_eq (tgt := 115) dX6_not2_104 (by decide) (fun zz => absurd zz (by decide)) (fun _ => ?_)
          refine aw_iload_n dX6_not2_107 rfl ?_
          refine aw_iload_n dX6_not2_108 rfl ?_
          refine aw_icmp_ge (tgt := 124) dX6_not2_109 (by decide) (fun c109 => ?_) (fun c109 => ?_)
          · refine aw_iconst (v := 0) dX6_not2_124 (by decide) ?_
            refine aw_ireturn (ty := .int) dX6_not2_125 rfl rfl ?_
            have hq := hK _ _ _ ((not_e h9).trans ((bn_1 e1).trans ((lp_1 (show jN (SS B n k1) = true by rw [d16]; decide) e3).trans rfl))) _ _ ((s1.tr s2).tr s3) m3
            simp only [d16, jo16] at hq
            rw [nmI_q s2, nmI_q s1] at c109
            first | (rw [if_pos c109] at hq; exact hq) | (rw [if_neg c109] at hq; exact hq)
          · refine aw_goto (tgt := 120) dX6_not2_112 (by decide) ?_
            refine aw_iconst (v := 1) dX6_not2_120 (by decide) ?_
            refine aw_goto (tgt := 125) dX6_not2_121 (by decide) ?_
            refine aw_ireturn (ty := .int) dX6_not2_125 rfl rfl ?_
            have hq := hK _ _ _ ((not_e h9).trans ((bn_1 e1).trans ((lp_1 (show jN (SS B n k1) = true by rw [d16]; decide) e3).trans rfl))) _ _ ((s1.tr s2).tr s3) m3
            simp only [d16, jo16] at hq
            rw [nmI_q s2, nmI_q s1] at c109
            first | (rw [if_pos c109] at hq; exact hq) | (rw [if_neg c109] at hq; exact hq)
        · refine aw_istore_n (ls' := [_, _, _, _]) dX6_not2_102 (by decide) rfl rfl ?_
          refine aw_iload_n dX6_not2_103 rfl ?_
          refine aw_if_eq (tgt := 115) dX6_not2_104 (by decide) (fun zz => absurd zz (by decide)) (fun _ => ?_)
          refine aw_iload_n dX6_not2_107 rfl ?_
          refine aw_iload_n dX6_not2_108 rfl ?_
          refine aw_icmp_ge (tgt := 124) dX6_not2_109 (by decide) (fun c109 => ?_) (fun c109 => ?_)
          · refine aw_iconst (v := 0) dX6_not2_124 (by decide) ?_
            refine aw_ireturn (ty := .int) dX6_not2_125 rfl rfl ?_
            exact hF _ ((not_e h9).trans ((bn_1 e1).trans (lp_0 (show jN (SS B n k1) = true by rw [d16]; decide) e3))) _ _ _ ((s1.tr s2).tr s3) m3
          · refine aw_goto (tgt := 120) dX6_not2_112 (by decide) ?_
            refine aw_iconst (v := 1) dX6_not2_120 (by decide) ?_
            refine aw_goto (tgt := 125) dX6_not2_121 (by decide) ?_
            refine aw_ireturn (ty := .int) dX6_not2_125 rfl rfl ?_
            exact hF _ ((not_e h9).trans ((bn_1 e1).trans (lp_0 (show jN (SS B n k1) = true by rw [d16]; decide) e3))) _ _ _ ((s1.tr s2).tr s3) m3
      · refine aw_if_ne (tgt := 77) dX6_not2_63 (by decide) (fun zz => absurd zz (by decide)) (fun _ => ?_)
        refine aw_aload_n dX6_not2_66 rfl rfl ?_
        refine aw_bipush (v := 61) dX6_not2_67 (by decide) ?_
        refine aw_V1 dX6_not2_69 cw_X6_211 ⟨_, _, rfl⟩ hM.1 (by omega) ⟨Nat.le_refl _, Nat.le_refl _⟩ (by decide) (c_X6_isSign_17 hM m1 (fun c69 => ?_) (fun c69 => ?_))
        · refine aw_if_ne (tgt := 77) dX6_not2_72 (by decide) (fun _ => ?_) (fun zz => absurd zz (by decide))
          refine aw_aload_n dX6_not2_77 rfl rfl ?_
          refine aw_gl dX6_not2_78 fw_X6_164 hM.1 ?_
          rw [sw17 m1 c69]
          refine aw_ldc2 dX6_not2_81 kw_X6_233 ?_
          refine aw_lcmp dX6_not2_84 ?_
          refine aw_if_ne (tgt := 92) dX6_not2_85 (by decide) (fun c85 => ?_) (fun zz => absurd zz (by decide))
          refine aw_iconst (v := 0) dX6_not2_92 (by decide) ?_
          refine aw_istore_n (ls' := [_, _, _, _]) dX6_not2_93 (by decide) rfl rfl ?_
          refine aw_aload_n dX6_not2_94 rfl rfl ?_
          
          refine aw_V0 dX6_not2_95 cw_X6_186 ⟨_, _, rfl⟩ hM.1 (by omega) ⟨Nat.le_refl _, Nat.le_refl _⟩ (by decide) (c_X6_next (by omega) hM m1 (by omega) (by omega) (fun I2 L2 s2 m2 => ?_))
          refine aw_aload_n dX6_not2_98 rfl rfl ?_
          have d17 := c69
          have hk3 := lt_of_S (SV_ok B n).1 b2 (by omega)
          refine aw_V0 dX6_not2_99 cw_X6_286 ⟨_, _, rfl⟩ hM.1 (by omega) ⟨Nat.le_refl _, Nat.le_refl _⟩ (by decide) (c_X6_added2 (by omega) hM m2 (by omega) (fun k3 c3 v3 e3 I3 L3 s3 m3 => ?_) (fun k3 e3 rv3 I3 L3 s3 m3 => ?_))
          · refine aw_istore_n (ls' := [_, _, _, _]) dX6_not2_102 (by decide) rfl rfl ?_
            refine aw_iload_n dX6_not2_103 rfl ?_
            refine aw_if_eq (tgt := 115) dX6_not2_104 (by decide) (fun _ => ?_) (fun zz => absurd zz (by decide))
            refine aw_iload_n dX6_not2_115 rfl ?_
            refine aw_iload_n dX6_not2_116 rfl ?_
            refine aw_icmp_ne (tgt := 124) dX6_not2_117 (by decide) (fun c117 => ?_) (fun c117 => ?_)
            · refine aw_iconst (v := 0) dX6_not2_124 (by decide) ?_
              refine aw_ireturn (ty := .int) dX6_not2_125 rfl rfl ?_
              have hq := hK _ _ _ ((not_e h9).trans ((bn_1 e1).trans ((lp_1 (show jN (SS B n k1) = true by rw [d17]; decide) e3).trans rfl))) _ _ ((s1.tr s2).tr s3) m3
              simp only [d17, jo17] at hq
              rw [nmI_q s2, nmI_q s1] at c117
              first | (rw [if_pos c117] at hq; exact hq) | (rw [if_neg c117] at hq; exact hq)
            · refine aw_iconst (v := 1) dX6_not2_120 (by decide) ?_
              refine aw_goto (tgt := 125) dX6_not2_121 (by decide) ?_
              refine aw_ireturn (ty := .int) dX6_not2_125 rfl rfl ?_
              have hq := hK _ _ _ ((not_e h9).trans ((bn_1 e1).trans ((lp_1 (show jN (SS B n k1) = true by rw [d17]; decide) e3).trans rfl))) _ _ ((s1.tr s2).tr s3) m3
              simp only [d17, jo17] at hq
              rw [nmI_q s2, nmI_q s1] at c117
              first | (rw [if_pos c117] at hq; exact hq) | (rw [if_neg c117] at hq; exact hq)
          · refine aw_istore_n (ls' := [_, _, _, _]) dX6_not2_102 (by decide) rfl rfl ?_
            refine aw_iload_n dX6_not2_103 rfl ?_
            refine aw_if_eq (tgt := 115) dX6_not2_104 (by decide) (fun _ => ?_) (fun zz => absurd zz (by decide))
            refine aw_iload_n dX6_not2_115 rfl ?_
            refine aw_iload_n dX6_not2_116 rfl ?_
            refine aw_icmp_ne (tgt := 124) dX6_not2_117 (by decide) (fun c117 => ?_) (fun c117 => ?_)
            · refine aw_iconst (v := 0) dX6_not2_124 (by decide) ?_
              refine aw_ireturn (ty := .int) dX6_not2_125 rfl rfl ?_
              exact hF _ ((not_e h9).trans ((bn_1 e1).trans (lp_0 (show jN (SS B n k1) = true by rw [d17]; decide) e3))) _ _ _ ((s1.tr s2).tr s3) m3
            · refine aw_iconst (v := 1) dX6_not2_120 (by decide) ?_
              refine aw_goto (tgt := 125) dX6_not2_121 (by decide) ?_
              refine aw_ireturn (ty := .int) dX6_not2_125 rfl rfl ?_
              exact hF _ ((not_e h9).trans ((bn_1 e1).trans (lp_0 (show jN (SS B n k1) = true by rw [d17]; decide) e3))) _ _ _ ((s1.tr s2).tr s3) m3
        · refine aw_if_ne (tgt := 77) dX6_not2_72 (by decide) (fun zz => absurd zz (by decide)) (fun _ => ?_)
          refine aw_iload_n dX6_not2_75 rfl ?_
          refine aw_ireturn (ty := .int) dX6_not2_76 rfl rfl ?_
          exact hK _ _ _ ((not_e h9).trans ((bn_1 e1).trans (lp_z (by simp only [jN, Bool.or_eq_true, beq_iff_eq]; omega)))) _ _ s1 m1
    · refine aw_istore_n (ls' := [_, _, _, _]) dX6_not2_56 (by decide) rfl rfl ?_
      refine aw_aload_n dX6_not2_57 rfl rfl ?_
      refine aw_bipush (v := 60) dX6_not2_58 (by decide) ?_
      refine aw_V1 dX6_not2_60 cw_X6_211 ⟨_, _, rfl⟩ hM.1 (by omega) ⟨Nat.le_refl _, Nat.le_refl _⟩ (by decide) (c_X6_isSignB hM m1 ?_)
      refine aw_if_ne (tgt := 77) dX6_not2_63 (by decide) (fun zz => absurd zz (by decide)) (fun _ => ?_)
      refine aw_aload_n dX6_not2_66 rfl rfl ?_
      refine aw_bipush (v := 61) dX6_not2_67 (by decide) ?_
      refine aw_V1 dX6_not2_69 cw_X6_211 ⟨_, _, rfl⟩ hM.1 (by omega) ⟨Nat.le_refl _, Nat.le_refl _⟩ (by decide) (c_X6_isSignB hM m1 ?_)
      refine aw_if_ne (tgt := 77) dX6_not2_72 (by decide) (fun zz => absurd zz (by decide)) (fun _ => ?_)
      refine aw_iload_n dX6_not2_75 rfl ?_
      refine aw_ireturn (ty := .int) dX6_not2_76 rfl rfl ?_
      exact hF _ ((not_e h9).trans (bn_0 e1)) _ _ _ s1 m1
theorem l_X6_both2 {E : Ev} {d : Nat} {Z : Mz} {Q : Po} {B : Nat → Int32} {n t : Nat} (hd : 26 ≤ d) (hM : MZ Z) : ∀ (m k : Nat) (c : List Int32) (v : Vl) (x : Int32) (I : Mi) (L : Ml) (o2 : Option Value), n ≤ k + m → k ≤ n → MS I L B n t k 2 → x = v (nmI I) → (∀ (k' : Nat) (c' : List Int32) (v' : Vl), lpR (SS B n) (notR (SS B n) (VV B n) (lvR (SS B n) (VV B n) 3)) jA m k c v = (k', some (c', v')) → ∀ (I9 : Mi) (L9 : Ml), SaQ I I9 → MS I9 L9 B n t k' 2 → Q (some (.int (v' (nmI I)))) I9 L9 Z) → (∀ k' : Nat, lpR (SS B n) (notR (SS B n) (VV B n) (lvR (SS B n) (VV B n) 3)) jA m k c v = (k', none) → ∀ (rv : Int32) (I9 : Mi) (L9 : Ml), SaQ I I9 → MB I9 (plF B n k') → Q (some (.int rv)) I9 L9 Z) → AW E yX6_both2 cX6_both2 3 (some .int) (rmOf d 0 0) Q 0 0 5 [some (.ref 48), some (.int x), o2] [] I L Z := by
  intro m
  induction m with
  | zero =>
    intro k c v x I L o2 hm hk hS hx hK hF
    have hz : SS B n k = 0 := by rw [show k = n by omega]; exact (SV_ok B n).1
    refine aw_aload_n dX6_both2_5 rfl rfl ?_
    refine aw_bipush (v := 97) dX6_both2_6 (by decide) ?_
    refine aw_bipush (v := 110) dX6_both2_8 (by decide) ?_
    refine aw_bipush (v := 100) dX6_both2_10 (by decide) ?_
    refine aw_iconst (v := 0) dX6_both2_12 (by decide) ?_
    refine aw_iconst (v := 0) dX6_both2_13 (by decide) ?_
    refine aw_iconst (v := 0) dX6_both2_14 (by decide) ?_
    refine aw_iconst (v := 0) dX6_both2_15 (by decide) ?_
    refine aw_iconst (v := 0) dX6_both2_16 (by decide) ?_
    refine aw_V8 dX6_both2_17 cw_X6_189 ⟨_, _, rfl⟩ hM.1 (by omega) ⟨Nat.le_refl _, Nat.le_refl _⟩ (by decide) (c_X6_isWord_and (by omega) hM hS (fun zz => absurd zz (fun w => absurd ((wd_S (by decide)).mp w) (by omega))) (fun c17 => ?_))
    refine aw_if_eq (tgt := 49) dX6_both2_20 (by decide) (fun _ => ?_) (fun zz => absurd zz (by decide))
    refine aw_iload_n dX6_both2_49 rfl ?_
    refine aw_ireturn (ty := .int) dX6_both2_50 rfl rfl ?_
    rw [hx]
    exact hK _ _ _ rfl _ _ SaQ.rf hS
  | succ m ih =>
    intro k c v x I L o2 hm hk hS hx hK hF
    have hJ := fun (J : Nat → Bool) (h : J (SS B n k) = true) => h
    refine aw_aload_n dX6_both2_5 rfl rfl ?_
    refine aw_bipush (v := 97) dX6_both2_6 (by decide) ?_
    refine aw_bipush (v := 110) dX6_both2_8 (by decide) ?_
    refine aw_bipush (v := 100) dX6_both2_10 (by decide) ?_
    refine aw_iconst (v := 0) dX6_both2_12 (by decide) ?_
    refine aw_iconst (v := 0) dX6_both2_13 (by decide) ?_
    refine aw_iconst (v := 0) dX6_both2_14 (by decide) ?_
    refine aw_iconst (v := 0) dX6_both2_15 (by decide) ?_
    refine aw_iconst (v := 0) dX6_both2_16 (by decide) ?_
    refine aw_V8 dX6_both2_17 cw_X6_189 ⟨_, _, rfl⟩ hM.1 (by omega) ⟨Nat.le_refl _, Nat.le_refl _⟩ (by decide) (c_X6_isWord_and (by omega) hM hS (fun c17 => ?_) (fun c17 => ?_))
    · refine aw_if_eq (tgt := 49) dX6_both2_20 (by decide) (fun zz => absurd zz (by decide)) (fun _ => ?_)
      refine aw_aload_n dX6_both2_23 rfl rfl ?_
      have hs8 : SS B n k = 8 := (wd_S (by decide)).mp c17
      refine aw_V0 dX6_both2_24 cw_X6_186 ⟨_, _, rfl⟩ hM.1 (by omega) ⟨Nat.le_refl _, Nat.le_refl _⟩ (by decide) (c_X6_next (by omega) hM hS (by omega) (by omega) (fun I2 L2 s2 m2 => ?_))
      refine aw_aload_n dX6_both2_27 rfl rfl ?_
      refine aw_V0 dX6_both2_28 cw_X6_289 ⟨_, _, rfl⟩ hM.1 (by omega) ⟨Nat.le_refl _, Nat.le_refl _⟩ (by decide) (c_X6_not2 (by omega) hM m2 (by have := lt_of_S (SV_ok B n).1 hk (by omega); omega) (fun k1 c1 v1 e1 I1 L1 s1 m1 => ?_) (fun k1 e1 rv1 I1 L1 s1 m1 => ?_))
      · refine aw_istore_n (ls' := [_, _, _]) dX6_both2_31 (by decide) rfl rfl ?_
        refine aw_iload_n dX6_both2_32 rfl ?_
        refine aw_if_eq (tgt := 44) dX6_both2_33 (by decide) (fun c33 => ?_) (fun c33 => ?_)
        · refine aw_iconst (v := 0) dX6_both2_44 (by decide) ?_
          refine aw_istore_n (ls' := [_, _, _]) dX6_both2_45 (by decide) rfl rfl ?_
          refine aw_goto (tgt := 5) dX6_both2_46 (by decide) ?_
          have hkn := lt_of_S (SV_ok B n).1 hk (by omega)
          have ok1 := (all_ok (SV_ok B n) (lv_ok (SV_ok B n) 3)).2.2.2.1 (k + 1) (by omega)
          rw [e1] at ok1
          obtain ⟨b1, b2, b3⟩ := ok1
          simp only at b1 b2
          have b4 := (b3 _ _ rfl).1
          simp only at b4
          have e2 := lp_1 (n := m) (c := c) (v := v) (show jA (SS B n k) = true by rw [hs8]; decide) e1
          refine ih k1 (c ++ c1 ++ [stI (SS B n k) 0]) (fun nm => joV (nI (SS B n k)) (v nm) (v1 nm)) _ I1 L1 _ (by omega) b2 m1 ?_ (fun k' c' v' e I9 L9 s9 m9 => ?_) (fun k' e rv I9 L9 s9 m9 => ?_)
          · rw [nmI_q s1, nmI_q s2, hs8, jo8, ← hx]
            simp only [c33, not_true_eq_false, not_false_eq_true, and_true, true_and, and_false, false_and, or_true, true_or, or_false, false_or, ite_true, ite_false, if_true, if_false, reduceIte, and_self, or_self]
          · rw [nmI_q s1, nmI_q s2]; exact hK k' c' v' (e2.trans e) I9 L9 ((s2.tr s1).tr s9) m9
          · exact hF k' (e2.trans e) rv I9 L9 ((s2.tr s1).tr s9) m9
        · refine aw_iload_n dX6_both2_36 rfl ?_
          refine aw_if_eq (tgt := 44) dX6_both2_37 (by decide) (fun c37 => ?_) (fun c37 => ?_)
          · refine aw_iconst (v := 0) dX6_both2_44 (by decide) ?_
            refine aw_istore_n (ls' := [_, _, _]) dX6_both2_45 (by decide) rfl rfl ?_
            refine aw_goto (tgt := 5) dX6_both2_46 (by decide) ?_
            have hkn := lt_of_S (SV_ok B n).1 hk (by omega)
            have ok1 := (all_ok (SV_ok B n) (lv_ok (SV_ok B n) 3)).2.2.2.1 (k + 1) (by omega)
            rw [e1] at ok1
            obtain ⟨b1, b2, b3⟩ := ok1
            simp only at b1 b2
            have b4 := (b3 _ _ rfl).1
            simp only at b4
            have e2 := lp_1 (n := m) (c := c) (v := v) (show jA (SS B n k) = true by rw [hs8]; decide) e1
            refine ih k1 (c ++ c1 ++ [stI (SS B n k) 0]) (fun nm => joV (nI (SS B n k)) (v nm) (v1 nm)) _ I1 L1 _ (by omega) b2 m1 ?_ (fun k' c' v' e I9 L9 s9 m9 => ?_) (fun k' e rv I9 L9 s9 m9 => ?_)
            · rw [nmI_q s1, nmI_q s2, hs8, jo8, ← hx]
              rw [nmI_q s2] at c37
              simp only [c33, c37, not_true_eq_false, not_false_eq_true, and_true, true_and, and_false, false_and, or_true, true_or, or_false, false_or, ite_true, ite_false, if_true, if_false, reduceIte, and_self, or_self]
            · rw [nmI_q s1, nmI_q s2]; exact hK k' c' v' (e2.trans e) I9 L9 ((s2.tr s1).tr s9) m9
            · exact hF k' (e2.trans e) rv I9 L9 ((s2.tr s1).tr s9) m9
          · refine aw_iconst (v := 1) dX6_both2_40 (by decide) ?_
            refine aw_goto (tgt := 45) dX6_both2_41 (by decide) ?_
            refine aw_istore_n (ls' := [_, _, _]) dX6_both2_45 (by decide) rfl rfl ?_
            refine aw_goto (tgt := 5) dX6_both2_46 (by decide) ?_
            have hkn := lt_of_S (SV_ok B n).1 hk (by omega)
            have ok1 := (all_ok (SV_ok B n) (lv_ok (SV_ok B n) 3)).2.2.2.1 (k + 1) (by omega)
            rw [e1] at ok1
            obtain ⟨b1, b2, b3⟩ := ok1
            simp only at b1 b2
            have b4 := (b3 _ _ rfl).1
            simp only at b4
            have e2 := lp_1 (n := m) (c := c) (v := v) (show jA (SS B n k) = true by rw [hs8]; decide) e1
            refine ih k1 (c ++ c1 ++ [stI (SS B n k) 0]) (fun nm => joV (nI (SS B n k)) (v nm) (v1 nm)) _ I1 L1 _ (by omega) b2 m1 ?_ (fun k' c' v' e I9 L9 s9 m9 => ?_) (fun k' e rv I9 L9 s9 m9 => ?_)
            · rw [nmI_q s1, nmI_q s2, hs8, jo8, ← hx]
              rw [nmI_q s2] at c37
              simp only [c33, c37, not_true_eq_false, not_false_eq_true, and_true, true_and, and_false, false_and, or_true, true_or, or_false, false_or, ite_true, ite_false, if_true, if_false, reduceIte, and_self, or_self]
            · rw [nmI_q s1, nmI_q s2]; exact hK k' c' v' (e2.trans e) I9 L9 ((s2.tr s1).tr s9) m9
            · exact hF k' (e2.trans e) rv I9 L9 ((s2.tr s1).tr s9) m9
      · refine aw_istore_n (ls' := [_, _, _]) dX6_both2_31 (by decide) rfl rfl ?_
        refine aw_iload_n dX6_both2_32 rfl ?_
        refine aw_if_eq (tgt := 44) dX6_both2_33 (by decide) (fun c33 => ?_) (fun c33 => ?_)
        · refine aw_iconst (v := 0) dX6_both2_44 (by decide) ?_
          refine aw_istore_n (ls' := [_, _, _]) dX6_both2_45 (by decide) rfl rfl ?_
          refine aw_goto (tgt := 5) dX6_both2_46 (by decide) ?_
          refine aw_aload_n dX6_both2_5 rfl rfl ?_
          refine aw_bipush (v := 97) dX6_both2_6 (by decide) ?_
          refine aw_bipush (v := 110) dX6_both2_8 (by decide) ?_
          refine aw_bipush (v := 100) dX6_both2_10 (by decide) ?_
          refine aw_iconst (v := 0) dX6_both2_12 (by decide) ?_
          refine aw_iconst (v := 0) dX6_both2_13 (by decide) ?_
          refine aw_iconst (v := 0) dX6_both2_14 (by decide) ?_
          refine aw_iconst (v := 0) dX6_both2_15 (by decide) ?_
          refine aw_iconst (v := 0) dX6_both2_16 (by decide) ?_
          refine aw_V8 dX6_both2_17 cw_X6_189 ⟨_, _, rfl⟩ hM.1 (by omega) ⟨Nat.le_refl _, Nat.le_refl _⟩ (by decide) (c_X6_isWordB (by omega) hM m1 ?_)
          refine aw_if_eq (tgt := 49) dX6_both2_20 (by decide) (fun _ => ?_) (fun zz => absurd zz (by decide))
          refine aw_iload_n dX6_both2_49 rfl ?_
          refine aw_ireturn (ty := .int) dX6_both2_50 rfl rfl ?_
          exact hF _ (lp_0 (show jA (SS B n k) = true by rw [hs8]; decide) e1) _ _ _ (s2.tr s1) m1
        · refine aw_iload_n dX6_both2_36 rfl ?_
          refine aw_if_eq (tgt := 44) dX6_both2_37 (by decide) (fun c37 => ?_) (fun c37 => ?_)
          · refine aw_iconst (v := 0) dX6_both2_44 (by decide) ?_
            refine aw_istore_n (ls' := [_, _, _]) dX6_both2_45 (by decide) rfl rfl ?_
            refine aw_goto (tgt := 5) dX6_both2_46 (by decide) ?_
            refine aw_aload_n dX6_both2_5 rfl rfl ?_
            refine aw_bipush (v := 97) dX6_both2_6 (by decide) ?_
            refine aw_bipush (v := 110) dX6_both2_8 (by decide) ?_
            refine aw_bipush (v := 100) dX6_both2_10 (by decide) ?_
            refine aw_iconst (v := 0) dX6_both2_12 (by decide) ?_
            refine aw_iconst (v := 0) dX6_both2_13 (by decide) ?_
            refine aw_iconst (v := 0) dX6_both2_14 (by decide) ?_
            refine aw_iconst (v := 0) dX6_both2_15 (by decide) ?_
            refine aw_iconst (v := 0) dX6_both2_16 (by decide) ?_
            refine aw_V8 dX6_both2_17 cw_X6_189 ⟨_, _, rfl⟩ hM.1 (by omega) ⟨Nat.le_refl _, Nat.le_refl _⟩ (by decide) (c_X6_isWordB (by omega) hM m1 ?_)
            refine aw_if_eq (tgt := 49) dX6_both2_20 (by decide) (fun _ => ?_) (fun zz => absurd zz (by decide))
            refine aw_iload_n dX6_both2_49 rfl ?_
            refine aw_ireturn (ty := .int) dX6_both2_50 rfl rfl ?_
            exact hF _ (lp_0 (show jA (SS B n k) = true by rw [hs8]; decide) e1) _ _ _ (s2.tr s1) m1
          · refine aw_iconst (v := 1) dX6_both2_40 (by decide) ?_
            refine aw_goto (tgt := 45) dX6_both2_41 (by decide) ?_
            refine aw_istore_n (ls' := [_, _, _]) dX6_both2_45 (by decide) rfl rfl ?_
            refine aw_goto (tgt := 5) dX6_both2_46 (by decide) ?_
            refine aw_aload_n dX6_both2_5 rfl rfl ?_
            refine aw_bipush (v := 97) dX6_both2_6 (by decide) ?_
            refine aw_bipush (v := 110) dX6_both2_8 (by decide) ?_
            refine aw_bipush (v := 100) dX6_both2_10 (by decide) ?_
            refine aw_iconst (v := 0) dX6_both2_12 (by decide) ?_
            refine aw_iconst (v := 0) dX6_both2_13 (by decide) ?_
            refine aw_iconst (v := 0) dX6_both2_14 (by decide) ?_
            refine aw_iconst (v := 0) dX6_both2_15 (by decide) ?_
            refine aw_iconst (v := 0) dX6_both2_16 (by decide) ?_
            refine aw_V8 dX6_both2_17 cw_X6_189 ⟨_, _, rfl⟩ hM.1 (by omega) ⟨Nat.le_refl _, Nat.le_refl _⟩ (by decide) (c_X6_isWordB (by omega) hM m1 ?_)
            refine aw_if_eq (tgt := 49) dX6_both2_20 (by decide) (fun _ => ?_) (fun zz => absurd zz (by decide))
            refine aw_iload_n dX6_both2_49 rfl ?_
            refine aw_ireturn (ty := .int) dX6_both2_50 rfl rfl ?_
            exact hF _ (lp_0 (show jA (SS B n k) = true by rw [hs8]; decide) e1) _ _ _ (s2.tr s1) m1
    · refine aw_if_eq (tgt := 49) dX6_both2_20 (by decide) (fun _ => ?_) (fun zz => absurd zz (by decide))
      refine aw_iload_n dX6_both2_49 rfl ?_
      refine aw_ireturn (ty := .int) dX6_both2_50 rfl rfl ?_
      rw [hx]
      exact hK _ _ _ (lp_z (by simp only [jA, beq_iff_eq]; exact fun w => c17 ((wd_S (by decide)).mpr w))) _ _ SaQ.rf hS
theorem c_X6_both2 {E : Ev} {d : Nat} {I : Mi} {L : Ml} {Z : Mz} {Q : Po}  {B : Nat → Int32} {n t k : Nat} (hd : 26 ≤ d) (hM : MZ Z) (hS : MS I L B n t k 2) (hk : k ≤ n) (hK : ∀ (k' : Nat) (c' : List Int32) (v' : Vl), andR (SS B n) (VV B n) (lvR (SS B n) (VV B n) 3) k = (k', some (c', v')) → ∀ (I9 : Mi) (L9 : Ml), SaQ I I9 → MS I9 L9 B n t k' 2 → Q (some (.int (v' (nmI I)))) I9 L9 Z) (hF : ∀ k' : Nat, andR (SS B n) (VV B n) (lvR (SS B n) (VV B n) 3) k = (k', none) → ∀ (rv : Int32) (I9 : Mi) (L9 : Ml), SaQ I I9 → MB I9 (plF B n k') → Q (some (.int rv)) I9 L9 Z) : AC E yX6_both2 cX6_both2 3 (some .int) d 0 0 [.ref 48] I L Z Q := by
  refine ac_go (ls := [some (.ref 48), none, none]) (by decide +kernel) (Nat.le_of_ble_eq_true rfl) rfl ?_
  refine aw_aload_n dX6_both2_0 rfl rfl ?_
  refine aw_V0 dX6_both2_1 cw_X6_289 ⟨_, _, rfl⟩ hM.1 (by omega) ⟨Nat.le_refl _, Nat.le_refl _⟩ (by decide) (c_X6_not2 (by omega) hM hS hk (fun k1 c1 v1 e1 I1 L1 s1 m1 => ?_) (fun k1 e1 rv1 I1 L1 s1 m1 => ?_))
  · refine aw_istore_n (ls' := [_, _, _]) dX6_both2_4 (by decide) rfl rfl ?_
    have e2 : andR (SS B n) (VV B n) (lvR (SS B n) (VV B n) 3) k = lpR (SS B n) (notR (SS B n) (VV B n) (lvR (SS B n) (VV B n) 3)) jA 160 k1 c1 v1 := bn_1 e1
    have ok1 := (all_ok (SV_ok B n) (lv_ok (SV_ok B n) 3)).2.2.2.1 k (by omega)
    rw [e1] at ok1
    obtain ⟨b1, b2, b3⟩ := ok1
    simp only at b1 b2
    have hn6 := hS.1.2.2.2.1
    refine l_X6_both2 hd hM 160 k1 c1 v1 _ I1 L1 _ (by omega) b2 m1 (by rw [nmI_q s1]) (fun k' c' v' e I9 L9 s9 m9 => ?_) (fun k' e rv I9 L9 s9 m9 => ?_)
    · rw [nmI_q s1]; exact hK k' c' v' (e2.trans e) I9 L9 (s1.tr s9) m9
    · exact hF k' (e2.trans e) rv I9 L9 (s1.tr s9) m9
  · refine aw_istore_n (ls' := [_, _, _]) dX6_both2_4 (by decide) rfl rfl ?_
    refine aw_aload_n dX6_both2_5 rfl rfl ?_
    refine aw_bipush (v := 97) dX6_both2_6 (by decide) ?_
    refine aw_bipush (v := 110) dX6_both2_8 (by decide) ?_
    refine aw_bipush (v := 100) dX6_both2_10 (by decide) ?_
    refine aw_iconst (v := 0) dX6_both2_12 (by decide) ?_
    refine aw_iconst (v := 0) dX6_both2_13 (by decide) ?_
    refine aw_iconst (v := 0) dX6_both2_14 (by decide) ?_
    refine aw_iconst (v := 0) dX6_both2_15 (by decide) ?_
    refine aw_iconst (v := 0) dX6_both2_16 (by decide) ?_
    refine aw_V8 dX6_both2_17 cw_X6_189 ⟨_, _, rfl⟩ hM.1 (by omega) ⟨Nat.le_refl _, Nat.le_refl _⟩ (by decide) (c_X6_isWordB (by omega) hM m1 ?_)
    refine aw_if_eq (tgt := 49) dX6_both2_20 (by decide) (fun _ => ?_) (fun zz => absurd zz (by decide))
    refine aw_iload_n dX6_both2_49 rfl ?_
    refine aw_ireturn (ty := .int) dX6_both2_50 rfl rfl ?_
    exact hF _ (bn_0 e1) _ _ _ s1 m1
theorem l_X6_either2 {E : Ev} {d : Nat} {Z : Mz} {Q : Po} {B : Nat → Int32} {n t : Nat} (hd : 27 ≤ d) (hM : MZ Z) : ∀ (m k : Nat) (c : List Int32) (v : Vl) (x : Int32) (I : Mi) (L : Ml) (o2 : Option Value), n ≤ k + m → k ≤ n → MS I L B n t k 2 → x = v (nmI I) → (∀ (k' : Nat) (c' : List Int32) (v' : Vl), lpR (SS B n) (andR (SS B n) (VV B n) (lvR (SS B n) (VV B n) 3)) jO m k c v = (k', some (c', v')) → ∀ (I9 : Mi) (L9 : Ml), SaQ I I9 → MS I9 L9 B n t k' 2 → Q (some (.int (v' (nmI I)))) I9 L9 Z) → (∀ k' : Nat, lpR (SS B n) (andR (SS B n) (VV B n) (lvR (SS B n) (VV B n) 3)) jO m k c v = (k', none) → ∀ (rv : Int32) (I9 : Mi) (L9 : Ml), SaQ I I9 → MB I9 (plF B n k') → Q (some (.int rv)) I9 L9 Z) → AW E yX6_either2 cX6_either2 3 (some .int) (rmOf d 0 0) Q 0 0 5 [some (.ref 48), some (.int x), o2] [] I L Z := by
  intro m
  induction m with
  | zero =>
    intro k c v x I L o2 hm hk hS hx hK hF
    have hz : SS B n k = 0 := by rw [show k = n by omega]; exact (SV_ok B n).1
    refine aw_aload_n dX6_either2_5 rfl rfl ?_
    refine aw_bipush (v := 111) dX6_either2_6 (by decide) ?_
    refine aw_bipush (v := 114) dX6_either2_8 (by decide) ?_
    refine aw_iconst (v := 0) dX6_either2_10 (by decide) ?_
    refine aw_iconst (v := 0) dX6_either2_11 (by decide) ?_
    refine aw_iconst (v := 0) dX6_either2_12 (by decide) ?_
    refine aw_iconst (v := 0) dX6_either2_13 (by decide) ?_
    refine aw_iconst (v := 0) dX6_either2_14 (by decide) ?_
    refine aw_iconst (v := 0) dX6_either2_15 (by decide) ?_
    refine aw_V8 dX6_either2_16 cw_X6_189 ⟨_, _, rfl⟩ hM.1 (by omega) ⟨Nat.le_refl _, Nat.le_refl _⟩ (by decide) (c_X6_isWord_or (by omega) hM hS (fun zz => absurd zz (fun w => absurd ((wd_S (by decide)).mp w) (by omega))) (fun c16 => ?_))
    refine aw_if_eq (tgt := 48) dX6_either2_19 (by decide) (fun _ => ?_) (fun zz => absurd zz (by decide))
    refine aw_iload_n dX6_either2_48 rfl ?_
    refine aw_ireturn (ty := .int) dX6_either2_49 rfl rfl ?_
    rw [hx]
    exact hK _ _ _ rfl _ _ SaQ.rf hS
  | succ m ih =>
    intro k c v x I L o2 hm hk hS hx hK hF
    have hJ := fun (J : Nat → Bool) (h : J (SS B n k) = true) => h
    refine aw_aload_n dX6_either2_5 rfl rfl ?_
    refine aw_bipush (v := 111) dX6_either2_6 (by decide) ?_
    refine aw_bipush (v := 114) dX6_either2_8 (by decide) ?_
    refine aw_iconst (v := 0) dX6_either2_10 (by decide) ?_
    refine aw_iconst (v := 0) dX6_either2_11 (by decide) ?_
    refine aw_iconst (v := 0) dX6_either2_12 (by decide) ?_
    refine aw_iconst (v := 0) dX6_either2_13 (by decide) ?_
    refine aw_iconst (v := 0) dX6_either2_14 (by decide) ?_
    refine aw_iconst (v := 0) dX6_either2_15 (by decide) ?_
    refine aw_V8 dX6_either2_16 cw_X6_189 ⟨_, _, rfl⟩ hM.1 (by omega) ⟨Nat.le_refl _, Nat.le_refl _⟩ (by decide) (c_X6_isWord_or (by omega) hM hS (fun c16 => ?_) (fun c16 => ?_))
    · refine aw_if_eq (tgt := 48) dX6_either2_19 (by decide) (fun zz => absurd zz (by decide)) (fun _ => ?_)
      refine aw_aload_n dX6_either2_22 rfl rfl ?_
      have hs8 : SS B n k = 7 := (wd_S (by decide)).mp c16
      refine aw_V0 dX6_either2_23 cw_X6_186 ⟨_, _, rfl⟩ hM.1 (by omega) ⟨Nat.le_refl _, Nat.le_refl _⟩ (by decide) (c_X6_next (by omega) hM hS (by omega) (by omega) (fun I2 L2 s2 m2 => ?_))
      refine aw_aload_n dX6_either2_26 rfl rfl ?_
      refine aw_V0 dX6_either2_27 cw_X6_292 ⟨_, _, rfl⟩ hM.1 (by omega) ⟨Nat.le_refl _, Nat.le_refl _⟩ (by decide) (c_X6_both2 (by omega) hM m2 (by have := lt_of_S (SV_ok B n).1 hk (by omega); omega) (fun k1 c1 v1 e1 I1 L1 s1 m1 => ?_) (fun k1 e1 rv1 I1 L1 s1 m1 => ?_))
      · refine aw_istore_n (ls' := [_, _, _]) dX6_either2_30 (by decide) rfl rfl ?_
        refine aw_iload_n dX6_either2_31 rfl ?_
        refine aw_if_ne (tgt := 39) dX6_either2_32 (by decide) (fun c32 => ?_) (fun c32 => ?_)
        · refine aw_iconst (v := 1) dX6_either2_39 (by decide) ?_
          refine aw_goto (tgt := 44) dX6_either2_40 (by decide) ?_
          refine aw_istore_n (ls' := [_, _, _]) dX6_either2_44 (by decide) rfl rfl ?_
          refine aw_goto (tgt := 5) dX6_either2_45 (by decide) ?_
          have hkn := lt_of_S (SV_ok B n).1 hk (by omega)
          have ok1 := (all_ok (SV_ok B n) (lv_ok (SV_ok B n) 3)).2.2.2.2.1 (k + 1) (by omega)
          rw [e1] at ok1
          obtain ⟨b1, b2, b3⟩ := ok1
          simp only at b1 b2
          have b4 := (b3 _ _ rfl).1
          simp only at b4
          have e2 := lp_1 (n := m) (c := c) (v := v) (show jO (SS B n k) = true by rw [hs8]; decide) e1
          refine ih k1 (c ++ c1 ++ [stI (SS B n k) 0]) (fun nm => joV (nI (SS B n k)) (v nm) (v1 nm)) _ I1 L1 _ (by omega) b2 m1 ?_ (fun k' c' v' e I9 L9 s9 m9 => ?_) (fun k' e rv I9 L9 s9 m9 => ?_)
          · rw [nmI_q s1, nmI_q s2, hs8, jo7, ← hx]
            simp only [c32, not_true_eq_false, not_false_eq_true, and_true, true_and, and_false, false_and, or_true, true_or, or_false, false_or, ite_true, ite_false, if_true, if_false, reduceIte, and_self, or_self]
          · rw [nmI_q s1, nmI_q s2]; exact hK k' c' v' (e2.trans e) I9 L9 ((s2.tr s1).tr s9) m9
          · exact hF k' (e2.trans e) rv I9 L9 ((s2.tr s1).tr s9) m9
        · refine aw_iload_n dX6_either2_35 rfl ?_
          refine aw_if_eq (tgt := 43) dX6_either2_36 (by decide) (fun c36 => ?_) (fun c36 => ?_)
          · refine aw_iconst (v := 0) dX6_either2_43 (by decide) ?_
            refine aw_istore_n (ls' := [_, _, _]) dX6_either2_44 (by decide) rfl rfl ?_
            refine aw_goto (tgt := 5) dX6_either2_45 (by decide) ?_
            have hkn := lt_of_S (SV_ok B n).1 hk (by omega)
            have ok1 := (all_ok (SV_ok B n) (lv_ok (SV_ok B n) 3)).2.2.2.2.1 (k + 1) (by omega)
            rw [e1] at ok1
            obtain ⟨b1, b2, b3⟩ := ok1
            simp only at b1 b2
            have b4 := (b3 _ _ rfl).1
            simp only at b4
            have e2 := lp_1 (n := m) (c := c) (v := v) (show jO (SS B n k) = true by rw [hs8]; decide) e1
            refine ih k1 (c ++ c1 ++ [stI (SS B n k) 0]) (fun nm => joV (nI (SS B n k)) (v nm) (v1 nm)) _ I1 L1 _ (by omega) b2 m1 ?_ (fun k' c' v' e I9 L9 s9 m9 => ?_) (fun k' e rv I9 L9 s9 m9 => ?_)
            · rw [nmI_q s1, nmI_q s2, hs8, jo7, ← hx]
              rw [nmI_q s2] at c36
              simp only [c32, c36, not_true_eq_false, not_false_eq_true, and_true, true_and, and_false, false_and, or_true, true_or, or_false, false_or, ite_true, ite_false, if_true, if_false, reduceIte, and_self, or_self]
            · rw [nmI_q s1, nmI_q s2]; exact hK k' c' v' (e2.trans e) I9 L9 ((s2.tr s1).tr s9) m9
            · exact hF k' (e2.trans e) rv I9 L9 ((s2.tr s1).tr s9) m9
          · refine aw_iconst (v := 1) dX6_either2_39 (by decide) ?_
            refine aw_goto (tgt := 44) dX6_either2_40 (by decide) ?_
            refine aw_istore_n (ls' := [_, _, _]) dX6_either2_44 (by decide) rfl rfl ?_
            refine aw_goto (tgt := 5) dX6_either2_45 (by decide) ?_
            have hkn := lt_of_S (SV_ok B n).1 hk (by omega)
            have ok1 := (all_ok (SV_ok B n) (lv_ok (SV_ok B n) 3)).2.2.2.2.1 (k + 1) (by omega)
            rw [e1] at ok1
            obtain ⟨b1, b2, b3⟩ := ok1
            simp only at b1 b2
            have b4 := (b3 _ _ rfl).1
            simp only at b4
            have e2 := lp_1 (n := m) (c := c) (v := v) (show jO (SS B n k) = true by rw [hs8]; decide) e1
            refine ih k1 (c ++ c1 ++ [stI (SS B n k) 0]) (fun nm => joV (nI (SS B n k)) (v nm) (v1 nm)) _ I1 L1 _ (by omega) b2 m1 ?_ (fun k' c' v' e I9 L9 s9 m9 => ?_) (fun k' e rv I9 L9 s9 m9 => ?_)
            · rw [nmI_q s1, nmI_q s2, hs8, jo7, ← hx]
              rw [nmI_q s2] at c36
              simp only [c32, c36, not_true_eq_false, not_false_eq_true, and_true, true_and, and_false, false_and, or_true, true_or, or_false, false_or, ite_true, ite_false, if_true, if_false, reduceIte, and_self, or_self]
            · rw [nmI_q s1, nmI_q s2]; exact hK k' c' v' (e2.trans e) I9 L9 ((s2.tr s1).tr s9) m9
            · exact hF k' (e2.trans e) rv I9 L9 ((s2.tr s1).tr s9) m9
      · refine aw_istore_n (ls' := [_, _, _]) dX6_either2_30 (by decide) rfl rfl ?_
        refine aw_iload_n dX6_either2_31 rfl ?_
        refine aw_if_ne (tgt := 39) dX6_either2_32 (by decide) (fun c32 => ?_) (fun c32 => ?_)
        · refine aw_iconst (v := 1) dX6_either2_39 (by decide) ?_
          refine aw_goto (tgt := 44) dX6_either2_40 (by decide) ?_
          refine aw_istore_n (ls' := [_, _, _]) dX6_either2_44 (by decide) rfl rfl ?_
          refine aw_goto (tgt := 5) dX6_either2_45 (by decide) ?_
          refine aw_aload_n dX6_either2_5 rfl rfl ?_
          refine aw_bipush (v := 111) dX6_either2_6 (by decide) ?_
          refine aw_bipush (v := 114) dX6_either2_8 (by decide) ?_
          refine aw_iconst (v := 0) dX6_either2_10 (by decide) ?_
          refine aw_iconst (v := 0) dX6_either2_11 (by decide) ?_
          refine aw_iconst (v := 0) dX6_either2_12 (by decide) ?_
          refine aw_iconst (v := 0) dX6_either2_13 (by decide) ?_
          refine aw_iconst (v := 0) dX6_either2_14 (by decide) ?_
          refine aw_iconst (v := 0) dX6_either2_15 (by decide) ?_
          refine aw_V8 dX6_either2_16 cw_X6_189 ⟨_, _, rfl⟩ hM.1 (by omega) ⟨Nat.le_refl _, Nat.le_refl _⟩ (by decide) (c_X6_isWordB (by omega) hM m1 ?_)
          refine aw_if_eq (tgt := 48) dX6_either2_19 (by decide) (fun _ => ?_) (fun zz => absurd zz (by decide))
          refine aw_iload_n dX6_either2_48 rfl ?_
          refine aw_ireturn (ty := .int) dX6_either2_49 rfl rfl ?_
          exact hF _ (lp_0 (show jO (SS B n k) = true by rw [hs8]; decide) e1) _ _ _ (s2.tr s1) m1
        · refine aw_iload_n dX6_either2_35 rfl ?_
          refine aw_if_eq (tgt := 43) dX6_either2_36 (by decide) (fun c36 => ?_) (fun c36 => ?_)
          · refine aw_iconst (v := 0) dX6_either2_43 (by decide) ?_
            refine aw_istore_n (ls' := [_, _, _]) dX6_either2_44 (by decide) rfl rfl ?_
            refine aw_goto (tgt := 5) dX6_either2_45 (by decide) ?_
            refine aw_aload_n dX6_either2_5 rfl rfl ?_
            refine aw_bipush (v := 111) dX6_either2_6 (by decide) ?_
            refine aw_bipush (v := 114) dX6_either2_8 (by decide) ?_
            refine aw_iconst (v := 0) dX6_either2_10 (by decide) ?_
            refine aw_iconst (v := 0) dX6_either2_11 (by decide) ?_
            refine aw_iconst (v := 0) dX6_either2_12 (by decide) ?_
            refine aw_iconst (v := 0) dX6_either2_13 (by decide) ?_
            refine aw_iconst (v := 0) dX6_either2_14 (by decide) ?_
            refine aw_iconst (v := 0) dX6_either2_15 (by decide) ?_
            refine aw_V8 dX6_either2_16 cw_X6_189 ⟨_, _, rfl⟩ hM.1 (by omega) ⟨Nat.le_refl _, Nat.le_refl _⟩ (by decide) (c_X6_isWordB (by omega) hM m1 ?_)
            refine aw_if_eq (tgt := 48) dX6_either2_19 (by decide) (fun _ => ?_) (fun zz => absurd zz (by decide))
            refine aw_iload_n dX6_either2_48 rfl ?_
            refine aw_ireturn (ty := .int) dX6_either2_49 rfl rfl ?_
            exact hF _ (lp_0 (show jO (SS B n k) = true by rw [hs8]; decide) e1) _ _ _ (s2.tr s1) m1
          · refine aw_iconst (v := 1) dX6_either2_39 (by decide) ?_
            refine aw_goto (tgt := 44) dX6_either2_40 (by decide) ?_
            refine aw_istore_n (ls' := [_, _, _]) dX6_either2_44 (by decide) rfl rfl ?_
            refine aw_goto (tgt := 5) dX6_either2_45 (by decide) ?_
            refine aw_aload_n dX6_either2_5 rfl rfl ?_
            refine aw_bipush (v := 111) dX6_either2_6 (by decide) ?_
            refine aw_bipush (v := 114) dX6_either2_8 (by decide) ?_
            refine aw_iconst (v := 0) dX6_either2_10 (by decide) ?_
            refine aw_iconst (v := 0) dX6_either2_11 (by decide) ?_
            refine aw_iconst (v := 0) dX6_either2_12 (by decide) ?_
            refine aw_iconst (v := 0) dX6_either2_13 (by decide) ?_
            refine aw_iconst (v := 0) dX6_either2_14 (by decide) ?_
            refine aw_iconst (v := 0) dX6_either2_15 (by decide) ?_
            refine aw_V8 dX6_either2_16 cw_X6_189 ⟨_, _, rfl⟩ hM.1 (by omega) ⟨Nat.le_refl _, Nat.le_refl _⟩ (by decide) (c_X6_isWordB (by omega) hM m1 ?_)
            refine aw_if_eq (tgt := 48) dX6_either2_19 (by decide) (fun _ => ?_) (fun zz => absurd zz (by decide))
            refine aw_iload_n dX6_either2_48 rfl ?_
            refine aw_ireturn (ty := .int) dX6_either2_49 rfl rfl ?_
            exact hF _ (lp_0 (show jO (SS B n k) = true by rw [hs8]; decide) e1) _ _ _ (s2.tr s1) m1
    · refine aw_if_eq (tgt := 48) dX6_either2_19 (by decide) (fun _ => ?_) (fun zz => absurd zz (by decide))
      refine aw_iload_n dX6_either2_48 rfl ?_
      refine aw_ireturn (ty := .int) dX6_either2_49 rfl rfl ?_
      rw [hx]
      exact hK _ _ _ (lp_z (by simp only [jO, beq_iff_eq]; exact fun w => c16 ((wd_S (by decide)).mpr w))) _ _ SaQ.rf hS
theorem c_X6_either2 {E : Ev} {d : Nat} {I : Mi} {L : Ml} {Z : Mz} {Q : Po}  {B : Nat → Int32} {n t k : Nat} (hd : 27 ≤ d) (hM : MZ Z) (hS : MS I L B n t k 2) (hk : k ≤ n) (hK : ∀ (k' : Nat) (c' : List Int32) (v' : Vl), eitR (SS B n) (VV B n) (lvR (SS B n) (VV B n) 3) k = (k', some (c', v')) → ∀ (I9 : Mi) (L9 : Ml), SaQ I I9 → MS I9 L9 B n t k' 2 → Q (some (.int (v' (nmI I)))) I9 L9 Z) (hF : ∀ k' : Nat, eitR (SS B n) (VV B n) (lvR (SS B n) (VV B n) 3) k = (k', none) → ∀ (rv : Int32) (I9 : Mi) (L9 : Ml), SaQ I I9 → MB I9 (plF B n k') → Q (some (.int rv)) I9 L9 Z) : AC E yX6_either2 cX6_either2 3 (some .int) d 0 0 [.ref 48] I L Z Q := by
  refine ac_go (ls := [some (.ref 48), none, none]) (by decide +kernel) (Nat.le_of_ble_eq_true rfl) rfl ?_
  refine aw_aload_n dX6_either2_0 rfl rfl ?_
  refine aw_V0 dX6_either2_1 cw_X6_292 ⟨_, _, rfl⟩ hM.1 (by omega) ⟨Nat.le_refl _, Nat.le_refl _⟩ (by decide) (c_X6_both2 (by omega) hM hS hk (fun k1 c1 v1 e1 I1 L1 s1 m1 => ?_) (fun k1 e1 rv1 I1 L1 s1 m1 => ?_))
  · refine aw_istore_n (ls' := [_, _, _]) dX6_either2_4 (by decide) rfl rfl ?_
    have e2 : eitR (SS B n) (VV B n) (lvR (SS B n) (VV B n) 3) k = lpR (SS B n) (andR (SS B n) (VV B n) (lvR (SS B n) (VV B n) 3)) jO 160 k1 c1 v1 := bn_1 e1
    have ok1 := (all_ok (SV_ok B n) (lv_ok (SV_ok B n) 3)).2.2.2.2.1 k (by omega)
    rw [e1] at ok1
    obtain ⟨b1, b2, b3⟩ := ok1
    simp only at b1 b2
    have hn6 := hS.1.2.2.2.1
    refine l_X6_either2 hd hM 160 k1 c1 v1 _ I1 L1 _ (by omega) b2 m1 (by rw [nmI_q s1]) (fun k' c' v' e I9 L9 s9 m9 => ?_) (fun k' e rv I9 L9 s9 m9 => ?_)
    · rw [nmI_q s1]; exact hK k' c' v' (e2.trans e) I9 L9 (s1.tr s9) m9
    · exact hF k' (e2.trans e) rv I9 L9 (s1.tr s9) m9
  · refine aw_istore_n (ls' := [_, _, _]) dX6_either2_4 (by decide) rfl rfl ?_
    refine aw_aload_n dX6_either2_5 rfl rfl ?_
    refine aw_bipush (v := 111) dX6_either2_6 (by decide) ?_
    refine aw_bipush (v := 114) dX6_either2_8 (by decide) ?_
    refine aw_iconst (v := 0) dX6_either2_10 (by decide) ?_
    refine aw_iconst (v := 0) dX6_either2_11 (by decide) ?_
    refine aw_iconst (v := 0) dX6_either2_12 (by decide) ?_
    refine aw_iconst (v := 0) dX6_either2_13 (by decide) ?_
    refine aw_iconst (v := 0) dX6_either2_14 (by decide) ?_
    refine aw_iconst (v := 0) dX6_either2_15 (by decide) ?_
    refine aw_V8 dX6_either2_16 cw_X6_189 ⟨_, _, rfl⟩ hM.1 (by omega) ⟨Nat.le_refl _, Nat.le_refl _⟩ (by decide) (c_X6_isWordB (by omega) hM m1 ?_)
    refine aw_if_eq (tgt := 48) dX6_either2_19 (by decide) (fun _ => ?_) (fun zz => absurd zz (by decide))
    refine aw_iload_n dX6_either2_48 rfl ?_
    refine aw_ireturn (ty := .int) dX6_either2_49 rfl rfl ?_
    exact hF _ (bn_0 e1) _ _ _ s1 m1
theorem c_X6_atom1 {E : Ev} {d : Nat} {I : Mi} {L : Ml} {Z : Mz} {Q : Po}  {B : Nat → Int32} {n t k : Nat} (hd : 28 ≤ d) (hM : MZ Z) (hS : MS I L B n t k 1) (hk : k ≤ n) (hK : ∀ (k' : Nat) (c' : List Int32) (v' : Vl), oneR (SS B n) (VV B n) (lvR (SS B n) (VV B n) 4) k = (k', some (c', v')) → ∀ (I9 : Mi) (L9 : Ml), SaQ I I9 → MS I9 L9 B n t k' 1 → Q (some (.int (v' (nmI I)))) I9 L9 Z) (hF : ∀ k' : Nat, oneR (SS B n) (VV B n) (lvR (SS B n) (VV B n) 4) k = (k', none) → ∀ (rv : Int32) (I9 : Mi) (L9 : Ml), SaQ I I9 → MB I9 (plF B n k') → Q (some (.int rv)) I9 L9 Z) : AC E yX6_atom1 cX6_atom1 2 (some .int) d 0 0 [.ref 48] I L Z Q := by
  refine ac_go (ls := [some (.ref 48), none]) (by decide +kernel) (Nat.le_of_ble_eq_true rfl) rfl ?_
  refine aw_iconst (v := 0) dX6_atom1_0 (by decide) ?_
  refine aw_istore_n (ls' := [_, _]) dX6_atom1_1 (by decide) rfl rfl ?_
  refine aw_aload_n dX6_atom1_2 rfl rfl ?_
  refine aw_bipush (v := 45) dX6_atom1_3 (by decide) ?_
  refine aw_V1 dX6_atom1_5 cw_X6_211 ⟨_, _, rfl⟩ hM.1 (by omega) ⟨Nat.le_refl _, Nat.le_refl _⟩ (by decide) (c_X6_isSign_14 hM hS (fun c5 => ?_) (fun c5 => ?_))
  · refine aw_if_eq (tgt := 37) dX6_atom1_8 (by decide) (fun zz => absurd zz (by decide)) (fun _ => ?_)
    refine aw_aload_n dX6_atom1_11 rfl rfl ?_
    refine aw_V0 dX6_atom1_12 cw_X6_214 ⟨_, _, rfl⟩ hM.1 (by omega) ⟨Nat.le_refl _, Nat.le_refl _⟩ (by decide) (c_X6_opens (by omega) hM hS (by decide) (by omega) (by omega) (fun I0 L0 s0 m0 => ?_))
    refine aw_if_eq (tgt := 161) dX6_atom1_15 (by decide) (fun zz => absurd zz (by decide)) (fun _ => ?_)
    refine aw_aload_n dX6_atom1_18 rfl rfl ?_
    refine aw_V0 dX6_atom1_19 cw_X6_280 ⟨_, _, rfl⟩ hM.1 (by omega) ⟨Nat.le_refl _, Nat.le_refl _⟩ (by decide) (c_X6_atom2 (by omega) hM m0 (by have := lt_of_S (SV_ok B n).1 hk (by omega); omega) (fun k1 c1 v1 e1 I1 L1 s1 m1 => ?_) (fun k1 e1 rv1 I1 L1 s1 m1 => ?_))
    · refine aw_ineg dX6_atom1_22 ?_
      refine aw_istore_n (ls' := [_, _]) dX6_atom1_23 (by decide) rfl rfl ?_
      refine aw_aload_n dX6_atom1_24 rfl rfl ?_
      refine aw_dup dX6_atom1_25 rfl ?_
      refine aw_gi dX6_atom1_26 fw_X6_180 hM.1 ?_
      refine aw_iconst (v := 1) dX6_atom1_29 (by decide) ?_
      refine aw_isub dX6_atom1_30 ?_
      rw [m1.2.2.2, nI_pred]
      refine aw_pi dX6_atom1_31 fw_X6_180 (ww_X6_180 _) hM.1 rfl ?_
      refine aw_goto (tgt := 161) dX6_atom1_34 (by decide) ?_
      refine aw_iload_n dX6_atom1_161 rfl ?_
      refine aw_ireturn (ty := .int) dX6_atom1_162 rfl rfl ?_
      rw [nmI_q s0]
      exact hK _ _ _ (one_m1 c5 e1) _ _ (s0.tr s1).op (MS.op m1)
    · refine aw_ineg dX6_atom1_22 ?_
      refine aw_istore_n (ls' := [_, _]) dX6_atom1_23 (by decide) rfl rfl ?_
      refine aw_aload_n dX6_atom1_24 rfl rfl ?_
      refine aw_dup dX6_atom1_25 rfl ?_
      refine aw_gi dX6_atom1_26 fw_X6_180 hM.1 ?_
      refine aw_iconst (v := 1) dX6_atom1_29 (by decide) ?_
      refine aw_isub dX6_atom1_30 ?_
      refine aw_pi dX6_atom1_31 fw_X6_180 (ww_X6_180 _) hM.1 rfl ?_
      refine aw_goto (tgt := 161) dX6_atom1_34 (by decide) ?_
      refine aw_iload_n dX6_atom1_161 rfl ?_
      refine aw_ireturn (ty := .int) dX6_atom1_162 rfl rfl ?_
      exact hF _ (one_m0 c5 e1) _ _ _ (s0.tr s1).op m1.op
  · refine aw_if_eq (tgt := 37) dX6_atom1_8 (by decide) (fun _ => ?_) (fun zz => absurd zz (by decide))
    refine aw_aload_n dX6_atom1_37 rfl rfl ?_
    refine aw_bipush (v := 40) dX6_atom1_38 (by decide) ?_
    refine aw_V1 dX6_atom1_40 cw_X6_211 ⟨_, _, rfl⟩ hM.1 (by omega) ⟨Nat.le_refl _, Nat.le_refl _⟩ (by decide) (c_X6_isSign_10 hM hS (fun c40 => ?_) (fun c40 => ?_))
    · refine aw_if_eq (tgt := 95) dX6_atom1_43 (by decide) (fun zz => absurd zz (by decide)) (fun _ => ?_)
      refine aw_aload_n dX6_atom1_46 rfl rfl ?_
      refine aw_V0 dX6_atom1_47 cw_X6_214 ⟨_, _, rfl⟩ hM.1 (by omega) ⟨Nat.le_refl _, Nat.le_refl _⟩ (by decide) (c_X6_opens (by omega) hM hS (by decide) (by omega) (by omega) (fun I0 L0 s0 m0 => ?_))
      refine aw_if_eq (tgt := 161) dX6_atom1_50 (by decide) (fun zz => absurd zz (by decide)) (fun _ => ?_)
      refine aw_aload_n dX6_atom1_53 rfl rfl ?_
      refine aw_V0 dX6_atom1_54 cw_X6_295 ⟨_, _, rfl⟩ hM.1 (by omega) ⟨Nat.le_refl _, Nat.le_refl _⟩ (by decide) (c_X6_either2 (by omega) hM m0 (by have := lt_of_S (SV_ok B n).1 hk (by omega); omega) (fun k1 c1 v1 e1 I1 L1 s1 m1 => ?_) (fun k1 e1 rv1 I1 L1 s1 m1 => ?_))
      · refine aw_istore_n (ls' := [_, _]) dX6_atom1_57 (by decide) rfl rfl ?_
        refine aw_aload_n dX6_atom1_58 rfl rfl ?_
        refine aw_bipush (v := 41) dX6_atom1_59 (by decide) ?_
        refine aw_V1 dX6_atom1_61 cw_X6_211 ⟨_, _, rfl⟩ hM.1 (by omega) ⟨Nat.le_refl _, Nat.le_refl _⟩ (by decide) (c_X6_isSign_11 hM m1 (fun c61 => ?_) (fun c61 => ?_))
        · refine aw_if_ne (tgt := 71) dX6_atom1_64 (by decide) (fun _ => ?_) (fun zz => absurd zz (by decide))
          refine aw_aload_n dX6_atom1_71 rfl rfl ?_
          refine aw_dup dX6_atom1_72 rfl ?_
          refine aw_gi dX6_atom1_73 fw_X6_180 hM.1 ?_
          refine aw_iconst (v := 1) dX6_atom1_76 (by decide) ?_
          refine aw_isub dX6_atom1_77 ?_
          rw [m1.2.2.2, nI_pred]
          refine aw_pi dX6_atom1_78 fw_X6_180 (ww_X6_180 _) hM.1 rfl ?_
          refine aw_aload_n dX6_atom1_81 rfl rfl ?_
          refine aw_gi dX6_atom1_82 fw_X6_170 hM.1 ?_
          refine aw_if_ne (tgt := 161) dX6_atom1_85 (by decide) (fun zz => absurd (MS.op (o' := 1) m1).2.2.1 zz) (fun c85 => ?_)
          refine aw_aload_n dX6_atom1_88 rfl rfl ?_
          refine aw_V0 dX6_atom1_89 cw_X6_186 ⟨_, _, rfl⟩ hM.1 (by omega) ⟨Nat.le_refl _, Nat.le_refl _⟩ (by decide) (c_X6_next (o := 1) (by omega) hM (MS.op m1) (by omega) (by omega) (fun I2 L2 s2 m2 => ?_))
          refine aw_goto (tgt := 161) dX6_atom1_92 (by decide) ?_
          refine aw_iload_n dX6_atom1_161 rfl ?_
          refine aw_ireturn (ty := .int) dX6_atom1_162 rfl rfl ?_
          rw [nmI_q s0]
          exact hK _ _ _ (one_p1 c40 e1 c61) _ _ ((s0.tr s1).op.tr s2) m2
        · refine aw_if_ne (tgt := 71) dX6_atom1_64 (by decide) (fun zz => absurd zz (by decide)) (fun _ => ?_)
          refine aw_aload_n dX6_atom1_67 rfl rfl ?_
          refine aw_V0 dX6_atom1_68 cw_X6_183 ⟨_, _, rfl⟩ hM.1 (by omega) ⟨Nat.le_refl _, Nat.le_refl _⟩ (by decide) (c_X6_fail hM m1 (fun I9 s9 m9 => ?_))
          refine aw_aload_n dX6_atom1_71 rfl rfl ?_
          refine aw_dup dX6_atom1_72 rfl ?_
          refine aw_gi dX6_atom1_73 fw_X6_180 hM.1 ?_
          refine aw_iconst (v := 1) dX6_atom1_76 (by decide) ?_
          refine aw_isub dX6_atom1_77 ?_
          refine aw_pi dX6_atom1_78 fw_X6_180 (ww_X6_180 _) hM.1 rfl ?_
          refine aw_aload_n dX6_atom1_81 rfl rfl ?_
          refine aw_gi dX6_atom1_82 fw_X6_170 hM.1 ?_
          refine aw_if_ne (tgt := 161) dX6_atom1_85 (by decide) (fun c85 => ?_) (fun zz => absurd zz (by rw [m9.op.1]; decide))
          refine aw_iload_n dX6_atom1_161 rfl ?_
          refine aw_ireturn (ty := .int) dX6_atom1_162 rfl rfl ?_
          exact hF _ (one_p2 c40 e1 c61) _ _ _ ((s0.tr s1).tr s9).op m9.op
      · refine aw_istore_n (ls' := [_, _]) dX6_atom1_57 (by decide) rfl rfl ?_
        refine aw_aload_n dX6_atom1_58 rfl rfl ?_
        refine aw_bipush (v := 41) dX6_atom1_59 (by decide) ?_
        refine aw_V1 dX6_atom1_61 cw_X6_211 ⟨_, _, rfl⟩ hM.1 (by omega) ⟨Nat.le_refl _, Nat.le_refl _⟩ (by decide) (c_X6_isSignB hM m1 ?_)
        refine aw_if_ne (tgt := 71) dX6_atom1_64 (by decide) (fun zz => absurd zz (by decide)) (fun _ => ?_)
        refine aw_aload_n dX6_atom1_67 rfl rfl ?_
        refine aw_V0 dX6_atom1_68 cw_X6_183 ⟨_, _, rfl⟩ hM.1 (by omega) ⟨Nat.le_refl _, Nat.le_refl _⟩ (by decide) (c_X6_failB hM m1 ?_)
        refine aw_aload_n dX6_atom1_71 rfl rfl ?_
        refine aw_dup dX6_atom1_72 rfl ?_
        refine aw_gi dX6_atom1_73 fw_X6_180 hM.1 ?_
        refine aw_iconst (v := 1) dX6_atom1_76 (by decide) ?_
        refine aw_isub dX6_atom1_77 ?_
        refine aw_pi dX6_atom1_78 fw_X6_180 (ww_X6_180 _) hM.1 rfl ?_
        refine aw_aload_n dX6_atom1_81 rfl rfl ?_
        refine aw_gi dX6_atom1_82 fw_X6_170 hM.1 ?_
        refine aw_if_ne (tgt := 161) dX6_atom1_85 (by decide) (fun c85 => ?_) (fun zz => absurd zz (by rw [m1.op.1]; decide))
        refine aw_iload_n dX6_atom1_161 rfl ?_
        refine aw_ireturn (ty := .int) dX6_atom1_162 rfl rfl ?_
        exact hF _ (one_p0 c40 e1) _ _ _ (s0.tr s1).op m1.op
    · refine aw_if_eq (tgt := 95) dX6_atom1_43 (by decide) (fun _ => ?_) (fun zz => absurd zz (by decide))
      refine aw_aload_n dX6_atom1_95 rfl rfl ?_
      refine aw_gi dX6_atom1_96 fw_X6_170 hM.1 ?_
      refine aw_if_ne (tgt := 123) dX6_atom1_99 (by decide) (fun zz => absurd hS.2.2.1 zz) (fun c99 => ?_)
      refine aw_aload_n dX6_atom1_102 rfl rfl ?_
      refine aw_gi dX6_atom1_103 fw_X6_153 hM.1 ?_
      refine aw_iconst (v := 2) dX6_atom1_106 (by decide) ?_
      refine aw_icmp_ne (tgt := 123) dX6_atom1_107 (by decide) (fun c107 => ?_) (fun c107 => ?_)
      · refine aw_aload_n dX6_atom1_123 rfl rfl ?_
        refine aw_gi dX6_atom1_124 fw_X6_170 hM.1 ?_
        refine aw_if_ne (tgt := 157) dX6_atom1_127 (by decide) (fun zz => absurd hS.2.2.1 zz) (fun c127 => ?_)
        refine aw_aload_n dX6_atom1_130 rfl rfl ?_
        refine aw_gi dX6_atom1_131 fw_X6_153 hM.1 ?_
        refine aw_iconst (v := 1) dX6_atom1_134 (by decide) ?_
        refine aw_icmp_ne (tgt := 157) dX6_atom1_135 (by decide) (fun c135 => ?_) (fun c135 => ?_)
        · refine aw_aload_n dX6_atom1_157 rfl rfl ?_
          have h2 : ¬ SS B n k = 2 := fun w => c107 (by rw [hS.2.1.2.1, tk_num.mp w]; rfl)
          have h3 : ¬ SS B n k = 3 := fun w => c135 (by rw [hS.2.1.2.1, s3_mk w]; rfl)
          refine aw_V0 dX6_atom1_158 cw_X6_183 ⟨_, _, rfl⟩ hM.1 (by omega) ⟨Nat.le_refl _, Nat.le_refl _⟩ (by decide) (c_X6_fail hM hS (fun I9 s9 m9 => ?_))
          refine aw_iload_n dX6_atom1_161 rfl ?_
          refine aw_ireturn (ty := .int) dX6_atom1_162 rfl rfl ?_
          exact hF k (one_els h2 h3 (by omega) (by omega)) _ _ _ s9 m9
        · refine aw_aload_n dX6_atom1_138 rfl rfl ?_
          have h2 : ¬ SS B n k = 2 := fun w => c107 (by rw [hS.2.1.2.1, tk_num.mp w]; rfl)
          refine aw_V0 dX6_atom1_139 cw_X6_218 ⟨_, _, rfl⟩ hM.1 (by omega) ⟨Nat.le_refl _, Nat.le_refl _⟩ (by decide) (c_X6_name (by omega) hM hS (fun h3 => ?_) (fun h3 I9 s9 m9 => ?_))
          · refine aw_istore_n (ls' := [_, _]) dX6_atom1_142 (by decide) rfl rfl ?_
            refine aw_aload_n dX6_atom1_143 rfl rfl ?_
            refine aw_gi dX6_atom1_144 fw_X6_170 hM.1 ?_
            refine aw_if_ne (tgt := 161) dX6_atom1_147 (by decide) (fun zz => absurd hS.2.2.1 zz) (fun c147 => ?_)
            refine aw_aload_n dX6_atom1_150 rfl rfl ?_
            
            refine aw_V0 dX6_atom1_151 cw_X6_186 ⟨_, _, rfl⟩ hM.1 (by omega) ⟨Nat.le_refl _, Nat.le_refl _⟩ (by decide) (c_X6_next (by omega) hM hS (by omega) (by omega) (fun I2 L2 s2 m2 => ?_))
            refine aw_goto (tgt := 161) dX6_atom1_154 (by decide) ?_
            refine aw_iload_n dX6_atom1_161 rfl ?_
            refine aw_ireturn (ty := .int) dX6_atom1_162 rfl rfl ?_
            exact hK _ _ _ (one_nam h3) _ _ s2 m2
          · refine aw_istore_n (ls' := [_, _]) dX6_atom1_142 (by decide) rfl rfl ?_
            refine aw_aload_n dX6_atom1_143 rfl rfl ?_
            refine aw_gi dX6_atom1_144 fw_X6_170 hM.1 ?_
            refine aw_if_ne (tgt := 161) dX6_atom1_147 (by decide) (fun c147 => ?_) (fun zz => absurd zz (by rw [m9.1]; decide))
            refine aw_iload_n dX6_atom1_161 rfl ?_
            refine aw_ireturn (ty := .int) dX6_atom1_162 rfl rfl ?_
            exact hF k (one_els h2 h3 (by omega) (by omega)) _ _ _ s9 m9
      · refine aw_aload_n dX6_atom1_110 rfl rfl ?_
        refine aw_gl dX6_atom1_111 fw_X6_164 hM.1 ?_
        have h2 : SS B n k = 2 := tk_num.mpr (by
          have e := hS.2.1.2.1
          rw [c107] at e
          exact ((nI_eq (a := 2) (by decide) (by have := mk_le B n (plF B n k); omega)).mp e).symm)
        have eL : L 48 27 = lN (VV B n k) := by rw [hS.2.1.2.2.2.1 (tk_num.mp h2)]; exact congrArg lN (tk_val h2).symm
        rw [eL]
        refine aw_l2i dX6_atom1_114 ?_
        rw [lN_i]
        refine aw_istore_n (ls' := [_, _]) dX6_atom1_115 (by decide) rfl rfl ?_
        refine aw_aload_n dX6_atom1_116 rfl rfl ?_
        
        refine aw_V0 dX6_atom1_117 cw_X6_186 ⟨_, _, rfl⟩ hM.1 (by omega) ⟨Nat.le_refl _, Nat.le_refl _⟩ (by decide) (c_X6_next (by omega) hM hS (by omega) (by omega) (fun I2 L2 s2 m2 => ?_))
        refine aw_goto (tgt := 161) dX6_atom1_120 (by decide) ?_
        refine aw_iload_n dX6_atom1_161 rfl ?_
        refine aw_ireturn (ty := .int) dX6_atom1_162 rfl rfl ?_
        exact hK _ _ _ (one_num h2) _ _ s2 m2
theorem l_X6_term1 {E : Ev} {d : Nat} {Z : Mz} {Q : Po} {B : Nat → Int32} {n t : Nat} (hd : 29 ≤ d) (hM : MZ Z) : ∀ (m k : Nat) (c : List Int32) (v : Vl) (x : Int32) (I : Mi) (L : Ml), n ≤ k + m → k ≤ n → MS I L B n t k 1 → x = v (nmI I) → (∀ (k' : Nat) (c' : List Int32) (v' : Vl), lpR (SS B n) (oneR (SS B n) (VV B n) (lvR (SS B n) (VV B n) 4)) jT m k c v = (k', some (c', v')) → ∀ (I9 : Mi) (L9 : Ml), SaQ I I9 → MS I9 L9 B n t k' 1 → Q (some (.int (v' (nmI I)))) I9 L9 Z) → (∀ k' : Nat, lpR (SS B n) (oneR (SS B n) (VV B n) (lvR (SS B n) (VV B n) 4)) jT m k c v = (k', none) → ∀ (rv : Int32) (I9 : Mi) (L9 : Ml), SaQ I I9 → MB I9 (plF B n k') → Q (some (.int rv)) I9 L9 Z) → AW E yX6_term1 cX6_term1 2 (some .int) (rmOf d 0 0) Q 0 0 5 [some (.ref 48), some (.int x)] [] I L Z := by
  intro m
  induction m with
  | zero =>
    intro k c v x I L hm hk hS hx hK hF
    have hz : SS B n k = 0 := by rw [show k = n by omega]; exact (SV_ok B n).1
    refine aw_aload_n dX6_term1_5 rfl rfl ?_
    refine aw_bipush (v := 42) dX6_term1_6 (by decide) ?_
    refine aw_V1 dX6_term1_8 cw_X6_211 ⟨_, _, rfl⟩ hM.1 (by omega) ⟨Nat.le_refl _, Nat.le_refl _⟩ (by decide) (c_X6_isSign_15 hM hS (fun zz => absurd zz (by omega)) (fun c8 => ?_))
    refine aw_if_eq (tgt := 28) dX6_term1_11 (by decide) (fun _ => ?_) (fun zz => absurd zz (by decide))
    refine aw_iload_n dX6_term1_28 rfl ?_
    refine aw_ireturn (ty := .int) dX6_term1_29 rfl rfl ?_
    rw [hx]
    exact hK _ _ _ rfl _ _ SaQ.rf hS
  | succ m ih =>
    intro k c v x I L hm hk hS hx hK hF
    have hJ := fun (J : Nat → Bool) (h : J (SS B n k) = true) => h
    refine aw_aload_n dX6_term1_5 rfl rfl ?_
    refine aw_bipush (v := 42) dX6_term1_6 (by decide) ?_
    refine aw_V1 dX6_term1_8 cw_X6_211 ⟨_, _, rfl⟩ hM.1 (by omega) ⟨Nat.le_refl _, Nat.le_refl _⟩ (by decide) (c_X6_isSign_15 hM hS (fun c8 => ?_) (fun c8 => ?_))
    · refine aw_if_eq (tgt := 28) dX6_term1_11 (by decide) (fun zz => absurd zz (by decide)) (fun _ => ?_)
      refine aw_aload_n dX6_term1_14 rfl rfl ?_
      
      refine aw_V0 dX6_term1_15 cw_X6_186 ⟨_, _, rfl⟩ hM.1 (by omega) ⟨Nat.le_refl _, Nat.le_refl _⟩ (by decide) (c_X6_next (by omega) hM hS (by omega) (by omega) (fun I2 L2 s2 m2 => ?_))
      refine aw_iload_n dX6_term1_18 rfl ?_
      refine aw_aload_n dX6_term1_19 rfl rfl ?_
      refine aw_V0 dX6_term1_20 cw_X6_298 ⟨_, _, rfl⟩ hM.1 (by omega) ⟨Nat.le_refl _, Nat.le_refl _⟩ (by simp [Value.category, psh]) (c_X6_atom1 (by omega) hM m2 (by have := lt_of_S (SV_ok B n).1 hk (by omega); omega) (fun k1 c1 v1 e1 I1 L1 s1 m1 => ?_) (fun k1 e1 rv1 I1 L1 s1 m1 => ?_))
      · refine aw_imul dX6_term1_23 ?_
        refine aw_istore_n (ls' := [_, _]) dX6_term1_24 (by decide) rfl rfl ?_
        refine aw_goto (tgt := 5) dX6_term1_25 (by decide) ?_
        have hkn := lt_of_S (SV_ok B n).1 hk (by omega)
        have ok1 := (all_ok (SV_ok B n) (lv_ok (SV_ok B n) 4)).1 (k + 1) (by omega)
        rw [e1] at ok1
        obtain ⟨b1, b2, b3⟩ := ok1
        simp only at b1 b2
        have b4 := (b3 _ _ rfl).1
        simp only at b4
        have e2 := lp_1 (n := m) (c := c) (v := v) (show jT (SS B n k) = true by rw [c8]; decide) e1
        refine ih k1 (c ++ c1 ++ [stI (SS B n k) 0]) (fun nm => joV (nI (SS B n k)) (v nm) (v1 nm)) _ I1 L1 (by omega) b2 m1 ?_ (fun k' c' v' e I9 L9 s9 m9 => ?_) (fun k' e rv I9 L9 s9 m9 => ?_)
        · rw [nmI_q s1, nmI_q s2, c8, jo15, hx]
        · rw [nmI_q s1, nmI_q s2]; exact hK k' c' v' (e2.trans e) I9 L9 ((s2.tr s1).tr s9) m9
        · exact hF k' (e2.trans e) rv I9 L9 ((s2.tr s1).tr s9) m9
      · refine aw_imul dX6_term1_23 ?_
        refine aw_istore_n (ls' := [_, _]) dX6_term1_24 (by decide) rfl rfl ?_
        refine aw_goto (tgt := 5) dX6_term1_25 (by decide) ?_
        refine aw_aload_n dX6_term1_5 rfl rfl ?_
        refine aw_bipush (v := 42) dX6_term1_6 (by decide) ?_
        refine aw_V1 dX6_term1_8 cw_X6_211 ⟨_, _, rfl⟩ hM.1 (by omega) ⟨Nat.le_refl _, Nat.le_refl _⟩ (by decide) (c_X6_isSignB hM m1 ?_)
        refine aw_if_eq (tgt := 28) dX6_term1_11 (by decide) (fun _ => ?_) (fun zz => absurd zz (by decide))
        refine aw_iload_n dX6_term1_28 rfl ?_
        refine aw_ireturn (ty := .int) dX6_term1_29 rfl rfl ?_
        exact hF _ (lp_0 (show jT (SS B n k) = true by rw [c8]; decide) e1) _ _ _ (s2.tr s1) m1
    · refine aw_if_eq (tgt := 28) dX6_term1_11 (by decide) (fun _ => ?_) (fun zz => absurd zz (by decide))
      refine aw_iload_n dX6_term1_28 rfl ?_
      refine aw_ireturn (ty := .int) dX6_term1_29 rfl rfl ?_
      rw [hx]
      exact hK _ _ _ (lp_z (by simp only [jT, beq_iff_eq]; exact c8)) _ _ SaQ.rf hS
theorem c_X6_term1 {E : Ev} {d : Nat} {I : Mi} {L : Ml} {Z : Mz} {Q : Po}  {B : Nat → Int32} {n t k : Nat} (hd : 29 ≤ d) (hM : MZ Z) (hS : MS I L B n t k 1) (hk : k ≤ n) (hK : ∀ (k' : Nat) (c' : List Int32) (v' : Vl), terR (SS B n) (VV B n) (lvR (SS B n) (VV B n) 4) k = (k', some (c', v')) → ∀ (I9 : Mi) (L9 : Ml), SaQ I I9 → MS I9 L9 B n t k' 1 → Q (some (.int (v' (nmI I)))) I9 L9 Z) (hF : ∀ k' : Nat, terR (SS B n) (VV B n) (lvR (SS B n) (VV B n) 4) k = (k', none) → ∀ (rv : Int32) (I9 : Mi) (L9 : Ml), SaQ I I9 → MB I9 (plF B n k') → Q (some (.int rv)) I9 L9 Z) : AC E yX6_term1 cX6_term1 2 (some .int) d 0 0 [.ref 48] I L Z Q := by
  refine ac_go (ls := [some (.ref 48), none]) (by decide +kernel) (Nat.le_of_ble_eq_true rfl) rfl ?_
  refine aw_aload_n dX6_term1_0 rfl rfl ?_
  refine aw_V0 dX6_term1_1 cw_X6_298 ⟨_, _, rfl⟩ hM.1 (by omega) ⟨Nat.le_refl _, Nat.le_refl _⟩ (by decide) (c_X6_atom1 (by omega) hM hS hk (fun k1 c1 v1 e1 I1 L1 s1 m1 => ?_) (fun k1 e1 rv1 I1 L1 s1 m1 => ?_))
  · refine aw_istore_n (ls' := [_, _]) dX6_term1_4 (by decide) rfl rfl ?_
    have e2 : terR (SS B n) (VV B n) (lvR (SS B n) (VV B n) 4) k = lpR (SS B n) (oneR (SS B n) (VV B n) (lvR (SS B n) (VV B n) 4)) jT 160 k1 c1 v1 := bn_1 e1
    have ok1 := (all_ok (SV_ok B n) (lv_ok (SV_ok B n) 4)).1 k (by omega)
    rw [e1] at ok1
    obtain ⟨b1, b2, b3⟩ := ok1
    simp only at b1 b2
    have hn6 := hS.1.2.2.2.1
    refine l_X6_term1 hd hM 160 k1 c1 v1 _ I1 L1 (by omega) b2 m1 (by rw [nmI_q s1]) (fun k' c' v' e I9 L9 s9 m9 => ?_) (fun k' e rv I9 L9 s9 m9 => ?_)
    · rw [nmI_q s1]; exact hK k' c' v' (e2.trans e) I9 L9 (s1.tr s9) m9
    · exact hF k' (e2.trans e) rv I9 L9 (s1.tr s9) m9
  · refine aw_istore_n (ls' := [_, _]) dX6_term1_4 (by decide) rfl rfl ?_
    refine aw_aload_n dX6_term1_5 rfl rfl ?_
    refine aw_bipush (v := 42) dX6_term1_6 (by decide) ?_
    refine aw_V1 dX6_term1_8 cw_X6_211 ⟨_, _, rfl⟩ hM.1 (by omega) ⟨Nat.le_refl _, Nat.le_refl _⟩ (by decide) (c_X6_isSignB hM m1 ?_)
    refine aw_if_eq (tgt := 28) dX6_term1_11 (by decide) (fun _ => ?_) (fun zz => absurd zz (by decide))
    refine aw_iload_n dX6_term1_28 rfl ?_
    refine aw_ireturn (ty := .int) dX6_term1_29 rfl rfl ?_
    exact hF _ (bn_0 e1) _ _ _ s1 m1
theorem l_X6_added1 {E : Ev} {d : Nat} {Z : Mz} {Q : Po} {B : Nat → Int32} {n t : Nat} (hd : 30 ≤ d) (hM : MZ Z) : ∀ (m k : Nat) (c : List Int32) (v : Vl) (x : Int32) (I : Mi) (L : Ml) (o2 o3 : Option Value), n ≤ k + m → k ≤ n → MS I L B n t k 1 → x = v (nmI I) → (∀ (k' : Nat) (c' : List Int32) (v' : Vl), lpR (SS B n) (terR (SS B n) (VV B n) (lvR (SS B n) (VV B n) 4)) jS m k c v = (k', some (c', v')) → ∀ (I9 : Mi) (L9 : Ml), SaQ I I9 → MS I9 L9 B n t k' 1 → Q (some (.int (v' (nmI I)))) I9 L9 Z) → (∀ k' : Nat, lpR (SS B n) (terR (SS B n) (VV B n) (lvR (SS B n) (VV B n) 4)) jS m k c v = (k', none) → ∀ (rv : Int32) (I9 : Mi) (L9 : Ml), SaQ I I9 → MB I9 (plF B n k') → Q (some (.int rv)) I9 L9 Z) → AW E yX6_added1 cX6_added1 4 (some .int) (rmOf d 0 0) Q 0 0 5 [some (.ref 48), some (.int x), o2, o3] [] I L Z := by
  intro m
  induction m with
  | zero =>
    intro k c v x I L o2 o3 hm hk hS hx hK hF
    have hz : SS B n k = 0 := by rw [show k = n by omega]; exact (SV_ok B n).1
    refine aw_aload_n dX6_added1_5 rfl rfl ?_
    refine aw_bipush (v := 43) dX6_added1_6 (by decide) ?_
    refine aw_V1 dX6_added1_8 cw_X6_211 ⟨_, _, rfl⟩ hM.1 (by omega) ⟨Nat.le_refl _, Nat.le_refl _⟩ (by decide) (c_X6_isSign_13 hM hS (fun zz => absurd zz (by omega)) (fun c8 => ?_))
    refine aw_if_ne (tgt := 23) dX6_added1_11 (by decide) (fun zz => absurd zz (by decide)) (fun _ => ?_)
    refine aw_aload_n dX6_added1_14 rfl rfl ?_
    refine aw_bipush (v := 45) dX6_added1_15 (by decide) ?_
    refine aw_V1 dX6_added1_17 cw_X6_211 ⟨_, _, rfl⟩ hM.1 (by omega) ⟨Nat.le_refl _, Nat.le_refl _⟩ (by decide) (c_X6_isSign_14 hM hS (fun zz => absurd zz (by omega)) (fun c17 => ?_))
    refine aw_if_eq (tgt := 66) dX6_added1_20 (by decide) (fun _ => ?_) (fun zz => absurd zz (by decide))
    refine aw_iload_n dX6_added1_66 rfl ?_
    refine aw_ireturn (ty := .int) dX6_added1_67 rfl rfl ?_
    rw [hx]
    exact hK _ _ _ rfl _ _ SaQ.rf hS
  | succ m ih =>
    intro k c v x I L o2 o3 hm hk hS hx hK hF
    have hJ := fun (J : Nat → Bool) (h : J (SS B n k) = true) => h
    refine aw_aload_n dX6_added1_5 rfl rfl ?_
    refine aw_bipush (v := 43) dX6_added1_6 (by decide) ?_
    refine aw_V1 dX6_added1_8 cw_X6_211 ⟨_, _, rfl⟩ hM.1 (by omega) ⟨Nat.le_refl _, Nat.le_refl _⟩ (by decide) (c_X6_isSign_13 hM hS (fun c8 => ?_) (fun c8 => ?_))
    · refine aw_if_ne (tgt := 23) dX6_added1_11 (by decide) (fun _ => ?_) (fun zz => absurd zz (by decide))
      refine aw_aload_n dX6_added1_23 rfl rfl ?_
      refine aw_gl dX6_added1_24 fw_X6_164 hM.1 ?_
      rw [sw13 hS c8]
      refine aw_ldc2 dX6_added1_27 kw_X6_228 ?_
      refine aw_lcmp dX6_added1_30 ?_
      refine aw_if_ne (tgt := 38) dX6_added1_31 (by decide) (fun zz => absurd (by decide) zz) (fun c31 => ?_)
      refine aw_iconst (v := 1) dX6_added1_34 (by decide) ?_
      refine aw_goto (tgt := 39) dX6_added1_35 (by decide) ?_
      refine aw_istore_n (ls' := [_, _, _, _]) dX6_added1_39 (by decide) rfl rfl ?_
      refine aw_aload_n dX6_added1_40 rfl rfl ?_
      
      refine aw_V0 dX6_added1_41 cw_X6_186 ⟨_, _, rfl⟩ hM.1 (by omega) ⟨Nat.le_refl _, Nat.le_refl _⟩ (by decide) (c_X6_next (by omega) hM hS (by omega) (by omega) (fun I2 L2 s2 m2 => ?_))
      refine aw_aload_n dX6_added1_44 rfl rfl ?_
      refine aw_V0 dX6_added1_45 cw_X6_301 ⟨_, _, rfl⟩ hM.1 (by omega) ⟨Nat.le_refl _, Nat.le_refl _⟩ (by decide) (c_X6_term1 (by omega) hM m2 (by have := lt_of_S (SV_ok B n).1 hk (by omega); omega) (fun k1 c1 v1 e1 I1 L1 s1 m1 => ?_) (fun k1 e1 rv1 I1 L1 s1 m1 => ?_))
      · refine aw_istore_n (ls' := [_, _, _, _]) dX6_added1_48 (by decide) rfl rfl ?_
        refine aw_iload_n dX6_added1_49 rfl ?_
        refine aw_if_eq (tgt := 59) dX6_added1_50 (by decide) (fun zz => absurd zz (by decide)) (fun _ => ?_)
        refine aw_iload_n dX6_added1_53 rfl ?_
        refine aw_iload_n dX6_added1_54 rfl ?_
        refine aw_iadd dX6_added1_55 ?_
        refine aw_goto (tgt := 62) dX6_added1_56 (by decide) ?_
        refine aw_istore_n (ls' := [_, _, _, _]) dX6_added1_62 (by decide) rfl rfl ?_
        refine aw_goto (tgt := 5) dX6_added1_63 (by decide) ?_
        have hkn := lt_of_S (SV_ok B n).1 hk (by omega)
        have ok1 := (all_ok (SV_ok B n) (lv_ok (SV_ok B n) 4)).2.1 (k + 1) (by omega)
        rw [e1] at ok1
        obtain ⟨b1, b2, b3⟩ := ok1
        simp only at b1 b2
        have b4 := (b3 _ _ rfl).1
        simp only at b4
        have e2 := lp_1 (n := m) (c := c) (v := v) (show jS (SS B n k) = true by rw [c8]; decide) e1
        refine ih k1 (c ++ c1 ++ [stI (SS B n k) 0]) (fun nm => joV (nI (SS B n k)) (v nm) (v1 nm)) _ I1 L1 _ _ (by omega) b2 m1 ?_ (fun k' c' v' e I9 L9 s9 m9 => ?_) (fun k' e rv I9 L9 s9 m9 => ?_)
        · rw [nmI_q s1, nmI_q s2, c8, jo13, hx]
        · rw [nmI_q s1, nmI_q s2]; exact hK k' c' v' (e2.trans e) I9 L9 ((s2.tr s1).tr s9) m9
        · exact hF k' (e2.trans e) rv I9 L9 ((s2.tr s1).tr s9) m9
      · refine aw_istore_n (ls' := [_, _, _, _]) dX6_added1_48 (by decide) rfl rfl ?_
        refine aw_iload_n dX6_added1_49 rfl ?_
        refine aw_if_eq (tgt := 59) dX6_added1_50 (by decide) (fun zz => absurd zz (by decide)) (fun _ => ?_)
        refine aw_iload_n dX6_added1_53 rfl ?_
        refine aw_iload_n dX6_added1_54 rfl ?_
        refine aw_iadd dX6_added1_55 ?_
        refine aw_goto (tgt := 62) dX6_added1_56 (by decide) ?_
        refine aw_istore_n (ls' := [_, _, _, _]) dX6_added1_62 (by decide) rfl rfl ?_
        refine aw_goto (tgt := 5) dX6_added1_63 (by decide) ?_
        refine aw_aload_n dX6_added1_5 rfl rfl ?_
        refine aw_bipush (v := 43) dX6_added1_6 (by decide) ?_
        refine aw_V1 dX6_added1_8 cw_X6_211 ⟨_, _, rfl⟩ hM.1 (by omega) ⟨Nat.le_refl _, Nat.le_refl _⟩ (by decide) (c_X6_isSignB hM m1 ?_)
        refine aw_if_ne (tgt := 23) dX6_added1_11 (by decide) (fun zz => absurd zz (by decide)) (fun _ => ?_)
        refine aw_aload_n dX6_added1_14 rfl rfl ?_
        refine aw_bipush (v := 45) dX6_added1_15 (by decide) ?_
        refine aw_V1 dX6_added1_17 cw_X6_211 ⟨_, _, rfl⟩ hM.1 (by omega) ⟨Nat.le_refl _, Nat.le_refl _⟩ (by decide) (c_X6_isSignB hM m1 ?_)
        refine aw_if_eq (tgt := 66) dX6_added1_20 (by decide) (fun _ => ?_) (fun zz => absurd zz (by decide))
        refine aw_iload_n dX6_added1_66 rfl ?_
        refine aw_ireturn (ty := .int) dX6_added1_67 rfl rfl ?_
        exact hF _ (lp_0 (show jS (SS B n k) = true by rw [c8]; decide) e1) _ _ _ (s2.tr s1) m1
    · refine aw_if_ne (tgt := 23) dX6_added1_11 (by decide) (fun zz => absurd zz (by decide)) (fun _ => ?_)
      refine aw_aload_n dX6_added1_14 rfl rfl ?_
      refine aw_bipush (v := 45) dX6_added1_15 (by decide) ?_
      refine aw_V1 dX6_added1_17 cw_X6_211 ⟨_, _, rfl⟩ hM.1 (by omega) ⟨Nat.le_refl _, Nat.le_refl _⟩ (by decide) (c_X6_isSign_14 hM hS (fun c17 => ?_) (fun c17 => ?_))
      · refine aw_if_eq (tgt := 66) dX6_added1_20 (by decide) (fun zz => absurd zz (by decide)) (fun _ => ?_)
        refine aw_aload_n dX6_added1_23 rfl rfl ?_
        refine aw_gl dX6_added1_24 fw_X6_164 hM.1 ?_
        rw [sw14 hS c17]
        refine aw_ldc2 dX6_added1_27 kw_X6_228 ?_
        refine aw_lcmp dX6_added1_30 ?_
        refine aw_if_ne (tgt := 38) dX6_added1_31 (by decide) (fun c31 => ?_) (fun zz => absurd zz (by decide))
        refine aw_iconst (v := 0) dX6_added1_38 (by decide) ?_
        refine aw_istore_n (ls' := [_, _, _, _]) dX6_added1_39 (by decide) rfl rfl ?_
        refine aw_aload_n dX6_added1_40 rfl rfl ?_
        
        refine aw_V0 dX6_added1_41 cw_X6_186 ⟨_, _, rfl⟩ hM.1 (by omega) ⟨Nat.le_refl _, Nat.le_refl _⟩ (by decide) (c_X6_next (by omega) hM hS (by omega) (by omega) (fun I2 L2 s2 m2 => ?_))
        refine aw_aload_n dX6_added1_44 rfl rfl ?_
        refine aw_V0 dX6_added1_45 cw_X6_301 ⟨_, _, rfl⟩ hM.1 (by omega) ⟨Nat.le_refl _, Nat.le_refl _⟩ (by decide) (c_X6_term1 (by omega) hM m2 (by have := lt_of_S (SV_ok B n).1 hk (by omega); omega) (fun k1 c1 v1 e1 I1 L1 s1 m1 => ?_) (fun k1 e1 rv1 I1 L1 s1 m1 => ?_))
        · refine aw_istore_n (ls' := [_, _, _, _]) dX6_added1_48 (by decide) rfl rfl ?_
          refine aw_iload_n dX6_added1_49 rfl ?_
          refine aw_if_eq (tgt := 59) dX6_added1_50 (by decide) (fun _ => ?_) (fun zz => absurd zz (by decide))
          refine aw_iload_n dX6_added1_59 rfl ?_
          refine aw_iload_n dX6_added1_60 rfl ?_
          refine aw_isub dX6_added1_61 ?_
          refine aw_istore_n (ls' := [_, _, _, _]) dX6_added1_62 (by decide) rfl rfl ?_
          refine aw_goto (tgt := 5) dX6_added1_63 (by decide) ?_
          have hkn := lt_of_S (SV_ok B n).1 hk (by omega)
          have ok1 := (all_ok (SV_ok B n) (lv_ok (SV_ok B n) 4)).2.1 (k + 1) (by omega)
          rw [e1] at ok1
          obtain ⟨b1, b2, b3⟩ := ok1
          simp only at b1 b2
          have b4 := (b3 _ _ rfl).1
          simp only at b4
          have e2 := lp_1 (n := m) (c := c) (v := v) (show jS (SS B n k) = true by rw [c17]; decide) e1
          refine ih k1 (c ++ c1 ++ [stI (SS B n k) 0]) (fun nm => joV (nI (SS B n k)) (v nm) (v1 nm)) _ I1 L1 _ _ (by omega) b2 m1 ?_ (fun k' c' v' e I9 L9 s9 m9 => ?_) (fun k' e rv I9 L9 s9 m9 => ?_)
          · rw [nmI_q s1, nmI_q s2, c17, jo14, hx]
          · rw [nmI_q s1, nmI_q s2]; exact hK k' c' v' (e2.trans e) I9 L9 ((s2.tr s1).tr s9) m9
          · exact hF k' (e2.trans e) rv I9 L9 ((s2.tr s1).tr s9) m9
        · refine aw_istore_n (ls' := [_, _, _, _]) dX6_added1_48 (by decide) rfl rfl ?_
          refine aw_iload_n dX6_added1_49 rfl ?_
          refine aw_if_eq (tgt := 59) dX6_added1_50 (by decide) (fun _ => ?_) (fun zz => absurd zz (by decide))
          refine aw_iload_n dX6_added1_59 rfl ?_
          refine aw_iload_n dX6_added1_60 rfl ?_
          refine aw_isub dX6_added1_61 ?_
          refine aw_istore_n (ls' := [_, _, _, _]) dX6_added1_62 (by decide) rfl rfl ?_
          refine aw_goto (tgt := 5) dX6_added1_63 (by decide) ?_
          refine aw_aload_n dX6_added1_5 rfl rfl ?_
          refine aw_bipush (v := 43) dX6_added1_6 (by decide) ?_
          refine aw_V1 dX6_added1_8 cw_X6_211 ⟨_, _, rfl⟩ hM.1 (by omega) ⟨Nat.le_refl _, Nat.le_refl _⟩ (by decide) (c_X6_isSignB hM m1 ?_)
          refine aw_if_ne (tgt := 23) dX6_added1_11 (by decide) (fun zz => absurd zz (by decide)) (fun _ => ?_)
          refine aw_aload_n dX6_added1_14 rfl rfl ?_
          refine aw_bipush (v := 45) dX6_added1_15 (by decide) ?_
          refine aw_V1 dX6_added1_17 cw_X6_211 ⟨_, _, rfl⟩ hM.1 (by omega) ⟨Nat.le_refl _, Nat.le_refl _⟩ (by decide) (c_X6_isSignB hM m1 ?_)
          refine aw_if_eq (tgt := 66) dX6_added1_20 (by decide) (fun _ => ?_) (fun zz => absurd zz (by decide))
          refine aw_iload_n dX6_added1_66 rfl ?_
          refine aw_ireturn (ty := .int) dX6_added1_67 rfl rfl ?_
          exact hF _ (lp_0 (show jS (SS B n k) = true by rw [c17]; decide) e1) _ _ _ (s2.tr s1) m1
      · refine aw_if_eq (tgt := 66) dX6_added1_20 (by decide) (fun _ => ?_) (fun zz => absurd zz (by decide))
        refine aw_iload_n dX6_added1_66 rfl ?_
        refine aw_ireturn (ty := .int) dX6_added1_67 rfl rfl ?_
        rw [hx]
        exact hK _ _ _ (lp_z (by simp only [jS, Bool.or_eq_true, beq_iff_eq]; omega)) _ _ SaQ.rf hS
theorem c_X6_added1 {E : Ev} {d : Nat} {I : Mi} {L : Ml} {Z : Mz} {Q : Po}  {B : Nat → Int32} {n t k : Nat} (hd : 30 ≤ d) (hM : MZ Z) (hS : MS I L B n t k 1) (hk : k ≤ n) (hK : ∀ (k' : Nat) (c' : List Int32) (v' : Vl), sumR (SS B n) (VV B n) (lvR (SS B n) (VV B n) 4) k = (k', some (c', v')) → ∀ (I9 : Mi) (L9 : Ml), SaQ I I9 → MS I9 L9 B n t k' 1 → Q (some (.int (v' (nmI I)))) I9 L9 Z) (hF : ∀ k' : Nat, sumR (SS B n) (VV B n) (lvR (SS B n) (VV B n) 4) k = (k', none) → ∀ (rv : Int32) (I9 : Mi) (L9 : Ml), SaQ I I9 → MB I9 (plF B n k') → Q (some (.int rv)) I9 L9 Z) : AC E yX6_added1 cX6_added1 4 (some .int) d 0 0 [.ref 48] I L Z Q := by
  refine ac_go (ls := [some (.ref 48), none, none, none]) (by decide +kernel) (Nat.le_of_ble_eq_true rfl) rfl ?_
  refine aw_aload_n dX6_added1_0 rfl rfl ?_
  refine aw_V0 dX6_added1_1 cw_X6_301 ⟨_, _, rfl⟩ hM.1 (by omega) ⟨Nat.le_refl _, Nat.le_refl _⟩ (by decide) (c_X6_term1 (by omega) hM hS hk (fun k1 c1 v1 e1 I1 L1 s1 m1 => ?_) (fun k1 e1 rv1 I1 L1 s1 m1 => ?_))
  · refine aw_istore_n (ls' := [_, _, _, _]) dX6_added1_4 (by decide) rfl rfl ?_
    have e2 : sumR (SS B n) (VV B n) (lvR (SS B n) (VV B n) 4) k = lpR (SS B n) (terR (SS B n) (VV B n) (lvR (SS B n) (VV B n) 4)) jS 160 k1 c1 v1 := bn_1 e1
    have ok1 := (all_ok (SV_ok B n) (lv_ok (SV_ok B n) 4)).2.1 k (by omega)
    rw [e1] at ok1
    obtain ⟨b1, b2, b3⟩ := ok1
    simp only at b1 b2
    have hn6 := hS.1.2.2.2.1
    refine l_X6_added1 hd hM 160 k1 c1 v1 _ I1 L1 _ _ (by omega) b2 m1 (by rw [nmI_q s1]) (fun k' c' v' e I9 L9 s9 m9 => ?_) (fun k' e rv I9 L9 s9 m9 => ?_)
    · rw [nmI_q s1]; exact hK k' c' v' (e2.trans e) I9 L9 (s1.tr s9) m9
    · exact hF k' (e2.trans e) rv I9 L9 (s1.tr s9) m9
  · refine aw_istore_n (ls' := [_, _, _, _]) dX6_added1_4 (by decide) rfl rfl ?_
    refine aw_aload_n dX6_added1_5 rfl rfl ?_
    refine aw_bipush (v := 43) dX6_added1_6 (by decide) ?_
    refine aw_V1 dX6_added1_8 cw_X6_211 ⟨_, _, rfl⟩ hM.1 (by omega) ⟨Nat.le_refl _, Nat.le_refl _⟩ (by decide) (c_X6_isSignB hM m1 ?_)
    refine aw_if_ne (tgt := 23) dX6_added1_11 (by decide) (fun zz => absurd zz (by decide)) (fun _ => ?_)
    refine aw_aload_n dX6_added1_14 rfl rfl ?_
    refine aw_bipush (v := 45) dX6_added1_15 (by decide) ?_
    refine aw_V1 dX6_added1_17 cw_X6_211 ⟨_, _, rfl⟩ hM.1 (by omega) ⟨Nat.le_refl _, Nat.le_refl _⟩ (by decide) (c_X6_isSignB hM m1 ?_)
    refine aw_if_eq (tgt := 66) dX6_added1_20 (by decide) (fun _ => ?_) (fun zz => absurd zz (by decide))
    refine aw_iload_n dX6_added1_66 rfl ?_
    refine aw_ireturn (ty := .int) dX6_added1_67 rfl rfl ?_
    exact hF _ (bn_0 e1) _ _ _ s1 m1
theorem c_X6_not1 {E : Ev} {d : Nat} {I : Mi} {L : Ml} {Z : Mz} {Q : Po}  {B : Nat → Int32} {n t k : Nat} (hd : 31 ≤ d) (hM : MZ Z) (hS : MS I L B n t k 1) (hk : k ≤ n) (hK : ∀ (k' : Nat) (c' : List Int32) (v' : Vl), notR (SS B n) (VV B n) (lvR (SS B n) (VV B n) 4) k = (k', some (c', v')) → ∀ (I9 : Mi) (L9 : Ml), SaQ I I9 → MS I9 L9 B n t k' 1 → Q (some (.int (v' (nmI I)))) I9 L9 Z) (hF : ∀ k' : Nat, notR (SS B n) (VV B n) (lvR (SS B n) (VV B n) 4) k = (k', none) → ∀ (rv : Int32) (I9 : Mi) (L9 : Ml), SaQ I I9 → MB I9 (plF B n k') → Q (some (.int rv)) I9 L9 Z) : AC E yX6_not1 cX6_not1 4 (some .int) d 0 0 [.ref 48] I L Z Q := by
  refine ac_go (ls := [some (.ref 48), none, none, none]) (by decide +kernel) (Nat.le_of_ble_eq_true rfl) rfl ?_
  refine aw_aload_n dX6_not1_0 rfl rfl ?_
  refine aw_bipush (v := 110) dX6_not1_1 (by decide) ?_
  refine aw_bipush (v := 111) dX6_not1_3 (by decide) ?_
  refine aw_bipush (v := 116) dX6_not1_5 (by decide) ?_
  refine aw_iconst (v := 0) dX6_not1_7 (by decide) ?_
  refine aw_iconst (v := 0) dX6_not1_8 (by decide) ?_
  refine aw_iconst (v := 0) dX6_not1_9 (by decide) ?_
  refine aw_iconst (v := 0) dX6_not1_10 (by decide) ?_
  refine aw_iconst (v := 0) dX6_not1_11 (by decide) ?_
  refine aw_V8 dX6_not1_12 cw_X6_189 ⟨_, _, rfl⟩ hM.1 (by omega) ⟨Nat.le_refl _, Nat.le_refl _⟩ (by decide) (c_X6_isWord_not (by omega) hM hS (fun c12 => ?_) (fun c12 => ?_))
  · refine aw_if_eq (tgt := 52) dX6_not1_15 (by decide) (fun zz => absurd zz (by decide)) (fun _ => ?_)
    refine aw_aload_n dX6_not1_18 rfl rfl ?_
    have h9 := (wd_S (by decide)).mp c12
    refine aw_V0 dX6_not1_19 cw_X6_214 ⟨_, _, rfl⟩ hM.1 (by omega) ⟨Nat.le_refl _, Nat.le_refl _⟩ (by decide) (c_X6_opens (by omega) hM hS (by decide) (by omega) (by omega) (fun I0 L0 s0 m0 => ?_))
    refine aw_if_ne (tgt := 27) dX6_not1_22 (by decide) (fun _ => ?_) (fun zz => absurd zz (by decide))
    refine aw_aload_n dX6_not1_27 rfl rfl ?_
    refine aw_V0 dX6_not1_28 cw_X6_289 ⟨_, _, rfl⟩ hM.1 (by omega) ⟨Nat.le_refl _, Nat.le_refl _⟩ (by decide) (c_X6_not2 (by omega) hM m0 (by have := lt_of_S (SV_ok B n).1 hk (by omega); omega) (fun k1 c1 v1 e1 I1 L1 s1 m1 => ?_) (fun k1 e1 rv1 I1 L1 s1 m1 => ?_))
    · refine aw_istore_n (ls' := [_, _, _, _]) dX6_not1_31 (by decide) rfl rfl ?_
      refine aw_aload_n dX6_not1_32 rfl rfl ?_
      refine aw_dup dX6_not1_33 rfl ?_
      refine aw_gi dX6_not1_34 fw_X6_180 hM.1 ?_
      refine aw_iconst (v := 1) dX6_not1_37 (by decide) ?_
      refine aw_isub dX6_not1_38 ?_
      rw [m1.2.2.2, nI_pred]
      refine aw_pi dX6_not1_39 fw_X6_180 (ww_X6_180 _) hM.1 rfl ?_
      refine aw_iload_n dX6_not1_42 rfl ?_
      refine aw_if_ne (tgt := 50) dX6_not1_43 (by decide) (fun c43 => ?_) (fun c43 => ?_)
      · refine aw_iconst (v := 0) dX6_not1_50 (by decide) ?_
        refine aw_ireturn (ty := .int) dX6_not1_51 rfl rfl ?_
        have hq := hK _ _ _ (not_1 h9 e1) _ _ (s0.tr s1).op (MS.op m1)
        rw [nmI_q s0] at c43
        first | (rw [if_pos c43] at hq; exact hq) | (rw [if_neg c43] at hq; exact hq)
      · refine aw_iconst (v := 1) dX6_not1_46 (by decide) ?_
        refine aw_goto (tgt := 51) dX6_not1_47 (by decide) ?_
        refine aw_ireturn (ty := .int) dX6_not1_51 rfl rfl ?_
        have hq := hK _ _ _ (not_1 h9 e1) _ _ (s0.tr s1).op (MS.op m1)
        rw [nmI_q s0] at c43
        first | (rw [if_pos c43] at hq; exact hq) | (rw [if_neg c43] at hq; exact hq)
    · refine aw_istore_n (ls' := [_, _, _, _]) dX6_not1_31 (by decide) rfl rfl ?_
      refine aw_aload_n dX6_not1_32 rfl rfl ?_
      refine aw_dup dX6_not1_33 rfl ?_
      refine aw_gi dX6_not1_34 fw_X6_180 hM.1 ?_
      refine aw_iconst (v := 1) dX6_not1_37 (by decide) ?_
      refine aw_isub dX6_not1_38 ?_
      refine aw_pi dX6_not1_39 fw_X6_180 (ww_X6_180 _) hM.1 rfl ?_
      refine aw_iload_n dX6_not1_42 rfl ?_
      refine aw_if_ne (tgt := 50) dX6_not1_43 (by decide) (fun c43 => ?_) (fun c43 => ?_)
      · refine aw_iconst (v := 0) dX6_not1_50 (by decide) ?_
        refine aw_ireturn (ty := .int) dX6_not1_51 rfl rfl ?_
        exact hF _ (not_0 h9 e1) _ _ _ (s0.tr s1).op m1.op
      · refine aw_iconst (v := 1) dX6_not1_46 (by decide) ?_
        refine aw_goto (tgt := 51) dX6_not1_47 (by decide) ?_
        refine aw_ireturn (ty := .int) dX6_not1_51 rfl rfl ?_
        exact hF _ (not_0 h9 e1) _ _ _ (s0.tr s1).op m1.op
  · refine aw_if_eq (tgt := 52) dX6_not1_15 (by decide) (fun _ => ?_) (fun zz => absurd zz (by decide))
    refine aw_aload_n dX6_not1_52 rfl rfl ?_
    have h9 : ¬ SS B n k = 9 := fun w => c12 ((wd_S (by decide)).mpr w)
    refine aw_V0 dX6_not1_53 cw_X6_304 ⟨_, _, rfl⟩ hM.1 (by omega) ⟨Nat.le_refl _, Nat.le_refl _⟩ (by decide) (c_X6_added1 (by omega) hM hS hk (fun k1 c1 v1 e1 I1 L1 s1 m1 => ?_) (fun k1 e1 rv1 I1 L1 s1 m1 => ?_))
    · refine aw_istore_n (ls' := [_, _, _, _]) dX6_not1_56 (by decide) rfl rfl ?_
      have ok1 := (all_ok (SV_ok B n) (lv_ok (SV_ok B n) 4)).2.2.1 k (by omega)
      rw [e1] at ok1
      obtain ⟨b1, b2, b3⟩ := ok1
      simp only at b1 b2
      refine aw_aload_n dX6_not1_57 rfl rfl ?_
      refine aw_bipush (v := 60) dX6_not1_58 (by decide) ?_
      refine aw_V1 dX6_not1_60 cw_X6_211 ⟨_, _, rfl⟩ hM.1 (by omega) ⟨Nat.le_refl _, Nat.le_refl _⟩ (by decide) (c_X6_isSign_16 hM m1 (fun c60 => ?_) (fun c60 => ?_))
      · refine aw_if_ne (tgt := 77) dX6_not1_63 (by decide) (fun _ => ?_) (fun zz => absurd zz (by decide))
        refine aw_aload_n dX6_not1_77 rfl rfl ?_
        refine aw_gl dX6_not1_78 fw_X6_164 hM.1 ?_
        rw [sw16 m1 c60]
        refine aw_ldc2 dX6_not1_81 kw_X6_233 ?_
        refine aw_lcmp dX6_not1_84 ?_
        refine aw_if_ne (tgt := 92) dX6_not1_85 (by decide) (fun zz => absurd (by decide) zz) (fun c85 => ?_)
        refine aw_iconst (v := 1) dX6_not1_88 (by decide) ?_
        refine aw_goto (tgt := 93) dX6_not1_89 (by decide) ?_
        refine aw_istore_n (ls' := [_, _, _, _]) dX6_not1_93 (by decide) rfl rfl ?_
        refine aw_aload_n dX6_not1_94 rfl rfl ?_
        
        refine aw_V0 dX6_not1_95 cw_X6_186 ⟨_, _, rfl⟩ hM.1 (by omega) ⟨Nat.le_refl _, Nat.le_refl _⟩ (by decide) (c_X6_next (by omega) hM m1 (by omega) (by omega) (fun I2 L2 s2 m2 => ?_))
        refine aw_aload_n dX6_not1_98 rfl rfl ?_
        have d16 := c60
        have hk3 := lt_of_S (SV_ok B n).1 b2 (by omega)
        refine aw_V0 dX6_not1_99 cw_X6_304 ⟨_, _, rfl⟩ hM.1 (by omega) ⟨Nat.le_refl _, Nat.le_refl _⟩ (by decide) (c_X6_added1 (by omega) hM m2 (by omega) (fun k3 c3 v3 e3 I3 L3 s3 m3 => ?_) (fun k3 e3 rv3 I3 L3 s3 m3 => ?_))
        · refine aw_istore_n (ls' := [_, _, _, _]) dX6_not1_102 (by decide) rfl rfl ?_
          refine aw_iload_n dX6_not1_103 rfl ?_
          refine aw_if_eq (tgt := 115) dX6_not1_104 (by decide) (fun zz => absurd zz (by decide)) (fun _ => ?_)
          refine aw_iload_n dX6_not1_107 rfl ?_
          refine aw_iload_n dX6_not1_108 rfl ?_
          refine aw_icmp_ge (tgt := 124) dX6_not1_109 (by decide) (fun c109 => ?_) (fun c109 => ?_)
          · refine aw_iconst (v := 0) dX6_not1_124 (by decide) ?_
            refine aw_ireturn (ty := .int) dX6_not1_125 rfl rfl ?_
            have hq := hK _ _ _ ((not_e h9).trans ((bn_1 e1).trans ((lp_1 (show jN (SS B n k1) = true by rw [d16]; decide) e3).trans rfl))) _ _ ((s1.tr s2).tr s3) m3
            simp only [d16, jo16] at hq
            rw [nmI_q s2, nmI_q s1] at c109
            first | (rw [if_pos c109] at hq; exact hq) | (rw [if_neg c109] at hq; exact hq)
          · refine aw_goto (tgt := 120) dX6_not1_112 (by decide) ?_
            refine aw_iconst (v := 1) dX6_not1_120 (by decide) ?_
            refine aw_goto (tgt := 125) dX6_not1_121 (by decide) ?_
            refine aw_ireturn (ty := .int) dX6_not1_125 rfl rfl ?_
            have hq := hK _ _ _ ((not_e h9).trans ((bn_1 e1).trans ((lp_1 (show jN (SS B n k1) = true by rw [d16]; decide) e3).trans rfl))) _ _ ((s1.tr s2).tr s3) m3
            simp only [d16, jo16] at hq
            rw [nmI_q s2, nmI_q s1] at c109
            first | (rw [if_pos c109] at hq; exact hq) | (rw [if_neg c109] at hq; exact hq)
        · refine aw_istore_n (ls' := [_, _, _, _]) dX6_not1_102 (by decide) rfl rfl ?_
          refine aw_iload_n dX6_not1_103 rfl ?_
          refine aw_if_eq (tgt := 115) dX6_not1_104 (by decide) (fun zz => absurd zz (by decide)) (fun _ => ?_)
          refine aw_iload_n dX6_not1_107 rfl ?_
          refine aw_iload_n dX6_not1_108 rfl ?_
          refine aw_icmp_ge (tgt := 124) dX6_not1_109 (by decide) (fun c109 => ?_) (fun c109 => ?_)
          · refine aw_iconst (v := 0) dX6_not1_124 (by decide) ?_
            refine aw_ireturn (ty := .int) dX6_not1_125 rfl rfl ?_
            exact hF _ ((not_e h9).trans ((bn_1 e1).trans (lp_0 (show jN (SS B n k1) = true by rw [d16]; decide) e3))) _ _ _ ((s1.tr s2).tr s3) m3
          · refine aw_goto (tgt := 120) dX6_not1_112 (by decide) ?_
            refine aw_iconst (v := 1) dX6_not1_120 (by decide) ?_
            refine aw_goto (tgt := 125) dX6_not1_121 (by decide) ?_
            refine aw_ireturn (ty := .int) dX6_not1_125 rfl rfl ?_
            exact hF _ ((not_e h9).trans ((bn_1 e1).trans (lp_0 (show jN (SS B n k1) = true by rw [d16]; decide) e3))) _ _ _ ((s1.tr s2).tr s3) m3
      · refine aw_if_ne (tgt := 77) dX6_not1_63 (by decide) (fun zz => absurd zz (by decide)) (fun _ => ?_)
        refine aw_aload_n dX6_not1_66 rfl rfl ?_
        refine aw_bipush (v := 61) dX6_not1_67 (by decide) ?_
        refine aw_V1 dX6_not1_69 cw_X6_211 ⟨_, _, rfl⟩ hM.1 (by omega) ⟨Nat.le_refl _, Nat.le_refl _⟩ (by decide) (c_X6_isSign_17 hM m1 (fun c69 => ?_) (fun c69 => ?_))
        · refine aw_if_ne (tgt := 77) dX6_not1_72 (by decide) (fun _ => ?_) (fun zz => absurd zz (by decide))
          refine aw_aload_n dX6_not1_77 rfl rfl ?_
          refine aw_gl dX6_not1_78 fw_X6_164 hM.1 ?_
          rw [sw17 m1 c69]
          refine aw_ldc2 dX6_not1_81 kw_X6_233 ?_
          refine aw_lcmp dX6_not1_84 ?_
          refine aw_if_ne (tgt := 92) dX6_not1_85 (by decide) (fun c85 => ?_) (fun zz => absurd zz (by decide))
          refine aw_iconst (v := 0) dX6_not1_92 (by decide) ?_
          refine aw_istore_n (ls' := [_, _, _, _]) dX6_not1_93 (by decide) rfl rfl ?_
          refine aw_aload_n dX6_not1_94 rfl rfl ?_
          
          refine aw_V0 dX6_not1_95 cw_X6_186 ⟨_, _, rfl⟩ hM.1 (by omega) ⟨Nat.le_refl _, Nat.le_refl _⟩ (by decide) (c_X6_next (by omega) hM m1 (by omega) (by omega) (fun I2 L2 s2 m2 => ?_))
          refine aw_aload_n dX6_not1_98 rfl rfl ?_
          have d17 := c69
          have hk3 := lt_of_S (SV_ok B n).1 b2 (by omega)
          refine aw_V0 dX6_not1_99 cw_X6_304 ⟨_, _, rfl⟩ hM.1 (by omega) ⟨Nat.le_refl _, Nat.le_refl _⟩ (by decide) (c_X6_added1 (by omega) hM m2 (by omega) (fun k3 c3 v3 e3 I3 L3 s3 m3 => ?_) (fun k3 e3 rv3 I3 L3 s3 m3 => ?_))
          · refine aw_istore_n (ls' := [_, _, _, _]) dX6_not1_102 (by decide) rfl rfl ?_
            refine aw_iload_n dX6_not1_103 rfl ?_
            refine aw_if_eq (tgt := 115) dX6_not1_104 (by decide) (fun _ => ?_) (fun zz => absurd zz (by decide))
            refine aw_iload_n dX6_not1_115 rfl ?_
            refine aw_iload_n dX6_not1_116 rfl ?_
            refine aw_icmp_ne (tgt := 124) dX6_not1_117 (by decide) (fun c117 => ?_) (fun c117 => ?_)
            · refine aw_iconst (v := 0) dX6_not1_124 (by decide) ?_
              refine aw_ireturn (ty := .int) dX6_not1_125 rfl rfl ?_
              have hq := hK _ _ _ ((not_e h9).trans ((bn_1 e1).trans ((lp_1 (show jN (SS B n k1) = true by rw [d17]; decide) e3).trans rfl))) _ _ ((s1.tr s2).tr s3) m3
              simp only [d17, jo17] at hq
              rw [nmI_q s2, nmI_q s1] at c117
              first | (rw [if_pos c117] at hq; exact hq) | (rw [if_neg c117] at hq; exact hq)
            · refine aw_iconst (v := 1) dX6_not1_120 (by decide) ?_
              refine aw_goto (tgt := 125) dX6_not1_121 (by decide) ?_
              refine aw_ireturn (ty := .int) dX6_not1_125 rfl rfl ?_
              have hq := hK _ _ _ ((not_e h9).trans ((bn_1 e1).trans ((lp_1 (show jN (SS B n k1) = true by rw [d17]; decide) e3).trans rfl))) _ _ ((s1.tr s2).tr s3) m3
              simp only [d17, jo17] at hq
              rw [nmI_q s2, nmI_q s1] at c117
              first | (rw [if_pos c117] at hq; exact hq) | (rw [if_neg c117] at hq; exact hq)
          · refine aw_istore_n (ls' := [_, _, _, _]) dX6_not1_102 (by decide) rfl rfl ?_
            refine aw_iload_n dX6_not1_103 rfl ?_
            refine aw_if_eq (tgt := 115) dX6_not1_104 (by decide) (fun _ => ?_) (fun zz => absurd zz (by decide))
            refine aw_iload_n dX6_not1_115 rfl ?_
            refine aw_iload_n dX6_not1_116 rfl ?_
            refine aw_icmp_ne (tgt := 124) dX6_not1_117 (by decide) (fun c117 => ?_) (fun c117 => ?_)
            · refine aw_iconst (v := 0) dX6_not1_124 (by decide) ?_
              refine aw_ireturn (ty := .int) dX6_not1_125 rfl rfl ?_
              exact hF _ ((not_e h9).trans ((bn_1 e1).trans (lp_0 (show jN (SS B n k1) = true by rw [d17]; decide) e3))) _ _ _ ((s1.tr s2).tr s3) m3
            · refine aw_iconst (v := 1) dX6_not1_120 (by decide) ?_
              refine aw_goto (tgt := 125) dX6_not1_121 (by decide) ?_
              refine aw_ireturn (ty := .int) dX6_not1_125 rfl rfl ?_
              exact hF _ ((not_e h9).trans ((bn_1 e1).trans (lp_0 (show jN (SS B n k1) = true by rw [d17]; decide) e3))) _ _ _ ((s1.tr s2).tr s3) m3
        · refine aw_if_ne (tgt := 77) dX6_not1_72 (by decide) (fun zz => absurd zz (by decide)) (fun _ => ?_)
          refine aw_iload_n dX6_not1_75 rfl ?_
          refine aw_ireturn (ty := .int) dX6_not1_76 rfl rfl ?_
          exact hK _ _ _ ((not_e h9).trans ((bn_1 e1).trans (lp_z (by simp only [jN, Bool.or_eq_true, beq_iff_eq]; omega)))) _ _ s1 m1
    · refine aw_istore_n (ls' := [_, _, _, _]) dX6_not1_56 (by decide) rfl rfl ?_
      refine aw_aload_n dX6_not1_57 rfl rfl ?_
      refine aw_bipush (v := 60) dX6_not1_58 (by decide) ?_
      refine aw_V1 dX6_not1_60 cw_X6_211 ⟨_, _, rfl⟩ hM.1 (by omega) ⟨Nat.le_refl _, Nat.le_refl _⟩ (by decide) (c_X6_isSignB hM m1 ?_)
      refine aw_if_ne (tgt := 77) dX6_not1_63 (by decide) (fun zz => absurd zz (by decide)) (fun _ => ?_)
      refine aw_aload_n dX6_not1_66 rfl rfl ?_
      refine aw_bipush (v := 61) dX6_not1_67 (by decide) ?_
      refine aw_V1 dX6_not1_69 cw_X6_211 ⟨_, _, rfl⟩ hM.1 (by omega) ⟨Nat.le_refl _, Nat.le_refl _⟩ (by decide) (c_X6_isSignB hM m1 ?_)
      refine aw_if_ne (tgt := 77) dX6_not1_72 (by decide) (fun zz => absurd zz (by decide)) (fun _ => ?_)
      refine aw_iload_n dX6_not1_75 rfl ?_
      refine aw_ireturn (ty := .int) dX6_not1_76 rfl rfl ?_
      exact hF _ ((not_e h9).trans (bn_0 e1)) _ _ _ s1 m1
theorem l_X6_both1 {E : Ev} {d : Nat} {Z : Mz} {Q : Po} {B : Nat → Int32} {n t : Nat} (hd : 32 ≤ d) (hM : MZ Z) : ∀ (m k : Nat) (c : List Int32) (v : Vl) (x : Int32) (I : Mi) (L : Ml) (o2 : Option Value), n ≤ k + m → k ≤ n → MS I L B n t k 1 → x = v (nmI I) → (∀ (k' : Nat) (c' : List Int32) (v' : Vl), lpR (SS B n) (notR (SS B n) (VV B n) (lvR (SS B n) (VV B n) 4)) jA m k c v = (k', some (c', v')) → ∀ (I9 : Mi) (L9 : Ml), SaQ I I9 → MS I9 L9 B n t k' 1 → Q (some (.int (v' (nmI I)))) I9 L9 Z) → (∀ k' : Nat, lpR (SS B n) (notR (SS B n) (VV B n) (lvR (SS B n) (VV B n) 4)) jA m k c v = (k', none) → ∀ (rv : Int32) (I9 : Mi) (L9 : Ml), SaQ I I9 → MB I9 (plF B n k') → Q (some (.int rv)) I9 L9 Z) → AW E yX6_both1 cX6_both1 3 (some .int) (rmOf d 0 0) Q 0 0 5 [some (.ref 48), some (.int x), o2] [] I L Z := by
  intro m
  induction m with
  | zero =>
    intro k c v x I L o2 hm hk hS hx hK hF
    have hz : SS B n k = 0 := by rw [show k = n by omega]; exact (SV_ok B n).1
    refine aw_aload_n dX6_both1_5 rfl rfl ?_
    refine aw_bipush (v := 97) dX6_both1_6 (by decide) ?_
    refine aw_bipush (v := 110) dX6_both1_8 (by decide) ?_
    refine aw_bipush (v := 100) dX6_both1_10 (by decide) ?_
    refine aw_iconst (v := 0) dX6_both1_12 (by decide) ?_
    refine aw_iconst (v := 0) dX6_both1_13 (by decide) ?_
    refine aw_iconst (v := 0) dX6_both1_14 (by decide) ?_
    refine aw_iconst (v := 0) dX6_both1_15 (by decide) ?_
    refine aw_iconst (v := 0) dX6_both1_16 (by decide) ?_
    refine aw_V8 dX6_both1_17 cw_X6_189 ⟨_, _, rfl⟩ hM.1 (by omega) ⟨Nat.le_refl _, Nat.le_refl _⟩ (by decide) (c_X6_isWord_and (by omega) hM hS (fun zz => absurd zz (fun w => absurd ((wd_S (by decide)).mp w) (by omega))) (fun c17 => ?_))
    refine aw_if_eq (tgt := 49) dX6_both1_20 (by decide) (fun _ => ?_) (fun zz => absurd zz (by decide))
    refine aw_iload_n dX6_both1_49 rfl ?_
    refine aw_ireturn (ty := .int) dX6_both1_50 rfl rfl ?_
    rw [hx]
    exact hK _ _ _ rfl _ _ SaQ.rf hS
  | succ m ih =>
    intro k c v x I L o2 hm hk hS hx hK hF
    have hJ := fun (J : Nat → Bool) (h : J (SS B n k) = true) => h
    refine aw_aload_n dX6_both1_5 rfl rfl ?_
    refine aw_bipush (v := 97) dX6_both1_6 (by decide) ?_
    refine aw_bipush (v := 110) dX6_both1_8 (by decide) ?_
    refine aw_bipush (v := 100) dX6_both1_10 (by decide) ?_
    refine aw_iconst (v := 0) dX6_both1_12 (by decide) ?_
    refine aw_iconst (v := 0) dX6_both1_13 (by decide) ?_
    refine aw_iconst (v := 0) dX6_both1_14 (by decide) ?_
    refine aw_iconst (v := 0) dX6_both1_15 (by decide) ?_
    refine aw_iconst (v := 0) dX6_both1_16 (by decide) ?_
    refine aw_V8 dX6_both1_17 cw_X6_189 ⟨_, _, rfl⟩ hM.1 (by omega) ⟨Nat.le_refl _, Nat.le_refl _⟩ (by decide) (c_X6_isWord_and (by omega) hM hS (fun c17 => ?_) (fun c17 => ?_))
    · refine aw_if_eq (tgt := 49) dX6_both1_20 (by decide) (fun zz => absurd zz (by decide)) (fun _ => ?_)
      refine aw_aload_n dX6_both1_23 rfl rfl ?_
      have hs8 : SS B n k = 8 := (wd_S (by decide)).mp c17
      refine aw_V0 dX6_both1_24 cw_X6_186 ⟨_, _, rfl⟩ hM.1 (by omega) ⟨Nat.le_refl _, Nat.le_refl _⟩ (by decide) (c_X6_next (by omega) hM hS (by omega) (by omega) (fun I2 L2 s2 m2 => ?_))
      refine aw_aload_n dX6_both1_27 rfl rfl ?_
      refine aw_V0 dX6_both1_28 cw_X6_307 ⟨_, _, rfl⟩ hM.1 (by omega) ⟨Nat.le_refl _, Nat.le_refl _⟩ (by decide) (c_X6_not1 (by omega) hM m2 (by have := lt_of_S (SV_ok B n).1 hk (by omega); omega) (fun k1 c1 v1 e1 I1 L1 s1 m1 => ?_) (fun k1 e1 rv1 I1 L1 s1 m1 => ?_))
      · refine aw_istore_n (ls' := [_, _, _]) dX6_both1_31 (by decide) rfl rfl ?_
        refine aw_iload_n dX6_both1_32 rfl ?_
        refine aw_if_eq (tgt := 44) dX6_both1_33 (by decide) (fun c33 => ?_) (fun c33 => ?_)
        · refine aw_iconst (v := 0) dX6_both1_44 (by decide) ?_
          refine aw_istore_n (ls' := [_, _, _]) dX6_both1_45 (by decide) rfl rfl ?_
          refine aw_goto (tgt := 5) dX6_both1_46 (by decide) ?_
          have hkn := lt_of_S (SV_ok B n).1 hk (by omega)
          have ok1 := (all_ok (SV_ok B n) (lv_ok (SV_ok B n) 4)).2.2.2.1 (k + 1) (by omega)
          rw [e1] at ok1
          obtain ⟨b1, b2, b3⟩ := ok1
          simp only at b1 b2
          have b4 := (b3 _ _ rfl).1
          simp only at b4
          have e2 := lp_1 (n := m) (c := c) (v := v) (show jA (SS B n k) = true by rw [hs8]; decide) e1
          refine ih k1 (c ++ c1 ++ [stI (SS B n k) 0]) (fun nm => joV (nI (SS B n k)) (v nm) (v1 nm)) _ I1 L1 _ (by omega) b2 m1 ?_ (fun k' c' v' e I9 L9 s9 m9 => ?_) (fun k' e rv I9 L9 s9 m9 => ?_)
          · rw [nmI_q s1, nmI_q s2, hs8, jo8, ← hx]
            simp only [c33, not_true_eq_false, not_false_eq_true, and_true, true_and, and_false, false_and, or_true, true_or, or_false, false_or, ite_true, ite_false, if_true, if_false, reduceIte, and_self, or_self]
          · rw [nmI_q s1, nmI_q s2]; exact hK k' c' v' (e2.trans e) I9 L9 ((s2.tr s1).tr s9) m9
          · exact hF k' (e2.trans e) rv I9 L9 ((s2.tr s1).tr s9) m9
        · refine aw_iload_n dX6_both1_36 rfl ?_
          refine aw_if_eq (tgt := 44) dX6_both1_37 (by decide) (fun c37 => ?_) (fun c37 => ?_)
          · refine aw_iconst (v := 0) dX6_both1_44 (by decide) ?_
            refine aw_istore_n (ls' := [_, _, _]) dX6_both1_45 (by decide) rfl rfl ?_
            refine aw_goto (tgt := 5) dX6_both1_46 (by decide) ?_
            have hkn := lt_of_S (SV_ok B n).1 hk (by omega)
            have ok1 := (all_ok (SV_ok B n) (lv_ok (SV_ok B n) 4)).2.2.2.1 (k + 1) (by omega)
            rw [e1] at ok1
            obtain ⟨b1, b2, b3⟩ := ok1
            simp only at b1 b2
            have b4 := (b3 _ _ rfl).1
            simp only at b4
            have e2 := lp_1 (n := m) (c := c) (v := v) (show jA (SS B n k) = true by rw [hs8]; decide) e1
            refine ih k1 (c ++ c1 ++ [stI (SS B n k) 0]) (fun nm => joV (nI (SS B n k)) (v nm) (v1 nm)) _ I1 L1 _ (by omega) b2 m1 ?_ (fun k' c' v' e I9 L9 s9 m9 => ?_) (fun k' e rv I9 L9 s9 m9 => ?_)
            · rw [nmI_q s1, nmI_q s2, hs8, jo8, ← hx]
              rw [nmI_q s2] at c37
              simp only [c33, c37, not_true_eq_false, not_false_eq_true, and_true, true_and, and_false, false_and, or_true, true_or, or_false, false_or, ite_true, ite_false, if_true, if_false, reduceIte, and_self, or_self]
            · rw [nmI_q s1, nmI_q s2]; exact hK k' c' v' (e2.trans e) I9 L9 ((s2.tr s1).tr s9) m9
            · exact hF k' (e2.trans e) rv I9 L9 ((s2.tr s1).tr s9) m9
          · refine aw_iconst (v := 1) dX6_both1_40 (by decide) ?_
            refine aw_goto (tgt := 45) dX6_both1_41 (by decide) ?_
            refine aw_istore_n (ls' := [_, _, _]) dX6_both1_45 (by decide) rfl rfl ?_
            refine aw_goto (tgt := 5) dX6_both1_46 (by decide) ?_
            have hkn := lt_of_S (SV_ok B n).1 hk (by omega)
            have ok1 := (all_ok (SV_ok B n) (lv_ok (SV_ok B n) 4)).2.2.2.1 (k + 1) (by omega)
            rw [e1] at ok1
            obtain ⟨b1, b2, b3⟩ := ok1
            simp only at b1 b2
            have b4 := (b3 _ _ rfl).1
            simp only at b4
            have e2 := lp_1 (n := m) (c := c) (v := v) (show jA (SS B n k) = true by rw [hs8]; decide) e1
            refine ih k1 (c ++ c1 ++ [stI (SS B n k) 0]) (fun nm => joV (nI (SS B n k)) (v nm) (v1 nm)) _ I1 L1 _ (by omega) b2 m1 ?_ (fun k' c' v' e I9 L9 s9 m9 => ?_) (fun k' e rv I9 L9 s9 m9 => ?_)
            · rw [nmI_q s1, nmI_q s2, hs8, jo8, ← hx]
              rw [nmI_q s2] at c37
              simp only [c33, c37, not_true_eq_false, not_false_eq_true, and_true, true_and, and_false, false_and, or_true, true_or, or_false, false_or, ite_true, ite_false, if_true, if_false, reduceIte, and_self, or_self]
            · rw [nmI_q s1, nmI_q s2]; exact hK k' c' v' (e2.trans e) I9 L9 ((s2.tr s1).tr s9) m9
            · exact hF k' (e2.trans e) rv I9 L9 ((s2.tr s1).tr s9) m9
      · refine aw_istore_n (ls' := [_, _, _]) dX6_both1_31 (by decide) rfl rfl ?_
        refine aw_iload_n dX6_both1_32 rfl ?_
        refine aw_if_eq (tgt := 44) dX6_both1_33 (by decide) (fun c33 => ?_) (fun c33 => ?_)
        · refine aw_iconst (v := 0) dX6_both1_44 (by decide) ?_
          refine aw_istore_n (ls' := [_, _, _]) dX6_both1_45 (by decide) rfl rfl ?_
          refine aw_goto (tgt := 5) dX6_both1_46 (by decide) ?_
          refine aw_aload_n dX6_both1_5 rfl rfl ?_
          refine aw_bipush (v := 97) dX6_both1_6 (by decide) ?_
          refine aw_bipush (v := 110) dX6_both1_8 (by decide) ?_
          refine aw_bipush (v := 100) dX6_both1_10 (by decide) ?_
          refine aw_iconst (v := 0) dX6_both1_12 (by decide) ?_
          refine aw_iconst (v := 0) dX6_both1_13 (by decide) ?_
          refine aw_iconst (v := 0) dX6_both1_14 (by decide) ?_
          refine aw_iconst (v := 0) dX6_both1_15 (by decide) ?_
          refine aw_iconst (v := 0) dX6_both1_16 (by decide) ?_
          refine aw_V8 dX6_both1_17 cw_X6_189 ⟨_, _, rfl⟩ hM.1 (by omega) ⟨Nat.le_refl _, Nat.le_refl _⟩ (by decide) (c_X6_isWordB (by omega) hM m1 ?_)
          refine aw_if_eq (tgt := 49) dX6_both1_20 (by decide) (fun _ => ?_) (fun zz => absurd zz (by decide))
          refine aw_iload_n dX6_both1_49 rfl ?_
          refine aw_ireturn (ty := .int) dX6_both1_50 rfl rfl ?_
          exact hF _ (lp_0 (show jA (SS B n k) = true by rw [hs8]; decide) e1) _ _ _ (s2.tr s1) m1
        · refine aw_iload_n dX6_both1_36 rfl ?_
          refine aw_if_eq (tgt := 44) dX6_both1_37 (by decide) (fun c37 => ?_) (fun c37 => ?_)
          · refine aw_iconst (v := 0) dX6_both1_44 (by decide) ?_
            refine aw_istore_n (ls' := [_, _, _]) dX6_both1_45 (by decide) rfl rfl ?_
            refine aw_goto (tgt := 5) dX6_both1_46 (by decide) ?_
            refine aw_aload_n dX6_both1_5 rfl rfl ?_
            refine aw_bipush (v := 97) dX6_both1_6 (by decide) ?_
            refine aw_bipush (v := 110) dX6_both1_8 (by decide) ?_
            refine aw_bipush (v := 100) dX6_both1_10 (by decide) ?_
            refine aw_iconst (v := 0) dX6_both1_12 (by decide) ?_
            refine aw_iconst (v := 0) dX6_both1_13 (by decide) ?_
            refine aw_iconst (v := 0) dX6_both1_14 (by decide) ?_
            refine aw_iconst (v := 0) dX6_both1_15 (by decide) ?_
            refine aw_iconst (v := 0) dX6_both1_16 (by decide) ?_
            refine aw_V8 dX6_both1_17 cw_X6_189 ⟨_, _, rfl⟩ hM.1 (by omega) ⟨Nat.le_refl _, Nat.le_refl _⟩ (by decide) (c_X6_isWordB (by omega) hM m1 ?_)
            refine aw_if_eq (tgt := 49) dX6_both1_20 (by decide) (fun _ => ?_) (fun zz => absurd zz (by decide))
            refine aw_iload_n dX6_both1_49 rfl ?_
            refine aw_ireturn (ty := .int) dX6_both1_50 rfl rfl ?_
            exact hF _ (lp_0 (show jA (SS B n k) = true by rw [hs8]; decide) e1) _ _ _ (s2.tr s1) m1
          · refine aw_iconst (v := 1) dX6_both1_40 (by decide) ?_
            refine aw_goto (tgt := 45) dX6_both1_41 (by decide) ?_
            refine aw_istore_n (ls' := [_, _, _]) dX6_both1_45 (by decide) rfl rfl ?_
            refine aw_goto (tgt := 5) dX6_both1_46 (by decide) ?_
            refine aw_aload_n dX6_both1_5 rfl rfl ?_
            refine aw_bipush (v := 97) dX6_both1_6 (by decide) ?_
            refine aw_bipush (v := 110) dX6_both1_8 (by decide) ?_
            refine aw_bipush (v := 100) dX6_both1_10 (by decide) ?_
            refine aw_iconst (v := 0) dX6_both1_12 (by decide) ?_
            refine aw_iconst (v := 0) dX6_both1_13 (by decide) ?_
            refine aw_iconst (v := 0) dX6_both1_14 (by decide) ?_
            refine aw_iconst (v := 0) dX6_both1_15 (by decide) ?_
            refine aw_iconst (v := 0) dX6_both1_16 (by decide) ?_
            refine aw_V8 dX6_both1_17 cw_X6_189 ⟨_, _, rfl⟩ hM.1 (by omega) ⟨Nat.le_refl _, Nat.le_refl _⟩ (by decide) (c_X6_isWordB (by omega) hM m1 ?_)
            refine aw_if_eq (tgt := 49) dX6_both1_20 (by decide) (fun _ => ?_) (fun zz => absurd zz (by decide))
            refine aw_iload_n dX6_both1_49 rfl ?_
            refine aw_ireturn (ty := .int) dX6_both1_50 rfl rfl ?_
            exact hF _ (lp_0 (show jA (SS B n k) = true by rw [hs8]; decide) e1) _ _ _ (s2.tr s1) m1
    · refine aw_if_eq (tgt := 49) dX6_both1_20 (by decide) (fun _ => ?_) (fun zz => absurd zz (by decide))
      refine aw_iload_n dX6_both1_49 rfl ?_
      refine aw_ireturn (ty := .int) dX6_both1_50 rfl rfl ?_
      rw [hx]
      exact hK _ _ _ (lp_z (by simp only [jA, beq_iff_eq]; exact fun w => c17 ((wd_S (by decide)).mpr w))) _ _ SaQ.rf hS
theorem c_X6_both1 {E : Ev} {d : Nat} {I : Mi} {L : Ml} {Z : Mz} {Q : Po}  {B : Nat → Int32} {n t k : Nat} (hd : 32 ≤ d) (hM : MZ Z) (hS : MS I L B n t k 1) (hk : k ≤ n) (hK : ∀ (k' : Nat) (c' : List Int32) (v' : Vl), andR (SS B n) (VV B n) (lvR (SS B n) (VV B n) 4) k = (k', some (c', v')) → ∀ (I9 : Mi) (L9 : Ml), SaQ I I9 → MS I9 L9 B n t k' 1 → Q (some (.int (v' (nmI I)))) I9 L9 Z) (hF : ∀ k' : Nat, andR (SS B n) (VV B n) (lvR (SS B n) (VV B n) 4) k = (k', none) → ∀ (rv : Int32) (I9 : Mi) (L9 : Ml), SaQ I I9 → MB I9 (plF B n k') → Q (some (.int rv)) I9 L9 Z) : AC E yX6_both1 cX6_both1 3 (some .int) d 0 0 [.ref 48] I L Z Q := by
  refine ac_go (ls := [some (.ref 48), none, none]) (by decide +kernel) (Nat.le_of_ble_eq_true rfl) rfl ?_
  refine aw_aload_n dX6_both1_0 rfl rfl ?_
  refine aw_V0 dX6_both1_1 cw_X6_307 ⟨_, _, rfl⟩ hM.1 (by omega) ⟨Nat.le_refl _, Nat.le_refl _⟩ (by decide) (c_X6_not1 (by omega) hM hS hk (fun k1 c1 v1 e1 I1 L1 s1 m1 => ?_) (fun k1 e1 rv1 I1 L1 s1 m1 => ?_))
  · refine aw_istore_n (ls' := [_, _, _]) dX6_both1_4 (by decide) rfl rfl ?_
    have e2 : andR (SS B n) (VV B n) (lvR (SS B n) (VV B n) 4) k = lpR (SS B n) (notR (SS B n) (VV B n) (lvR (SS B n) (VV B n) 4)) jA 160 k1 c1 v1 := bn_1 e1
    have ok1 := (all_ok (SV_ok B n) (lv_ok (SV_ok B n) 4)).2.2.2.1 k (by omega)
    rw [e1] at ok1
    obtain ⟨b1, b2, b3⟩ := ok1
    simp only at b1 b2
    have hn6 := hS.1.2.2.2.1
    refine l_X6_both1 hd hM 160 k1 c1 v1 _ I1 L1 _ (by omega) b2 m1 (by rw [nmI_q s1]) (fun k' c' v' e I9 L9 s9 m9 => ?_) (fun k' e rv I9 L9 s9 m9 => ?_)
    · rw [nmI_q s1]; exact hK k' c' v' (e2.trans e) I9 L9 (s1.tr s9) m9
    · exact hF k' (e2.trans e) rv I9 L9 (s1.tr s9) m9
  · refine aw_istore_n (ls' := [_, _, _]) dX6_both1_4 (by decide) rfl rfl ?_
    refine aw_aload_n dX6_both1_5 rfl rfl ?_
    refine aw_bipush (v := 97) dX6_both1_6 (by decide) ?_
    refine aw_bipush (v := 110) dX6_both1_8 (by decide) ?_
    refine aw_bipush (v := 100) dX6_both1_10 (by decide) ?_
    refine aw_iconst (v := 0) dX6_both1_12 (by decide) ?_
    refine aw_iconst (v := 0) dX6_both1_13 (by decide) ?_
    refine aw_iconst (v := 0) dX6_both1_14 (by decide) ?_
    refine aw_iconst (v := 0) dX6_both1_15 (by decide) ?_
    refine aw_iconst (v := 0) dX6_both1_16 (by decide) ?_
    refine aw_V8 dX6_both1_17 cw_X6_189 ⟨_, _, rfl⟩ hM.1 (by omega) ⟨Nat.le_refl _, Nat.le_refl _⟩ (by decide) (c_X6_isWordB (by omega) hM m1 ?_)
    refine aw_if_eq (tgt := 49) dX6_both1_20 (by decide) (fun _ => ?_) (fun zz => absurd zz (by decide))
    refine aw_iload_n dX6_both1_49 rfl ?_
    refine aw_ireturn (ty := .int) dX6_both1_50 rfl rfl ?_
    exact hF _ (bn_0 e1) _ _ _ s1 m1
theorem l_X6_either1 {E : Ev} {d : Nat} {Z : Mz} {Q : Po} {B : Nat → Int32} {n t : Nat} (hd : 33 ≤ d) (hM : MZ Z) : ∀ (m k : Nat) (c : List Int32) (v : Vl) (x : Int32) (I : Mi) (L : Ml) (o2 : Option Value), n ≤ k + m → k ≤ n → MS I L B n t k 1 → x = v (nmI I) → (∀ (k' : Nat) (c' : List Int32) (v' : Vl), lpR (SS B n) (andR (SS B n) (VV B n) (lvR (SS B n) (VV B n) 4)) jO m k c v = (k', some (c', v')) → ∀ (I9 : Mi) (L9 : Ml), SaQ I I9 → MS I9 L9 B n t k' 1 → Q (some (.int (v' (nmI I)))) I9 L9 Z) → (∀ k' : Nat, lpR (SS B n) (andR (SS B n) (VV B n) (lvR (SS B n) (VV B n) 4)) jO m k c v = (k', none) → ∀ (rv : Int32) (I9 : Mi) (L9 : Ml), SaQ I I9 → MB I9 (plF B n k') → Q (some (.int rv)) I9 L9 Z) → AW E yX6_either1 cX6_either1 3 (some .int) (rmOf d 0 0) Q 0 0 5 [some (.ref 48), some (.int x), o2] [] I L Z := by
  intro m
  induction m with
  | zero =>
    intro k c v x I L o2 hm hk hS hx hK hF
    have hz : SS B n k = 0 := by rw [show k = n by omega]; exact (SV_ok B n).1
    refine aw_aload_n dX6_either1_5 rfl rfl ?_
    refine aw_bipush (v := 111) dX6_either1_6 (by decide) ?_
    refine aw_bipush (v := 114) dX6_either1_8 (by decide) ?_
    refine aw_iconst (v := 0) dX6_either1_10 (by decide) ?_
    refine aw_iconst (v := 0) dX6_either1_11 (by decide) ?_
    refine aw_iconst (v := 0) dX6_either1_12 (by decide) ?_
    refine aw_iconst (v := 0) dX6_either1_13 (by decide) ?_
    refine aw_iconst (v := 0) dX6_either1_14 (by decide) ?_
    refine aw_iconst (v := 0) dX6_either1_15 (by decide) ?_
    refine aw_V8 dX6_either1_16 cw_X6_189 ⟨_, _, rfl⟩ hM.1 (by omega) ⟨Nat.le_refl _, Nat.le_refl _⟩ (by decide) (c_X6_isWord_or (by omega) hM hS (fun zz => absurd zz (fun w => absurd ((wd_S (by decide)).mp w) (by omega))) (fun c16 => ?_))
    refine aw_if_eq (tgt := 48) dX6_either1_19 (by decide) (fun _ => ?_) (fun zz => absurd zz (by decide))
    refine aw_iload_n dX6_either1_48 rfl ?_
    refine aw_ireturn (ty := .int) dX6_either1_49 rfl rfl ?_
    rw [hx]
    exact hK _ _ _ rfl _ _ SaQ.rf hS
  | succ m ih =>
    intro k c v x I L o2 hm hk hS hx hK hF
    have hJ := fun (J : Nat → Bool) (h : J (SS B n k) = true) => h
    refine aw_aload_n dX6_either1_5 rfl rfl ?_
    refine aw_bipush (v := 111) dX6_either1_6 (by decide) ?_
    refine aw_bipush (v := 114) dX6_either1_8 (by decide) ?_
    refine aw_iconst (v := 0) dX6_either1_10 (by decide) ?_
    refine aw_iconst (v := 0) dX6_either1_11 (by decide) ?_
    refine aw_iconst (v := 0) dX6_either1_12 (by decide) ?_
    refine aw_iconst (v := 0) dX6_either1_13 (by decide) ?_
    refine aw_iconst (v := 0) dX6_either1_14 (by decide) ?_
    refine aw_iconst (v := 0) dX6_either1_15 (by decide) ?_
    refine aw_V8 dX6_either1_16 cw_X6_189 ⟨_, _, rfl⟩ hM.1 (by omega) ⟨Nat.le_refl _, Nat.le_refl _⟩ (by decide) (c_X6_isWord_or (by omega) hM hS (fun c16 => ?_) (fun c16 => ?_))
    · refine aw_if_eq (tgt := 48) dX6_either1_19 (by decide) (fun zz => absurd zz (by decide)) (fun _ => ?_)
      refine aw_aload_n dX6_either1_22 rfl rfl ?_
      have hs8 : SS B n k = 7 := (wd_S (by decide)).mp c16
      refine aw_V0 dX6_either1_23 cw_X6_186 ⟨_, _, rfl⟩ hM.1 (by omega) ⟨Nat.le_refl _, Nat.le_refl _⟩ (by decide) (c_X6_next (by omega) hM hS (by omega) (by omega) (fun I2 L2 s2 m2 => ?_))
      refine aw_aload_n dX6_either1_26 rfl rfl ?_
      refine aw_V0 dX6_either1_27 cw_X6_310 ⟨_, _, rfl⟩ hM.1 (by omega) ⟨Nat.le_refl _, Nat.le_refl _⟩ (by decide) (c_X6_both1 (by omega) hM m2 (by have := lt_of_S (SV_ok B n).1 hk (by omega); omega) (fun k1 c1 v1 e1 I1 L1 s1 m1 => ?_) (fun k1 e1 rv1 I1 L1 s1 m1 => ?_))
      · refine aw_istore_n (ls' := [_, _, _]) dX6_either1_30 (by decide) rfl rfl ?_
        refine aw_iload_n dX6_either1_31 rfl ?_
        refine aw_if_ne (tgt := 39) dX6_either1_32 (by decide) (fun c32 => ?_) (fun c32 => ?_)
        · refine aw_iconst (v := 1) dX6_either1_39 (by decide) ?_
          refine aw_goto (tgt := 44) dX6_either1_40 (by decide) ?_
          refine aw_istore_n (ls' := [_, _, _]) dX6_either1_44 (by decide) rfl rfl ?_
          refine aw_goto (tgt := 5) dX6_either1_45 (by decide) ?_
          have hkn := lt_of_S (SV_ok B n).1 hk (by omega)
          have ok1 := (all_ok (SV_ok B n) (lv_ok (SV_ok B n) 4)).2.2.2.2.1 (k + 1) (by omega)
          rw [e1] at ok1
          obtain ⟨b1, b2, b3⟩ := ok1
          simp only at b1 b2
          have b4 := (b3 _ _ rfl).1
          simp only at b4
          have e2 := lp_1 (n := m) (c := c) (v := v) (show jO (SS B n k) = true by rw [hs8]; decide) e1
          refine ih k1 (c ++ c1 ++ [stI (SS B n k) 0]) (fun nm => joV (nI (SS B n k)) (v nm) (v1 nm)) _ I1 L1 _ (by omega) b2 m1 ?_ (fun k' c' v' e I9 L9 s9 m9 => ?_) (fun k' e rv I9 L9 s9 m9 => ?_)
          · rw [nmI_q s1, nmI_q s2, hs8, jo7, ← hx]
            simp only [c32, not_true_eq_false, not_false_eq_true, and_true, true_and, and_false, false_and, or_true, true_or, or_false, false_or, ite_true, ite_false, if_true, if_false, reduceIte, and_self, or_self]
          · rw [nmI_q s1, nmI_q s2]; exact hK k' c' v' (e2.trans e) I9 L9 ((s2.tr s1).tr s9) m9
          · exact hF k' (e2.trans e) rv I9 L9 ((s2.tr s1).tr s9) m9
        · refine aw_iload_n dX6_either1_35 rfl ?_
          refine aw_if_eq (tgt := 43) dX6_either1_36 (by decide) (fun c36 => ?_) (fun c36 => ?_)
          · refine aw_iconst (v := 0) dX6_either1_43 (by decide) ?_
            refine aw_istore_n (ls' := [_, _, _]) dX6_either1_44 (by decide) rfl rfl ?_
            refine aw_goto (tgt := 5) dX6_either1_45 (by decide) ?_
            have hkn := lt_of_S (SV_ok B n).1 hk (by omega)
            have ok1 := (all_ok (SV_ok B n) (lv_ok (SV_ok B n) 4)).2.2.2.2.1 (k + 1) (by omega)
            rw [e1] at ok1
            obtain ⟨b1, b2, b3⟩ := ok1
            simp only at b1 b2
            have b4 := (b3 _ _ rfl).1
            simp only at b4
            have e2 := lp_1 (n := m) (c := c) (v := v) (show jO (SS B n k) = true by rw [hs8]; decide) e1
            refine ih k1 (c ++ c1 ++ [stI (SS B n k) 0]) (fun nm => joV (nI (SS B n k)) (v nm) (v1 nm)) _ I1 L1 _ (by omega) b2 m1 ?_ (fun k' c' v' e I9 L9 s9 m9 => ?_) (fun k' e rv I9 L9 s9 m9 => ?_)
            · rw [nmI_q s1, nmI_q s2, hs8, jo7, ← hx]
              rw [nmI_q s2] at c36
              simp only [c32, c36, not_true_eq_false, not_false_eq_true, and_true, true_and, and_false, false_and, or_true, true_or, or_false, false_or, ite_true, ite_false, if_true, if_false, reduceIte, and_self, or_self]
            · rw [nmI_q s1, nmI_q s2]; exact hK k' c' v' (e2.trans e) I9 L9 ((s2.tr s1).tr s9) m9
            · exact hF k' (e2.trans e) rv I9 L9 ((s2.tr s1).tr s9) m9
          · refine aw_iconst (v := 1) dX6_either1_39 (by decide) ?_
            refine aw_goto (tgt := 44) dX6_either1_40 (by decide) ?_
            refine aw_istore_n (ls' := [_, _, _]) dX6_either1_44 (by decide) rfl rfl ?_
            refine aw_goto (tgt := 5) dX6_either1_45 (by decide) ?_
            have hkn := lt_of_S (SV_ok B n).1 hk (by omega)
            have ok1 := (all_ok (SV_ok B n) (lv_ok (SV_ok B n) 4)).2.2.2.2.1 (k + 1) (by omega)
            rw [e1] at ok1
            obtain ⟨b1, b2, b3⟩ := ok1
            simp only at b1 b2
            have b4 := (b3 _ _ rfl).1
            simp only at b4
            have e2 := lp_1 (n := m) (c := c) (v := v) (show jO (SS B n k) = true by rw [hs8]; decide) e1
            refine ih k1 (c ++ c1 ++ [stI (SS B n k) 0]) (fun nm => joV (nI (SS B n k)) (v nm) (v1 nm)) _ I1 L1 _ (by omega) b2 m1 ?_ (fun k' c' v' e I9 L9 s9 m9 => ?_) (fun k' e rv I9 L9 s9 m9 => ?_)
            · rw [nmI_q s1, nmI_q s2, hs8, jo7, ← hx]
              rw [nmI_q s2] at c36
              simp only [c32, c36, not_true_eq_false, not_false_eq_true, and_true, true_and, and_false, false_and, or_true, true_or, or_false, false_or, ite_true, ite_false, if_true, if_false, reduceIte, and_self, or_self]
            · rw [nmI_q s1, nmI_q s2]; exact hK k' c' v' (e2.trans e) I9 L9 ((s2.tr s1).tr s9) m9
            · exact hF k' (e2.trans e) rv I9 L9 ((s2.tr s1).tr s9) m9
      · refine aw_istore_n (ls' := [_, _, _]) dX6_either1_30 (by decide) rfl rfl ?_
        refine aw_iload_n dX6_either1_31 rfl ?_
        refine aw_if_ne (tgt := 39) dX6_either1_32 (by decide) (fun c32 => ?_) (fun c32 => ?_)
        · refine aw_iconst (v := 1) dX6_either1_39 (by decide) ?_
          refine aw_goto (tgt := 44) dX6_either1_40 (by decide) ?_
          refine aw_istore_n (ls' := [_, _, _]) dX6_either1_44 (by decide) rfl rfl ?_
          refine aw_goto (tgt := 5) dX6_either1_45 (by decide) ?_
          refine aw_aload_n dX6_either1_5 rfl rfl ?_
          refine aw_bipush (v := 111) dX6_either1_6 (by decide) ?_
          refine aw_bipush (v := 114) dX6_either1_8 (by decide) ?_
          refine aw_iconst (v := 0) dX6_either1_10 (by decide) ?_
          refine aw_iconst (v := 0) dX6_either1_11 (by decide) ?_
          refine aw_iconst (v := 0) dX6_either1_12 (by decide) ?_
          refine aw_iconst (v := 0) dX6_either1_13 (by decide) ?_
          refine aw_iconst (v := 0) dX6_either1_14 (by decide) ?_
          refine aw_iconst (v := 0) dX6_either1_15 (by decide) ?_
          refine aw_V8 dX6_either1_16 cw_X6_189 ⟨_, _, rfl⟩ hM.1 (by omega) ⟨Nat.le_refl _, Nat.le_refl _⟩ (by decide) (c_X6_isWordB (by omega) hM m1 ?_)
          refine aw_if_eq (tgt := 48) dX6_either1_19 (by decide) (fun _ => ?_) (fun zz => absurd zz (by decide))
          refine aw_iload_n dX6_either1_48 rfl ?_
          refine aw_ireturn (ty := .int) dX6_either1_49 rfl rfl ?_
          exact hF _ (lp_0 (show jO (SS B n k) = true by rw [hs8]; decide) e1) _ _ _ (s2.tr s1) m1
        · refine aw_iload_n dX6_either1_35 rfl ?_
          refine aw_if_eq (tgt := 43) dX6_either1_36 (by decide) (fun c36 => ?_) (fun c36 => ?_)
          · refine aw_iconst (v := 0) dX6_either1_43 (by decide) ?_
            refine aw_istore_n (ls' := [_, _, _]) dX6_either1_44 (by decide) rfl rfl ?_
            refine aw_goto (tgt := 5) dX6_either1_45 (by decide) ?_
            refine aw_aload_n dX6_either1_5 rfl rfl ?_
            refine aw_bipush (v := 111) dX6_either1_6 (by decide) ?_
            refine aw_bipush (v := 114) dX6_either1_8 (by decide) ?_
            refine aw_iconst (v := 0) dX6_either1_10 (by decide) ?_
            refine aw_iconst (v := 0) dX6_either1_11 (by decide) ?_
            refine aw_iconst (v := 0) dX6_either1_12 (by decide) ?_
            refine aw_iconst (v := 0) dX6_either1_13 (by decide) ?_
            refine aw_iconst (v := 0) dX6_either1_14 (by decide) ?_
            refine aw_iconst (v := 0) dX6_either1_15 (by decide) ?_
            refine aw_V8 dX6_either1_16 cw_X6_189 ⟨_, _, rfl⟩ hM.1 (by omega) ⟨Nat.le_refl _, Nat.le_refl _⟩ (by decide) (c_X6_isWordB (by omega) hM m1 ?_)
            refine aw_if_eq (tgt := 48) dX6_either1_19 (by decide) (fun _ => ?_) (fun zz => absurd zz (by decide))
            refine aw_iload_n dX6_either1_48 rfl ?_
            refine aw_ireturn (ty := .int) dX6_either1_49 rfl rfl ?_
            exact hF _ (lp_0 (show jO (SS B n k) = true by rw [hs8]; decide) e1) _ _ _ (s2.tr s1) m1
          · refine aw_iconst (v := 1) dX6_either1_39 (by decide) ?_
            refine aw_goto (tgt := 44) dX6_either1_40 (by decide) ?_
            refine aw_istore_n (ls' := [_, _, _]) dX6_either1_44 (by decide) rfl rfl ?_
            refine aw_goto (tgt := 5) dX6_either1_45 (by decide) ?_
            refine aw_aload_n dX6_either1_5 rfl rfl ?_
            refine aw_bipush (v := 111) dX6_either1_6 (by decide) ?_
            refine aw_bipush (v := 114) dX6_either1_8 (by decide) ?_
            refine aw_iconst (v := 0) dX6_either1_10 (by decide) ?_
            refine aw_iconst (v := 0) dX6_either1_11 (by decide) ?_
            refine aw_iconst (v := 0) dX6_either1_12 (by decide) ?_
            refine aw_iconst (v := 0) dX6_either1_13 (by decide) ?_
            refine aw_iconst (v := 0) dX6_either1_14 (by decide) ?_
            refine aw_iconst (v := 0) dX6_either1_15 (by decide) ?_
            refine aw_V8 dX6_either1_16 cw_X6_189 ⟨_, _, rfl⟩ hM.1 (by omega) ⟨Nat.le_refl _, Nat.le_refl _⟩ (by decide) (c_X6_isWordB (by omega) hM m1 ?_)
            refine aw_if_eq (tgt := 48) dX6_either1_19 (by decide) (fun _ => ?_) (fun zz => absurd zz (by decide))
            refine aw_iload_n dX6_either1_48 rfl ?_
            refine aw_ireturn (ty := .int) dX6_either1_49 rfl rfl ?_
            exact hF _ (lp_0 (show jO (SS B n k) = true by rw [hs8]; decide) e1) _ _ _ (s2.tr s1) m1
    · refine aw_if_eq (tgt := 48) dX6_either1_19 (by decide) (fun _ => ?_) (fun zz => absurd zz (by decide))
      refine aw_iload_n dX6_either1_48 rfl ?_
      refine aw_ireturn (ty := .int) dX6_either1_49 rfl rfl ?_
      rw [hx]
      exact hK _ _ _ (lp_z (by simp only [jO, beq_iff_eq]; exact fun w => c16 ((wd_S (by decide)).mpr w))) _ _ SaQ.rf hS
theorem c_X6_either1 {E : Ev} {d : Nat} {I : Mi} {L : Ml} {Z : Mz} {Q : Po}  {B : Nat → Int32} {n t k : Nat} (hd : 33 ≤ d) (hM : MZ Z) (hS : MS I L B n t k 1) (hk : k ≤ n) (hK : ∀ (k' : Nat) (c' : List Int32) (v' : Vl), eitR (SS B n) (VV B n) (lvR (SS B n) (VV B n) 4) k = (k', some (c', v')) → ∀ (I9 : Mi) (L9 : Ml), SaQ I I9 → MS I9 L9 B n t k' 1 → Q (some (.int (v' (nmI I)))) I9 L9 Z) (hF : ∀ k' : Nat, eitR (SS B n) (VV B n) (lvR (SS B n) (VV B n) 4) k = (k', none) → ∀ (rv : Int32) (I9 : Mi) (L9 : Ml), SaQ I I9 → MB I9 (plF B n k') → Q (some (.int rv)) I9 L9 Z) : AC E yX6_either1 cX6_either1 3 (some .int) d 0 0 [.ref 48] I L Z Q := by
  refine ac_go (ls := [some (.ref 48), none, none]) (by decide +kernel) (Nat.le_of_ble_eq_true rfl) rfl ?_
  refine aw_aload_n dX6_either1_0 rfl rfl ?_
  refine aw_V0 dX6_either1_1 cw_X6_310 ⟨_, _, rfl⟩ hM.1 (by omega) ⟨Nat.le_refl _, Nat.le_refl _⟩ (by decide) (c_X6_both1 (by omega) hM hS hk (fun k1 c1 v1 e1 I1 L1 s1 m1 => ?_) (fun k1 e1 rv1 I1 L1 s1 m1 => ?_))
  · refine aw_istore_n (ls' := [_, _, _]) dX6_either1_4 (by decide) rfl rfl ?_
    have e2 : eitR (SS B n) (VV B n) (lvR (SS B n) (VV B n) 4) k = lpR (SS B n) (andR (SS B n) (VV B n) (lvR (SS B n) (VV B n) 4)) jO 160 k1 c1 v1 := bn_1 e1
    have ok1 := (all_ok (SV_ok B n) (lv_ok (SV_ok B n) 4)).2.2.2.2.1 k (by omega)
    rw [e1] at ok1
    obtain ⟨b1, b2, b3⟩ := ok1
    simp only at b1 b2
    have hn6 := hS.1.2.2.2.1
    refine l_X6_either1 hd hM 160 k1 c1 v1 _ I1 L1 _ (by omega) b2 m1 (by rw [nmI_q s1]) (fun k' c' v' e I9 L9 s9 m9 => ?_) (fun k' e rv I9 L9 s9 m9 => ?_)
    · rw [nmI_q s1]; exact hK k' c' v' (e2.trans e) I9 L9 (s1.tr s9) m9
    · exact hF k' (e2.trans e) rv I9 L9 (s1.tr s9) m9
  · refine aw_istore_n (ls' := [_, _, _]) dX6_either1_4 (by decide) rfl rfl ?_
    refine aw_aload_n dX6_either1_5 rfl rfl ?_
    refine aw_bipush (v := 111) dX6_either1_6 (by decide) ?_
    refine aw_bipush (v := 114) dX6_either1_8 (by decide) ?_
    refine aw_iconst (v := 0) dX6_either1_10 (by decide) ?_
    refine aw_iconst (v := 0) dX6_either1_11 (by decide) ?_
    refine aw_iconst (v := 0) dX6_either1_12 (by decide) ?_
    refine aw_iconst (v := 0) dX6_either1_13 (by decide) ?_
    refine aw_iconst (v := 0) dX6_either1_14 (by decide) ?_
    refine aw_iconst (v := 0) dX6_either1_15 (by decide) ?_
    refine aw_V8 dX6_either1_16 cw_X6_189 ⟨_, _, rfl⟩ hM.1 (by omega) ⟨Nat.le_refl _, Nat.le_refl _⟩ (by decide) (c_X6_isWordB (by omega) hM m1 ?_)
    refine aw_if_eq (tgt := 48) dX6_either1_19 (by decide) (fun _ => ?_) (fun zz => absurd zz (by decide))
    refine aw_iload_n dX6_either1_48 rfl ?_
    refine aw_ireturn (ty := .int) dX6_either1_49 rfl rfl ?_
    exact hF _ (bn_0 e1) _ _ _ s1 m1
theorem c_X6_atom0 {E : Ev} {d : Nat} {I : Mi} {L : Ml} {Z : Mz} {Q : Po}  {B : Nat → Int32} {n t k : Nat} (hd : 34 ≤ d) (hM : MZ Z) (hS : MS I L B n t k 0) (hk : k ≤ n) (hK : ∀ (k' : Nat) (c' : List Int32) (v' : Vl), oneR (SS B n) (VV B n) (lvR (SS B n) (VV B n) 5) k = (k', some (c', v')) → ∀ (I9 : Mi) (L9 : Ml), SaQ I I9 → MS I9 L9 B n t k' 0 → Q (some (.int (v' (nmI I)))) I9 L9 Z) (hF : ∀ k' : Nat, oneR (SS B n) (VV B n) (lvR (SS B n) (VV B n) 5) k = (k', none) → ∀ (rv : Int32) (I9 : Mi) (L9 : Ml), SaQ I I9 → MB I9 (plF B n k') → Q (some (.int rv)) I9 L9 Z) : AC E yX6_atom0 cX6_atom0 2 (some .int) d 0 0 [.ref 48] I L Z Q := by
  refine ac_go (ls := [some (.ref 48), none]) (by decide +kernel) (Nat.le_of_ble_eq_true rfl) rfl ?_
  refine aw_iconst (v := 0) dX6_atom0_0 (by decide) ?_
  refine aw_istore_n (ls' := [_, _]) dX6_atom0_1 (by decide) rfl rfl ?_
  refine aw_aload_n dX6_atom0_2 rfl rfl ?_
  refine aw_bipush (v := 45) dX6_atom0_3 (by decide) ?_
  refine aw_V1 dX6_atom0_5 cw_X6_211 ⟨_, _, rfl⟩ hM.1 (by omega) ⟨Nat.le_refl _, Nat.le_refl _⟩ (by decide) (c_X6_isSign_14 hM hS (fun c5 => ?_) (fun c5 => ?_))
  · refine aw_if_eq (tgt := 37) dX6_atom0_8 (by decide) (fun zz => absurd zz (by decide)) (fun _ => ?_)
    refine aw_aload_n dX6_atom0_11 rfl rfl ?_
    refine aw_V0 dX6_atom0_12 cw_X6_214 ⟨_, _, rfl⟩ hM.1 (by omega) ⟨Nat.le_refl _, Nat.le_refl _⟩ (by decide) (c_X6_opens (by omega) hM hS (by decide) (by omega) (by omega) (fun I0 L0 s0 m0 => ?_))
    refine aw_if_eq (tgt := 161) dX6_atom0_15 (by decide) (fun zz => absurd zz (by decide)) (fun _ => ?_)
    refine aw_aload_n dX6_atom0_18 rfl rfl ?_
    refine aw_V0 dX6_atom0_19 cw_X6_298 ⟨_, _, rfl⟩ hM.1 (by omega) ⟨Nat.le_refl _, Nat.le_refl _⟩ (by decide) (c_X6_atom1 (by omega) hM m0 (by have := lt_of_S (SV_ok B n).1 hk (by omega); omega) (fun k1 c1 v1 e1 I1 L1 s1 m1 => ?_) (fun k1 e1 rv1 I1 L1 s1 m1 => ?_))
    · refine aw_ineg dX6_atom0_22 ?_
      refine aw_istore_n (ls' := [_, _]) dX6_atom0_23 (by decide) rfl rfl ?_
      refine aw_aload_n dX6_atom0_24 rfl rfl ?_
      refine aw_dup dX6_atom0_25 rfl ?_
      refine aw_gi dX6_atom0_26 fw_X6_180 hM.1 ?_
      refine aw_iconst (v := 1) dX6_atom0_29 (by decide) ?_
      refine aw_isub dX6_atom0_30 ?_
      rw [m1.2.2.2, nI_pred]
      refine aw_pi dX6_atom0_31 fw_X6_180 (ww_X6_180 _) hM.1 rfl ?_
      refine aw_goto (tgt := 161) dX6_atom0_34 (by decide) ?_
      refine aw_iload_n dX6_atom0_161 rfl ?_
      refine aw_ireturn (ty := .int) dX6_atom0_162 rfl rfl ?_
      rw [nmI_q s0]
      exact hK _ _ _ (one_m1 c5 e1) _ _ (s0.tr s1).op (MS.op m1)
    · refine aw_ineg dX6_atom0_22 ?_
      refine aw_istore_n (ls' := [_, _]) dX6_atom0_23 (by decide) rfl rfl ?_
      refine aw_aload_n dX6_atom0_24 rfl rfl ?_
      refine aw_dup dX6_atom0_25 rfl ?_
      refine aw_gi dX6_atom0_26 fw_X6_180 hM.1 ?_
      refine aw_iconst (v := 1) dX6_atom0_29 (by decide) ?_
      refine aw_isub dX6_atom0_30 ?_
      refine aw_pi dX6_atom0_31 fw_X6_180 (ww_X6_180 _) hM.1 rfl ?_
      refine aw_goto (tgt := 161) dX6_atom0_34 (by decide) ?_
      refine aw_iload_n dX6_atom0_161 rfl ?_
      refine aw_ireturn (ty := .int) dX6_atom0_162 rfl rfl ?_
      exact hF _ (one_m0 c5 e1) _ _ _ (s0.tr s1).op m1.op
  · refine aw_if_eq (tgt := 37) dX6_atom0_8 (by decide) (fun _ => ?_) (fun zz => absurd zz (by decide))
    refine aw_aload_n dX6_atom0_37 rfl rfl ?_
    refine aw_bipush (v := 40) dX6_atom0_38 (by decide) ?_
    refine aw_V1 dX6_atom0_40 cw_X6_211 ⟨_, _, rfl⟩ hM.1 (by omega) ⟨Nat.le_refl _, Nat.le_refl _⟩ (by decide) (c_X6_isSign_10 hM hS (fun c40 => ?_) (fun c40 => ?_))
    · refine aw_if_eq (tgt := 95) dX6_atom0_43 (by decide) (fun zz => absurd zz (by decide)) (fun _ => ?_)
      refine aw_aload_n dX6_atom0_46 rfl rfl ?_
      refine aw_V0 dX6_atom0_47 cw_X6_214 ⟨_, _, rfl⟩ hM.1 (by omega) ⟨Nat.le_refl _, Nat.le_refl _⟩ (by decide) (c_X6_opens (by omega) hM hS (by decide) (by omega) (by omega) (fun I0 L0 s0 m0 => ?_))
      refine aw_if_eq (tgt := 161) dX6_atom0_50 (by decide) (fun zz => absurd zz (by decide)) (fun _ => ?_)
      refine aw_aload_n dX6_atom0_53 rfl rfl ?_
      refine aw_V0 dX6_atom0_54 cw_X6_313 ⟨_, _, rfl⟩ hM.1 (by omega) ⟨Nat.le_refl _, Nat.le_refl _⟩ (by decide) (c_X6_either1 (by omega) hM m0 (by have := lt_of_S (SV_ok B n).1 hk (by omega); omega) (fun k1 c1 v1 e1 I1 L1 s1 m1 => ?_) (fun k1 e1 rv1 I1 L1 s1 m1 => ?_))
      · refine aw_istore_n (ls' := [_, _]) dX6_atom0_57 (by decide) rfl rfl ?_
        refine aw_aload_n dX6_atom0_58 rfl rfl ?_
        refine aw_bipush (v := 41) dX6_atom0_59 (by decide) ?_
        refine aw_V1 dX6_atom0_61 cw_X6_211 ⟨_, _, rfl⟩ hM.1 (by omega) ⟨Nat.le_refl _, Nat.le_refl _⟩ (by decide) (c_X6_isSign_11 hM m1 (fun c61 => ?_) (fun c61 => ?_))
        · refine aw_if_ne (tgt := 71) dX6_atom0_64 (by decide) (fun _ => ?_) (fun zz => absurd zz (by decide))
          refine aw_aload_n dX6_atom0_71 rfl rfl ?_
          refine aw_dup dX6_atom0_72 rfl ?_
          refine aw_gi dX6_atom0_73 fw_X6_180 hM.1 ?_
          refine aw_iconst (v := 1) dX6_atom0_76 (by decide) ?_
          refine aw_isub dX6_atom0_77 ?_
          rw [m1.2.2.2, nI_pred]
          refine aw_pi dX6_atom0_78 fw_X6_180 (ww_X6_180 _) hM.1 rfl ?_
          refine aw_aload_n dX6_atom0_81 rfl rfl ?_
          refine aw_gi dX6_atom0_82 fw_X6_170 hM.1 ?_
          refine aw_if_ne (tgt := 161) dX6_atom0_85 (by decide) (fun zz => absurd (MS.op (o' := 0) m1).2.2.1 zz) (fun c85 => ?_)
          refine aw_aload_n dX6_atom0_88 rfl rfl ?_
          refine aw_V0 dX6_atom0_89 cw_X6_186 ⟨_, _, rfl⟩ hM.1 (by omega) ⟨Nat.le_refl _, Nat.le_refl _⟩ (by decide) (c_X6_next (o := 0) (by omega) hM (MS.op m1) (by omega) (by omega) (fun I2 L2 s2 m2 => ?_))
          refine aw_goto (tgt := 161) dX6_atom0_92 (by decide) ?_
          refine aw_iload_n dX6_atom0_161 rfl ?_
          refine aw_ireturn (ty := .int) dX6_atom0_162 rfl rfl ?_
          rw [nmI_q s0]
          exact hK _ _ _ (one_p1 c40 e1 c61) _ _ ((s0.tr s1).op.tr s2) m2
        · refine aw_if_ne (tgt := 71) dX6_atom0_64 (by decide) (fun zz => absurd zz (by decide)) (fun _ => ?_)
          refine aw_aload_n dX6_atom0_67 rfl rfl ?_
          refine aw_V0 dX6_atom0_68 cw_X6_183 ⟨_, _, rfl⟩ hM.1 (by omega) ⟨Nat.le_refl _, Nat.le_refl _⟩ (by decide) (c_X6_fail hM m1 (fun I9 s9 m9 => ?_))
          refine aw_aload_n dX6_atom0_71 rfl rfl ?_
          refine aw_dup dX6_atom0_72 rfl ?_
          refine aw_gi dX6_atom0_73 fw_X6_180 hM.1 ?_
          refine aw_iconst (v := 1) dX6_atom0_76 (by decide) ?_
          refine aw_isub dX6_atom0_77 ?_
          refine aw_pi dX6_atom0_78 fw_X6_180 (ww_X6_180 _) hM.1 rfl ?_
          refine aw_aload_n dX6_atom0_81 rfl rfl ?_
          refine aw_gi dX6_atom0_82 fw_X6_170 hM.1 ?_
          refine aw_if_ne (tgt := 161) dX6_atom0_85 (by decide) (fun c85 => ?_) (fun zz => absurd zz (by rw [m9.op.1]; decide))
          refine aw_iload_n dX6_atom0_161 rfl ?_
          refine aw_ireturn (ty := .int) dX6_atom0_162 rfl rfl ?_
          exact hF _ (one_p2 c40 e1 c61) _ _ _ ((s0.tr s1).tr s9).op m9.op
      · refine aw_istore_n (ls' := [_, _]) dX6_atom0_57 (by decide) rfl rfl ?_
        refine aw_aload_n dX6_atom0_58 rfl rfl ?_
        refine aw_bipush (v := 41) dX6_atom0_59 (by decide) ?_
        refine aw_V1 dX6_atom0_61 cw_X6_211 ⟨_, _, rfl⟩ hM.1 (by omega) ⟨Nat.le_refl _, Nat.le_refl _⟩ (by decide) (c_X6_isSignB hM m1 ?_)
        refine aw_if_ne (tgt := 71) dX6_atom0_64 (by decide) (fun zz => absurd zz (by decide)) (fun _ => ?_)
        refine aw_aload_n dX6_atom0_67 rfl rfl ?_
        refine aw_V0 dX6_atom0_68 cw_X6_183 ⟨_, _, rfl⟩ hM.1 (by omega) ⟨Nat.le_refl _, Nat.le_refl _⟩ (by decide) (c_X6_failB hM m1 ?_)
        refine aw_aload_n dX6_atom0_71 rfl rfl ?_
        refine aw_dup dX6_atom0_72 rfl ?_
        refine aw_gi dX6_atom0_73 fw_X6_180 hM.1 ?_
        refine aw_iconst (v := 1) dX6_atom0_76 (by decide) ?_
        refine aw_isub dX6_atom0_77 ?_
        refine aw_pi dX6_atom0_78 fw_X6_180 (ww_X6_180 _) hM.1 rfl ?_
        refine aw_aload_n dX6_atom0_81 rfl rfl ?_
        refine aw_gi dX6_atom0_82 fw_X6_170 hM.1 ?_
        refine aw_if_ne (tgt := 161) dX6_atom0_85 (by decide) (fun c85 => ?_) (fun zz => absurd zz (by rw [m1.op.1]; decide))
        refine aw_iload_n dX6_atom0_161 rfl ?_
        refine aw_ireturn (ty := .int) dX6_atom0_162 rfl rfl ?_
        exact hF _ (one_p0 c40 e1) _ _ _ (s0.tr s1).op m1.op
    · refine aw_if_eq (tgt := 95) dX6_atom0_43 (by decide) (fun _ => ?_) (fun zz => absurd zz (by decide))
      refine aw_aload_n dX6_atom0_95 rfl rfl ?_
      refine aw_gi dX6_atom0_96 fw_X6_170 hM.1 ?_
      refine aw_if_ne (tgt := 123) dX6_atom0_99 (by decide) (fun zz => absurd hS.2.2.1 zz) (fun c99 => ?_)
      refine aw_aload_n dX6_atom0_102 rfl rfl ?_
      refine aw_gi dX6_atom0_103 fw_X6_153 hM.1 ?_
      refine aw_iconst (v := 2) dX6_atom0_106 (by decide) ?_
      refine aw_icmp_ne (tgt := 123) dX6_atom0_107 (by decide) (fun c107 => ?_) (fun c107 => ?_)
      · refine aw_aload_n dX6_atom0_123 rfl rfl ?_
        refine aw_gi dX6_atom0_124 fw_X6_170 hM.1 ?_
        refine aw_if_ne (tgt := 157) dX6_atom0_127 (by decide) (fun zz => absurd hS.2.2.1 zz) (fun c127 => ?_)
        refine aw_aload_n dX6_atom0_130 rfl rfl ?_
        refine aw_gi dX6_atom0_131 fw_X6_153 hM.1 ?_
        refine aw_iconst (v := 1) dX6_atom0_134 (by decide) ?_
        refine aw_icmp_ne (tgt := 157) dX6_atom0_135 (by decide) (fun c135 => ?_) (fun c135 => ?_)
        · refine aw_aload_n dX6_atom0_157 rfl rfl ?_
          have h2 : ¬ SS B n k = 2 := fun w => c107 (by rw [hS.2.1.2.1, tk_num.mp w]; rfl)
          have h3 : ¬ SS B n k = 3 := fun w => c135 (by rw [hS.2.1.2.1, s3_mk w]; rfl)
          refine aw_V0 dX6_atom0_158 cw_X6_183 ⟨_, _, rfl⟩ hM.1 (by omega) ⟨Nat.le_refl _, Nat.le_refl _⟩ (by decide) (c_X6_fail hM hS (fun I9 s9 m9 => ?_))
          refine aw_iload_n dX6_atom0_161 rfl ?_
          refine aw_ireturn (ty := .int) dX6_atom0_162 rfl rfl ?_
          exact hF k (one_els h2 h3 (by omega) (by omega)) _ _ _ s9 m9
        · refine aw_aload_n dX6_atom0_138 rfl rfl ?_
          have h2 : ¬ SS B n k = 2 := fun w => c107 (by rw [hS.2.1.2.1, tk_num.mp w]; rfl)
          refine aw_V0 dX6_atom0_139 cw_X6_218 ⟨_, _, rfl⟩ hM.1 (by omega) ⟨Nat.le_refl _, Nat.le_refl _⟩ (by decide) (c_X6_name (by omega) hM hS (fun h3 => ?_) (fun h3 I9 s9 m9 => ?_))
          · refine aw_istore_n (ls' := [_, _]) dX6_atom0_142 (by decide) rfl rfl ?_
            refine aw_aload_n dX6_atom0_143 rfl rfl ?_
            refine aw_gi dX6_atom0_144 fw_X6_170 hM.1 ?_
            refine aw_if_ne (tgt := 161) dX6_atom0_147 (by decide) (fun zz => absurd hS.2.2.1 zz) (fun c147 => ?_)
            refine aw_aload_n dX6_atom0_150 rfl rfl ?_
            
            refine aw_V0 dX6_atom0_151 cw_X6_186 ⟨_, _, rfl⟩ hM.1 (by omega) ⟨Nat.le_refl _, Nat.le_refl _⟩ (by decide) (c_X6_next (by omega) hM hS (by omega) (by omega) (fun I2 L2 s2 m2 => ?_))
            refine aw_goto (tgt := 161) dX6_atom0_154 (by decide) ?_
            refine aw_iload_n dX6_atom0_161 rfl ?_
            refine aw_ireturn (ty := .int) dX6_atom0_162 rfl rfl ?_
            exact hK _ _ _ (one_nam h3) _ _ s2 m2
          · refine aw_istore_n (ls' := [_, _]) dX6_atom0_142 (by decide) rfl rfl ?_
            refine aw_aload_n dX6_atom0_143 rfl rfl ?_
            refine aw_gi dX6_atom0_144 fw_X6_170 hM.1 ?_
            refine aw_if_ne (tgt := 161) dX6_atom0_147 (by decide) (fun c147 => ?_) (fun zz => absurd zz (by rw [m9.1]; decide))
            refine aw_iload_n dX6_atom0_161 rfl ?_
            refine aw_ireturn (ty := .int) dX6_atom0_162 rfl rfl ?_
            exact hF k (one_els h2 h3 (by omega) (by omega)) _ _ _ s9 m9
      · refine aw_aload_n dX6_atom0_110 rfl rfl ?_
        refine aw_gl dX6_atom0_111 fw_X6_164 hM.1 ?_
        have h2 : SS B n k = 2 := tk_num.mpr (by
          have e := hS.2.1.2.1
          rw [c107] at e
          exact ((nI_eq (a := 2) (by decide) (by have := mk_le B n (plF B n k); omega)).mp e).symm)
        have eL : L 48 27 = lN (VV B n k) := by rw [hS.2.1.2.2.2.1 (tk_num.mp h2)]; exact congrArg lN (tk_val h2).symm
        rw [eL]
        refine aw_l2i dX6_atom0_114 ?_
        rw [lN_i]
        refine aw_istore_n (ls' := [_, _]) dX6_atom0_115 (by decide) rfl rfl ?_
        refine aw_aload_n dX6_atom0_116 rfl rfl ?_
        
        refine aw_V0 dX6_atom0_117 cw_X6_186 ⟨_, _, rfl⟩ hM.1 (by omega) ⟨Nat.le_refl _, Nat.le_refl _⟩ (by decide) (c_X6_next (by omega) hM hS (by omega) (by omega) (fun I2 L2 s2 m2 => ?_))
        refine aw_goto (tgt := 161) dX6_atom0_120 (by decide) ?_
        refine aw_iload_n dX6_atom0_161 rfl ?_
        refine aw_ireturn (ty := .int) dX6_atom0_162 rfl rfl ?_
        exact hK _ _ _ (one_num h2) _ _ s2 m2
theorem l_X6_term0 {E : Ev} {d : Nat} {Z : Mz} {Q : Po} {B : Nat → Int32} {n t : Nat} (hd : 35 ≤ d) (hM : MZ Z) : ∀ (m k : Nat) (c : List Int32) (v : Vl) (x : Int32) (I : Mi) (L : Ml), n ≤ k + m → k ≤ n → MS I L B n t k 0 → x = v (nmI I) → (∀ (k' : Nat) (c' : List Int32) (v' : Vl), lpR (SS B n) (oneR (SS B n) (VV B n) (lvR (SS B n) (VV B n) 5)) jT m k c v = (k', some (c', v')) → ∀ (I9 : Mi) (L9 : Ml), SaQ I I9 → MS I9 L9 B n t k' 0 → Q (some (.int (v' (nmI I)))) I9 L9 Z) → (∀ k' : Nat, lpR (SS B n) (oneR (SS B n) (VV B n) (lvR (SS B n) (VV B n) 5)) jT m k c v = (k', none) → ∀ (rv : Int32) (I9 : Mi) (L9 : Ml), SaQ I I9 → MB I9 (plF B n k') → Q (some (.int rv)) I9 L9 Z) → AW E yX6_term0 cX6_term0 2 (some .int) (rmOf d 0 0) Q 0 0 5 [some (.ref 48), some (.int x)] [] I L Z := by
  intro m
  induction m with
  | zero =>
    intro k c v x I L hm hk hS hx hK hF
    have hz : SS B n k = 0 := by rw [show k = n by omega]; exact (SV_ok B n).1
    refine aw_aload_n dX6_term0_5 rfl rfl ?_
    refine aw_bipush (v := 42) dX6_term0_6 (by decide) ?_
    refine aw_V1 dX6_term0_8 cw_X6_211 ⟨_, _, rfl⟩ hM.1 (by omega) ⟨Nat.le_refl _, Nat.le_refl _⟩ (by decide) (c_X6_isSign_15 hM hS (fun zz => absurd zz (by omega)) (fun c8 => ?_))
    refine aw_if_eq (tgt := 28) dX6_term0_11 (by decide) (fun _ => ?_) (fun zz => absurd zz (by decide))
    refine aw_iload_n dX6_term0_28 rfl ?_
    refine aw_ireturn (ty := .int) dX6_term0_29 rfl rfl ?_
    rw [hx]
    exact hK _ _ _ rfl _ _ SaQ.rf hS
  | succ m ih =>
    intro k c v x I L hm hk hS hx hK hF
    have hJ := fun (J : Nat → Bool) (h : J (SS B n k) = true) => h
    refine aw_aload_n dX6_term0_5 rfl rfl ?_
    refine aw_bipush (v := 42) dX6_term0_6 (by decide) ?_
    refine aw_V1 dX6_term0_8 cw_X6_211 ⟨_, _, rfl⟩ hM.1 (by omega) ⟨Nat.le_refl _, Nat.le_refl _⟩ (by decide) (c_X6_isSign_15 hM hS (fun c8 => ?_) (fun c8 => ?_))
    · refine aw_if_eq (tgt := 28) dX6_term0_11 (by decide) (fun zz => absurd zz (by decide)) (fun _ => ?_)
      refine aw_aload_n dX6_term0_14 rfl rfl ?_
      
      refine aw_V0 dX6_term0_15 cw_X6_186 ⟨_, _, rfl⟩ hM.1 (by omega) ⟨Nat.le_refl _, Nat.le_refl _⟩ (by decide) (c_X6_next (by omega) hM hS (by omega) (by omega) (fun I2 L2 s2 m2 => ?_))
      refine aw_iload_n dX6_term0_18 rfl ?_
      refine aw_aload_n dX6_term0_19 rfl rfl ?_
      refine aw_V0 dX6_term0_20 cw_X6_316 ⟨_, _, rfl⟩ hM.1 (by omega) ⟨Nat.le_refl _, Nat.le_refl _⟩ (by simp [Value.category, psh]) (c_X6_atom0 (by omega) hM m2 (by have := lt_of_S (SV_ok B n).1 hk (by omega); omega) (fun k1 c1 v1 e1 I1 L1 s1 m1 => ?_) (fun k1 e1 rv1 I1 L1 s1 m1 => ?_))
      · refine aw_imul dX6_term0_23 ?_
        refine aw_istore_n (ls' := [_, _]) dX6_term0_24 (by decide) rfl rfl ?_
        refine aw_goto (tgt := 5) dX6_term0_25 (by decide) ?_
        have hkn := lt_of_S (SV_ok B n).1 hk (by omega)
        have ok1 := (all_ok (SV_ok B n) (lv_ok (SV_ok B n) 5)).1 (k + 1) (by omega)
        rw [e1] at ok1
        obtain ⟨b1, b2, b3⟩ := ok1
        simp only at b1 b2
        have b4 := (b3 _ _ rfl).1
        simp only at b4
        have e2 := lp_1 (n := m) (c := c) (v := v) (show jT (SS B n k) = true by rw [c8]; decide) e1
        refine ih k1 (c ++ c1 ++ [stI (SS B n k) 0]) (fun nm => joV (nI (SS B n k)) (v nm) (v1 nm)) _ I1 L1 (by omega) b2 m1 ?_ (fun k' c' v' e I9 L9 s9 m9 => ?_) (fun k' e rv I9 L9 s9 m9 => ?_)
        · rw [nmI_q s1, nmI_q s2, c8, jo15, hx]
        · rw [nmI_q s1, nmI_q s2]; exact hK k' c' v' (e2.trans e) I9 L9 ((s2.tr s1).tr s9) m9
        · exact hF k' (e2.trans e) rv I9 L9 ((s2.tr s1).tr s9) m9
      · refine aw_imul dX6_term0_23 ?_
        refine aw_istore_n (ls' := [_, _]) dX6_term0_24 (by decide) rfl rfl ?_
        refine aw_goto (tgt := 5) dX6_term0_25 (by decide) ?_
        refine aw_aload_n dX6_term0_5 rfl rfl ?_
        refine aw_bipush (v := 42) dX6_term0_6 (by decide) ?_
        refine aw_V1 dX6_term0_8 cw_X6_211 ⟨_, _, rfl⟩ hM.1 (by omega) ⟨Nat.le_refl _, Nat.le_refl _⟩ (by decide) (c_X6_isSignB hM m1 ?_)
        refine aw_if_eq (tgt := 28) dX6_term0_11 (by decide) (fun _ => ?_) (fun zz => absurd zz (by decide))
        refine aw_iload_n dX6_term0_28 rfl ?_
        refine aw_ireturn (ty := .int) dX6_term0_29 rfl rfl ?_
        exact hF _ (lp_0 (show jT (SS B n k) = true by rw [c8]; decide) e1) _ _ _ (s2.tr s1) m1
    · refine aw_if_eq (tgt := 28) dX6_term0_11 (by decide) (fun _ => ?_) (fun zz => absurd zz (by decide))
      refine aw_iload_n dX6_term0_28 rfl ?_
      refine aw_ireturn (ty := .int) dX6_term0_29 rfl rfl ?_
      rw [hx]
      exact hK _ _ _ (lp_z (by simp only [jT, beq_iff_eq]; exact c8)) _ _ SaQ.rf hS
theorem c_X6_term0 {E : Ev} {d : Nat} {I : Mi} {L : Ml} {Z : Mz} {Q : Po}  {B : Nat → Int32} {n t k : Nat} (hd : 35 ≤ d) (hM : MZ Z) (hS : MS I L B n t k 0) (hk : k ≤ n) (hK : ∀ (k' : Nat) (c' : List Int32) (v' : Vl), terR (SS B n) (VV B n) (lvR (SS B n) (VV B n) 5) k = (k', some (c', v')) → ∀ (I9 : Mi) (L9 : Ml), SaQ I I9 → MS I9 L9 B n t k' 0 → Q (some (.int (v' (nmI I)))) I9 L9 Z) (hF : ∀ k' : Nat, terR (SS B n) (VV B n) (lvR (SS B n) (VV B n) 5) k = (k', none) → ∀ (rv : Int32) (I9 : Mi) (L9 : Ml), SaQ I I9 → MB I9 (plF B n k') → Q (some (.int rv)) I9 L9 Z) : AC E yX6_term0 cX6_term0 2 (some .int) d 0 0 [.ref 48] I L Z Q := by
  refine ac_go (ls := [some (.ref 48), none]) (by decide +kernel) (Nat.le_of_ble_eq_true rfl) rfl ?_
  refine aw_aload_n dX6_term0_0 rfl rfl ?_
  refine aw_V0 dX6_term0_1 cw_X6_316 ⟨_, _, rfl⟩ hM.1 (by omega) ⟨Nat.le_refl _, Nat.le_refl _⟩ (by decide) (c_X6_atom0 (by omega) hM hS hk (fun k1 c1 v1 e1 I1 L1 s1 m1 => ?_) (fun k1 e1 rv1 I1 L1 s1 m1 => ?_))
  · refine aw_istore_n (ls' := [_, _]) dX6_term0_4 (by decide) rfl rfl ?_
    have e2 : terR (SS B n) (VV B n) (lvR (SS B n) (VV B n) 5) k = lpR (SS B n) (oneR (SS B n) (VV B n) (lvR (SS B n) (VV B n) 5)) jT 160 k1 c1 v1 := bn_1 e1
    have ok1 := (all_ok (SV_ok B n) (lv_ok (SV_ok B n) 5)).1 k (by omega)
    rw [e1] at ok1
    obtain ⟨b1, b2, b3⟩ := ok1
    simp only at b1 b2
    have hn6 := hS.1.2.2.2.1
    refine l_X6_term0 hd hM 160 k1 c1 v1 _ I1 L1 (by omega) b2 m1 (by rw [nmI_q s1]) (fun k' c' v' e I9 L9 s9 m9 => ?_) (fun k' e rv I9 L9 s9 m9 => ?_)
    · rw [nmI_q s1]; exact hK k' c' v' (e2.trans e) I9 L9 (s1.tr s9) m9
    · exact hF k' (e2.trans e) rv I9 L9 (s1.tr s9) m9
  · refine aw_istore_n (ls' := [_, _]) dX6_term0_4 (by decide) rfl rfl ?_
    refine aw_aload_n dX6_term0_5 rfl rfl ?_
    refine aw_bipush (v := 42) dX6_term0_6 (by decide) ?_
    refine aw_V1 dX6_term0_8 cw_X6_211 ⟨_, _, rfl⟩ hM.1 (by omega) ⟨Nat.le_refl _, Nat.le_refl _⟩ (by decide) (c_X6_isSignB hM m1 ?_)
    refine aw_if_eq (tgt := 28) dX6_term0_11 (by decide) (fun _ => ?_) (fun zz => absurd zz (by decide))
    refine aw_iload_n dX6_term0_28 rfl ?_
    refine aw_ireturn (ty := .int) dX6_term0_29 rfl rfl ?_
    exact hF _ (bn_0 e1) _ _ _ s1 m1
theorem l_X6_added0 {E : Ev} {d : Nat} {Z : Mz} {Q : Po} {B : Nat → Int32} {n t : Nat} (hd : 36 ≤ d) (hM : MZ Z) : ∀ (m k : Nat) (c : List Int32) (v : Vl) (x : Int32) (I : Mi) (L : Ml) (o2 o3 : Option Value), n ≤ k + m → k ≤ n → MS I L B n t k 0 → x = v (nmI I) → (∀ (k' : Nat) (c' : List Int32) (v' : Vl), lpR (SS B n) (terR (SS B n) (VV B n) (lvR (SS B n) (VV B n) 5)) jS m k c v = (k', some (c', v')) → ∀ (I9 : Mi) (L9 : Ml), SaQ I I9 → MS I9 L9 B n t k' 0 → Q (some (.int (v' (nmI I)))) I9 L9 Z) → (∀ k' : Nat, lpR (SS B n) (terR (SS B n) (VV B n) (lvR (SS B n) (VV B n) 5)) jS m k c v = (k', none) → ∀ (rv : Int32) (I9 : Mi) (L9 : Ml), SaQ I I9 → MB I9 (plF B n k') → Q (some (.int rv)) I9 L9 Z) → AW E yX6_added0 cX6_added0 4 (some .int) (rmOf d 0 0) Q 0 0 5 [some (.ref 48), some (.int x), o2, o3] [] I L Z := by
  intro m
  induction m with
  | zero =>
    intro k c v x I L o2 o3 hm hk hS hx hK hF
    have hz : SS B n k = 0 := by rw [show k = n by omega]; exact (SV_ok B n).1
    refine aw_aload_n dX6_added0_5 rfl rfl ?_
    refine aw_bipush (v := 43) dX6_added0_6 (by decide) ?_
    refine aw_V1 dX6_added0_8 cw_X6_211 ⟨_, _, rfl⟩ hM.1 (by omega) ⟨Nat.le_refl _, Nat.le_refl _⟩ (by decide) (c_X6_isSign_13 hM hS (fun zz => absurd zz (by omega)) (fun c8 => ?_))
    refine aw_if_ne (tgt := 23) dX6_added0_11 (by decide) (fun zz => absurd zz (by decide)) (fun _ => ?_)
    refine aw_aload_n dX6_added0_14 rfl rfl ?_
    refine aw_bipush (v := 45) dX6_added0_15 (by decide) ?_
    refine aw_V1 dX6_added0_17 cw_X6_211 ⟨_, _, rfl⟩ hM.1 (by omega) ⟨Nat.le_refl _, Nat.le_refl _⟩ (by decide) (c_X6_isSign_14 hM hS (fun zz => absurd zz (by omega)) (fun c17 => ?_))
    refine aw_if_eq (tgt := 66) dX6_added0_20 (by decide) (fun _ => ?_) (fun zz => absurd zz (by decide))
    refine aw_iload_n dX6_added0_66 rfl ?_
    refine aw_ireturn (ty := .int) dX6_added0_67 rfl rfl ?_
    rw [hx]
    exact hK _ _ _ rfl _ _ SaQ.rf hS
  | succ m ih =>
    intro k c v x I L o2 o3 hm hk hS hx hK hF
    have hJ := fun (J : Nat → Bool) (h : J (SS B n k) = true) => h
    refine aw_aload_n dX6_added0_5 rfl rfl ?_
    refine aw_bipush (v := 43) dX6_added0_6 (by decide) ?_
    refine aw_V1 dX6_added0_8 cw_X6_211 ⟨_, _, rfl⟩ hM.1 (by omega) ⟨Nat.le_refl _, Nat.le_refl _⟩ (by decide) (c_X6_isSign_13 hM hS (fun c8 => ?_) (fun c8 => ?_))
    · refine aw_if_ne (tgt := 23) dX6_added0_11 (by decide) (fun _ => ?_) (fun zz => absurd zz (by decide))
      refine aw_aload_n dX6_added0_23 rfl rfl ?_
      refine aw_gl dX6_added0_24 fw_X6_164 hM.1 ?_
      rw [sw13 hS c8]
      refine aw_ldc2 dX6_added0_27 kw_X6_228 ?_
      refine aw_lcmp dX6_added0_30 ?_
      refine aw_if_ne (tgt := 38) dX6_added0_31 (by decide) (fun zz => absurd (by decide) zz) (fun c31 => ?_)
      refine aw_iconst (v := 1) dX6_added0_34 (by decide) ?_
      refine aw_goto (tgt := 39) dX6_added0_35 (by decide) ?_
      refine aw_istore_n (ls' := [_, _, _, _]) dX6_added0_39 (by decide) rfl rfl ?_
      refine aw_aload_n dX6_added0_40 rfl rfl ?_
      
      refine aw_V0 dX6_added0_41 cw_X6_186 ⟨_, _, rfl⟩ hM.1 (by omega) ⟨Nat.le_refl _, Nat.le_refl _⟩ (by decide) (c_X6_next (by omega) hM hS (by omega) (by omega) (fun I2 L2 s2 m2 => ?_))
      refine aw_aload_n dX6_added0_44 rfl rfl ?_
      refine aw_V0 dX6_added0_45 cw_X6_319 ⟨_, _, rfl⟩ hM.1 (by omega) ⟨Nat.le_refl _, Nat.le_refl _⟩ (by decide) (c_X6_term0 (by omega) hM m2 (by have := lt_of_S (SV_ok B n).1 hk (by omega); omega) (fun k1 c1 v1 e1 I1 L1 s1 m1 => ?_) (fun k1 e1 rv1 I1 L1 s1 m1 => ?_))
      · refine aw_istore_n (ls' := [_, _, _, _]) dX6_added0_48 (by decide) rfl rfl ?_
        refine aw_iload_n dX6_added0_49 rfl ?_
        refine aw_if_eq (tgt := 59) dX6_added0_50 (by decide) (fun zz => absurd zz (by decide)) (fun _ => ?_)
        refine aw_iload_n dX6_added0_53 rfl ?_
        refine aw_iload_n dX6_added0_54 rfl ?_
        refine aw_iadd dX6_added0_55 ?_
        refine aw_goto (tgt := 62) dX6_added0_56 (by decide) ?_
        refine aw_istore_n (ls' := [_, _, _, _]) dX6_added0_62 (by decide) rfl rfl ?_
        refine aw_goto (tgt := 5) dX6_added0_63 (by decide) ?_
        have hkn := lt_of_S (SV_ok B n).1 hk (by omega)
        have ok1 := (all_ok (SV_ok B n) (lv_ok (SV_ok B n) 5)).2.1 (k + 1) (by omega)
        rw [e1] at ok1
        obtain ⟨b1, b2, b3⟩ := ok1
        simp only at b1 b2
        have b4 := (b3 _ _ rfl).1
        simp only at b4
        have e2 := lp_1 (n := m) (c := c) (v := v) (show jS (SS B n k) = true by rw [c8]; decide) e1
        refine ih k1 (c ++ c1 ++ [stI (SS B n k) 0]) (fun nm => joV (nI (SS B n k)) (v nm) (v1 nm)) _ I1 L1 _ _ (by omega) b2 m1 ?_ (fun k' c' v' e I9 L9 s9 m9 => ?_) (fun k' e rv I9 L9 s9 m9 => ?_)
        · rw [nmI_q s1, nmI_q s2, c8, jo13, hx]
        · rw [nmI_q s1, nmI_q s2]; exact hK k' c' v' (e2.trans e) I9 L9 ((s2.tr s1).tr s9) m9
        · exact hF k' (e2.trans e) rv I9 L9 ((s2.tr s1).tr s9) m9
      · refine aw_istore_n (ls' := [_, _, _, _]) dX6_added0_48 (by decide) rfl rfl ?_
        refine aw_iload_n dX6_added0_49 rfl ?_
        refine aw_if_eq (tgt := 59) dX6_added0_50 (by decide) (fun zz => absurd zz (by decide)) (fun _ => ?_)
        refine aw_iload_n dX6_added0_53 rfl ?_
        refine aw_iload_n dX6_added0_54 rfl ?_
        refine aw_iadd dX6_added0_55 ?_
        refine aw_goto (tgt := 62) dX6_added0_56 (by decide) ?_
        refine aw_istore_n (ls' := [_, _, _, _]) dX6_added0_62 (by decide) rfl rfl ?_
        refine aw_goto (tgt := 5) dX6_added0_63 (by decide) ?_
        refine aw_aload_n dX6_added0_5 rfl rfl ?_
        refine aw_bipush (v := 43) dX6_added0_6 (by decide) ?_
        refine aw_V1 dX6_added0_8 cw_X6_211 ⟨_, _, rfl⟩ hM.1 (by omega) ⟨Nat.le_refl _, Nat.le_refl _⟩ (by decide) (c_X6_isSignB hM m1 ?_)
        refine aw_if_ne (tgt := 23) dX6_added0_11 (by decide) (fun zz => absurd zz (by decide)) (fun _ => ?_)
        refine aw_aload_n dX6_added0_14 rfl rfl ?_
        refine aw_bipush (v := 45) dX6_added0_15 (by decide) ?_
        refine aw_V1 dX6_added0_17 cw_X6_211 ⟨_, _, rfl⟩ hM.1 (by omega) ⟨Nat.le_refl _, Nat.le_refl _⟩ (by decide) (c_X6_isSignB hM m1 ?_)
        refine aw_if_eq (tgt := 66) dX6_added0_20 (by decide) (fun _ => ?_) (fun zz => absurd zz (by decide))
        refine aw_iload_n dX6_added0_66 rfl ?_
        refine aw_ireturn (ty := .int) dX6_added0_67 rfl rfl ?_
        exact hF _ (lp_0 (show jS (SS B n k) = true by rw [c8]; decide) e1) _ _ _ (s2.tr s1) m1
    · refine aw_if_ne (tgt := 23) dX6_added0_11 (by decide) (fun zz => absurd zz (by decide)) (fun _ => ?_)
      refine aw_aload_n dX6_added0_14 rfl rfl ?_
      refine aw_bipush (v := 45) dX6_added0_15 (by decide) ?_
      refine aw_V1 dX6_added0_17 cw_X6_211 ⟨_, _, rfl⟩ hM.1 (by omega) ⟨Nat.le_refl _, Nat.le_refl _⟩ (by decide) (c_X6_isSign_14 hM hS (fun c17 => ?_) (fun c17 => ?_))
      · refine aw_if_eq (tgt := 66) dX6_added0_20 (by decide) (fun zz => absurd zz (by decide)) (fun _ => ?_)
        refine aw_aload_n dX6_added0_23 rfl rfl ?_
        refine aw_gl dX6_added0_24 fw_X6_164 hM.1 ?_
        rw [sw14 hS c17]
        refine aw_ldc2 dX6_added0_27 kw_X6_228 ?_
        refine aw_lcmp dX6_added0_30 ?_
        refine aw_if_ne (tgt := 38) dX6_added0_31 (by decide) (fun c31 => ?_) (fun zz => absurd zz (by decide))
        refine aw_iconst (v := 0) dX6_added0_38 (by decide) ?_
        refine aw_istore_n (ls' := [_, _, _, _]) dX6_added0_39 (by decide) rfl rfl ?_
        refine aw_aload_n dX6_added0_40 rfl rfl ?_
        
        refine aw_V0 dX6_added0_41 cw_X6_186 ⟨_, _, rfl⟩ hM.1 (by omega) ⟨Nat.le_refl _, Nat.le_refl _⟩ (by decide) (c_X6_next (by omega) hM hS (by omega) (by omega) (fun I2 L2 s2 m2 => ?_))
        refine aw_aload_n dX6_added0_44 rfl rfl ?_
        refine aw_V0 dX6_added0_45 cw_X6_319 ⟨_, _, rfl⟩ hM.1 (by omega) ⟨Nat.le_refl _, Nat.le_refl _⟩ (by decide) (c_X6_term0 (by omega) hM m2 (by have := lt_of_S (SV_ok B n).1 hk (by omega); omega) (fun k1 c1 v1 e1 I1 L1 s1 m1 => ?_) (fun k1 e1 rv1 I1 L1 s1 m1 => ?_))
        · refine aw_istore_n (ls' := [_, _, _, _]) dX6_added0_48 (by decide) rfl rfl ?_
          refine aw_iload_n dX6_added0_49 rfl ?_
          refine aw_if_eq (tgt := 59) dX6_added0_50 (by decide) (fun _ => ?_) (fun zz => absurd zz (by decide))
          refine aw_iload_n dX6_added0_59 rfl ?_
          refine aw_iload_n dX6_added0_60 rfl ?_
          refine aw_isub dX6_added0_61 ?_
          refine aw_istore_n (ls' := [_, _, _, _]) dX6_added0_62 (by decide) rfl rfl ?_
          refine aw_goto (tgt := 5) dX6_added0_63 (by decide) ?_
          have hkn := lt_of_S (SV_ok B n).1 hk (by omega)
          have ok1 := (all_ok (SV_ok B n) (lv_ok (SV_ok B n) 5)).2.1 (k + 1) (by omega)
          rw [e1] at ok1
          obtain ⟨b1, b2, b3⟩ := ok1
          simp only at b1 b2
          have b4 := (b3 _ _ rfl).1
          simp only at b4
          have e2 := lp_1 (n := m) (c := c) (v := v) (show jS (SS B n k) = true by rw [c17]; decide) e1
          refine ih k1 (c ++ c1 ++ [stI (SS B n k) 0]) (fun nm => joV (nI (SS B n k)) (v nm) (v1 nm)) _ I1 L1 _ _ (by omega) b2 m1 ?_ (fun k' c' v' e I9 L9 s9 m9 => ?_) (fun k' e rv I9 L9 s9 m9 => ?_)
          · rw [nmI_q s1, nmI_q s2, c17, jo14, hx]
          · rw [nmI_q s1, nmI_q s2]; exact hK k' c' v' (e2.trans e) I9 L9 ((s2.tr s1).tr s9) m9
          · exact hF k' (e2.trans e) rv I9 L9 ((s2.tr s1).tr s9) m9
        · refine aw_istore_n (ls' := [_, _, _, _]) dX6_added0_48 (by decide) rfl rfl ?_
          refine aw_iload_n dX6_added0_49 rfl ?_
          refine aw_if_eq (tgt := 59) dX6_added0_50 (by decide) (fun _ => ?_) (fun zz => absurd zz (by decide))
          refine aw_iload_n dX6_added0_59 rfl ?_
          refine aw_iload_n dX6_added0_60 rfl ?_
          refine aw_isub dX6_added0_61 ?_
          refine aw_istore_n (ls' := [_, _, _, _]) dX6_added0_62 (by decide) rfl rfl ?_
          refine aw_goto (tgt := 5) dX6_added0_63 (by decide) ?_
          refine aw_aload_n dX6_added0_5 rfl rfl ?_
          refine aw_bipush (v := 43) dX6_added0_6 (by decide) ?_
          refine aw_V1 dX6_added0_8 cw_X6_211 ⟨_, _, rfl⟩ hM.1 (by omega) ⟨Nat.le_refl _, Nat.le_refl _⟩ (by decide) (c_X6_isSignB hM m1 ?_)
          refine aw_if_ne (tgt := 23) dX6_added0_11 (by decide) (fun zz => absurd zz (by decide)) (fun _ => ?_)
          refine aw_aload_n dX6_added0_14 rfl rfl ?_
          refine aw_bipush (v := 45) dX6_added0_15 (by decide) ?_
          refine aw_V1 dX6_added0_17 cw_X6_211 ⟨_, _, rfl⟩ hM.1 (by omega) ⟨Nat.le_refl _, Nat.le_refl _⟩ (by decide) (c_X6_isSignB hM m1 ?_)
          refine aw_if_eq (tgt := 66) dX6_added0_20 (by decide) (fun _ => ?_) (fun zz => absurd zz (by decide))
          refine aw_iload_n dX6_added0_66 rfl ?_
          refine aw_ireturn (ty := .int) dX6_added0_67 rfl rfl ?_
          exact hF _ (lp_0 (show jS (SS B n k) = true by rw [c17]; decide) e1) _ _ _ (s2.tr s1) m1
      · refine aw_if_eq (tgt := 66) dX6_added0_20 (by decide) (fun _ => ?_) (fun zz => absurd zz (by decide))
        refine aw_iload_n dX6_added0_66 rfl ?_
        refine aw_ireturn (ty := .int) dX6_added0_67 rfl rfl ?_
        rw [hx]
        exact hK _ _ _ (lp_z (by simp only [jS, Bool.or_eq_true, beq_iff_eq]; omega)) _ _ SaQ.rf hS
theorem c_X6_added0 {E : Ev} {d : Nat} {I : Mi} {L : Ml} {Z : Mz} {Q : Po}  {B : Nat → Int32} {n t k : Nat} (hd : 36 ≤ d) (hM : MZ Z) (hS : MS I L B n t k 0) (hk : k ≤ n) (hK : ∀ (k' : Nat) (c' : List Int32) (v' : Vl), sumR (SS B n) (VV B n) (lvR (SS B n) (VV B n) 5) k = (k', some (c', v')) → ∀ (I9 : Mi) (L9 : Ml), SaQ I I9 → MS I9 L9 B n t k' 0 → Q (some (.int (v' (nmI I)))) I9 L9 Z) (hF : ∀ k' : Nat, sumR (SS B n) (VV B n) (lvR (SS B n) (VV B n) 5) k = (k', none) → ∀ (rv : Int32) (I9 : Mi) (L9 : Ml), SaQ I I9 → MB I9 (plF B n k') → Q (some (.int rv)) I9 L9 Z) : AC E yX6_added0 cX6_added0 4 (some .int) d 0 0 [.ref 48] I L Z Q := by
  refine ac_go (ls := [some (.ref 48), none, none, none]) (by decide +kernel) (Nat.le_of_ble_eq_true rfl) rfl ?_
  refine aw_aload_n dX6_added0_0 rfl rfl ?_
  refine aw_V0 dX6_added0_1 cw_X6_319 ⟨_, _, rfl⟩ hM.1 (by omega) ⟨Nat.le_refl _, Nat.le_refl _⟩ (by decide) (c_X6_term0 (by omega) hM hS hk (fun k1 c1 v1 e1 I1 L1 s1 m1 => ?_) (fun k1 e1 rv1 I1 L1 s1 m1 => ?_))
  · refine aw_istore_n (ls' := [_, _, _, _]) dX6_added0_4 (by decide) rfl rfl ?_
    have e2 : sumR (SS B n) (VV B n) (lvR (SS B n) (VV B n) 5) k = lpR (SS B n) (terR (SS B n) (VV B n) (lvR (SS B n) (VV B n) 5)) jS 160 k1 c1 v1 := bn_1 e1
    have ok1 := (all_ok (SV_ok B n) (lv_ok (SV_ok B n) 5)).2.1 k (by omega)
    rw [e1] at ok1
    obtain ⟨b1, b2, b3⟩ := ok1
    simp only at b1 b2
    have hn6 := hS.1.2.2.2.1
    refine l_X6_added0 hd hM 160 k1 c1 v1 _ I1 L1 _ _ (by omega) b2 m1 (by rw [nmI_q s1]) (fun k' c' v' e I9 L9 s9 m9 => ?_) (fun k' e rv I9 L9 s9 m9 => ?_)
    · rw [nmI_q s1]; exact hK k' c' v' (e2.trans e) I9 L9 (s1.tr s9) m9
    · exact hF k' (e2.trans e) rv I9 L9 (s1.tr s9) m9
  · refine aw_istore_n (ls' := [_, _, _, _]) dX6_added0_4 (by decide) rfl rfl ?_
    refine aw_aload_n dX6_added0_5 rfl rfl ?_
    refine aw_bipush (v := 43) dX6_added0_6 (by decide) ?_
    refine aw_V1 dX6_added0_8 cw_X6_211 ⟨_, _, rfl⟩ hM.1 (by omega) ⟨Nat.le_refl _, Nat.le_refl _⟩ (by decide) (c_X6_isSignB hM m1 ?_)
    refine aw_if_ne (tgt := 23) dX6_added0_11 (by decide) (fun zz => absurd zz (by decide)) (fun _ => ?_)
    refine aw_aload_n dX6_added0_14 rfl rfl ?_
    refine aw_bipush (v := 45) dX6_added0_15 (by decide) ?_
    refine aw_V1 dX6_added0_17 cw_X6_211 ⟨_, _, rfl⟩ hM.1 (by omega) ⟨Nat.le_refl _, Nat.le_refl _⟩ (by decide) (c_X6_isSignB hM m1 ?_)
    refine aw_if_eq (tgt := 66) dX6_added0_20 (by decide) (fun _ => ?_) (fun zz => absurd zz (by decide))
    refine aw_iload_n dX6_added0_66 rfl ?_
    refine aw_ireturn (ty := .int) dX6_added0_67 rfl rfl ?_
    exact hF _ (bn_0 e1) _ _ _ s1 m1
theorem c_X6_not0 {E : Ev} {d : Nat} {I : Mi} {L : Ml} {Z : Mz} {Q : Po}  {B : Nat → Int32} {n t k : Nat} (hd : 37 ≤ d) (hM : MZ Z) (hS : MS I L B n t k 0) (hk : k ≤ n) (hK : ∀ (k' : Nat) (c' : List Int32) (v' : Vl), notR (SS B n) (VV B n) (lvR (SS B n) (VV B n) 5) k = (k', some (c', v')) → ∀ (I9 : Mi) (L9 : Ml), SaQ I I9 → MS I9 L9 B n t k' 0 → Q (some (.int (v' (nmI I)))) I9 L9 Z) (hF : ∀ k' : Nat, notR (SS B n) (VV B n) (lvR (SS B n) (VV B n) 5) k = (k', none) → ∀ (rv : Int32) (I9 : Mi) (L9 : Ml), SaQ I I9 → MB I9 (plF B n k') → Q (some (.int rv)) I9 L9 Z) : AC E yX6_not0 cX6_not0 4 (some .int) d 0 0 [.ref 48] I L Z Q := by
  refine ac_go (ls := [some (.ref 48), none, none, none]) (by decide +kernel) (Nat.le_of_ble_eq_true rfl) rfl ?_
  refine aw_aload_n dX6_not0_0 rfl rfl ?_
  refine aw_bipush (v := 110) dX6_not0_1 (by decide) ?_
  refine aw_bipush (v := 111) dX6_not0_3 (by decide) ?_
  refine aw_bipush (v := 116) dX6_not0_5 (by decide) ?_
  refine aw_iconst (v := 0) dX6_not0_7 (by decide) ?_
  refine aw_iconst (v := 0) dX6_not0_8 (by decide) ?_
  refine aw_iconst (v := 0) dX6_not0_9 (by decide) ?_
  refine aw_iconst (v := 0) dX6_not0_10 (by decide) ?_
  refine aw_iconst (v := 0) dX6_not0_11 (by decide) ?_
  refine aw_V8 dX6_not0_12 cw_X6_189 ⟨_, _, rfl⟩ hM.1 (by omega) ⟨Nat.le_refl _, Nat.le_refl _⟩ (by decide) (c_X6_isWord_not (by omega) hM hS (fun c12 => ?_) (fun c12 => ?_))
  · refine aw_if_eq (tgt := 52) dX6_not0_15 (by decide) (fun zz => absurd zz (by decide)) (fun _ => ?_)
    refine aw_aload_n dX6_not0_18 rfl rfl ?_
    have h9 := (wd_S (by decide)).mp c12
    refine aw_V0 dX6_not0_19 cw_X6_214 ⟨_, _, rfl⟩ hM.1 (by omega) ⟨Nat.le_refl _, Nat.le_refl _⟩ (by decide) (c_X6_opens (by omega) hM hS (by decide) (by omega) (by omega) (fun I0 L0 s0 m0 => ?_))
    refine aw_if_ne (tgt := 27) dX6_not0_22 (by decide) (fun _ => ?_) (fun zz => absurd zz (by decide))
    refine aw_aload_n dX6_not0_27 rfl rfl ?_
    refine aw_V0 dX6_not0_28 cw_X6_307 ⟨_, _, rfl⟩ hM.1 (by omega) ⟨Nat.le_refl _, Nat.le_refl _⟩ (by decide) (c_X6_not1 (by omega) hM m0 (by have := lt_of_S (SV_ok B n).1 hk (by omega); omega) (fun k1 c1 v1 e1 I1 L1 s1 m1 => ?_) (fun k1 e1 rv1 I1 L1 s1 m1 => ?_))
    · refine aw_istore_n (ls' := [_, _, _, _]) dX6_not0_31 (by decide) rfl rfl ?_
      refine aw_aload_n dX6_not0_32 rfl rfl ?_
      refine aw_dup dX6_not0_33 rfl ?_
      refine aw_gi dX6_not0_34 fw_X6_180 hM.1 ?_
      refine aw_iconst (v := 1) dX6_not0_37 (by decide) ?_
      refine aw_isub dX6_not0_38 ?_
      rw [m1.2.2.2, nI_pred]
      refine aw_pi dX6_not0_39 fw_X6_180 (ww_X6_180 _) hM.1 rfl ?_
      refine aw_iload_n dX6_not0_42 rfl ?_
      refine aw_if_ne (tgt := 50) dX6_not0_43 (by decide) (fun c43 => ?_) (fun c43 => ?_)
      · refine aw_iconst (v := 0) dX6_not0_50 (by decide) ?_
        refine aw_ireturn (ty := .int) dX6_not0_51 rfl rfl ?_
        have hq := hK _ _ _ (not_1 h9 e1) _ _ (s0.tr s1).op (MS.op m1)
        rw [nmI_q s0] at c43
        first | (rw [if_pos c43] at hq; exact hq) | (rw [if_neg c43] at hq; exact hq)
      · refine aw_iconst (v := 1) dX6_not0_46 (by decide) ?_
        refine aw_goto (tgt := 51) dX6_not0_47 (by decide) ?_
        refine aw_ireturn (ty := .int) dX6_not0_51 rfl rfl ?_
        have hq := hK _ _ _ (not_1 h9 e1) _ _ (s0.tr s1).op (MS.op m1)
        rw [nmI_q s0] at c43
        first | (rw [if_pos c43] at hq; exact hq) | (rw [if_neg c43] at hq; exact hq)
    · refine aw_istore_n (ls' := [_, _, _, _]) dX6_not0_31 (by decide) rfl rfl ?_
      refine aw_aload_n dX6_not0_32 rfl rfl ?_
      refine aw_dup dX6_not0_33 rfl ?_
      refine aw_gi dX6_not0_34 fw_X6_180 hM.1 ?_
      refine aw_iconst (v := 1) dX6_not0_37 (by decide) ?_
      refine aw_isub dX6_not0_38 ?_
      refine aw_pi dX6_not0_39 fw_X6_180 (ww_X6_180 _) hM.1 rfl ?_
      refine aw_iload_n dX6_not0_42 rfl ?_
      refine aw_if_ne (tgt := 50) dX6_not0_43 (by decide) (fun c43 => ?_) (fun c43 => ?_)
      · refine aw_iconst (v := 0) dX6_not0_50 (by decide) ?_
        refine aw_ireturn (ty := .int) dX6_not0_51 rfl rfl ?_
        exact hF _ (not_0 h9 e1) _ _ _ (s0.tr s1).op m1.op
      · refine aw_iconst (v := 1) dX6_not0_46 (by decide) ?_
        refine aw_goto (tgt := 51) dX6_not0_47 (by decide) ?_
        refine aw_ireturn (ty := .int) dX6_not0_51 rfl rfl ?_
        exact hF _ (not_0 h9 e1) _ _ _ (s0.tr s1).op m1.op
  · refine aw_if_eq (tgt := 52) dX6_not0_15 (by decide) (fun _ => ?_) (fun zz => absurd zz (by decide))
    refine aw_aload_n dX6_not0_52 rfl rfl ?_
    have h9 : ¬ SS B n k = 9 := fun w => c12 ((wd_S (by decide)).mpr w)
    refine aw_V0 dX6_not0_53 cw_X6_322 ⟨_, _, rfl⟩ hM.1 (by omega) ⟨Nat.le_refl _, Nat.le_refl _⟩ (by decide) (c_X6_added0 (by omega) hM hS hk (fun k1 c1 v1 e1 I1 L1 s1 m1 => ?_) (fun k1 e1 rv1 I1 L1 s1 m1 => ?_))
    · refine aw_istore_n (ls' := [_, _, _, _]) dX6_not0_56 (by decide) rfl rfl ?_
      have ok1 := (all_ok (SV_ok B n) (lv_ok (SV_ok B n) 5)).2.2.1 k (by omega)
      rw [e1] at ok1
      obtain ⟨b1, b2, b3⟩ := ok1
      simp only at b1 b2
      refine aw_aload_n dX6_not0_57 rfl rfl ?_
      refine aw_bipush (v := 60) dX6_not0_58 (by decide) ?_
      refine aw_V1 dX6_not0_60 cw_X6_211 ⟨_, _, rfl⟩ hM.1 (by omega) ⟨Nat.le_refl _, Nat.le_refl _⟩ (by decide) (c_X6_isSign_16 hM m1 (fun c60 => ?_) (fun c60 => ?_))
      · refine aw_if_ne (tgt := 77) dX6_not0_63 (by decide) (fun _ => ?_) (fun zz => absurd zz (by decide))
        refine aw_aload_n dX6_not0_77 rfl rfl ?_
        refine aw_gl dX6_not0_78 fw_X6_164 hM.1 ?_
        rw [sw16 m1 c60]
        refine aw_ldc2 dX6_not0_81 kw_X6_233 ?_
        refine aw_lcmp dX6_not0_84 ?_
        refine aw_if_ne (tgt := 92) dX6_not0_85 (by decide) (fun zz => absurd (by decide) zz) (fun c85 => ?_)
        refine aw_iconst (v := 1) dX6_not0_88 (by decide) ?_
        refine aw_goto (tgt := 93) dX6_not0_89 (by decide) ?_
        refine aw_istore_n (ls' := [_, _, _, _]) dX6_not0_93 (by decide) rfl rfl ?_
        refine aw_aload_n dX6_not0_94 rfl rfl ?_
        
        refine aw_V0 dX6_not0_95 cw_X6_186 ⟨_, _, rfl⟩ hM.1 (by omega) ⟨Nat.le_refl _, Nat.le_refl _⟩ (by decide) (c_X6_next (by omega) hM m1 (by omega) (by omega) (fun I2 L2 s2 m2 => ?_))
        refine aw_aload_n dX6_not0_98 rfl rfl ?_
        have d16 := c60
        have hk3 := lt_of_S (SV_ok B n).1 b2 (by omega)
        refine aw_V0 dX6_not0_99 cw_X6_322 ⟨_, _, rfl⟩ hM.1 (by omega) ⟨Nat.le_refl _, Nat.le_refl _⟩ (by decide) (c_X6_added0 (by omega) hM m2 (by omega) (fun k3 c3 v3 e3 I3 L3 s3 m3 => ?_) (fun k3 e3 rv3 I3 L3 s3 m3 => ?_))
        · refine aw_istore_n (ls' := [_, _, _, _]) dX6_not0_102 (by decide) rfl rfl ?_
          refine aw_iload_n dX6_not0_103 rfl ?_
          refine aw_if_eq (tgt := 115) dX6_not0_104 (by decide) (fun zz => absurd zz (by decide)) (fun _ => ?_)
          refine aw_iload_n dX6_not0_107 rfl ?_
          refine aw_iload_n dX6_not0_108 rfl ?_
          refine aw_icmp_ge (tgt := 124) dX6_not0_109 (by decide) (fun c109 => ?_) (fun c109 => ?_)
          · refine aw_iconst (v := 0) dX6_not0_124 (by decide) ?_
            refine aw_ireturn (ty := .int) dX6_not0_125 rfl rfl ?_
            have hq := hK _ _ _ ((not_e h9).trans ((bn_1 e1).trans ((lp_1 (show jN (SS B n k1) = true by rw [d16]; decide) e3).trans rfl))) _ _ ((s1.tr s2).tr s3) m3
            simp only [d16, jo16] at hq
            rw [nmI_q s2, nmI_q s1] at c109
            first | (rw [if_pos c109] at hq; exact hq) | (rw [if_neg c109] at hq; exact hq)
          · refine aw_goto (tgt := 120) dX6_not0_112 (by decide) ?_
            refine aw_iconst (v := 1) dX6_not0_120 (by decide) ?_
            refine aw_goto (tgt := 125) dX6_not0_121 (by decide) ?_
            refine aw_ireturn (ty := .int) dX6_not0_125 rfl rfl ?_
            have hq := hK _ _ _ ((not_e h9).trans ((bn_1 e1).trans ((lp_1 (show jN (SS B n k1) = true by rw [d16]; decide) e3).trans rfl))) _ _ ((s1.tr s2).tr s3) m3
            simp only [d16, jo16] at hq
            rw [nmI_q s2, nmI_q s1] at c109
            first | (rw [if_pos c109] at hq; exact hq) | (rw [if_neg c109] at hq; exact hq)
        · refine aw_istore_n (ls' := [_, _, _, _]) dX6_not0_102 (by decide) rfl rfl ?_
          refine aw_iload_n dX6_not0_103 rfl ?_
          refine aw_if_eq (tgt := 115) dX6_not0_104 (by decide) (fun zz => absurd zz (by decide)) (fun _ => ?_)
          refine aw_iload_n dX6_not0_107 rfl ?_
          refine aw_iload_n dX6_not0_108 rfl ?_
          refine aw_icmp_ge (tgt := 124) dX6_not0_109 (by decide) (fun c109 => ?_) (fun c109 => ?_)
          · refine aw_iconst (v := 0) dX6_not0_124 (by decide) ?_
            refine aw_ireturn (ty := .int) dX6_not0_125 rfl rfl ?_
            exact hF _ ((not_e h9).trans ((bn_1 e1).trans (lp_0 (show jN (SS B n k1) = true by rw [d16]; decide) e3))) _ _ _ ((s1.tr s2).tr s3) m3
          · refine aw_goto (tgt := 120) dX6_not0_112 (by decide) ?_
            refine aw_iconst (v := 1) dX6_not0_120 (by decide) ?_
            refine aw_goto (tgt := 125) dX6_not0_121 (by decide) ?_
            refine aw_ireturn (ty := .int) dX6_not0_125 rfl rfl ?_
            exact hF _ ((not_e h9).trans ((bn_1 e1).trans (lp_0 (show jN (SS B n k1) = true by rw [d16]; decide) e3))) _ _ _ ((s1.tr s2).tr s3) m3
      · refine aw_if_ne (tgt := 77) dX6_not0_63 (by decide) (fun zz => absurd zz (by decide)) (fun _ => ?_)
        refine aw_aload_n dX6_not0_66 rfl rfl ?_
        refine aw_bipush (v := 61) dX6_not0_67 (by decide) ?_
        refine aw_V1 dX6_not0_69 cw_X6_211 ⟨_, _, rfl⟩ hM.1 (by omega) ⟨Nat.le_refl _, Nat.le_refl _⟩ (by decide) (c_X6_isSign_17 hM m1 (fun c69 => ?_) (fun c69 => ?_))
        · refine aw_if_ne (tgt := 77) dX6_not0_72 (by decide) (fun _ => ?_) (fun zz => absurd zz (by decide))
          refine aw_aload_n dX6_not0_77 rfl rfl ?_
          refine aw_gl dX6_not0_78 fw_X6_164 hM.1 ?_
          rw [sw17 m1 c69]
          refine aw_ldc2 dX6_not0_81 kw_X6_233 ?_
          refine aw_lcmp dX6_not0_84 ?_
          refine aw_if_ne (tgt := 92) dX6_not0_85 (by decide) (fun c85 => ?_) (fun zz => absurd zz (by decide))
          refine aw_iconst (v := 0) dX6_not0_92 (by decide) ?_
          refine aw_istore_n (ls' := [_, _, _, _]) dX6_not0_93 (by decide) rfl rfl ?_
          refine aw_aload_n dX6_not0_94 rfl rfl ?_
          
          refine aw_V0 dX6_not0_95 cw_X6_186 ⟨_, _, rfl⟩ hM.1 (by omega) ⟨Nat.le_refl _, Nat.le_refl _⟩ (by decide) (c_X6_next (by omega) hM m1 (by omega) (by omega) (fun I2 L2 s2 m2 => ?_))
          refine aw_aload_n dX6_not0_98 rfl rfl ?_
          have d17 := c69
          have hk3 := lt_of_S (SV_ok B n).1 b2 (by omega)
          refine aw_V0 dX6_not0_99 cw_X6_322 ⟨_, _, rfl⟩ hM.1 (by omega) ⟨Nat.le_refl _, Nat.le_refl _⟩ (by decide) (c_X6_added0 (by omega) hM m2 (by omega) (fun k3 c3 v3 e3 I3 L3 s3 m3 => ?_) (fun k3 e3 rv3 I3 L3 s3 m3 => ?_))
          · refine aw_istore_n (ls' := [_, _, _, _]) dX6_not0_102 (by decide) rfl rfl ?_
            refine aw_iload_n dX6_not0_103 rfl ?_
            refine aw_if_eq (tgt := 115) dX6_not0_104 (by decide) (fun _ => ?_) (fun zz => absurd zz (by decide))
            refine aw_iload_n dX6_not0_115 rfl ?_
            refine aw_iload_n dX6_not0_116 rfl ?_
            refine aw_icmp_ne (tgt := 124) dX6_not0_117 (by decide) (fun c117 => ?_) (fun c117 => ?_)
            · refine aw_iconst (v := 0) dX6_not0_124 (by decide) ?_
              refine aw_ireturn (ty := .int) dX6_not0_125 rfl rfl ?_
              have hq := hK _ _ _ ((not_e h9).trans ((bn_1 e1).trans ((lp_1 (show jN (SS B n k1) = true by rw [d17]; decide) e3).trans rfl))) _ _ ((s1.tr s2).tr s3) m3
              simp only [d17, jo17] at hq
              rw [nmI_q s2, nmI_q s1] at c117
              first | (rw [if_pos c117] at hq; exact hq) | (rw [if_neg c117] at hq; exact hq)
            · refine aw_iconst (v := 1) dX6_not0_120 (by decide) ?_
              refine aw_goto (tgt := 125) dX6_not0_121 (by decide) ?_
              refine aw_ireturn (ty := .int) dX6_not0_125 rfl rfl ?_
              have hq := hK _ _ _ ((not_e h9).trans ((bn_1 e1).trans ((lp_1 (show jN (SS B n k1) = true by rw [d17]; decide) e3).trans rfl))) _ _ ((s1.tr s2).tr s3) m3
              simp only [d17, jo17] at hq
              rw [nmI_q s2, nmI_q s1] at c117
              first | (rw [if_pos c117] at hq; exact hq) | (rw [if_neg c117] at hq; exact hq)
          · refine aw_istore_n (ls' := [_, _, _, _]) dX6_not0_102 (by decide) rfl rfl ?_
            refine aw_iload_n dX6_not0_103 rfl ?_
            refine aw_if_eq (tgt := 115) dX6_not0_104 (by decide) (fun _ => ?_) (fun zz => absurd zz (by decide))
            refine aw_iload_n dX6_not0_115 rfl ?_
            refine aw_iload_n dX6_not0_116 rfl ?_
            refine aw_icmp_ne (tgt := 124) dX6_not0_117 (by decide) (fun c117 => ?_) (fun c117 => ?_)
            · refine aw_iconst (v := 0) dX6_not0_124 (by decide) ?_
              refine aw_ireturn (ty := .int) dX6_not0_125 rfl rfl ?_
              exact hF _ ((not_e h9).trans ((bn_1 e1).trans (lp_0 (show jN (SS B n k1) = true by rw [d17]; decide) e3))) _ _ _ ((s1.tr s2).tr s3) m3
            · refine aw_iconst (v := 1) dX6_not0_120 (by decide) ?_
              refine aw_goto (tgt := 125) dX6_not0_121 (by decide) ?_
              refine aw_ireturn (ty := .int) dX6_not0_125 rfl rfl ?_
              exact hF _ ((not_e h9).trans ((bn_1 e1).trans (lp_0 (show jN (SS B n k1) = true by rw [d17]; decide) e3))) _ _ _ ((s1.tr s2).tr s3) m3
        · refine aw_if_ne (tgt := 77) dX6_not0_72 (by decide) (fun zz => absurd zz (by decide)) (fun _ => ?_)
          refine aw_iload_n dX6_not0_75 rfl ?_
          refine aw_ireturn (ty := .int) dX6_not0_76 rfl rfl ?_
          exact hK _ _ _ ((not_e h9).trans ((bn_1 e1).trans (lp_z (by simp only [jN, Bool.or_eq_true, beq_iff_eq]; omega)))) _ _ s1 m1
    · refine aw_istore_n (ls' := [_, _, _, _]) dX6_not0_56 (by decide) rfl rfl ?_
      refine aw_aload_n dX6_not0_57 rfl rfl ?_
      refine aw_bipush (v := 60) dX6_not0_58 (by decide) ?_
      refine aw_V1 dX6_not0_60 cw_X6_211 ⟨_, _, rfl⟩ hM.1 (by omega) ⟨Nat.le_refl _, Nat.le_refl _⟩ (by decide) (c_X6_isSignB hM m1 ?_)
      refine aw_if_ne (tgt := 77) dX6_not0_63 (by decide) (fun zz => absurd zz (by decide)) (fun _ => ?_)
      refine aw_aload_n dX6_not0_66 rfl rfl ?_
      refine aw_bipush (v := 61) dX6_not0_67 (by decide) ?_
      refine aw_V1 dX6_not0_69 cw_X6_211 ⟨_, _, rfl⟩ hM.1 (by omega) ⟨Nat.le_refl _, Nat.le_refl _⟩ (by decide) (c_X6_isSignB hM m1 ?_)
      refine aw_if_ne (tgt := 77) dX6_not0_72 (by decide) (fun zz => absurd zz (by decide)) (fun _ => ?_)
      refine aw_iload_n dX6_not0_75 rfl ?_
      refine aw_ireturn (ty := .int) dX6_not0_76 rfl rfl ?_
      exact hF _ ((not_e h9).trans (bn_0 e1)) _ _ _ s1 m1
theorem l_X6_both0 {E : Ev} {d : Nat} {Z : Mz} {Q : Po} {B : Nat → Int32} {n t : Nat} (hd : 38 ≤ d) (hM : MZ Z) : ∀ (m k : Nat) (c : List Int32) (v : Vl) (x : Int32) (I : Mi) (L : Ml) (o2 : Option Value), n ≤ k + m → k ≤ n → MS I L B n t k 0 → x = v (nmI I) → (∀ (k' : Nat) (c' : List Int32) (v' : Vl), lpR (SS B n) (notR (SS B n) (VV B n) (lvR (SS B n) (VV B n) 5)) jA m k c v = (k', some (c', v')) → ∀ (I9 : Mi) (L9 : Ml), SaQ I I9 → MS I9 L9 B n t k' 0 → Q (some (.int (v' (nmI I)))) I9 L9 Z) → (∀ k' : Nat, lpR (SS B n) (notR (SS B n) (VV B n) (lvR (SS B n) (VV B n) 5)) jA m k c v = (k', none) → ∀ (rv : Int32) (I9 : Mi) (L9 : Ml), SaQ I I9 → MB I9 (plF B n k') → Q (some (.int rv)) I9 L9 Z) → AW E yX6_both0 cX6_both0 3 (some .int) (rmOf d 0 0) Q 0 0 5 [some (.ref 48), some (.int x), o2] [] I L Z := by
  intro m
  induction m with
  | zero =>
    intro k c v x I L o2 hm hk hS hx hK hF
    have hz : SS B n k = 0 := by rw [show k = n by omega]; exact (SV_ok B n).1
    refine aw_aload_n dX6_both0_5 rfl rfl ?_
    refine aw_bipush (v := 97) dX6_both0_6 (by decide) ?_
    refine aw_bipush (v := 110) dX6_both0_8 (by decide) ?_
    refine aw_bipush (v := 100) dX6_both0_10 (by decide) ?_
    refine aw_iconst (v := 0) dX6_both0_12 (by decide) ?_
    refine aw_iconst (v := 0) dX6_both0_13 (by decide) ?_
    refine aw_iconst (v := 0) dX6_both0_14 (by decide) ?_
    refine aw_iconst (v := 0) dX6_both0_15 (by decide) ?_
    refine aw_iconst (v := 0) dX6_both0_16 (by decide) ?_
    refine aw_V8 dX6_both0_17 cw_X6_189 ⟨_, _, rfl⟩ hM.1 (by omega) ⟨Nat.le_refl _, Nat.le_refl _⟩ (by decide) (c_X6_isWord_and (by omega) hM hS (fun zz => absurd zz (fun w => absurd ((wd_S (by decide)).mp w) (by omega))) (fun c17 => ?_))
    refine aw_if_eq (tgt := 49) dX6_both0_20 (by decide) (fun _ => ?_) (fun zz => absurd zz (by decide))
    refine aw_iload_n dX6_both0_49 rfl ?_
    refine aw_ireturn (ty := .int) dX6_both0_50 rfl rfl ?_
    rw [hx]
    exact hK _ _ _ rfl _ _ SaQ.rf hS
  | succ m ih =>
    intro k c v x I L o2 hm hk hS hx hK hF
    have hJ := fun (J : Nat → Bool) (h : J (SS B n k) = true) => h
    refine aw_aload_n dX6_both0_5 rfl rfl ?_
    refine aw_bipush (v := 97) dX6_both0_6 (by decide) ?_
    refine aw_bipush (v := 110) dX6_both0_8 (by decide) ?_
    refine aw_bipush (v := 100) dX6_both0_10 (by decide) ?_
    refine aw_iconst (v := 0) dX6_both0_12 (by decide) ?_
    refine aw_iconst (v := 0) dX6_both0_13 (by decide) ?_
    refine aw_iconst (v := 0) dX6_both0_14 (by decide) ?_
    refine aw_iconst (v := 0) dX6_both0_15 (by decide) ?_
    refine aw_iconst (v := 0) dX6_both0_16 (by decide) ?_
    refine aw_V8 dX6_both0_17 cw_X6_189 ⟨_, _, rfl⟩ hM.1 (by omega) ⟨Nat.le_refl _, Nat.le_refl _⟩ (by decide) (c_X6_isWord_and (by omega) hM hS (fun c17 => ?_) (fun c17 => ?_))
    · refine aw_if_eq (tgt := 49) dX6_both0_20 (by decide) (fun zz => absurd zz (by decide)) (fun _ => ?_)
      refine aw_aload_n dX6_both0_23 rfl rfl ?_
      have hs8 : SS B n k = 8 := (wd_S (by decide)).mp c17
      refine aw_V0 dX6_both0_24 cw_X6_186 ⟨_, _, rfl⟩ hM.1 (by omega) ⟨Nat.le_refl _, Nat.le_refl _⟩ (by decide) (c_X6_next (by omega) hM hS (by omega) (by omega) (fun I2 L2 s2 m2 => ?_))
      refine aw_aload_n dX6_both0_27 rfl rfl ?_
      refine aw_V0 dX6_both0_28 cw_X6_325 ⟨_, _, rfl⟩ hM.1 (by omega) ⟨Nat.le_refl _, Nat.le_refl _⟩ (by decide) (c_X6_not0 (by omega) hM m2 (by have := lt_of_S (SV_ok B n).1 hk (by omega); omega) (fun k1 c1 v1 e1 I1 L1 s1 m1 => ?_) (fun k1 e1 rv1 I1 L1 s1 m1 => ?_))
      · refine aw_istore_n (ls' := [_, _, _]) dX6_both0_31 (by decide) rfl rfl ?_
        refine aw_iload_n dX6_both0_32 rfl ?_
        refine aw_if_eq (tgt := 44) dX6_both0_33 (by decide) (fun c33 => ?_) (fun c33 => ?_)
        · refine aw_iconst (v := 0) dX6_both0_44 (by decide) ?_
          refine aw_istore_n (ls' := [_, _, _]) dX6_both0_45 (by decide) rfl rfl ?_
          refine aw_goto (tgt := 5) dX6_both0_46 (by decide) ?_
          have hkn := lt_of_S (SV_ok B n).1 hk (by omega)
          have ok1 := (all_ok (SV_ok B n) (lv_ok (SV_ok B n) 5)).2.2.2.1 (k + 1) (by omega)
          rw [e1] at ok1
          obtain ⟨b1, b2, b3⟩ := ok1
          simp only at b1 b2
          have b4 := (b3 _ _ rfl).1
          simp only at b4
          have e2 := lp_1 (n := m) (c := c) (v := v) (show jA (SS B n k) = true by rw [hs8]; decide) e1
          refine ih k1 (c ++ c1 ++ [stI (SS B n k) 0]) (fun nm => joV (nI (SS B n k)) (v nm) (v1 nm)) _ I1 L1 _ (by omega) b2 m1 ?_ (fun k' c' v' e I9 L9 s9 m9 => ?_) (fun k' e rv I9 L9 s9 m9 => ?_)
          · rw [nmI_q s1, nmI_q s2, hs8, jo8, ← hx]
            simp only [c33, not_true_eq_false, not_false_eq_true, and_true, true_and, and_false, false_and, or_true, true_or, or_false, false_or, ite_true, ite_false, if_true, if_false, reduceIte, and_self, or_self]
          · rw [nmI_q s1, nmI_q s2]; exact hK k' c' v' (e2.trans e) I9 L9 ((s2.tr s1).tr s9) m9
          · exact hF k' (e2.trans e) rv I9 L9 ((s2.tr s1).tr s9) m9
        · refine aw_iload_n dX6_both0_36 rfl ?_
          refine aw_if_eq (tgt := 44) dX6_both0_37 (by decide) (fun c37 => ?_) (fun c37 => ?_)
          · refine aw_iconst (v := 0) dX6_both0_44 (by decide) ?_
            refine aw_istore_n (ls' := [_, _, _]) dX6_both0_45 (by decide) rfl rfl ?_
            refine aw_goto (tgt := 5) dX6_both0_46 (by decide) ?_
            have hkn := lt_of_S (SV_ok B n).1 hk (by omega)
            have ok1 := (all_ok (SV_ok B n) (lv_ok (SV_ok B n) 5)).2.2.2.1 (k + 1) (by omega)
            rw [e1] at ok1
            obtain ⟨b1, b2, b3⟩ := ok1
            simp only at b1 b2
            have b4 := (b3 _ _ rfl).1
            simp only at b4
            have e2 := lp_1 (n := m) (c := c) (v := v) (show jA (SS B n k) = true by rw [hs8]; decide) e1
            refine ih k1 (c ++ c1 ++ [stI (SS B n k) 0]) (fun nm => joV (nI (SS B n k)) (v nm) (v1 nm)) _ I1 L1 _ (by omega) b2 m1 ?_ (fun k' c' v' e I9 L9 s9 m9 => ?_) (fun k' e rv I9 L9 s9 m9 => ?_)
            · rw [nmI_q s1, nmI_q s2, hs8, jo8, ← hx]
              rw [nmI_q s2] at c37
              simp only [c33, c37, not_true_eq_false, not_false_eq_true, and_true, true_and, and_false, false_and, or_true, true_or, or_false, false_or, ite_true, ite_false, if_true, if_false, reduceIte, and_self, or_self]
            · rw [nmI_q s1, nmI_q s2]; exact hK k' c' v' (e2.trans e) I9 L9 ((s2.tr s1).tr s9) m9
            · exact hF k' (e2.trans e) rv I9 L9 ((s2.tr s1).tr s9) m9
          · refine aw_iconst (v := 1) dX6_both0_40 (by decide) ?_
            refine aw_goto (tgt := 45) dX6_both0_41 (by decide) ?_
            refine aw_istore_n (ls' := [_, _, _]) dX6_both0_45 (by decide) rfl rfl ?_
            refine aw_goto (tgt := 5) dX6_both0_46 (by decide) ?_
            have hkn := lt_of_S (SV_ok B n).1 hk (by omega)
            have ok1 := (all_ok (SV_ok B n) (lv_ok (SV_ok B n) 5)).2.2.2.1 (k + 1) (by omega)
            rw [e1] at ok1
            obtain ⟨b1, b2, b3⟩ := ok1
            simp only at b1 b2
            have b4 := (b3 _ _ rfl).1
            simp only at b4
            have e2 := lp_1 (n := m) (c := c) (v := v) (show jA (SS B n k) = true by rw [hs8]; decide) e1
            refine ih k1 (c ++ c1 ++ [stI (SS B n k) 0]) (fun nm => joV (nI (SS B n k)) (v nm) (v1 nm)) _ I1 L1 _ (by omega) b2 m1 ?_ (fun k' c' v' e I9 L9 s9 m9 => ?_) (fun k' e rv I9 L9 s9 m9 => ?_)
            · rw [nmI_q s1, nmI_q s2, hs8, jo8, ← hx]
              rw [nmI_q s2] at c37
              simp only [c33, c37, not_true_eq_false, not_false_eq_true, and_true, true_and, and_false, false_and, or_true, true_or, or_false, false_or, ite_true, ite_false, if_true, if_false, reduceIte, and_self, or_self]
            · rw [nmI_q s1, nmI_q s2]; exact hK k' c' v' (e2.trans e) I9 L9 ((s2.tr s1).tr s9) m9
            · exact hF k' (e2.trans e) rv I9 L9 ((s2.tr s1).tr s9) m9
      · refine aw_istore_n (ls' := [_, _, _]) dX6_both0_31 (by decide) rfl rfl ?_
        refine aw_iload_n dX6_both0_32 rfl ?_
        refine aw_if_eq (tgt := 44) dX6_both0_33 (by decide) (fun c33 => ?_) (fun c33 => ?_)
        · refine aw_iconst (v := 0) dX6_both0_44 (by decide) ?_
          refine aw_istore_n (ls' := [_, _, _]) dX6_both0_45 (by decide) rfl rfl ?_
          refine aw_goto (tgt := 5) dX6_both0_46 (by decide) ?_
          refine aw_aload_n dX6_both0_5 rfl rfl ?_
          refine aw_bipush (v := 97) dX6_both0_6 (by decide) ?_
          refine aw_bipush (v := 110) dX6_both0_8 (by decide) ?_
          refine aw_bipush (v := 100) dX6_both0_10 (by decide) ?_
          refine aw_iconst (v := 0) dX6_both0_12 (by decide) ?_
          refine aw_iconst (v := 0) dX6_both0_13 (by decide) ?_
          refine aw_iconst (v := 0) dX6_both0_14 (by decide) ?_
          refine aw_iconst (v := 0) dX6_both0_15 (by decide) ?_
          refine aw_iconst (v := 0) dX6_both0_16 (by decide) ?_
          refine aw_V8 dX6_both0_17 cw_X6_189 ⟨_, _, rfl⟩ hM.1 (by omega) ⟨Nat.le_refl _, Nat.le_refl _⟩ (by decide) (c_X6_isWordB (by omega) hM m1 ?_)
          refine aw_if_eq (tgt := 49) dX6_both0_20 (by decide) (fun _ => ?_) (fun zz => absurd zz (by decide))
          refine aw_iload_n dX6_both0_49 rfl ?_
          refine aw_ireturn (ty := .int) dX6_both0_50 rfl rfl ?_
          exact hF _ (lp_0 (show jA (SS B n k) = true by rw [hs8]; decide) e1) _ _ _ (s2.tr s1) m1
        · refine aw_iload_n dX6_both0_36 rfl ?_
          refine aw_if_eq (tgt := 44) dX6_both0_37 (by decide) (fun c37 => ?_) (fun c37 => ?_)
          · refine aw_iconst (v := 0) dX6_both0_44 (by decide) ?_
            refine aw_istore_n (ls' := [_, _, _]) dX6_both0_45 (by decide) rfl rfl ?_
            refine aw_goto (tgt := 5) dX6_both0_46 (by decide) ?_
            refine aw_aload_n dX6_both0_5 rfl rfl ?_
            refine aw_bipush (v := 97) dX6_both0_6 (by decide) ?_
            refine aw_bipush (v := 110) dX6_both0_8 (by decide) ?_
            refine aw_bipush (v := 100) dX6_both0_10 (by decide) ?_
            refine aw_iconst (v := 0) dX6_both0_12 (by decide) ?_
            refine aw_iconst (v := 0) dX6_both0_13 (by decide) ?_
            refine aw_iconst (v := 0) dX6_both0_14 (by decide) ?_
            refine aw_iconst (v := 0) dX6_both0_15 (by decide) ?_
            refine aw_iconst (v := 0) dX6_both0_16 (by decide) ?_
            refine aw_V8 dX6_both0_17 cw_X6_189 ⟨_, _, rfl⟩ hM.1 (by omega) ⟨Nat.le_refl _, Nat.le_refl _⟩ (by decide) (c_X6_isWordB (by omega) hM m1 ?_)
            refine aw_if_eq (tgt := 49) dX6_both0_20 (by decide) (fun _ => ?_) (fun zz => absurd zz (by decide))
            refine aw_iload_n dX6_both0_49 rfl ?_
            refine aw_ireturn (ty := .int) dX6_both0_50 rfl rfl ?_
            exact hF _ (lp_0 (show jA (SS B n k) = true by rw [hs8]; decide) e1) _ _ _ (s2.tr s1) m1
          · refine aw_iconst (v := 1) dX6_both0_40 (by decide) ?_
            refine aw_goto (tgt := 45) dX6_both0_41 (by decide) ?_
            refine aw_istore_n (ls' := [_, _, _]) dX6_both0_45 (by decide) rfl rfl ?_
            refine aw_goto (tgt := 5) dX6_both0_46 (by decide) ?_
            refine aw_aload_n dX6_both0_5 rfl rfl ?_
            refine aw_bipush (v := 97) dX6_both0_6 (by decide) ?_
            refine aw_bipush (v := 110) dX6_both0_8 (by decide) ?_
            refine aw_bipush (v := 100) dX6_both0_10 (by decide) ?_
            refine aw_iconst (v := 0) dX6_both0_12 (by decide) ?_
            refine aw_iconst (v := 0) dX6_both0_13 (by decide) ?_
            refine aw_iconst (v := 0) dX6_both0_14 (by decide) ?_
            refine aw_iconst (v := 0) dX6_both0_15 (by decide) ?_
            refine aw_iconst (v := 0) dX6_both0_16 (by decide) ?_
            refine aw_V8 dX6_both0_17 cw_X6_189 ⟨_, _, rfl⟩ hM.1 (by omega) ⟨Nat.le_refl _, Nat.le_refl _⟩ (by decide) (c_X6_isWordB (by omega) hM m1 ?_)
            refine aw_if_eq (tgt := 49) dX6_both0_20 (by decide) (fun _ => ?_) (fun zz => absurd zz (by decide))
            refine aw_iload_n dX6_both0_49 rfl ?_
            refine aw_ireturn (ty := .int) dX6_both0_50 rfl rfl ?_
            exact hF _ (lp_0 (show jA (SS B n k) = true by rw [hs8]; decide) e1) _ _ _ (s2.tr s1) m1
    · refine aw_if_eq (tgt := 49) dX6_both0_20 (by decide) (fun _ => ?_) (fun zz => absurd zz (by decide))
      refine aw_iload_n dX6_both0_49 rfl ?_
      refine aw_ireturn (ty := .int) dX6_both0_50 rfl rfl ?_
      rw [hx]
      exact hK _ _ _ (lp_z (by simp only [jA, beq_iff_eq]; exact fun w => c17 ((wd_S (by decide)).mpr w))) _ _ SaQ.rf hS
theorem c_X6_both0 {E : Ev} {d : Nat} {I : Mi} {L : Ml} {Z : Mz} {Q : Po}  {B : Nat → Int32} {n t k : Nat} (hd : 38 ≤ d) (hM : MZ Z) (hS : MS I L B n t k 0) (hk : k ≤ n) (hK : ∀ (k' : Nat) (c' : List Int32) (v' : Vl), andR (SS B n) (VV B n) (lvR (SS B n) (VV B n) 5) k = (k', some (c', v')) → ∀ (I9 : Mi) (L9 : Ml), SaQ I I9 → MS I9 L9 B n t k' 0 → Q (some (.int (v' (nmI I)))) I9 L9 Z) (hF : ∀ k' : Nat, andR (SS B n) (VV B n) (lvR (SS B n) (VV B n) 5) k = (k', none) → ∀ (rv : Int32) (I9 : Mi) (L9 : Ml), SaQ I I9 → MB I9 (plF B n k') → Q (some (.int rv)) I9 L9 Z) : AC E yX6_both0 cX6_both0 3 (some .int) d 0 0 [.ref 48] I L Z Q := by
  refine ac_go (ls := [some (.ref 48), none, none]) (by decide +kernel) (Nat.le_of_ble_eq_true rfl) rfl ?_
  refine aw_aload_n dX6_both0_0 rfl rfl ?_
  refine aw_V0 dX6_both0_1 cw_X6_325 ⟨_, _, rfl⟩ hM.1 (by omega) ⟨Nat.le_refl _, Nat.le_refl _⟩ (by decide) (c_X6_not0 (by omega) hM hS hk (fun k1 c1 v1 e1 I1 L1 s1 m1 => ?_) (fun k1 e1 rv1 I1 L1 s1 m1 => ?_))
  · refine aw_istore_n (ls' := [_, _, _]) dX6_both0_4 (by decide) rfl rfl ?_
    have e2 : andR (SS B n) (VV B n) (lvR (SS B n) (VV B n) 5) k = lpR (SS B n) (notR (SS B n) (VV B n) (lvR (SS B n) (VV B n) 5)) jA 160 k1 c1 v1 := bn_1 e1
    have ok1 := (all_ok (SV_ok B n) (lv_ok (SV_ok B n) 5)).2.2.2.1 k (by omega)
    rw [e1] at ok1
    obtain ⟨b1, b2, b3⟩ := ok1
    simp only at b1 b2
    have hn6 := hS.1.2.2.2.1
    refine l_X6_both0 hd hM 160 k1 c1 v1 _ I1 L1 _ (by omega) b2 m1 (by rw [nmI_q s1]) (fun k' c' v' e I9 L9 s9 m9 => ?_) (fun k' e rv I9 L9 s9 m9 => ?_)
    · rw [nmI_q s1]; exact hK k' c' v' (e2.trans e) I9 L9 (s1.tr s9) m9
    · exact hF k' (e2.trans e) rv I9 L9 (s1.tr s9) m9
  · refine aw_istore_n (ls' := [_, _, _]) dX6_both0_4 (by decide) rfl rfl ?_
    refine aw_aload_n dX6_both0_5 rfl rfl ?_
    refine aw_bipush (v := 97) dX6_both0_6 (by decide) ?_
    refine aw_bipush (v := 110) dX6_both0_8 (by decide) ?_
    refine aw_bipush (v := 100) dX6_both0_10 (by decide) ?_
    refine aw_iconst (v := 0) dX6_both0_12 (by decide) ?_
    refine aw_iconst (v := 0) dX6_both0_13 (by decide) ?_
    refine aw_iconst (v := 0) dX6_both0_14 (by decide) ?_
    refine aw_iconst (v := 0) dX6_both0_15 (by decide) ?_
    refine aw_iconst (v := 0) dX6_both0_16 (by decide) ?_
    refine aw_V8 dX6_both0_17 cw_X6_189 ⟨_, _, rfl⟩ hM.1 (by omega) ⟨Nat.le_refl _, Nat.le_refl _⟩ (by decide) (c_X6_isWordB (by omega) hM m1 ?_)
    refine aw_if_eq (tgt := 49) dX6_both0_20 (by decide) (fun _ => ?_) (fun zz => absurd zz (by decide))
    refine aw_iload_n dX6_both0_49 rfl ?_
    refine aw_ireturn (ty := .int) dX6_both0_50 rfl rfl ?_
    exact hF _ (bn_0 e1) _ _ _ s1 m1
theorem l_X6_either0 {E : Ev} {d : Nat} {Z : Mz} {Q : Po} {B : Nat → Int32} {n t : Nat} (hd : 39 ≤ d) (hM : MZ Z) : ∀ (m k : Nat) (c : List Int32) (v : Vl) (x : Int32) (I : Mi) (L : Ml) (o2 : Option Value), n ≤ k + m → k ≤ n → MS I L B n t k 0 → x = v (nmI I) → (∀ (k' : Nat) (c' : List Int32) (v' : Vl), lpR (SS B n) (andR (SS B n) (VV B n) (lvR (SS B n) (VV B n) 5)) jO m k c v = (k', some (c', v')) → ∀ (I9 : Mi) (L9 : Ml), SaQ I I9 → MS I9 L9 B n t k' 0 → Q (some (.int (v' (nmI I)))) I9 L9 Z) → (∀ k' : Nat, lpR (SS B n) (andR (SS B n) (VV B n) (lvR (SS B n) (VV B n) 5)) jO m k c v = (k', none) → ∀ (rv : Int32) (I9 : Mi) (L9 : Ml), SaQ I I9 → MB I9 (plF B n k') → Q (some (.int rv)) I9 L9 Z) → AW E yX6_either0 cX6_either0 3 (some .int) (rmOf d 0 0) Q 0 0 5 [some (.ref 48), some (.int x), o2] [] I L Z := by
  intro m
  induction m with
  | zero =>
    intro k c v x I L o2 hm hk hS hx hK hF
    have hz : SS B n k = 0 := by rw [show k = n by omega]; exact (SV_ok B n).1
    refine aw_aload_n dX6_either0_5 rfl rfl ?_
    refine aw_bipush (v := 111) dX6_either0_6 (by decide) ?_
    refine aw_bipush (v := 114) dX6_either0_8 (by decide) ?_
    refine aw_iconst (v := 0) dX6_either0_10 (by decide) ?_
    refine aw_iconst (v := 0) dX6_either0_11 (by decide) ?_
    refine aw_iconst (v := 0) dX6_either0_12 (by decide) ?_
    refine aw_iconst (v := 0) dX6_either0_13 (by decide) ?_
    refine aw_iconst (v := 0) dX6_either0_14 (by decide) ?_
    refine aw_iconst (v := 0) dX6_either0_15 (by decide) ?_
    refine aw_V8 dX6_either0_16 cw_X6_189 ⟨_, _, rfl⟩ hM.1 (by omega) ⟨Nat.le_refl _, Nat.le_refl _⟩ (by decide) (c_X6_isWord_or (by omega) hM hS (fun zz => absurd zz (fun w => absurd ((wd_S (by decide)).mp w) (by omega))) (fun c16 => ?_))
    refine aw_if_eq (tgt := 48) dX6_either0_19 (by decide) (fun _ => ?_) (fun zz => absurd zz (by decide))
    refine aw_iload_n dX6_either0_48 rfl ?_
    refine aw_ireturn (ty := .int) dX6_either0_49 rfl rfl ?_
    rw [hx]
    exact hK _ _ _ rfl _ _ SaQ.rf hS
  | succ m ih =>
    intro k c v x I L o2 hm hk hS hx hK hF
    have hJ := fun (J : Nat → Bool) (h : J (SS B n k) = true) => h
    refine aw_aload_n dX6_either0_5 rfl rfl ?_
    refine aw_bipush (v := 111) dX6_either0_6 (by decide) ?_
    refine aw_bipush (v := 114) dX6_either0_8 (by decide) ?_
    refine aw_iconst (v := 0) dX6_either0_10 (by decide) ?_
    refine aw_iconst (v := 0) dX6_either0_11 (by decide) ?_
    refine aw_iconst (v := 0) dX6_either0_12 (by decide) ?_
    refine aw_iconst (v := 0) dX6_either0_13 (by decide) ?_
    refine aw_iconst (v := 0) dX6_either0_14 (by decide) ?_
    refine aw_iconst (v := 0) dX6_either0_15 (by decide) ?_
    refine aw_V8 dX6_either0_16 cw_X6_189 ⟨_, _, rfl⟩ hM.1 (by omega) ⟨Nat.le_refl _, Nat.le_refl _⟩ (by decide) (c_X6_isWord_or (by omega) hM hS (fun c16 => ?_) (fun c16 => ?_))
    · refine aw_if_eq (tgt := 48) dX6_either0_19 (by decide) (fun zz => absurd zz (by decide)) (fun _ => ?_)
      refine aw_aload_n dX6_either0_22 rfl rfl ?_
      have hs8 : SS B n k = 7 := (wd_S (by decide)).mp c16
      refine aw_V0 dX6_either0_23 cw_X6_186 ⟨_, _, rfl⟩ hM.1 (by omega) ⟨Nat.le_refl _, Nat.le_refl _⟩ (by decide) (c_X6_next (by omega) hM hS (by omega) (by omega) (fun I2 L2 s2 m2 => ?_))
      refine aw_aload_n dX6_either0_26 rfl rfl ?_
      refine aw_V0 dX6_either0_27 cw_X6_328 ⟨_, _, rfl⟩ hM.1 (by omega) ⟨Nat.le_refl _, Nat.le_refl _⟩ (by decide) (c_X6_both0 (by omega) hM m2 (by have := lt_of_S (SV_ok B n).1 hk (by omega); omega) (fun k1 c1 v1 e1 I1 L1 s1 m1 => ?_) (fun k1 e1 rv1 I1 L1 s1 m1 => ?_))
      · refine aw_istore_n (ls' := [_, _, _]) dX6_either0_30 (by decide) rfl rfl ?_
        refine aw_iload_n dX6_either0_31 rfl ?_
        refine aw_if_ne (tgt := 39) dX6_either0_32 (by decide) (fun c32 => ?_) (fun c32 => ?_)
        · refine aw_iconst (v := 1) dX6_either0_39 (by decide) ?_
          refine aw_goto (tgt := 44) dX6_either0_40 (by decide) ?_
          refine aw_istore_n (ls' := [_, _, _]) dX6_either0_44 (by decide) rfl rfl ?_
          refine aw_goto (tgt := 5) dX6_either0_45 (by decide) ?_
          have hkn := lt_of_S (SV_ok B n).1 hk (by omega)
          have ok1 := (all_ok (SV_ok B n) (lv_ok (SV_ok B n) 5)).2.2.2.2.1 (k + 1) (by omega)
          rw [e1] at ok1
          obtain ⟨b1, b2, b3⟩ := ok1
          simp only at b1 b2
          have b4 := (b3 _ _ rfl).1
          simp only at b4
          have e2 := lp_1 (n := m) (c := c) (v := v) (show jO (SS B n k) = true by rw [hs8]; decide) e1
          refine ih k1 (c ++ c1 ++ [stI (SS B n k) 0]) (fun nm => joV (nI (SS B n k)) (v nm) (v1 nm)) _ I1 L1 _ (by omega) b2 m1 ?_ (fun k' c' v' e I9 L9 s9 m9 => ?_) (fun k' e rv I9 L9 s9 m9 => ?_)
          · rw [nmI_q s1, nmI_q s2, hs8, jo7, ← hx]
            simp only [c32, not_true_eq_false, not_false_eq_true, and_true, true_and, and_false, false_and, or_true, true_or, or_false, false_or, ite_true, ite_false, if_true, if_false, reduceIte, and_self, or_self]
          · rw [nmI_q s1, nmI_q s2]; exact hK k' c' v' (e2.trans e) I9 L9 ((s2.tr s1).tr s9) m9
          · exact hF k' (e2.trans e) rv I9 L9 ((s2.tr s1).tr s9) m9
        · refine aw_iload_n dX6_either0_35 rfl ?_
          refine aw_if_eq (tgt := 43) dX6_either0_36 (by decide) (fun c36 => ?_) (fun c36 => ?_)
          · refine aw_iconst (v := 0) dX6_either0_43 (by decide) ?_
            refine aw_istore_n (ls' := [_, _, _]) dX6_either0_44 (by decide) rfl rfl ?_
            refine aw_goto (tgt := 5) dX6_either0_45 (by decide) ?_
            have hkn := lt_of_S (SV_ok B n).1 hk (by omega)
            have ok1 := (all_ok (SV_ok B n) (lv_ok (SV_ok B n) 5)).2.2.2.2.1 (k + 1) (by omega)
            rw [e1] at ok1
            obtain ⟨b1, b2, b3⟩ := ok1
            simp only at b1 b2
            have b4 := (b3 _ _ rfl).1
            simp only at b4
            have e2 := lp_1 (n := m) (c := c) (v := v) (show jO (SS B n k) = true by rw [hs8]; decide) e1
            refine ih k1 (c ++ c1 ++ [stI (SS B n k) 0]) (fun nm => joV (nI (SS B n k)) (v nm) (v1 nm)) _ I1 L1 _ (by omega) b2 m1 ?_ (fun k' c' v' e I9 L9 s9 m9 => ?_) (fun k' e rv I9 L9 s9 m9 => ?_)
            · rw [nmI_q s1, nmI_q s2, hs8, jo7, ← hx]
              rw [nmI_q s2] at c36
              simp only [c32, c36, not_true_eq_false, not_false_eq_true, and_true, true_and, and_false, false_and, or_true, true_or, or_false, false_or, ite_true, ite_false, if_true, if_false, reduceIte, and_self, or_self]
            · rw [nmI_q s1, nmI_q s2]; exact hK k' c' v' (e2.trans e) I9 L9 ((s2.tr s1).tr s9) m9
            · exact hF k' (e2.trans e) rv I9 L9 ((s2.tr s1).tr s9) m9
          · refine aw_iconst (v := 1) dX6_either0_39 (by decide) ?_
            refine aw_goto (tgt := 44) dX6_either0_40 (by decide) ?_
            refine aw_istore_n (ls' := [_, _, _]) dX6_either0_44 (by decide) rfl rfl ?_
            refine aw_goto (tgt := 5) dX6_either0_45 (by decide) ?_
            have hkn := lt_of_S (SV_ok B n).1 hk (by omega)
            have ok1 := (all_ok (SV_ok B n) (lv_ok (SV_ok B n) 5)).2.2.2.2.1 (k + 1) (by omega)
            rw [e1] at ok1
            obtain ⟨b1, b2, b3⟩ := ok1
            simp only at b1 b2
            have b4 := (b3 _ _ rfl).1
            simp only at b4
            have e2 := lp_1 (n := m) (c := c) (v := v) (show jO (SS B n k) = true by rw [hs8]; decide) e1
            refine ih k1 (c ++ c1 ++ [stI (SS B n k) 0]) (fun nm => joV (nI (SS B n k)) (v nm) (v1 nm)) _ I1 L1 _ (by omega) b2 m1 ?_ (fun k' c' v' e I9 L9 s9 m9 => ?_) (fun k' e rv I9 L9 s9 m9 => ?_)
            · rw [nmI_q s1, nmI_q s2, hs8, jo7, ← hx]
              rw [nmI_q s2] at c36
              simp only [c32, c36, not_true_eq_false, not_false_eq_true, and_true, true_and, and_false, false_and, or_true, true_or, or_false, false_or, ite_true, ite_false, if_true, if_false, reduceIte, and_self, or_self]
            · rw [nmI_q s1, nmI_q s2]; exact hK k' c' v' (e2.trans e) I9 L9 ((s2.tr s1).tr s9) m9
            · exact hF k' (e2.trans e) rv I9 L9 ((s2.tr s1).tr s9) m9
      · refine aw_istore_n (ls' := [_, _, _]) dX6_either0_30 (by decide) rfl rfl ?_
        refine aw_iload_n dX6_either0_31 rfl ?_
        refine aw_if_ne (tgt := 39) dX6_either0_32 (by decide) (fun c32 => ?_) (fun c32 => ?_)
        · refine aw_iconst (v := 1) dX6_either0_39 (by decide) ?_
          refine aw_goto (tgt := 44) dX6_either0_40 (by decide) ?_
          refine aw_istore_n (ls' := [_, _, _]) dX6_either0_44 (by decide) rfl rfl ?_
          refine aw_goto (tgt := 5) dX6_either0_45 (by decide) ?_
          refine aw_aload_n dX6_either0_5 rfl rfl ?_
          refine aw_bipush (v := 111) dX6_either0_6 (by decide) ?_
          refine aw_bipush (v := 114) dX6_either0_8 (by decide) ?_
          refine aw_iconst (v := 0) dX6_either0_10 (by decide) ?_
          refine aw_iconst (v := 0) dX6_either0_11 (by decide) ?_
          refine aw_iconst (v := 0) dX6_either0_12 (by decide) ?_
          refine aw_iconst (v := 0) dX6_either0_13 (by decide) ?_
          refine aw_iconst (v := 0) dX6_either0_14 (by decide) ?_
          refine aw_iconst (v := 0) dX6_either0_15 (by decide) ?_
          refine aw_V8 dX6_either0_16 cw_X6_189 ⟨_, _, rfl⟩ hM.1 (by omega) ⟨Nat.le_refl _, Nat.le_refl _⟩ (by decide) (c_X6_isWordB (by omega) hM m1 ?_)
          refine aw_if_eq (tgt := 48) dX6_either0_19 (by decide) (fun _ => ?_) (fun zz => absurd zz (by decide))
          refine aw_iload_n dX6_either0_48 rfl ?_
          refine aw_ireturn (ty := .int) dX6_either0_49 rfl rfl ?_
          exact hF _ (lp_0 (show jO (SS B n k) = true by rw [hs8]; decide) e1) _ _ _ (s2.tr s1) m1
        · refine aw_iload_n dX6_either0_35 rfl ?_
          refine aw_if_eq (tgt := 43) dX6_either0_36 (by decide) (fun c36 => ?_) (fun c36 => ?_)
          · refine aw_iconst (v := 0) dX6_either0_43 (by decide) ?_
            refine aw_istore_n (ls' := [_, _, _]) dX6_either0_44 (by decide) rfl rfl ?_
            refine aw_goto (tgt := 5) dX6_either0_45 (by decide) ?_
            refine aw_aload_n dX6_either0_5 rfl rfl ?_
            refine aw_bipush (v := 111) dX6_either0_6 (by decide) ?_
            refine aw_bipush (v := 114) dX6_either0_8 (by decide) ?_
            refine aw_iconst (v := 0) dX6_either0_10 (by decide) ?_
            refine aw_iconst (v := 0) dX6_either0_11 (by decide) ?_
            refine aw_iconst (v := 0) dX6_either0_12 (by decide) ?_
            refine aw_iconst (v := 0) dX6_either0_13 (by decide) ?_
            refine aw_iconst (v := 0) dX6_either0_14 (by decide) ?_
            refine aw_iconst (v := 0) dX6_either0_15 (by decide) ?_
            refine aw_V8 dX6_either0_16 cw_X6_189 ⟨_, _, rfl⟩ hM.1 (by omega) ⟨Nat.le_refl _, Nat.le_refl _⟩ (by decide) (c_X6_isWordB (by omega) hM m1 ?_)
            refine aw_if_eq (tgt := 48) dX6_either0_19 (by decide) (fun _ => ?_) (fun zz => absurd zz (by decide))
            refine aw_iload_n dX6_either0_48 rfl ?_
            refine aw_ireturn (ty := .int) dX6_either0_49 rfl rfl ?_
            exact hF _ (lp_0 (show jO (SS B n k) = true by rw [hs8]; decide) e1) _ _ _ (s2.tr s1) m1
          · refine aw_iconst (v := 1) dX6_either0_39 (by decide) ?_
            refine aw_goto (tgt := 44) dX6_either0_40 (by decide) ?_
            refine aw_istore_n (ls' := [_, _, _]) dX6_either0_44 (by decide) rfl rfl ?_
            refine aw_goto (tgt := 5) dX6_either0_45 (by decide) ?_
            refine aw_aload_n dX6_either0_5 rfl rfl ?_
            refine aw_bipush (v := 111) dX6_either0_6 (by decide) ?_
            refine aw_bipush (v := 114) dX6_either0_8 (by decide) ?_
            refine aw_iconst (v := 0) dX6_either0_10 (by decide) ?_
            refine aw_iconst (v := 0) dX6_either0_11 (by decide) ?_
            refine aw_iconst (v := 0) dX6_either0_12 (by decide) ?_
            refine aw_iconst (v := 0) dX6_either0_13 (by decide) ?_
            refine aw_iconst (v := 0) dX6_either0_14 (by decide) ?_
            refine aw_iconst (v := 0) dX6_either0_15 (by decide) ?_
            refine aw_V8 dX6_either0_16 cw_X6_189 ⟨_, _, rfl⟩ hM.1 (by omega) ⟨Nat.le_refl _, Nat.le_refl _⟩ (by decide) (c_X6_isWordB (by omega) hM m1 ?_)
            refine aw_if_eq (tgt := 48) dX6_either0_19 (by decide) (fun _ => ?_) (fun zz => absurd zz (by decide))
            refine aw_iload_n dX6_either0_48 rfl ?_
            refine aw_ireturn (ty := .int) dX6_either0_49 rfl rfl ?_
            exact hF _ (lp_0 (show jO (SS B n k) = true by rw [hs8]; decide) e1) _ _ _ (s2.tr s1) m1
    · refine aw_if_eq (tgt := 48) dX6_either0_19 (by decide) (fun _ => ?_) (fun zz => absurd zz (by decide))
      refine aw_iload_n dX6_either0_48 rfl ?_
      refine aw_ireturn (ty := .int) dX6_either0_49 rfl rfl ?_
      rw [hx]
      exact hK _ _ _ (lp_z (by simp only [jO, beq_iff_eq]; exact fun w => c16 ((wd_S (by decide)).mpr w))) _ _ SaQ.rf hS
theorem c_X6_either0 {E : Ev} {d : Nat} {I : Mi} {L : Ml} {Z : Mz} {Q : Po}  {B : Nat → Int32} {n t k : Nat} (hd : 39 ≤ d) (hM : MZ Z) (hS : MS I L B n t k 0) (hk : k ≤ n) (hK : ∀ (k' : Nat) (c' : List Int32) (v' : Vl), eitR (SS B n) (VV B n) (lvR (SS B n) (VV B n) 5) k = (k', some (c', v')) → ∀ (I9 : Mi) (L9 : Ml), SaQ I I9 → MS I9 L9 B n t k' 0 → Q (some (.int (v' (nmI I)))) I9 L9 Z) (hF : ∀ k' : Nat, eitR (SS B n) (VV B n) (lvR (SS B n) (VV B n) 5) k = (k', none) → ∀ (rv : Int32) (I9 : Mi) (L9 : Ml), SaQ I I9 → MB I9 (plF B n k') → Q (some (.int rv)) I9 L9 Z) : AC E yX6_either0 cX6_either0 3 (some .int) d 0 0 [.ref 48] I L Z Q := by
  refine ac_go (ls := [some (.ref 48), none, none]) (by decide +kernel) (Nat.le_of_ble_eq_true rfl) rfl ?_
  refine aw_aload_n dX6_either0_0 rfl rfl ?_
  refine aw_V0 dX6_either0_1 cw_X6_328 ⟨_, _, rfl⟩ hM.1 (by omega) ⟨Nat.le_refl _, Nat.le_refl _⟩ (by decide) (c_X6_both0 (by omega) hM hS hk (fun k1 c1 v1 e1 I1 L1 s1 m1 => ?_) (fun k1 e1 rv1 I1 L1 s1 m1 => ?_))
  · refine aw_istore_n (ls' := [_, _, _]) dX6_either0_4 (by decide) rfl rfl ?_
    have e2 : eitR (SS B n) (VV B n) (lvR (SS B n) (VV B n) 5) k = lpR (SS B n) (andR (SS B n) (VV B n) (lvR (SS B n) (VV B n) 5)) jO 160 k1 c1 v1 := bn_1 e1
    have ok1 := (all_ok (SV_ok B n) (lv_ok (SV_ok B n) 5)).2.2.2.2.1 k (by omega)
    rw [e1] at ok1
    obtain ⟨b1, b2, b3⟩ := ok1
    simp only at b1 b2
    have hn6 := hS.1.2.2.2.1
    refine l_X6_either0 hd hM 160 k1 c1 v1 _ I1 L1 _ (by omega) b2 m1 (by rw [nmI_q s1]) (fun k' c' v' e I9 L9 s9 m9 => ?_) (fun k' e rv I9 L9 s9 m9 => ?_)
    · rw [nmI_q s1]; exact hK k' c' v' (e2.trans e) I9 L9 (s1.tr s9) m9
    · exact hF k' (e2.trans e) rv I9 L9 (s1.tr s9) m9
  · refine aw_istore_n (ls' := [_, _, _]) dX6_either0_4 (by decide) rfl rfl ?_
    refine aw_aload_n dX6_either0_5 rfl rfl ?_
    refine aw_bipush (v := 111) dX6_either0_6 (by decide) ?_
    refine aw_bipush (v := 114) dX6_either0_8 (by decide) ?_
    refine aw_iconst (v := 0) dX6_either0_10 (by decide) ?_
    refine aw_iconst (v := 0) dX6_either0_11 (by decide) ?_
    refine aw_iconst (v := 0) dX6_either0_12 (by decide) ?_
    refine aw_iconst (v := 0) dX6_either0_13 (by decide) ?_
    refine aw_iconst (v := 0) dX6_either0_14 (by decide) ?_
    refine aw_iconst (v := 0) dX6_either0_15 (by decide) ?_
    refine aw_V8 dX6_either0_16 cw_X6_189 ⟨_, _, rfl⟩ hM.1 (by omega) ⟨Nat.le_refl _, Nat.le_refl _⟩ (by decide) (c_X6_isWordB (by omega) hM m1 ?_)
    refine aw_if_eq (tgt := 48) dX6_either0_19 (by decide) (fun _ => ?_) (fun zz => absurd zz (by decide))
    refine aw_iload_n dX6_either0_48 rfl ?_
    refine aw_ireturn (ty := .int) dX6_either0_49 rfl rfl ?_
    exact hF _ (bn_0 e1) _ _ _ s1 m1
