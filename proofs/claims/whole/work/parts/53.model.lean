/-! ===== bits ===== -/
def tb (x : Int32) (i : Nat) : Bool := x.toBitVec.getLsbD i
theorem tb_ext {x y : Int32} (h : ∀ i, i < 32 → tb x i = tb y i) : x = y := by
  apply Int32.toBitVec_inj.mp
  exact BitVec.eq_of_getLsbD_eq fun i hi => h i hi
theorem tb_and (x y : Int32) (i : Nat) : tb (x &&& y) i = (tb x i && tb y i) := by unfold tb; rw [Int32.toBitVec_and, BitVec.getLsbD_and]
theorem tb_or (x y : Int32) (i : Nat) : tb (x ||| y) i = (tb x i || tb y i) := by unfold tb; rw [Int32.toBitVec_or, BitVec.getLsbD_or]
theorem tb_not (x : Int32) {i : Nat} (h : i < 32) : tb (x ^^^ -1) i = !tb x i := by
  unfold tb; rw [Int32.toBitVec_xor, BitVec.getLsbD_xor]
  have : (-1 : Int32).toBitVec = BitVec.allOnes 32 := by decide
  rw [this, BitVec.getLsbD_allOnes]
  simp [h]
theorem tb_zero (i : Nat) : tb 0 i = false := by unfold tb; simp
theorem or_dif (x y : Int32) : x ||| (y &&& (x ^^^ -1)) = x ||| y := by
  refine tb_ext fun i hi => ?_
  rw [tb_or, tb_and, tb_not x hi, tb_or]
  cases tb x i <;> cases tb y i <;> rfl
theorem dif_zero (x y : Int32) : y &&& (x ^^^ -1) = 0 ↔ x ||| y = x := by
  constructor
  · intro h
    refine tb_ext fun i hi => ?_
    have := congrArg (fun z => tb z i) h
    simp only [tb_and, tb_not x hi, tb_zero] at this
    rw [tb_or]
    revert this
    cases tb x i <;> cases tb y i <;> decide
  · intro h
    refine tb_ext fun i hi => ?_
    have := congrArg (fun z => tb z i) h
    simp only [tb_or] at this
    rw [tb_and, tb_not x hi, tb_zero]
    revert this
    cases tb x i <;> cases tb y i <;> decide
/-! ===== the reference: what follows ===== -/
theorem iU_two {I : Mi} {a k : Nat} {x z : Int32} : iU (iU I a k x) a k z = iU I a k z := by
  funext b j
  by_cases h : b = a ∧ j = k
  · obtain ⟨rfl, rfl⟩ := h; rw [iU_same, iU_same]
  · rw [iU_at h, iU_at h, iU_at h]
def mrF (s b : Nat → Int32) (all lo : Int32) : Nat → Nat → Int32 → Int32
  | 0, _, m => m
  | n + 1, i, m => mrF s b all lo n (i + 1) (m ||| (if ¬ nI i = lo ∧ s i &&& (all ^^^ -1) = 0 then 1 <<< (b i &&& 31) else 0))
theorem mr_rd (s b : Nat → Int32) (all lo : Int32) : ∀ (n i : Nat) (m : Int32), all ||| mrF s b all lo n i m = rdF s b all lo n i (all ||| m) := by
  intro n
  induction n with
  | zero => intro i m; rfl
  | succ n ih =>
    intro i m
    simp only [mrF, rdF]
    rw [ih]
    by_cases h : ¬ nI i = lo ∧ s i &&& (all ^^^ -1) = 0
    · rw [if_pos h, if_pos h, Int32.or_assoc]
    · rw [if_neg h, if_neg h, Int32.or_zero]
def rdX (s b : Nat → Int32) (r : Nat) (lo a : Int32) : Int32 := rdF s b a lo r 0 a
theorem mr_all (s b : Nat → Int32) (all lo : Int32) (r : Nat) : all ||| (mrF s b all lo r 0 0 &&& (all ^^^ -1)) = rdX s b r lo all := by
  rw [or_dif, mr_rd, Int32.or_zero]; rfl
theorem mr_end (s b : Nat → Int32) (all lo : Int32) (r : Nat) : mrF s b all lo r 0 0 &&& (all ^^^ -1) = 0 ↔ rdX s b r lo all = all := by
  rw [dif_zero, mr_rd, Int32.or_zero]; rfl
/-- it comes to an end -/
def fxP (f : Int32 → Int32) : Nat → Int32 → Prop
  | 0, a => f a = a
  | n + 1, a => f a = a ∨ fxP f n (f a)
def RSM (I : Mi) (r : Nat) (s b : Nat → Int32) : Prop := I 48 12 = nI r ∧ r ≤ 12 ∧ ∀ i, i < r → I 53 (2 * i) = s i ∧ I 53 (2 * i + 1) = b i
theorem RSM.st {I : Mi} {r : Nat} {s b : Nat → Int32} {x : Int32} (h : RSM I r s b) : RSM (iU I 48 31 x) r s b := by
  refine ⟨by rw [iU_at (by omega)]; exact h.1, h.2.1, fun i hi => ?_⟩
  rw [iU_at (by omega), iU_at (by omega)]
  exact h.2.2 i hi
theorem l_X6_clIn {E : Ev} {d : Nat} {I : Mi} {L : Ml} {Z : Mz} {Q : Po} {r : Nat} {s b : Nat → Int32} {x lo a sg : Int32} (hM : MZ Z) (hR : RSM I r s b) : ∀ (n : Nat) (j : Nat) (mo : Int32), j + n = r → AW E yX6_closure cX6_closure 6 (some .int) (rmOf d 0 0) Q 0 0 80 [some (.ref 48), some (.int x), some (.int lo), some (.int a), some (.int (mrF s b a lo n j mo)), some (.int (nI r))] [] (iU I 48 31 sg) L Z → AW E yX6_closure cX6_closure 6 (some .int) (rmOf d 0 0) Q 0 0 21 [some (.ref 48), some (.int x), some (.int lo), some (.int a), some (.int mo), some (.int (nI j))] [] (iU I 48 31 sg) L Z := by
  intro n
  induction n with
  | zero =>
    intro j mo hj hQ
    refine aw_iload dX6_closure_21 rfl ?_
    refine aw_aload_n dX6_closure_23 rfl rfl ?_
    refine aw_gi dX6_closure_24 fw_X6_89 hM.1 ?_
    refine aw_icmp_ge (tgt := 80) dX6_closure_27 (by decide) (fun c27 => ?_) (fun zz => absurd (by rw [hR.st.1, show j = r by omega]; exact Int32.le_refl _) zz)
    rw [show j = r by omega]
    exact hQ
  | succ n ih =>
    intro j mo hj hQ
    refine aw_iload dX6_closure_21 rfl ?_
    refine aw_aload_n dX6_closure_23 rfl rfl ?_
    refine aw_gi dX6_closure_24 fw_X6_89 hM.1 ?_
    refine aw_icmp_ge (tgt := 80) dX6_closure_27 (by decide) (fun zz => absurd zz (by rw [hR.st.1]; exact nI_ge (by omega) (by have := hR.2.1; omega))) (fun c27 => ?_)
    refine aw_iload dX6_closure_30 rfl ?_
    refine aw_iload dX6_closure_32 rfl ?_
    refine aw_iload_n dX6_closure_34 rfl ?_
    refine aw_icmp_eq (tgt := 70) dX6_closure_35 (by decide) (fun c35 => ?_) (fun c35 => ?_)
    · refine aw_iconst (v := 0) dX6_closure_70 (by decide) ?_
      refine aw_ior dX6_closure_71 ?_
      refine aw_istore (ls' := [_, _, _, _, _, _]) dX6_closure_72 (by decide) rfl rfl ?_
      refine aw_iinc (v := nI (j + 1)) (ls' := [_, _, _, _, _, _]) dX6_closure_74 rfl (nI_1 j) (by decide) rfl rfl ?_
      refine aw_goto (tgt := 21) dX6_closure_77 (by decide) ?_
      refine ih (j + 1) _ (by omega) ?_
      have e1 := (hR.st (x := sg)).2.2 j (by omega)
      simp only [mrF, c35, not_true_eq_false, not_false_eq_true, and_true, true_and, and_false, false_and, or_true, true_or, or_false, false_or, ite_true, ite_false, if_true, if_false, reduceIte, and_self, or_self] at hQ
      exact hQ
    · refine aw_aload_n dX6_closure_38 rfl rfl ?_
      refine aw_gr dX6_closure_39 fw_X6_26 hM.1 hM.2.2.2.2.2.2.2.2.2.1 ?_
      refine aw_iconst (v := 2) dX6_closure_42 (by decide) ?_
      refine aw_iload dX6_closure_43 rfl ?_
      refine aw_imul dX6_closure_45 ?_
      refine aw_ia (2 * j) dX6_closure_46 hM.2.2.2.2.2.2.2.2.2.2.1 (ix0 j) (by have := hR.2.1; omega) (by decide) ?_
      refine aw_iload_n dX6_closure_47 rfl ?_
      refine aw_iconst (v := -1) dX6_closure_48 (by decide) ?_
      refine aw_ixor dX6_closure_49 ?_
      refine aw_iand dX6_closure_50 ?_
      refine aw_if_ne (tgt := 70) dX6_closure_51 (by decide) (fun c51 => ?_) (fun c51 => ?_)
      · refine aw_iconst (v := 0) dX6_closure_70 (by decide) ?_
        refine aw_ior dX6_closure_71 ?_
        refine aw_istore (ls' := [_, _, _, _, _, _]) dX6_closure_72 (by decide) rfl rfl ?_
        refine aw_iinc (v := nI (j + 1)) (ls' := [_, _, _, _, _, _]) dX6_closure_74 rfl (nI_1 j) (by decide) rfl rfl ?_
        refine aw_goto (tgt := 21) dX6_closure_77 (by decide) ?_
        refine ih (j + 1) _ (by omega) ?_
        have e1 := (hR.st (x := sg)).2.2 j (by omega)
        rw [e1.1] at c51
        first | rw [e1.2] | skip
        simp only [mrF, c35, c51, not_true_eq_false, not_false_eq_true, and_true, true_and, and_false, false_and, or_true, true_or, or_false, false_or, ite_true, ite_false, if_true, if_false, reduceIte, and_self, or_self] at hQ
        exact hQ
      · refine aw_iconst (v := 1) dX6_closure_54 (by decide) ?_
        refine aw_aload_n dX6_closure_55 rfl rfl ?_
        refine aw_gr dX6_closure_56 fw_X6_26 hM.1 hM.2.2.2.2.2.2.2.2.2.1 ?_
        refine aw_iconst (v := 2) dX6_closure_59 (by decide) ?_
        refine aw_iload dX6_closure_60 rfl ?_
        refine aw_imul dX6_closure_62 ?_
        refine aw_iconst (v := 1) dX6_closure_63 (by decide) ?_
        refine aw_iadd dX6_closure_64 ?_
        refine aw_ia (2 * j + 1) dX6_closure_65 hM.2.2.2.2.2.2.2.2.2.2.1 (ix1 j) (by have := hR.2.1; omega) (by decide) ?_
        refine aw_ishl dX6_closure_66 ?_
        refine aw_goto (tgt := 71) dX6_closure_67 (by decide) ?_
        refine aw_ior dX6_closure_71 ?_
        refine aw_istore (ls' := [_, _, _, _, _, _]) dX6_closure_72 (by decide) rfl rfl ?_
        refine aw_iinc (v := nI (j + 1)) (ls' := [_, _, _, _, _, _]) dX6_closure_74 rfl (nI_1 j) (by decide) rfl rfl ?_
        refine aw_goto (tgt := 21) dX6_closure_77 (by decide) ?_
        refine ih (j + 1) _ (by omega) ?_
        have e1 := (hR.st (x := sg)).2.2 j (by omega)
        rw [e1.1] at c51
        first | rw [e1.2] | skip
        simp only [mrF, c35, c51, not_true_eq_false, not_false_eq_true, and_true, true_and, and_false, false_and, or_true, true_or, or_false, false_or, ite_true, ite_false, if_true, if_false, reduceIte, and_self, or_self] at hQ
        exact hQ
theorem l_X6_closure {E : Ev} {d : Nat} {I : Mi} {L : Ml} {Z : Mz} {Q : Po} {r : Nat} {s b : Nat → Int32} {x lo : Int32} (hM : MZ Z) (hR : RSM I r s b) : ∀ (n : Nat) (a : Int32) (o4 : Int32) (o5 : Option Value) (sg : Int32) (k : Nat), fxP (rdX s b r lo) n a → sg + 1 = nI k → Q (some (.int (foF (rdX s b r lo) n a))) (iU I 48 31 (nI (stF (rdX s b r lo) n k a))) L Z → AW E yX6_closure cX6_closure 6 (some .int) (rmOf d 0 0) Q 0 0 15 [some (.ref 48), some (.int x), some (.int lo), some (.int a), some (.int o4), o5] [] (iU I 48 31 sg) L Z := by
  intro n
  induction n with
  | zero =>
    intro a o4 o5 sg k hf hk hQ
    have hE := (mr_end s b a lo r).mpr hf
    refine aw_iconst (v := 0) dX6_closure_15 (by decide) ?_
    refine aw_istore (ls' := [_, _, _, _, _, _]) dX6_closure_16 (by decide) rfl rfl ?_
    refine aw_iconst (v := 0) dX6_closure_18 (by decide) ?_
    refine aw_istore (ls' := [_, _, _, _, _, _]) dX6_closure_19 (by decide) rfl rfl ?_
    refine l_X6_clIn hM hR r 0 0 (by omega) ?_
    refine aw_iload dX6_closure_80 rfl ?_
    refine aw_iload_n dX6_closure_82 rfl ?_
    refine aw_iconst (v := -1) dX6_closure_83 (by decide) ?_
    refine aw_ixor dX6_closure_84 ?_
    refine aw_iand dX6_closure_85 ?_
    refine aw_istore (ls' := [_, _, _, _, _, _]) dX6_closure_86 (by decide) rfl rfl ?_
    refine aw_iload_n dX6_closure_88 rfl ?_
    refine aw_iload dX6_closure_89 rfl ?_
    refine aw_ior dX6_closure_91 ?_
    refine aw_istore_n (ls' := [_, _, _, _, _, _]) dX6_closure_92 (by decide) rfl rfl ?_
    refine aw_aload_n dX6_closure_93 rfl rfl ?_
    refine aw_dup dX6_closure_94 rfl ?_
    refine aw_gi dX6_closure_95 fw_X6_374 hM.1 ?_
    refine aw_iconst (v := 1) dX6_closure_98 (by decide) ?_
    refine aw_iadd dX6_closure_99 ?_
    refine aw_pi dX6_closure_100 fw_X6_374 (ww_X6_374 _) hM.1 rfl ?_
    refine aw_goto (tgt := 10) dX6_closure_103 (by decide) ?_
    refine aw_iload dX6_closure_10 rfl ?_
    refine aw_if_eq (tgt := 106) dX6_closure_12 (by decide) (fun c12 => ?_) (fun zz => absurd hE zz)
    refine aw_iload_n dX6_closure_106 rfl ?_
    refine aw_ireturn (ty := .int) dX6_closure_107 rfl rfl ?_
    rw [mr_all, iU_same, iU_two, hk, show rdX s b r lo a = a from hf]
    exact hQ
  | succ n ih =>
    intro a o4 o5 sg k hf hk hQ
    have hE := mr_end s b a lo r
    refine aw_iconst (v := 0) dX6_closure_15 (by decide) ?_
    refine aw_istore (ls' := [_, _, _, _, _, _]) dX6_closure_16 (by decide) rfl rfl ?_
    refine aw_iconst (v := 0) dX6_closure_18 (by decide) ?_
    refine aw_istore (ls' := [_, _, _, _, _, _]) dX6_closure_19 (by decide) rfl rfl ?_
    refine l_X6_clIn hM hR r 0 0 (by omega) ?_
    refine aw_iload dX6_closure_80 rfl ?_
    refine aw_iload_n dX6_closure_82 rfl ?_
    refine aw_iconst (v := -1) dX6_closure_83 (by decide) ?_
    refine aw_ixor dX6_closure_84 ?_
    refine aw_iand dX6_closure_85 ?_
    refine aw_istore (ls' := [_, _, _, _, _, _]) dX6_closure_86 (by decide) rfl rfl ?_
    refine aw_iload_n dX6_closure_88 rfl ?_
    refine aw_iload dX6_closure_89 rfl ?_
    refine aw_ior dX6_closure_91 ?_
    refine aw_istore_n (ls' := [_, _, _, _, _, _]) dX6_closure_92 (by decide) rfl rfl ?_
    refine aw_aload_n dX6_closure_93 rfl rfl ?_
    refine aw_dup dX6_closure_94 rfl ?_
    refine aw_gi dX6_closure_95 fw_X6_374 hM.1 ?_
    refine aw_iconst (v := 1) dX6_closure_98 (by decide) ?_
    refine aw_iadd dX6_closure_99 ?_
    refine aw_pi dX6_closure_100 fw_X6_374 (ww_X6_374 _) hM.1 rfl ?_
    refine aw_goto (tgt := 10) dX6_closure_103 (by decide) ?_
    refine aw_iload dX6_closure_10 rfl ?_
    refine aw_if_eq (tgt := 106) dX6_closure_12 (by decide) (fun c12 => ?_) (fun c12 => ?_)
    · refine aw_iload_n dX6_closure_106 rfl ?_
      refine aw_ireturn (ty := .int) dX6_closure_107 rfl rfl ?_
      have h0 := hE.mp c12
      simp only [foF, stF, h0, if_true] at hQ
      rw [mr_all, iU_same, iU_two, hk, h0]
      exact hQ
    · have h0 : ¬ rdX s b r lo a = a := fun w => c12 (hE.mpr w)
      simp only [foF, stF, h0, if_false] at hQ
      rw [mr_all, iU_same, iU_two]
      exact ih _ _ _ _ (k + 1) (hf.resolve_left h0) (by rw [hk, nI_1]) hQ
theorem c_X6_closure {E : Ev} {d : Nat} {I : Mi} {L : Ml} {Z : Mz} {Q : Po} {x : Int32} {lo : Int32} {r : Nat} {s b : Nat → Int32} (hM : MZ Z) (hR : RSM I r s b) (hF : fxP (rdX s b r lo) 12 x) (hQ : Q (some (.int (foX s b r lo x))) (iU I 48 31 (nI (stF (rdX s b r lo) 12 0 x))) L Z) : AC E yX6_closure cX6_closure 6 (some .int) d 0 0 [.ref 48, .int x, .int lo] I L Z Q := by
  refine ac_go (ls := [some (.ref 48), some (.int x), some (.int lo), none, none, none]) (by decide +kernel) (Nat.le_of_ble_eq_true rfl) rfl ?_
  refine aw_iload_n dX6_closure_0 rfl ?_
  refine aw_istore_n (ls' := [_, _, _, _, _, _]) dX6_closure_1 (by decide) rfl rfl ?_
  refine aw_iconst (v := -1) dX6_closure_2 (by decide) ?_
  refine aw_istore (ls' := [_, _, _, _, _, _]) dX6_closure_3 (by decide) rfl rfl ?_
  refine aw_aload_n dX6_closure_5 rfl rfl ?_
  refine aw_iconst (v := -1) dX6_closure_6 (by decide) ?_
  refine aw_pi dX6_closure_7 fw_X6_374 (ww_X6_374 _) hM.1 rfl ?_
  refine aw_iload dX6_closure_10 rfl ?_
  refine aw_if_eq (tgt := 106) dX6_closure_12 (by decide) (fun zz => absurd zz (by decide)) (fun _ => ?_)
  exact l_X6_closure hM hR 12 x (-1) none (-1) 0 hF (by decide) hQ
abbrev cmP (x : Int32) : Prop := ¬ (x &&& (x >>> (6 &&& 31))) = 0
abbrev S12 (x : Int32) : Prop := ∃ v : Nat, v < 4096 ∧ x = nI v
def FXA (s b : Nat → Int32) (r : Nat) (lo : Int32) : Prop := ∀ v, v < 4096 → fxP (rdX s b r lo) 12 (nI v)
def bmF (F : Int32 → Int32) (sd : Int32) : Nat → Int32 → Int32
  | 0, few => few
  | n + 1, few => bmF F sd n (if nI n &&& (sd ^^^ -1) = 0 ∧ ¬ bcV few < bcV (nI n) ∧ sd &&& (F (nI n) ^^^ -1) = 0 then nI n else few)
def pmF (F : Int32 → Int32) (sd : Int32) : Nat → Nat → Int32 → Int32
  | 0, _, f => f
  | n + 1, j, f => pmF F sd n (j + 1) (if nI j &&& (sd ^^^ -1) = 0 ∧ (f = -1 ∨ ¬ bcV (nI j) ≤ bcV f) ∧ ¬ cmP (F (nI j)) then nI j else f)
def vmF (F : Int32 → Int32 → Int32) (s b : Nat → Int32) : Nat → Nat → Int32 → Int32
  | 0, _, a => a
  | n + 1, i, a => vmF F s b n (i + 1) (a ||| (((F (nI i) (s i) >>> (b i &&& 31)) &&& 1) <<< (nI i &&& 31)))
def wmF (F : Int32 → Int32) (x : Int32) : Nat → Nat → Int32 → Int32
  | 0, _, f => f
  | n + 1, j, f => wmF F x n (j + 1) (if (f = -1 ∨ ¬ bcV f ≤ bcV (nI j)) ∧ (nI j >>> (x &&& 31)) &&& 1 = 0 ∧ (F (nI j) >>> (x &&& 31)) &&& 1 = 1 then nI j else f)
theorem pm_ok {F : Int32 → Int32} {sd : Int32} : ∀ (n j : Nat) (f : Int32), j + n = 4096 → f = -1 ∨ S12 f → pmF F sd n j f = -1 ∨ S12 (pmF F sd n j f) := by
  intro n
  induction n with
  | zero => intro j f _ h; exact h
  | succ n ih =>
    intro j f hj h
    simp only [pmF]
    refine ih (j + 1) _ (by omega) ?_
    by_cases hc : nI j &&& (sd ^^^ -1) = 0 ∧ (f = -1 ∨ ¬ bcV (nI j) ≤ bcV f) ∧ ¬ cmP (F (nI j))
    · rw [if_pos hc]; exact Or.inr ⟨j, by omega, rfl⟩
    · rw [if_neg hc]; exact h
theorem wm_ok {F : Int32 → Int32} {x : Int32} : ∀ (n j : Nat) (f : Int32), j + n = 4096 → f = -1 ∨ S12 f → wmF F x n j f = -1 ∨ S12 (wmF F x n j f) := by
  intro n
  induction n with
  | zero => intro j f _ h; exact h
  | succ n ih =>
    intro j f hj h
    simp only [wmF]
    refine ih (j + 1) _ (by omega) ?_
    by_cases hc : (f = -1 ∨ ¬ bcV f ≤ bcV (nI j)) ∧ (nI j >>> (x &&& 31)) &&& 1 = 0 ∧ (F (nI j) >>> (x &&& 31)) &&& 1 = 1
    · rw [if_pos hc]; exact Or.inr ⟨j, by omega, rfl⟩
    · rw [if_neg hc]; exact h
theorem bm_ok {F : Int32 → Int32} {sd : Int32} : ∀ (n : Nat) (f : Int32), n ≤ 4096 → S12 f → S12 (bmF F sd n f) := by
  intro n
  induction n with
  | zero => intro f _ h; exact h
  | succ n ih =>
    intro f hj h
    simp only [bmF]
    refine ih _ (by omega) ?_
    by_cases hc : nI n &&& (sd ^^^ -1) = 0 ∧ ¬ bcV f < bcV (nI n) ∧ sd &&& (F (nI n) ^^^ -1) = 0
    · rw [if_pos hc]; exact ⟨n, by omega, rfl⟩
    · rw [if_neg hc]; exact h
theorem dc1 (x : Int32) : x + Int32.ofInt (-1) = x - 1 := by rw [Int32.sub_eq_add_neg]; rfl
theorem iU_slf {I : Mi} {a k : Nat} : iU I a k (I a k) = I := by
  funext b j
  by_cases h : b = a ∧ j = k
  · obtain ⟨rfl, rfl⟩ := h; exact iU_same
  · exact iU_at h
theorem c_X6_clashes {E : Ev} {d : Nat} {I : Mi} {L : Ml} {Z : Mz} {Q : Po} {x : Int32} {lo : Int32} {r : Nat} {s b : Nat → Int32} (hd : 1 ≤ d) (hM : MZ Z) (hR : RSM I r s b) (hF : fxP (rdX s b r lo) 12 x) (hT : cmP (foX s b r lo x) → ∀ sg, Q (some (.int 1)) (iU I 48 31 sg) L Z) (hF0 : ¬ cmP (foX s b r lo x) → ∀ sg, Q (some (.int 0)) (iU I 48 31 sg) L Z) : AC E yX6_clashes cX6_clashes 4 (some .boolean) d 0 0 [.ref 48, .int x, .int lo] I L Z Q := by
  refine ac_go (ls := [some (.ref 48), some (.int x), some (.int lo), none]) (by decide +kernel) (Nat.le_of_ble_eq_true rfl) rfl ?_
  refine aw_aload_n dX6_clashes_0 rfl rfl ?_
  refine aw_iload_n dX6_clashes_1 rfl ?_
  refine aw_iload_n dX6_clashes_2 rfl ?_
  refine aw_V2 dX6_clashes_3 cw_X6_377 ⟨_, _, rfl⟩ hM.1 (by omega) ⟨Nat.le_refl _, Nat.le_refl _⟩ (by decide) (c_X6_closure hM hR hF ?_)
  refine aw_istore_n (ls' := [_, _, _, _]) dX6_clashes_6 (by decide) rfl rfl ?_
  refine aw_iload_n dX6_clashes_7 rfl ?_
  refine aw_iload_n dX6_clashes_8 rfl ?_
  refine aw_bipush (v := 6) dX6_clashes_9 (by decide) ?_
  refine aw_ishr dX6_clashes_11 ?_
  refine aw_iand dX6_clashes_12 ?_
  refine aw_if_eq (tgt := 20) dX6_clashes_13 (by decide) (fun c13 => ?_) (fun c13 => ?_)
  · refine aw_iconst (v := 0) dX6_clashes_20 (by decide) ?_
    refine aw_ireturn (ty := .boolean) dX6_clashes_21 rfl (by decide) ?_
    exact hF0 (fun w => w c13) _
  · refine aw_iconst (v := 1) dX6_clashes_16 (by decide) ?_
    refine aw_goto (tgt := 21) dX6_clashes_17 (by decide) ?_
    refine aw_ireturn (ty := .boolean) dX6_clashes_21 rfl (by decide) ?_
    exact hT c13 _
theorem c_X6_follows0 {E : Ev} {d : Nat} {I : Mi} {L : Ml} {Z : Mz} {Q : Po} {x : Int32} {r : Nat} {s b : Nat → Int32} (hd : 2 ≤ d) (hM : MZ Z) (hR : RSM I r s b) (hF : FXA s b r (-1)) (hB : ¬ (¬ x < 0 ∧ ¬ 4095 < x) → Q (some (.int (-2))) I L Z) (hS : (¬ x < 0 ∧ ¬ 4095 < x) → ∀ rv : Int32, rv = (foX s b r (-1) x) → ∀ sg, Q (some (.int rv)) (iU I 48 31 sg) L Z) : AC E yX6_follows cX6_follows 4 (some .int) d 0 0 [.ref 48, .int x, .int 0] I L Z Q := by
  refine ac_go (ls := [some (.ref 48), some (.int x), some (.int 0), none]) (by decide +kernel) (Nat.le_of_ble_eq_true rfl) rfl ?_
  refine aw_iload_n dX6_follows_0 rfl ?_
  refine aw_i2l dX6_follows_1 ?_
  refine aw_lconst (v := 0) dX6_follows_2 (by decide) ?_
  refine aw_ldc2 dX6_follows_3 kw_X6_119 ?_
  refine aw_S3 dX6_follows_6 cw_X6_73 (by omega) ⟨Nat.le_refl _, Nat.le_refl _⟩ (by decide) (c_X6_in (x := x) (a := 0) (b := 4095) rfl (by decide) (by decide) (fun c6 => ?_) (fun c6 => ?_))
  · refine aw_if_eq (tgt := 24) dX6_follows_9 (by decide) (fun zz => absurd zz (by decide)) (fun _ => ?_)
    refine aw_iload_n dX6_follows_12 rfl ?_
    refine aw_i2l dX6_follows_13 ?_
    refine aw_lconst (v := 0) dX6_follows_14 (by decide) ?_
    refine aw_ldc2 dX6_follows_15 kw_X6_366 ?_
    refine aw_S3 dX6_follows_18 cw_X6_73 (by omega) ⟨Nat.le_refl _, Nat.le_refl _⟩ (by decide) (c_X6_in (x := 0) (a := 0) (b := 2) rfl (by decide) (by decide) (fun c18 => ?_) (fun zz => absurd (by decide) zz))
    refine aw_if_ne (tgt := 27) dX6_follows_21 (by decide) (fun _ => ?_) (fun zz => absurd zz (by decide))
    have hf0 : fxP (rdX s b r (-1)) 12 x := by
      obtain ⟨v, hv, rfl⟩ := (nI_of2 (M := 4095) (n := 4095) (by decide) c6.1 (Int32.not_lt.mp c6.2))
      exact hF v (by omega)
    refine aw_aload_n dX6_follows_27 rfl rfl ?_
    refine aw_iload_n dX6_follows_28 rfl ?_
    refine aw_iconst (v := -1) dX6_follows_29 (by decide) ?_
    refine aw_V2 dX6_follows_30 cw_X6_377 ⟨_, _, rfl⟩ hM.1 (by omega) ⟨Nat.le_refl _, Nat.le_refl _⟩ (by decide) (c_X6_closure hM hR hf0 ?_)
    refine aw_istore_n (ls' := [_, _, _, _]) dX6_follows_33 (by decide) rfl rfl ?_
    refine aw_iload_n dX6_follows_34 rfl ?_
    refine aw_if_ne (tgt := 42) dX6_follows_35 (by decide) (fun zz => absurd zz (by decide)) (fun _ => ?_)
    refine aw_iload_n dX6_follows_38 rfl ?_
    refine aw_goto (tgt := 68) dX6_follows_39 (by decide) ?_
    refine aw_ireturn (ty := .int) dX6_follows_68 rfl rfl ?_
    exact hS c6 _ rfl _
  · refine aw_if_eq (tgt := 24) dX6_follows_9 (by decide) (fun _ => ?_) (fun zz => absurd zz (by decide))
    refine aw_bipush (v := -2) dX6_follows_24 (by decide) ?_
    refine aw_ireturn (ty := .int) dX6_follows_26 rfl rfl ?_
    exact hB c6
theorem c_X6_follows1 {E : Ev} {d : Nat} {I : Mi} {L : Ml} {Z : Mz} {Q : Po} {x : Int32} {r : Nat} {s b : Nat → Int32} (hd : 2 ≤ d) (hM : MZ Z) (hR : RSM I r s b) (hF : FXA s b r (-1)) (hB : ¬ (¬ x < 0 ∧ ¬ 4095 < x) → Q (some (.int (-2))) I L Z) (hS : (¬ x < 0 ∧ ¬ 4095 < x) → ∀ rv : Int32, rv = (nI (stF (rdX s b r (-1)) 12 0 x)) → ∀ sg, Q (some (.int rv)) (iU I 48 31 sg) L Z) : AC E yX6_follows cX6_follows 4 (some .int) d 0 0 [.ref 48, .int x, .int 1] I L Z Q := by
  refine ac_go (ls := [some (.ref 48), some (.int x), some (.int 1), none]) (by decide +kernel) (Nat.le_of_ble_eq_true rfl) rfl ?_
  refine aw_iload_n dX6_follows_0 rfl ?_
  refine aw_i2l dX6_follows_1 ?_
  refine aw_lconst (v := 0) dX6_follows_2 (by decide) ?_
  refine aw_ldc2 dX6_follows_3 kw_X6_119 ?_
  refine aw_S3 dX6_follows_6 cw_X6_73 (by omega) ⟨Nat.le_refl _, Nat.le_refl _⟩ (by decide) (c_X6_in (x := x) (a := 0) (b := 4095) rfl (by decide) (by decide) (fun c6 => ?_) (fun c6 => ?_))
  · refine aw_if_eq (tgt := 24) dX6_follows_9 (by decide) (fun zz => absurd zz (by decide)) (fun _ => ?_)
    refine aw_iload_n dX6_follows_12 rfl ?_
    refine aw_i2l dX6_follows_13 ?_
    refine aw_lconst (v := 0) dX6_follows_14 (by decide) ?_
    refine aw_ldc2 dX6_follows_15 kw_X6_366 ?_
    refine aw_S3 dX6_follows_18 cw_X6_73 (by omega) ⟨Nat.le_refl _, Nat.le_refl _⟩ (by decide) (c_X6_in (x := 1) (a := 0) (b := 2) rfl (by decide) (by decide) (fun c18 => ?_) (fun zz => absurd (by decide) zz))
    refine aw_if_ne (tgt := 27) dX6_follows_21 (by decide) (fun _ => ?_) (fun zz => absurd zz (by decide))
    have hf0 : fxP (rdX s b r (-1)) 12 x := by
      obtain ⟨v, hv, rfl⟩ := (nI_of2 (M := 4095) (n := 4095) (by decide) c6.1 (Int32.not_lt.mp c6.2))
      exact hF v (by omega)
    refine aw_aload_n dX6_follows_27 rfl rfl ?_
    refine aw_iload_n dX6_follows_28 rfl ?_
    refine aw_iconst (v := -1) dX6_follows_29 (by decide) ?_
    refine aw_V2 dX6_follows_30 cw_X6_377 ⟨_, _, rfl⟩ hM.1 (by omega) ⟨Nat.le_refl _, Nat.le_refl _⟩ (by decide) (c_X6_closure hM hR hf0 ?_)
    refine aw_istore_n (ls' := [_, _, _, _]) dX6_follows_33 (by decide) rfl rfl ?_
    refine aw_iload_n dX6_follows_34 rfl ?_
    refine aw_if_ne (tgt := 42) dX6_follows_35 (by decide) (fun _ => ?_) (fun zz => absurd zz (by decide))
    refine aw_iload_n dX6_follows_42 rfl ?_
    refine aw_iconst (v := 1) dX6_follows_43 (by decide) ?_
    refine aw_icmp_ne (tgt := 54) dX6_follows_44 (by decide) (fun zz => absurd zz (by decide)) (fun _ => ?_)
    refine aw_aload_n dX6_follows_47 rfl rfl ?_
    refine aw_gi dX6_follows_48 fw_X6_374 hM.1 ?_
    refine aw_goto (tgt := 68) dX6_follows_51 (by decide) ?_
    refine aw_ireturn (ty := .int) dX6_follows_68 rfl rfl ?_
    rw [iU_same]
    exact hS c6 _ rfl _
  · refine aw_if_eq (tgt := 24) dX6_follows_9 (by decide) (fun _ => ?_) (fun zz => absurd zz (by decide))
    refine aw_bipush (v := -2) dX6_follows_24 (by decide) ?_
    refine aw_ireturn (ty := .int) dX6_follows_26 rfl rfl ?_
    exact hB c6
theorem c_X6_follows2 {E : Ev} {d : Nat} {I : Mi} {L : Ml} {Z : Mz} {Q : Po} {x : Int32} {r : Nat} {s b : Nat → Int32} (hd : 2 ≤ d) (hM : MZ Z) (hR : RSM I r s b) (hF : FXA s b r (-1)) (hB : ¬ (¬ x < 0 ∧ ¬ 4095 < x) → Q (some (.int (-2))) I L Z) (hS : (¬ x < 0 ∧ ¬ 4095 < x) → ∀ rv : Int32, rv = (if cmP (foX s b r (-1) x) then 1 else 0) → ∀ sg, Q (some (.int rv)) (iU I 48 31 sg) L Z) : AC E yX6_follows cX6_follows 4 (some .int) d 0 0 [.ref 48, .int x, .int 2] I L Z Q := by
  refine ac_go (ls := [some (.ref 48), some (.int x), some (.int 2), none]) (by decide +kernel) (Nat.le_of_ble_eq_true rfl) rfl ?_
  refine aw_iload_n dX6_follows_0 rfl ?_
  refine aw_i2l dX6_follows_1 ?_
  refine aw_lconst (v := 0) dX6_follows_2 (by decide) ?_
  refine aw_ldc2 dX6_follows_3 kw_X6_119 ?_
  refine aw_S3 dX6_follows_6 cw_X6_73 (by omega) ⟨Nat.le_refl _, Nat.le_refl _⟩ (by decide) (c_X6_in (x := x) (a := 0) (b := 4095) rfl (by decide) (by decide) (fun c6 => ?_) (fun c6 => ?_))
  · refine aw_if_eq (tgt := 24) dX6_follows_9 (by decide) (fun zz => absurd zz (by decide)) (fun _ => ?_)
    refine aw_iload_n dX6_follows_12 rfl ?_
    refine aw_i2l dX6_follows_13 ?_
    refine aw_lconst (v := 0) dX6_follows_14 (by decide) ?_
    refine aw_ldc2 dX6_follows_15 kw_X6_366 ?_
    refine aw_S3 dX6_follows_18 cw_X6_73 (by omega) ⟨Nat.le_refl _, Nat.le_refl _⟩ (by decide) (c_X6_in (x := 2) (a := 0) (b := 2) rfl (by decide) (by decide) (fun c18 => ?_) (fun zz => absurd (by decide) zz))
    refine aw_if_ne (tgt := 27) dX6_follows_21 (by decide) (fun _ => ?_) (fun zz => absurd zz (by decide))
    have hf0 : fxP (rdX s b r (-1)) 12 x := by
      obtain ⟨v, hv, rfl⟩ := (nI_of2 (M := 4095) (n := 4095) (by decide) c6.1 (Int32.not_lt.mp c6.2))
      exact hF v (by omega)
    refine aw_aload_n dX6_follows_27 rfl rfl ?_
    refine aw_iload_n dX6_follows_28 rfl ?_
    refine aw_iconst (v := -1) dX6_follows_29 (by decide) ?_
    refine aw_V2 dX6_follows_30 cw_X6_377 ⟨_, _, rfl⟩ hM.1 (by omega) ⟨Nat.le_refl _, Nat.le_refl _⟩ (by decide) (c_X6_closure hM hR hf0 ?_)
    refine aw_istore_n (ls' := [_, _, _, _]) dX6_follows_33 (by decide) rfl rfl ?_
    refine aw_iload_n dX6_follows_34 rfl ?_
    refine aw_if_ne (tgt := 42) dX6_follows_35 (by decide) (fun _ => ?_) (fun zz => absurd zz (by decide))
    refine aw_iload_n dX6_follows_42 rfl ?_
    refine aw_iconst (v := 1) dX6_follows_43 (by decide) ?_
    refine aw_icmp_ne (tgt := 54) dX6_follows_44 (by decide) (fun _ => ?_) (fun zz => absurd zz (by decide))
    refine aw_aload_n dX6_follows_54 rfl rfl ?_
    refine aw_iload_n dX6_follows_55 rfl ?_
    refine aw_iconst (v := -1) dX6_follows_56 (by decide) ?_
    refine aw_V2 dX6_follows_57 cw_X6_380 ⟨_, _, rfl⟩ hM.1 (by omega) ⟨Nat.le_refl _, Nat.le_refl _⟩ (by decide) (c_X6_clashes (by omega) hM hR.st hf0 (fun e sg => ?_) (fun e sg => ?_))
    · rw [iU_two]
      refine aw_if_eq (tgt := 67) dX6_follows_60 (by decide) (fun zz => absurd zz (by decide)) (fun _ => ?_)
      refine aw_iconst (v := 1) dX6_follows_63 (by decide) ?_
      refine aw_goto (tgt := 68) dX6_follows_64 (by decide) ?_
      refine aw_ireturn (ty := .int) dX6_follows_68 rfl rfl ?_
      exact hS c6 _ (by rw [if_pos e]) _
    · rw [iU_two]
      refine aw_if_eq (tgt := 67) dX6_follows_60 (by decide) (fun _ => ?_) (fun zz => absurd zz (by decide))
      refine aw_iconst (v := 0) dX6_follows_67 (by decide) ?_
      refine aw_ireturn (ty := .int) dX6_follows_68 rfl rfl ?_
      exact hS c6 _ (by rw [if_neg e]) _
  · refine aw_if_eq (tgt := 24) dX6_follows_9 (by decide) (fun _ => ?_) (fun zz => absurd zz (by decide))
    refine aw_bipush (v := -2) dX6_follows_24 (by decide) ?_
    refine aw_ireturn (ty := .int) dX6_follows_26 rfl rfl ?_
    exact hB c6
theorem c_X6_followsX {E : Ev} {d : Nat} {I : Mi} {L : Ml} {Z : Mz} {Q : Po} {x : Int32} {w : Int32}  (hd : 2 ≤ d) (hM : MZ Z) (hw : ¬ (¬ w < 0 ∧ ¬ 2 < w)) (hB : Q (some (.int (-2))) I L Z) : AC E yX6_follows cX6_follows 4 (some .int) d 0 0 [.ref 48, .int x, .int w] I L Z Q := by
  refine ac_go (ls := [some (.ref 48), some (.int x), some (.int w), none]) (by decide +kernel) (Nat.le_of_ble_eq_true rfl) rfl ?_
  refine aw_iload_n dX6_follows_0 rfl ?_
  refine aw_i2l dX6_follows_1 ?_
  refine aw_lconst (v := 0) dX6_follows_2 (by decide) ?_
  refine aw_ldc2 dX6_follows_3 kw_X6_119 ?_
  refine aw_S3 dX6_follows_6 cw_X6_73 (by omega) ⟨Nat.le_refl _, Nat.le_refl _⟩ (by decide) (c_X6_in (x := x) (a := 0) (b := 4095) rfl (by decide) (by decide) (fun c6 => ?_) (fun c6 => ?_))
  · refine aw_if_eq (tgt := 24) dX6_follows_9 (by decide) (fun zz => absurd zz (by decide)) (fun _ => ?_)
    refine aw_iload_n dX6_follows_12 rfl ?_
    refine aw_i2l dX6_follows_13 ?_
    refine aw_lconst (v := 0) dX6_follows_14 (by decide) ?_
    refine aw_ldc2 dX6_follows_15 kw_X6_366 ?_
    refine aw_S3 dX6_follows_18 cw_X6_73 (by omega) ⟨Nat.le_refl _, Nat.le_refl _⟩ (by decide) (c_X6_in (x := w) (a := 0) (b := 2) rfl (by decide) (by decide) (fun zz => absurd zz hw) (fun c18 => ?_))
    refine aw_if_ne (tgt := 27) dX6_follows_21 (by decide) (fun zz => absurd zz (by decide)) (fun _ => ?_)
    refine aw_bipush (v := -2) dX6_follows_24 (by decide) ?_
    refine aw_ireturn (ty := .int) dX6_follows_26 rfl rfl ?_
    exact hB
  · refine aw_if_eq (tgt := 24) dX6_follows_9 (by decide) (fun _ => ?_) (fun zz => absurd zz (by decide))
    refine aw_bipush (v := -2) dX6_follows_24 (by decide) ?_
    refine aw_ireturn (ty := .int) dX6_follows_26 rfl rfl ?_
    exact hB
theorem l_X6_base {E : Ev} {d : Nat} {I : Mi} {L : Ml} {Z : Mz} {Q : Po} {r : Nat} {s b : Nat → Int32} {sd : Int32} (hM : MZ Z) (hR : RSM I r s b) (hF : FXA s b r (-1)) (hsd : I 48 7 = sd) (hd : 1 ≤ d) : ∀ (n : Nat) (f : Int32) (sg : Int32), S12 f → n ≤ 4096 → (∀ sg, Q (some (.int (bmF (foX s b r (-1)) sd n f))) (iU I 48 31 sg) L Z) → AW E yX6_base cX6_base 3 (some .int) (rmOf d 0 0) Q 0 0 9 [some (.ref 48), some (.int f), some (.int (nI n - 1))] [] (iU I 48 31 sg) L Z := by
  intro n
  induction n with
  | zero =>
    intro f sg hf hn hQ
    refine aw_iload_n dX6_base_9 rfl ?_
    refine aw_if_lt (tgt := 59) dX6_base_10 (by decide) (fun c10 => ?_) (fun zz => absurd (by decide) zz)
    refine aw_iload_n dX6_base_59 rfl ?_
    refine aw_ireturn (ty := .int) dX6_base_60 rfl rfl ?_
    exact hQ _
  | succ n ih =>
    intro f sg hf hn hQ
    rw [nI_pred]
    obtain ⟨f0, hf0, rfl⟩ := hf
    refine aw_iload_n dX6_base_9 rfl ?_
    refine aw_if_lt (tgt := 59) dX6_base_10 (by decide) (fun zz => absurd zz (nI_pos (by omega))) (fun c10 => ?_)
    refine aw_iload_n dX6_base_13 rfl ?_
    refine aw_aload_n dX6_base_14 rfl rfl ?_
    refine aw_gi dX6_base_15 fw_X6_110 hM.1 ?_
    refine aw_iconst (v := -1) dX6_base_18 (by decide) ?_
    refine aw_ixor dX6_base_19 ?_
    refine aw_iand dX6_base_20 ?_
    refine aw_if_ne (tgt := 53) dX6_base_21 (by decide) (fun c21 => ?_) (fun c21 => ?_)
    · refine aw_iinc (v := (nI n - 1)) (ls' := [_, _, _]) dX6_base_53 rfl (dc1 _) (by decide) rfl rfl ?_
      refine aw_goto (tgt := 9) dX6_base_56 (by decide) ?_
      have e7 : ∀ sg, iU I 48 31 sg 48 7 = sd := fun sg => by rw [iU_at (by omega)]; exact hsd
      simp only [e7] at c21
      refine ih _ _ (by first | exact ⟨n, by omega, rfl⟩ | exact ⟨f0, hf0, rfl⟩) (by omega) ?_
      have hq := hQ
      simp only [bmF, c21, not_true_eq_false, not_false_eq_true, and_true, true_and, and_false, false_and, or_true, true_or, or_false, false_or, ite_true, ite_false, if_true, if_false, reduceIte, and_self, or_self] at hq
      exact hq
    · refine aw_iload_n dX6_base_24 rfl ?_
      refine aw_S1 dX6_base_25 cw_X6_341 (by omega) ⟨Nat.le_refl _, Nat.le_refl _⟩ (by decide) (c_X6_bitsOf (v := n) rfl (by omega) (fun r25 e25 => ?_))
      refine aw_iload_n dX6_base_28 rfl ?_
      refine aw_S1 dX6_base_29 cw_X6_341 (by omega) ⟨Nat.le_refl _, Nat.le_refl _⟩ (by simp [Value.category, psh]) (c_X6_bitsOf (v := f0) rfl (by omega) (fun r29 e29 => ?_))
      refine aw_icmp_gt (tgt := 53) dX6_base_32 (by decide) (fun c32 => ?_) (fun c32 => ?_)
      · refine aw_iinc (v := (nI n - 1)) (ls' := [_, _, _]) dX6_base_53 rfl (dc1 _) (by decide) rfl rfl ?_
        refine aw_goto (tgt := 9) dX6_base_56 (by decide) ?_
        have e7 : ∀ sg, iU I 48 31 sg 48 7 = sd := fun sg => by rw [iU_at (by omega)]; exact hsd
        simp only [e7] at c21
        rw [e25, e29] at c32
        refine ih _ _ (by first | exact ⟨n, by omega, rfl⟩ | exact ⟨f0, hf0, rfl⟩) (by omega) ?_
        have hq := hQ
        simp only [bmF, c21, c32, not_true_eq_false, not_false_eq_true, and_true, true_and, and_false, false_and, or_true, true_or, or_false, false_or, ite_true, ite_false, if_true, if_false, reduceIte, and_self, or_self] at hq
        exact hq
      · refine aw_aload_n dX6_base_35 rfl rfl ?_
        refine aw_gi dX6_base_36 fw_X6_110 hM.1 ?_
        refine aw_aload_n dX6_base_39 rfl rfl ?_
        refine aw_iload_n dX6_base_40 rfl ?_
        refine aw_iconst (v := -1) dX6_base_41 (by decide) ?_
        refine aw_V2 dX6_base_42 cw_X6_377 ⟨_, _, rfl⟩ hM.1 (by omega) ⟨Nat.le_refl _, Nat.le_refl _⟩ (by simp [Value.category, psh]) (c_X6_closure hM hR.st (hF n (by omega)) ?_)
        rw [iU_two]
        refine aw_iconst (v := -1) dX6_base_45 (by decide) ?_
        refine aw_ixor dX6_base_46 ?_
        refine aw_iand dX6_base_47 ?_
        refine aw_if_ne (tgt := 53) dX6_base_48 (by decide) (fun c48 => ?_) (fun c48 => ?_)
        · refine aw_iinc (v := (nI n - 1)) (ls' := [_, _, _]) dX6_base_53 rfl (dc1 _) (by decide) rfl rfl ?_
          refine aw_goto (tgt := 9) dX6_base_56 (by decide) ?_
          have e7 : ∀ sg, iU I 48 31 sg 48 7 = sd := fun sg => by rw [iU_at (by omega)]; exact hsd
          simp only [e7] at c21 c48
          rw [e25, e29] at c32
          refine ih _ _ (by first | exact ⟨n, by omega, rfl⟩ | exact ⟨f0, hf0, rfl⟩) (by omega) ?_
          have hq := hQ
          simp only [bmF, c21, c32, c48, not_true_eq_false, not_false_eq_true, and_true, true_and, and_false, false_and, or_true, true_or, or_false, false_or, ite_true, ite_false, if_true, if_false, reduceIte, and_self, or_self] at hq
          exact hq
        · refine aw_iload_n dX6_base_51 rfl ?_
          refine aw_istore_n (ls' := [_, _, _]) dX6_base_52 (by decide) rfl rfl ?_
          refine aw_iinc (v := (nI n - 1)) (ls' := [_, _, _]) dX6_base_53 rfl (dc1 _) (by decide) rfl rfl ?_
          refine aw_goto (tgt := 9) dX6_base_56 (by decide) ?_
          have e7 : ∀ sg, iU I 48 31 sg 48 7 = sd := fun sg => by rw [iU_at (by omega)]; exact hsd
          simp only [e7] at c21 c48
          rw [e25, e29] at c32
          refine ih _ _ (by first | exact ⟨n, by omega, rfl⟩ | exact ⟨f0, hf0, rfl⟩) (by omega) ?_
          have hq := hQ
          simp only [bmF, c21, c32, c48, not_true_eq_false, not_false_eq_true, and_true, true_and, and_false, false_and, or_true, true_or, or_false, false_or, ite_true, ite_false, if_true, if_false, reduceIte, and_self, or_self] at hq
          exact hq
theorem c_X6_base {E : Ev} {d : Nat} {I : Mi} {L : Ml} {Z : Mz} {Q : Po}  {r : Nat} {s b : Nat → Int32} {sd : Int32} (hd : 1 ≤ d) (hM : MZ Z) (hR : RSM I r s b) (hF : FXA s b r (-1)) (hsd : I 48 7 = sd) (hs2 : S12 sd) (hQ : ∀ sg, Q (some (.int (bmF (foX s b r (-1)) sd 4096 sd))) (iU I 48 31 sg) L Z) : AC E yX6_base cX6_base 3 (some .int) d 0 0 [.ref 48] I L Z Q := by
  refine ac_go (ls := [some (.ref 48), none, none]) (by decide +kernel) (Nat.le_of_ble_eq_true rfl) rfl ?_
  refine aw_aload_n dX6_base_0 rfl rfl ?_
  refine aw_gi dX6_base_1 fw_X6_110 hM.1 ?_
  refine aw_istore_n (ls' := [_, _, _]) dX6_base_4 (by decide) rfl rfl ?_
  refine aw_sipush (v := 4095) dX6_base_5 (by decide) ?_
  refine aw_istore_n (ls' := [_, _, _]) dX6_base_8 (by decide) rfl rfl ?_
  rw [hsd]
  have ez := @iU_slf I 48 31
  exact ez ▸ l_X6_base hM hR hF hsd hd 4096 sd _ hs2 (by omega) hQ
theorem l_X6_peace {E : Ev} {d : Nat} {I : Mi} {L : Ml} {Z : Mz} {Q : Po} {r : Nat} {s b : Nat → Int32} {sd lo : Int32} (hM : MZ Z) (hR : RSM I r s b) (hF : FXA s b r lo) (hsd : I 48 7 = sd) (hd : 2 ≤ d) : ∀ (n : Nat) (j : Nat) (f sg : Int32), j + n = 4096 → (f = -1 ∨ S12 f) → (∀ sg, Q (some (.int (pmF (foX s b r lo) sd n j f))) (iU I 48 31 sg) L Z) → AW E yX6_peace cX6_peace 4 (some .int) (rmOf d 0 0) Q 0 0 4 [some (.ref 48), some (.int lo), some (.int f), some (.int (nI j))] [] (iU I 48 31 sg) L Z := by
  intro n
  induction n with
  | zero =>
    intro j f sg hj hf hQ
    refine aw_iload_n dX6_peace_4 rfl ?_
    refine aw_sipush (v := 4095) dX6_peace_5 (by decide) ?_
    refine aw_icmp_gt (tgt := 55) dX6_peace_8 (by decide) (fun c8 => ?_) (fun zz => absurd (by rw [show j = 4096 by omega]; decide) zz)
    refine aw_iload_n dX6_peace_55 rfl ?_
    refine aw_ireturn (ty := .int) dX6_peace_56 rfl rfl ?_
    exact hQ _
  | succ n ih =>
    intro j f sg hj hf hQ
    refine aw_iload_n dX6_peace_4 rfl ?_
    refine aw_sipush (v := 4095) dX6_peace_5 (by decide) ?_
    refine aw_icmp_gt (tgt := 55) dX6_peace_8 (by decide) (fun zz => absurd zz (nI_nlt (a := 4095) (by omega) (by decide))) (fun c8 => ?_)
    refine aw_iload_n dX6_peace_11 rfl ?_
    refine aw_aload_n dX6_peace_12 rfl rfl ?_
    refine aw_gi dX6_peace_13 fw_X6_110 hM.1 ?_
    refine aw_iconst (v := -1) dX6_peace_16 (by decide) ?_
    refine aw_ixor dX6_peace_17 ?_
    refine aw_iand dX6_peace_18 ?_
    refine aw_if_ne (tgt := 49) dX6_peace_19 (by decide) (fun c19 => ?_) (fun c19 => ?_)
    · refine aw_iinc (v := nI (j + 1)) (ls' := [_, _, _, _]) dX6_peace_49 rfl (nI_1 j) (by decide) rfl rfl ?_
      refine aw_goto (tgt := 4) dX6_peace_52 (by decide) ?_
      have e7 : ∀ sg, iU I 48 31 sg 48 7 = sd := fun sg => by rw [iU_at (by omega)]; exact hsd
      rw [e7] at c19
      refine ih (j + 1) _ _ (by omega) (by first | exact Or.inr ⟨j, by omega, rfl⟩ | exact hf) ?_
      have hq := hQ
      simp only [pmF, cmP, c19, not_true_eq_false, not_false_eq_true, and_true, true_and, and_false, false_and, or_true, true_or, or_false, false_or, ite_true, ite_false, if_true, if_false, reduceIte, and_self, or_self] at hq
      first | exact hq | (simp only [c24]; exact hq)
    · refine aw_iload_n dX6_peace_22 rfl ?_
      refine aw_iconst (v := -1) dX6_peace_23 (by decide) ?_
      refine aw_icmp_eq (tgt := 38) dX6_peace_24 (by decide) (fun c24 => ?_) (fun c24 => ?_)
      · refine aw_aload_n dX6_peace_38 rfl rfl ?_
        refine aw_iload_n dX6_peace_39 rfl ?_
        refine aw_iload_n dX6_peace_40 rfl ?_
        refine aw_V2 dX6_peace_41 cw_X6_380 ⟨_, _, rfl⟩ hM.1 (by omega) ⟨Nat.le_refl _, Nat.le_refl _⟩ (by decide) (c_X6_clashes (by omega) hM hR.st (hF j (by omega)) (fun ee sg2 => ?_) (fun ee sg2 => ?_))
        · rw [iU_two]
          refine aw_if_ne (tgt := 49) dX6_peace_44 (by decide) (fun _ => ?_) (fun zz => absurd zz (by decide))
          refine aw_iinc (v := nI (j + 1)) (ls' := [_, _, _, _]) dX6_peace_49 rfl (nI_1 j) (by decide) rfl rfl ?_
          refine aw_goto (tgt := 4) dX6_peace_52 (by decide) ?_
          have e7 : ∀ sg, iU I 48 31 sg 48 7 = sd := fun sg => by rw [iU_at (by omega)]; exact hsd
          rw [e7] at c19
          simp only [cmP, Decidable.not_not] at ee
          refine ih (j + 1) _ _ (by omega) (by first | exact Or.inr ⟨j, by omega, rfl⟩ | exact hf) ?_
          have hq := hQ
          simp only [pmF, cmP, c19, c24, ee, not_true_eq_false, not_false_eq_true, and_true, true_and, and_false, false_and, or_true, true_or, or_false, false_or, ite_true, ite_false, if_true, if_false, reduceIte, and_self, or_self] at hq
          first | exact hq | (simp only [c24]; exact hq)
        · rw [iU_two]
          refine aw_if_ne (tgt := 49) dX6_peace_44 (by decide) (fun zz => absurd zz (by decide)) (fun _ => ?_)
          refine aw_iload_n dX6_peace_47 rfl ?_
          refine aw_istore_n (ls' := [_, _, _, _]) dX6_peace_48 (by decide) rfl rfl ?_
          refine aw_iinc (v := nI (j + 1)) (ls' := [_, _, _, _]) dX6_peace_49 rfl (nI_1 j) (by decide) rfl rfl ?_
          refine aw_goto (tgt := 4) dX6_peace_52 (by decide) ?_
          have e7 : ∀ sg, iU I 48 31 sg 48 7 = sd := fun sg => by rw [iU_at (by omega)]; exact hsd
          rw [e7] at c19
          simp only [cmP, Decidable.not_not] at ee
          refine ih (j + 1) _ _ (by omega) (by first | exact Or.inr ⟨j, by omega, rfl⟩ | exact hf) ?_
          have hq := hQ
          simp only [pmF, cmP, c19, c24, ee, not_true_eq_false, not_false_eq_true, and_true, true_and, and_false, false_and, or_true, true_or, or_false, false_or, ite_true, ite_false, if_true, if_false, reduceIte, and_self, or_self] at hq
          first | exact hq | (simp only [c24]; exact hq)
      · refine aw_iload_n dX6_peace_27 rfl ?_
        refine aw_S1 dX6_peace_28 cw_X6_341 (by omega) ⟨Nat.le_refl _, Nat.le_refl _⟩ (by decide) (c_X6_bitsOf (v := j) rfl (by omega) (fun r28 e28 => ?_))
        refine aw_iload_n dX6_peace_31 rfl ?_
        obtain ⟨f0, hf0, ef0⟩ := hf.resolve_left c24
        refine aw_S1 dX6_peace_32 cw_X6_341 (by omega) ⟨Nat.le_refl _, Nat.le_refl _⟩ (by simp [Value.category, psh]) (c_X6_bitsOf ef0 hf0 (fun r32 e32 => ?_))
        refine aw_icmp_le (tgt := 49) dX6_peace_35 (by decide) (fun c35 => ?_) (fun c35 => ?_)
        · refine aw_iinc (v := nI (j + 1)) (ls' := [_, _, _, _]) dX6_peace_49 rfl (nI_1 j) (by decide) rfl rfl ?_
          refine aw_goto (tgt := 4) dX6_peace_52 (by decide) ?_
          have e7 : ∀ sg, iU I 48 31 sg 48 7 = sd := fun sg => by rw [iU_at (by omega)]; exact hsd
          rw [e7] at c19
          rw [e28, e32] at c35
          refine ih (j + 1) _ _ (by omega) (by first | exact Or.inr ⟨j, by omega, rfl⟩ | exact hf) ?_
          have hq := hQ
          simp only [pmF, cmP, c19, c24, c35, not_true_eq_false, not_false_eq_true, and_true, true_and, and_false, false_and, or_true, true_or, or_false, false_or, ite_true, ite_false, if_true, if_false, reduceIte, and_self, or_self] at hq
          first | exact hq | (simp only [c24]; exact hq)
        · refine aw_aload_n dX6_peace_38 rfl rfl ?_
          refine aw_iload_n dX6_peace_39 rfl ?_
          refine aw_iload_n dX6_peace_40 rfl ?_
          refine aw_V2 dX6_peace_41 cw_X6_380 ⟨_, _, rfl⟩ hM.1 (by omega) ⟨Nat.le_refl _, Nat.le_refl _⟩ (by decide) (c_X6_clashes (by omega) hM hR.st (hF j (by omega)) (fun ee sg2 => ?_) (fun ee sg2 => ?_))
          · rw [iU_two]
            refine aw_if_ne (tgt := 49) dX6_peace_44 (by decide) (fun _ => ?_) (fun zz => absurd zz (by decide))
            refine aw_iinc (v := nI (j + 1)) (ls' := [_, _, _, _]) dX6_peace_49 rfl (nI_1 j) (by decide) rfl rfl ?_
            refine aw_goto (tgt := 4) dX6_peace_52 (by decide) ?_
            have e7 : ∀ sg, iU I 48 31 sg 48 7 = sd := fun sg => by rw [iU_at (by omega)]; exact hsd
            rw [e7] at c19
            rw [e28, e32] at c35
            simp only [cmP, Decidable.not_not] at ee
            refine ih (j + 1) _ _ (by omega) (by first | exact Or.inr ⟨j, by omega, rfl⟩ | exact hf) ?_
            have hq := hQ
            simp only [pmF, cmP, c19, c24, c35, ee, not_true_eq_false, not_false_eq_true, and_true, true_and, and_false, false_and, or_true, true_or, or_false, false_or, ite_true, ite_false, if_true, if_false, reduceIte, and_self, or_self] at hq
            first | exact hq | (simp only [c24]; exact hq)
          · rw [iU_two]
            refine aw_if_ne (tgt := 49) dX6_peace_44 (by decide) (fun zz => absurd zz (by decide)) (fun _ => ?_)
            refine aw_iload_n dX6_peace_47 rfl ?_
            refine aw_istore_n (ls' := [_, _, _, _]) dX6_peace_48 (by decide) rfl rfl ?_
            refine aw_iinc (v := nI (j + 1)) (ls' := [_, _, _, _]) dX6_peace_49 rfl (nI_1 j) (by decide) rfl rfl ?_
            refine aw_goto (tgt := 4) dX6_peace_52 (by decide) ?_
            have e7 : ∀ sg, iU I 48 31 sg 48 7 = sd := fun sg => by rw [iU_at (by omega)]; exact hsd
            rw [e7] at c19
            rw [e28, e32] at c35
            simp only [cmP, Decidable.not_not] at ee
            refine ih (j + 1) _ _ (by omega) (by first | exact Or.inr ⟨j, by omega, rfl⟩ | exact hf) ?_
            have hq := hQ
            simp only [pmF, cmP, c19, c24, c35, ee, not_true_eq_false, not_false_eq_true, and_true, true_and, and_false, false_and, or_true, true_or, or_false, false_or, ite_true, ite_false, if_true, if_false, reduceIte, and_self, or_self] at hq
            first | exact hq | (simp only [c24]; exact hq)
theorem c_X6_peace {E : Ev} {d : Nat} {I : Mi} {L : Ml} {Z : Mz} {Q : Po} {lo : Int32} {r : Nat} {s b : Nat → Int32} {sd : Int32} (hd : 2 ≤ d) (hM : MZ Z) (hR : RSM I r s b) (hF : FXA s b r lo) (hsd : I 48 7 = sd) (hQ : ∀ sg, Q (some (.int (pmF (foX s b r lo) sd 4096 0 (-1)))) (iU I 48 31 sg) L Z) : AC E yX6_peace cX6_peace 4 (some .int) d 0 0 [.ref 48, .int lo] I L Z Q := by
  refine ac_go (ls := [some (.ref 48), some (.int lo), none, none]) (by decide +kernel) (Nat.le_of_ble_eq_true rfl) rfl ?_
  refine aw_iconst (v := -1) dX6_peace_0 (by decide) ?_
  refine aw_istore_n (ls' := [_, _, _, _]) dX6_peace_1 (by decide) rfl rfl ?_
  refine aw_iconst (v := 0) dX6_peace_2 (by decide) ?_
  refine aw_istore_n (ls' := [_, _, _, _]) dX6_peace_3 (by decide) rfl rfl ?_
  have ez := @iU_slf I 48 31
  exact ez ▸ l_X6_peace hM hR hF hsd hd 4096 0 (-1) _ (by omega) (Or.inl rfl) hQ
theorem c_X6_sizeOf {E : Ev} {d : Nat} {I : Mi} {L : Ml} {Z : Mz} {Q : Po} {x : Int32}  (hd : 1 ≤ d) (hx : x = -1 ∨ S12 x) (hQ : ∀ rv : Int32, rv = (szV x) → Q (some (.int rv)) I L Z) : AC E yX6_sizeOf cX6_sizeOf 1 (some .int) d 0 0 [.int x] I L Z Q := by
  refine ac_go (ls := [some (.int x)]) (by decide +kernel) (Nat.le_of_ble_eq_true rfl) rfl ?_
  refine aw_iload_n dX6_sizeOf_0 rfl ?_
  refine aw_iconst (v := -1) dX6_sizeOf_1 (by decide) ?_
  refine aw_icmp_ne (tgt := 9) dX6_sizeOf_2 (by decide) (fun c2 => ?_) (fun c2 => ?_)
  · refine aw_iload_n dX6_sizeOf_9 rfl ?_
    obtain ⟨v, hv, ev⟩ := hx.resolve_left c2
    refine aw_S1 dX6_sizeOf_10 cw_X6_341 (by omega) ⟨Nat.le_refl _, Nat.le_refl _⟩ (by decide) (c_X6_bitsOf ev hv (fun r10 e10 => ?_))
    refine aw_ireturn (ty := .int) dX6_sizeOf_13 rfl rfl ?_
    exact hQ _ (by unfold szV; first | rw [if_pos c2] | (rw [if_neg c2]; exact e10))
  · refine aw_iconst (v := -1) dX6_sizeOf_5 (by decide) ?_
    refine aw_goto (tgt := 13) dX6_sizeOf_6 (by decide) ?_
    refine aw_ireturn (ty := .int) dX6_sizeOf_13 rfl rfl ?_
    exact hQ _ (by unfold szV; first | rw [if_pos c2] | (rw [if_neg c2]; exact e10))
theorem l_X6_struck {E : Ev} {d : Nat} {I : Mi} {L : Ml} {Z : Mz} {Q : Po} {r : Nat} {s b : Nat → Int32} {sd : Int32} (hM : MZ Z) (hR : RSM I r s b) (hF : ∀ i, i < r → FXA s b r (nI i)) (hsd : I 48 7 = sd) (hd : 3 ≤ d) : ∀ (n : Nat) (j : Nat) (f mo sg : Int32) (o4 : Option Value), j + n = r → (∀ sg, Q (some (.int (skF (fun lo => pmF (foX s b r lo) sd 4096 0 (-1)) n j f mo))) (iU I 48 31 sg) L Z) → AW E yX6_struck cX6_struck 5 (some .int) (rmOf d 0 0) Q 0 0 6 [some (.ref 48), some (.int f), some (.int mo), some (.int (nI j)), o4] [] (iU I 48 31 sg) L Z := by
  intro n
  induction n with
  | zero =>
    intro j f mo sg o4 hj hQ
    refine aw_iload_n dX6_struck_6 rfl ?_
    refine aw_aload_n dX6_struck_7 rfl rfl ?_
    refine aw_gi dX6_struck_8 fw_X6_89 hM.1 ?_
    refine aw_icmp_ge (tgt := 46) dX6_struck_11 (by decide) (fun c11 => ?_) (fun zz => absurd (by rw [hR.st.1, show j = r by omega]; exact Int32.le_refl _) zz)
    refine aw_iload_n dX6_struck_46 rfl ?_
    refine aw_ireturn (ty := .int) dX6_struck_47 rfl rfl ?_
    exact hQ _
  | succ n ih =>
    intro j f mo sg o4 hj hQ
    refine aw_iload_n dX6_struck_6 rfl ?_
    refine aw_aload_n dX6_struck_7 rfl rfl ?_
    refine aw_gi dX6_struck_8 fw_X6_89 hM.1 ?_
    refine aw_icmp_ge (tgt := 46) dX6_struck_11 (by decide) (fun zz => absurd zz (by rw [hR.st.1]; exact nI_ge (by omega) (by have := hR.2.1; omega))) (fun c11 => ?_)
    refine aw_aload_n dX6_struck_14 rfl rfl ?_
    refine aw_iload_n dX6_struck_15 rfl ?_
    refine aw_V1 dX6_struck_16 cw_X6_383 ⟨_, _, rfl⟩ hM.1 (by omega) ⟨Nat.le_refl _, Nat.le_refl _⟩ (by decide) (c_X6_peace (sd := sd) (by omega) hM hR.st (hF j (by omega)) (by rw [iU_at (by omega)]; exact hsd) (fun sg2 => ?_))
    rw [iU_two]
    refine aw_S1 dX6_struck_19 cw_X6_386 (by omega) ⟨Nat.le_refl _, Nat.le_refl _⟩ (by decide) (c_X6_sizeOf (by omega) (pm_ok 4096 0 (-1) (by omega) (Or.inl rfl)) (fun r19 e19 => ?_))
    refine aw_istore (ls' := [_, _, _, _, _]) dX6_struck_22 (by decide) rfl rfl ?_
    refine aw_iload_n dX6_struck_24 rfl ?_
    refine aw_iconst (v := -1) dX6_struck_25 (by decide) ?_
    refine aw_icmp_eq (tgt := 35) dX6_struck_26 (by decide) (fun c26 => ?_) (fun c26 => ?_)
    · refine aw_iload_n dX6_struck_35 rfl ?_
      refine aw_istore_n (ls' := [_, _, _, _, _]) dX6_struck_36 (by decide) rfl rfl ?_
      refine aw_iload dX6_struck_37 rfl ?_
      refine aw_istore_n (ls' := [_, _, _, _, _]) dX6_struck_39 (by decide) rfl rfl ?_
      refine aw_iinc (v := nI (j + 1)) (ls' := [_, _, _, _, _]) dX6_struck_40 rfl (nI_1 j) (by decide) rfl rfl ?_
      refine aw_goto (tgt := 6) dX6_struck_43 (by decide) ?_
      refine ih (j + 1) _ _ _ _ (by omega) ?_
      have hq := hQ
      simp only [skF, c26, not_true_eq_false, not_false_eq_true, and_true, true_and, and_false, false_and, or_true, true_or, or_false, false_or, ite_true, ite_false, if_true, if_false, reduceIte, and_self, or_self] at hq
      first | (rw [e19]; exact hq) | exact hq
    · refine aw_iload dX6_struck_29 rfl ?_
      refine aw_iload_n dX6_struck_31 rfl ?_
      refine aw_icmp_le (tgt := 40) dX6_struck_32 (by decide) (fun c32 => ?_) (fun c32 => ?_)
      · refine aw_iinc (v := nI (j + 1)) (ls' := [_, _, _, _, _]) dX6_struck_40 rfl (nI_1 j) (by decide) rfl rfl ?_
        refine aw_goto (tgt := 6) dX6_struck_43 (by decide) ?_
        refine ih (j + 1) _ _ _ _ (by omega) ?_
        have hq := hQ
        rw [e19] at c32
        simp only [skF, c26, c32, not_true_eq_false, not_false_eq_true, and_true, true_and, and_false, false_and, or_true, true_or, or_false, false_or, ite_true, ite_false, if_true, if_false, reduceIte, and_self, or_self] at hq
        first | (rw [e19]; exact hq) | exact hq
      · refine aw_iload_n dX6_struck_35 rfl ?_
        refine aw_istore_n (ls' := [_, _, _, _, _]) dX6_struck_36 (by decide) rfl rfl ?_
        refine aw_iload dX6_struck_37 rfl ?_
        refine aw_istore_n (ls' := [_, _, _, _, _]) dX6_struck_39 (by decide) rfl rfl ?_
        refine aw_iinc (v := nI (j + 1)) (ls' := [_, _, _, _, _]) dX6_struck_40 rfl (nI_1 j) (by decide) rfl rfl ?_
        refine aw_goto (tgt := 6) dX6_struck_43 (by decide) ?_
        refine ih (j + 1) _ _ _ _ (by omega) ?_
        have hq := hQ
        rw [e19] at c32
        simp only [skF, c26, c32, not_true_eq_false, not_false_eq_true, and_true, true_and, and_false, false_and, or_true, true_or, or_false, false_or, ite_true, ite_false, if_true, if_false, reduceIte, and_self, or_self] at hq
        first | (rw [e19]; exact hq) | exact hq
theorem c_X6_struck {E : Ev} {d : Nat} {I : Mi} {L : Ml} {Z : Mz} {Q : Po}  {r : Nat} {s b : Nat → Int32} {sd : Int32} (hd : 3 ≤ d) (hM : MZ Z) (hR : RSM I r s b) (hF : ∀ i, i < r → FXA s b r (nI i)) (hsd : I 48 7 = sd) (hQ : ∀ sg, Q (some (.int (skF (fun lo => pmF (foX s b r lo) sd 4096 0 (-1)) r 0 (-1) (-1)))) (iU I 48 31 sg) L Z) : AC E yX6_struck cX6_struck 5 (some .int) d 0 0 [.ref 48] I L Z Q := by
  refine ac_go (ls := [some (.ref 48), none, none, none, none]) (by decide +kernel) (Nat.le_of_ble_eq_true rfl) rfl ?_
  refine aw_iconst (v := -1) dX6_struck_0 (by decide) ?_
  refine aw_istore_n (ls' := [_, _, _, _, _]) dX6_struck_1 (by decide) rfl rfl ?_
  refine aw_iconst (v := -1) dX6_struck_2 (by decide) ?_
  refine aw_istore_n (ls' := [_, _, _, _, _]) dX6_struck_3 (by decide) rfl rfl ?_
  refine aw_iconst (v := 0) dX6_struck_4 (by decide) ?_
  refine aw_istore_n (ls' := [_, _, _, _, _]) dX6_struck_5 (by decide) rfl rfl ?_
  have ez := @iU_slf I 48 31
  exact ez ▸ l_X6_struck hM hR hF hsd hd r 0 (-1) (-1) _ _ (by omega) hQ
theorem l_X6_vainSet {E : Ev} {d : Nat} {I : Mi} {L : Ml} {Z : Mz} {Q : Po} {r : Nat} {s b : Nat → Int32} (hM : MZ Z) (hR : RSM I r s b) (hF : ∀ i, i < r → FXA s b r (nI i)) (hS : ∀ i, i < r → S12 (s i)) (hd : 1 ≤ d) : ∀ (n : Nat) (j : Nat) (a sg : Int32), j + n = r → (∀ sg, Q (some (.int (vmF (foX s b r) s b n j a))) (iU I 48 31 sg) L Z) → AW E yX6_vainSet cX6_vainSet 3 (some .int) (rmOf d 0 0) Q 0 0 4 [some (.ref 48), some (.int a), some (.int (nI j))] [] (iU I 48 31 sg) L Z := by
  intro n
  induction n with
  | zero =>
    intro j a sg hj hQ
    refine aw_iload_n dX6_vainSet_4 rfl ?_
    refine aw_aload_n dX6_vainSet_5 rfl rfl ?_
    refine aw_gi dX6_vainSet_6 fw_X6_89 hM.1 ?_
    refine aw_icmp_ge (tgt := 49) dX6_vainSet_9 (by decide) (fun c9 => ?_) (fun zz => absurd (by rw [hR.st.1, show j = r by omega]; exact Int32.le_refl _) zz)
    refine aw_iload_n dX6_vainSet_49 rfl ?_
    refine aw_ireturn (ty := .int) dX6_vainSet_50 rfl rfl ?_
    exact hQ _
  | succ n ih =>
    intro j a sg hj hQ
    have e1 := (hR.st (x := sg)).2.2 j (by omega)
    have hf0 : fxP (rdX s b r (nI j)) 12 (s j) := by
      obtain ⟨v, hv, ev⟩ := hS j (by omega)
      rw [ev]; exact hF j (by omega) v hv
    refine aw_iload_n dX6_vainSet_4 rfl ?_
    refine aw_aload_n dX6_vainSet_5 rfl rfl ?_
    refine aw_gi dX6_vainSet_6 fw_X6_89 hM.1 ?_
    refine aw_icmp_ge (tgt := 49) dX6_vainSet_9 (by decide) (fun zz => absurd zz (by rw [hR.st.1]; exact nI_ge (by omega) (by have := hR.2.1; omega))) (fun c9 => ?_)
    refine aw_iload_n dX6_vainSet_12 rfl ?_
    refine aw_aload_n dX6_vainSet_13 rfl rfl ?_
    refine aw_aload_n dX6_vainSet_14 rfl rfl ?_
    refine aw_gr dX6_vainSet_15 fw_X6_26 hM.1 hM.2.2.2.2.2.2.2.2.2.1 ?_
    refine aw_iconst (v := 2) dX6_vainSet_18 (by decide) ?_
    refine aw_iload_n dX6_vainSet_19 rfl ?_
    refine aw_imul dX6_vainSet_20 ?_
    refine aw_ia (2 * j) dX6_vainSet_21 hM.2.2.2.2.2.2.2.2.2.2.1 (ix0 j) (by have := hR.2.1; omega) (by decide) ?_
    rw [e1.1]
    refine aw_iload_n dX6_vainSet_22 rfl ?_
    refine aw_V2 dX6_vainSet_23 cw_X6_377 ⟨_, _, rfl⟩ hM.1 (by omega) ⟨Nat.le_refl _, Nat.le_refl _⟩ (by simp [Value.category, psh]) (c_X6_closure hM hR.st hf0 ?_)
    rw [iU_two]
    refine aw_aload_n dX6_vainSet_26 rfl rfl ?_
    refine aw_gr dX6_vainSet_27 fw_X6_26 hM.1 hM.2.2.2.2.2.2.2.2.2.1 ?_
    refine aw_iconst (v := 2) dX6_vainSet_30 (by decide) ?_
    refine aw_iload_n dX6_vainSet_31 rfl ?_
    refine aw_imul dX6_vainSet_32 ?_
    refine aw_iconst (v := 1) dX6_vainSet_33 (by decide) ?_
    refine aw_iadd dX6_vainSet_34 ?_
    refine aw_ia (2 * j + 1) dX6_vainSet_35 hM.2.2.2.2.2.2.2.2.2.2.1 (ix1 j) (by have := hR.2.1; omega) (by decide) ?_
    rw [((hR.st (x := _)).2.2 j (by omega)).2]
    refine aw_ishr dX6_vainSet_36 ?_
    refine aw_iconst (v := 1) dX6_vainSet_37 (by decide) ?_
    refine aw_iand dX6_vainSet_38 ?_
    refine aw_iload_n dX6_vainSet_39 rfl ?_
    refine aw_ishl dX6_vainSet_40 ?_
    refine aw_ior dX6_vainSet_41 ?_
    refine aw_istore_n (ls' := [_, _, _]) dX6_vainSet_42 (by decide) rfl rfl ?_
    refine aw_iinc (v := nI (j + 1)) (ls' := [_, _, _]) dX6_vainSet_43 rfl (nI_1 j) (by decide) rfl rfl ?_
    refine aw_goto (tgt := 4) dX6_vainSet_46 (by decide) ?_
    exact ih (j + 1) _ _ (by omega) hQ
theorem c_X6_vainSet {E : Ev} {d : Nat} {I : Mi} {L : Ml} {Z : Mz} {Q : Po}  {r : Nat} {s b : Nat → Int32} (hd : 1 ≤ d) (hM : MZ Z) (hR : RSM I r s b) (hF : ∀ i, i < r → FXA s b r (nI i)) (hS : ∀ i, i < r → S12 (s i)) (hQ : ∀ sg, Q (some (.int (vmF (foX s b r) s b r 0 0))) (iU I 48 31 sg) L Z) : AC E yX6_vainSet cX6_vainSet 3 (some .int) d 0 0 [.ref 48] I L Z Q := by
  refine ac_go (ls := [some (.ref 48), none, none]) (by decide +kernel) (Nat.le_of_ble_eq_true rfl) rfl ?_
  refine aw_iconst (v := 0) dX6_vainSet_0 (by decide) ?_
  refine aw_istore_n (ls' := [_, _, _]) dX6_vainSet_1 (by decide) rfl rfl ?_
  refine aw_iconst (v := 0) dX6_vainSet_2 (by decide) ?_
  refine aw_istore_n (ls' := [_, _, _]) dX6_vainSet_3 (by decide) rfl rfl ?_
  have ez := @iU_slf I 48 31
  exact ez ▸ l_X6_vainSet hM hR hF hS hd r 0 0 _ (by omega) hQ
theorem c_X6_best0 {E : Ev} {d : Nat} {I : Mi} {L : Ml} {Z : Mz} {Q : Po}  {r : Nat} {s b : Nat → Int32} {sd : Int32} (hd : 4 ≤ d) (hM : MZ Z) (hR : RSM I r s b) (hF : FXA s b r (-1)) (hFi : ∀ i, i < r → FXA s b r (nI i)) (hS : ∀ i, i < r → S12 (s i)) (hsd : I 48 7 = sd) (hs2 : S12 sd) (hQ : ∀ rv : Int32, rv = bmF (foX s b r (-1)) sd 4096 sd → ∀ sg, Q (some (.int rv)) (iU I 48 31 sg) L Z) : AC E yX6_best cX6_best 2 (some .int) d 0 0 [.ref 48, .int 0] I L Z Q := by
  refine ac_go (ls := [some (.ref 48), some (.int 0)]) (by decide +kernel) (Nat.le_of_ble_eq_true rfl) rfl ?_
  refine aw_iload_n dX6_best_0 rfl ?_
  refine aw_i2l dX6_best_1 ?_
  refine aw_lconst (v := 0) dX6_best_2 (by decide) ?_
  refine aw_ldc2 dX6_best_3 kw_X6_92 ?_
  refine aw_S3 dX6_best_6 cw_X6_73 (by omega) ⟨Nat.le_refl _, Nat.le_refl _⟩ (by decide) (c_X6_in (x := 0) (a := 0) (b := 5) rfl (by decide) (by decide) (fun c6 => ?_) (fun zz => absurd (by decide) zz))
  refine aw_if_ne (tgt := 15) dX6_best_9 (by decide) (fun _ => ?_) (fun zz => absurd zz (by decide))
  refine aw_iload_n dX6_best_15 rfl ?_
  refine aw_iconst (v := 2) dX6_best_16 (by decide) ?_
  refine aw_icmp_ge (tgt := 39) dX6_best_17 (by decide) (fun zz => absurd zz (by decide)) (fun _ => ?_)
  refine aw_iload_n dX6_best_20 rfl ?_
  refine aw_if_ne (tgt := 31) dX6_best_21 (by decide) (fun zz => absurd zz (by decide)) (fun _ => ?_)
  refine aw_aload_n dX6_best_24 rfl rfl ?_
  refine aw_V0 dX6_best_25 cw_X6_389 ⟨_, _, rfl⟩ hM.1 (by omega) ⟨Nat.le_refl _, Nat.le_refl _⟩ (by decide) (c_X6_base (by omega) hM hR hF hsd hs2 (fun sg => ?_))
  refine aw_goto (tgt := 38) dX6_best_28 (by decide) ?_
  refine aw_ireturn (ty := .int) dX6_best_38 rfl rfl ?_
  exact hQ _ rfl _
theorem c_X6_best1 {E : Ev} {d : Nat} {I : Mi} {L : Ml} {Z : Mz} {Q : Po}  {r : Nat} {s b : Nat → Int32} {sd : Int32} (hd : 4 ≤ d) (hM : MZ Z) (hR : RSM I r s b) (hF : FXA s b r (-1)) (hFi : ∀ i, i < r → FXA s b r (nI i)) (hS : ∀ i, i < r → S12 (s i)) (hsd : I 48 7 = sd) (hs2 : S12 sd) (hQ : ∀ rv : Int32, rv = bcV (bmF (foX s b r (-1)) sd 4096 sd) → ∀ sg, Q (some (.int rv)) (iU I 48 31 sg) L Z) : AC E yX6_best cX6_best 2 (some .int) d 0 0 [.ref 48, .int 1] I L Z Q := by
  refine ac_go (ls := [some (.ref 48), some (.int 1)]) (by decide +kernel) (Nat.le_of_ble_eq_true rfl) rfl ?_
  refine aw_iload_n dX6_best_0 rfl ?_
  refine aw_i2l dX6_best_1 ?_
  refine aw_lconst (v := 0) dX6_best_2 (by decide) ?_
  refine aw_ldc2 dX6_best_3 kw_X6_92 ?_
  refine aw_S3 dX6_best_6 cw_X6_73 (by omega) ⟨Nat.le_refl _, Nat.le_refl _⟩ (by decide) (c_X6_in (x := 1) (a := 0) (b := 5) rfl (by decide) (by decide) (fun c6 => ?_) (fun zz => absurd (by decide) zz))
  refine aw_if_ne (tgt := 15) dX6_best_9 (by decide) (fun _ => ?_) (fun zz => absurd zz (by decide))
  refine aw_iload_n dX6_best_15 rfl ?_
  refine aw_iconst (v := 2) dX6_best_16 (by decide) ?_
  refine aw_icmp_ge (tgt := 39) dX6_best_17 (by decide) (fun zz => absurd zz (by decide)) (fun _ => ?_)
  refine aw_iload_n dX6_best_20 rfl ?_
  refine aw_if_ne (tgt := 31) dX6_best_21 (by decide) (fun _ => ?_) (fun zz => absurd zz (by decide))
  refine aw_aload_n dX6_best_31 rfl rfl ?_
  refine aw_V0 dX6_best_32 cw_X6_389 ⟨_, _, rfl⟩ hM.1 (by omega) ⟨Nat.le_refl _, Nat.le_refl _⟩ (by decide) (c_X6_base (by omega) hM hR hF hsd hs2 (fun sg => ?_))
  obtain ⟨bv, hbv, ebv⟩ := @bm_ok (foX s b r (-1)) sd 4096 sd (by omega) hs2
  refine aw_S1 dX6_best_35 cw_X6_341 (by omega) ⟨Nat.le_refl _, Nat.le_refl _⟩ (by decide) (c_X6_bitsOf ebv hbv (fun r35 e35 => ?_))
  refine aw_ireturn (ty := .int) dX6_best_38 rfl rfl ?_
  exact hQ _ e35 _
theorem c_X6_best2 {E : Ev} {d : Nat} {I : Mi} {L : Ml} {Z : Mz} {Q : Po}  {r : Nat} {s b : Nat → Int32} {sd : Int32} (hd : 4 ≤ d) (hM : MZ Z) (hR : RSM I r s b) (hF : FXA s b r (-1)) (hFi : ∀ i, i < r → FXA s b r (nI i)) (hS : ∀ i, i < r → S12 (s i)) (hsd : I 48 7 = sd) (hs2 : S12 sd) (hQ : ∀ rv : Int32, rv = pmF (foX s b r (-1)) sd 4096 0 (-1) → ∀ sg, Q (some (.int rv)) (iU I 48 31 sg) L Z) : AC E yX6_best cX6_best 2 (some .int) d 0 0 [.ref 48, .int 2] I L Z Q := by
  refine ac_go (ls := [some (.ref 48), some (.int 2)]) (by decide +kernel) (Nat.le_of_ble_eq_true rfl) rfl ?_
  refine aw_iload_n dX6_best_0 rfl ?_
  refine aw_i2l dX6_best_1 ?_
  refine aw_lconst (v := 0) dX6_best_2 (by decide) ?_
  refine aw_ldc2 dX6_best_3 kw_X6_92 ?_
  refine aw_S3 dX6_best_6 cw_X6_73 (by omega) ⟨Nat.le_refl _, Nat.le_refl _⟩ (by decide) (c_X6_in (x := 2) (a := 0) (b := 5) rfl (by decide) (by decide) (fun c6 => ?_) (fun zz => absurd (by decide) zz))
  refine aw_if_ne (tgt := 15) dX6_best_9 (by decide) (fun _ => ?_) (fun zz => absurd zz (by decide))
  refine aw_iload_n dX6_best_15 rfl ?_
  refine aw_iconst (v := 2) dX6_best_16 (by decide) ?_
  refine aw_icmp_ge (tgt := 39) dX6_best_17 (by decide) (fun _ => ?_) (fun zz => absurd zz (by decide))
  refine aw_iload_n dX6_best_39 rfl ?_
  refine aw_iconst (v := 2) dX6_best_40 (by decide) ?_
  refine aw_icmp_ne (tgt := 52) dX6_best_41 (by decide) (fun zz => absurd zz (by decide)) (fun _ => ?_)
  refine aw_aload_n dX6_best_44 rfl rfl ?_
  refine aw_iconst (v := -1) dX6_best_45 (by decide) ?_
  refine aw_V1 dX6_best_46 cw_X6_383 ⟨_, _, rfl⟩ hM.1 (by omega) ⟨Nat.le_refl _, Nat.le_refl _⟩ (by decide) (c_X6_peace (by omega) hM hR hF hsd (fun sg => ?_))
  refine aw_goto (tgt := 84) dX6_best_49 (by decide) ?_
  refine aw_ireturn (ty := .int) dX6_best_84 rfl rfl ?_
  exact hQ _ rfl _
theorem c_X6_best3 {E : Ev} {d : Nat} {I : Mi} {L : Ml} {Z : Mz} {Q : Po}  {r : Nat} {s b : Nat → Int32} {sd : Int32} (hd : 4 ≤ d) (hM : MZ Z) (hR : RSM I r s b) (hF : FXA s b r (-1)) (hFi : ∀ i, i < r → FXA s b r (nI i)) (hS : ∀ i, i < r → S12 (s i)) (hsd : I 48 7 = sd) (hs2 : S12 sd) (hQ : ∀ rv : Int32, rv = szV (pmF (foX s b r (-1)) sd 4096 0 (-1)) → ∀ sg, Q (some (.int rv)) (iU I 48 31 sg) L Z) : AC E yX6_best cX6_best 2 (some .int) d 0 0 [.ref 48, .int 3] I L Z Q := by
  refine ac_go (ls := [some (.ref 48), some (.int 3)]) (by decide +kernel) (Nat.le_of_ble_eq_true rfl) rfl ?_
  refine aw_iload_n dX6_best_0 rfl ?_
  refine aw_i2l dX6_best_1 ?_
  refine aw_lconst (v := 0) dX6_best_2 (by decide) ?_
  refine aw_ldc2 dX6_best_3 kw_X6_92 ?_
  refine aw_S3 dX6_best_6 cw_X6_73 (by omega) ⟨Nat.le_refl _, Nat.le_refl _⟩ (by decide) (c_X6_in (x := 3) (a := 0) (b := 5) rfl (by decide) (by decide) (fun c6 => ?_) (fun zz => absurd (by decide) zz))
  refine aw_if_ne (tgt := 15) dX6_best_9 (by decide) (fun _ => ?_) (fun zz => absurd zz (by decide))
  refine aw_iload_n dX6_best_15 rfl ?_
  refine aw_iconst (v := 2) dX6_best_16 (by decide) ?_
  refine aw_icmp_ge (tgt := 39) dX6_best_17 (by decide) (fun _ => ?_) (fun zz => absurd zz (by decide))
  refine aw_iload_n dX6_best_39 rfl ?_
  refine aw_iconst (v := 2) dX6_best_40 (by decide) ?_
  refine aw_icmp_ne (tgt := 52) dX6_best_41 (by decide) (fun _ => ?_) (fun zz => absurd zz (by decide))
  refine aw_iload_n dX6_best_52 rfl ?_
  refine aw_iconst (v := 3) dX6_best_53 (by decide) ?_
  refine aw_icmp_ne (tgt := 68) dX6_best_54 (by decide) (fun zz => absurd zz (by decide)) (fun _ => ?_)
  refine aw_aload_n dX6_best_57 rfl rfl ?_
  refine aw_iconst (v := -1) dX6_best_58 (by decide) ?_
  refine aw_V1 dX6_best_59 cw_X6_383 ⟨_, _, rfl⟩ hM.1 (by omega) ⟨Nat.le_refl _, Nat.le_refl _⟩ (by decide) (c_X6_peace (by omega) hM hR hF hsd (fun sg => ?_))
  refine aw_S1 dX6_best_62 cw_X6_386 (by omega) ⟨Nat.le_refl _, Nat.le_refl _⟩ (by decide) (c_X6_sizeOf (by omega) (pm_ok 4096 0 (-1) (by omega) (Or.inl rfl)) (fun r62 e62 => ?_))
  refine aw_goto (tgt := 84) dX6_best_65 (by decide) ?_
  refine aw_ireturn (ty := .int) dX6_best_84 rfl rfl ?_
  exact hQ _ e62 _
theorem c_X6_best4 {E : Ev} {d : Nat} {I : Mi} {L : Ml} {Z : Mz} {Q : Po}  {r : Nat} {s b : Nat → Int32} {sd : Int32} (hd : 4 ≤ d) (hM : MZ Z) (hR : RSM I r s b) (hF : FXA s b r (-1)) (hFi : ∀ i, i < r → FXA s b r (nI i)) (hS : ∀ i, i < r → S12 (s i)) (hsd : I 48 7 = sd) (hs2 : S12 sd) (hQ : ∀ rv : Int32, rv = skF (fun lo => pmF (foX s b r lo) sd 4096 0 (-1)) r 0 (-1) (-1) → ∀ sg, Q (some (.int rv)) (iU I 48 31 sg) L Z) : AC E yX6_best cX6_best 2 (some .int) d 0 0 [.ref 48, .int 4] I L Z Q := by
  refine ac_go (ls := [some (.ref 48), some (.int 4)]) (by decide +kernel) (Nat.le_of_ble_eq_true rfl) rfl ?_
  refine aw_iload_n dX6_best_0 rfl ?_
  refine aw_i2l dX6_best_1 ?_
  refine aw_lconst (v := 0) dX6_best_2 (by decide) ?_
  refine aw_ldc2 dX6_best_3 kw_X6_92 ?_
  refine aw_S3 dX6_best_6 cw_X6_73 (by omega) ⟨Nat.le_refl _, Nat.le_refl _⟩ (by decide) (c_X6_in (x := 4) (a := 0) (b := 5) rfl (by decide) (by decide) (fun c6 => ?_) (fun zz => absurd (by decide) zz))
  refine aw_if_ne (tgt := 15) dX6_best_9 (by decide) (fun _ => ?_) (fun zz => absurd zz (by decide))
  refine aw_iload_n dX6_best_15 rfl ?_
  refine aw_iconst (v := 2) dX6_best_16 (by decide) ?_
  refine aw_icmp_ge (tgt := 39) dX6_best_17 (by decide) (fun _ => ?_) (fun zz => absurd zz (by decide))
  refine aw_iload_n dX6_best_39 rfl ?_
  refine aw_iconst (v := 2) dX6_best_40 (by decide) ?_
  refine aw_icmp_ne (tgt := 52) dX6_best_41 (by decide) (fun _ => ?_) (fun zz => absurd zz (by decide))
  refine aw_iload_n dX6_best_52 rfl ?_
  refine aw_iconst (v := 3) dX6_best_53 (by decide) ?_
  refine aw_icmp_ne (tgt := 68) dX6_best_54 (by decide) (fun _ => ?_) (fun zz => absurd zz (by decide))
  refine aw_iload_n dX6_best_68 rfl ?_
  refine aw_iconst (v := 4) dX6_best_69 (by decide) ?_
  refine aw_icmp_ne (tgt := 80) dX6_best_70 (by decide) (fun zz => absurd zz (by decide)) (fun _ => ?_)
  refine aw_aload_n dX6_best_73 rfl rfl ?_
  refine aw_V0 dX6_best_74 cw_X6_392 ⟨_, _, rfl⟩ hM.1 (by omega) ⟨Nat.le_refl _, Nat.le_refl _⟩ (by decide) (c_X6_struck (by omega) hM hR hFi hsd (fun sg => ?_))
  refine aw_goto (tgt := 84) dX6_best_77 (by decide) ?_
  refine aw_ireturn (ty := .int) dX6_best_84 rfl rfl ?_
  exact hQ _ rfl _
theorem c_X6_best5 {E : Ev} {d : Nat} {I : Mi} {L : Ml} {Z : Mz} {Q : Po}  {r : Nat} {s b : Nat → Int32} {sd : Int32} (hd : 4 ≤ d) (hM : MZ Z) (hR : RSM I r s b) (hF : FXA s b r (-1)) (hFi : ∀ i, i < r → FXA s b r (nI i)) (hS : ∀ i, i < r → S12 (s i)) (hsd : I 48 7 = sd) (hs2 : S12 sd) (hQ : ∀ rv : Int32, rv = vmF (foX s b r) s b r 0 0 → ∀ sg, Q (some (.int rv)) (iU I 48 31 sg) L Z) : AC E yX6_best cX6_best 2 (some .int) d 0 0 [.ref 48, .int 5] I L Z Q := by
  refine ac_go (ls := [some (.ref 48), some (.int 5)]) (by decide +kernel) (Nat.le_of_ble_eq_true rfl) rfl ?_
  refine aw_iload_n dX6_best_0 rfl ?_
  refine aw_i2l dX6_best_1 ?_
  refine aw_lconst (v := 0) dX6_best_2 (by decide) ?_
  refine aw_ldc2 dX6_best_3 kw_X6_92 ?_
  refine aw_S3 dX6_best_6 cw_X6_73 (by omega) ⟨Nat.le_refl _, Nat.le_refl _⟩ (by decide) (c_X6_in (x := 5) (a := 0) (b := 5) rfl (by decide) (by decide) (fun c6 => ?_) (fun zz => absurd (by decide) zz))
  refine aw_if_ne (tgt := 15) dX6_best_9 (by decide) (fun _ => ?_) (fun zz => absurd zz (by decide))
  refine aw_iload_n dX6_best_15 rfl ?_
  refine aw_iconst (v := 2) dX6_best_16 (by decide) ?_
  refine aw_icmp_ge (tgt := 39) dX6_best_17 (by decide) (fun _ => ?_) (fun zz => absurd zz (by decide))
  refine aw_iload_n dX6_best_39 rfl ?_
  refine aw_iconst (v := 2) dX6_best_40 (by decide) ?_
  refine aw_icmp_ne (tgt := 52) dX6_best_41 (by decide) (fun _ => ?_) (fun zz => absurd zz (by decide))
  refine aw_iload_n dX6_best_52 rfl ?_
  refine aw_iconst (v := 3) dX6_best_53 (by decide) ?_
  refine aw_icmp_ne (tgt := 68) dX6_best_54 (by decide) (fun _ => ?_) (fun zz => absurd zz (by decide))
  refine aw_iload_n dX6_best_68 rfl ?_
  refine aw_iconst (v := 4) dX6_best_69 (by decide) ?_
  refine aw_icmp_ne (tgt := 80) dX6_best_70 (by decide) (fun _ => ?_) (fun zz => absurd zz (by decide))
  refine aw_aload_n dX6_best_80 rfl rfl ?_
  refine aw_V0 dX6_best_81 cw_X6_395 ⟨_, _, rfl⟩ hM.1 (by omega) ⟨Nat.le_refl _, Nat.le_refl _⟩ (by decide) (c_X6_vainSet (by omega) hM hR hFi hS (fun sg => ?_))
  refine aw_ireturn (ty := .int) dX6_best_84 rfl rfl ?_
  exact hQ _ rfl _
theorem c_X6_bestX {E : Ev} {d : Nat} {I : Mi} {L : Ml} {Z : Mz} {Q : Po} {w : Int32}  (hd : 2 ≤ d) (hM : MZ Z) (hw : ¬ (¬ w < 0 ∧ ¬ 5 < w)) (hB : Q (some (.int (-2))) I L Z) : AC E yX6_best cX6_best 2 (some .int) d 0 0 [.ref 48, .int w] I L Z Q := by
  refine ac_go (ls := [some (.ref 48), some (.int w)]) (by decide +kernel) (Nat.le_of_ble_eq_true rfl) rfl ?_
  refine aw_iload_n dX6_best_0 rfl ?_
  refine aw_i2l dX6_best_1 ?_
  refine aw_lconst (v := 0) dX6_best_2 (by decide) ?_
  refine aw_ldc2 dX6_best_3 kw_X6_92 ?_
  refine aw_S3 dX6_best_6 cw_X6_73 (by omega) ⟨Nat.le_refl _, Nat.le_refl _⟩ (by decide) (c_X6_in (x := w) (a := 0) (b := 5) rfl (by decide) (by decide) (fun zz => absurd zz hw) (fun c6 => ?_))
  refine aw_if_ne (tgt := 15) dX6_best_9 (by decide) (fun zz => absurd zz (by decide)) (fun _ => ?_)
  refine aw_bipush (v := -2) dX6_best_12 (by decide) ?_
  refine aw_ireturn (ty := .int) dX6_best_14 rfl rfl ?_
  exact hB
theorem l_X6_why0 {E : Ev} {d : Nat} {I : Mi} {L : Ml} {Z : Mz} {Q : Po} {r : Nat} {s b : Nat → Int32} {x : Int32} (hM : MZ Z) (hR : RSM I r s b) (hF : FXA s b r (-1)) (hd : 2 ≤ d) : ∀ (n : Nat) (j : Nat) (f sg : Int32) (o5 : Option Value), j + n = 4096 → (f = -1 ∨ S12 f) → (∀ rv : Int32, rv = (wmF (foX s b r (-1)) x n j f) → ∀ sg, Q (some (.int rv)) (iU I 48 31 sg) L Z) → AW E yX6_why cX6_why 6 (some .int) (rmOf d 0 0) Q 0 0 25 [some (.ref 48), some (.int x), some (.int 0), some (.int f), some (.int (nI j)), o5] [] (iU I 48 31 sg) L Z := by
  intro n
  induction n with
  | zero =>
    intro j f sg o5 hj hf hQ
    refine aw_iload dX6_why_25 rfl ?_
    refine aw_sipush (v := 4095) dX6_why_27 (by decide) ?_
    refine aw_icmp_gt (tgt := 95) dX6_why_30 (by decide) (fun c30 => ?_) (fun zz => absurd (by rw [show j = 4096 by omega]; decide) zz)
    refine aw_iload_n dX6_why_95 rfl ?_
    refine aw_if_ne (tgt := 103) dX6_why_96 (by decide) (fun zz => absurd zz (by decide)) (fun _ => ?_)
    refine aw_iload_n dX6_why_99 rfl ?_
    refine aw_goto (tgt := 107) dX6_why_100 (by decide) ?_
    refine aw_ireturn (ty := .int) dX6_why_107 rfl rfl ?_
    exact hQ _ rfl _
  | succ n ih =>
    intro j f sg o5 hj hf hQ
    refine aw_iload dX6_why_25 rfl ?_
    refine aw_sipush (v := 4095) dX6_why_27 (by decide) ?_
    refine aw_icmp_gt (tgt := 95) dX6_why_30 (by decide) (fun zz => absurd zz (nI_nlt (a := 4095) (by omega) (by decide))) (fun c30 => ?_)
    refine aw_iload_n dX6_why_33 rfl ?_
    refine aw_iconst (v := -1) dX6_why_34 (by decide) ?_
    refine aw_icmp_eq (tgt := 50) dX6_why_35 (by decide) (fun c35 => ?_) (fun c35 => ?_)
    · refine aw_iconst (v := 1) dX6_why_50 (by decide) ?_
      refine aw_goto (tgt := 55) dX6_why_51 (by decide) ?_
      refine aw_istore (ls' := [_, _, _, _, _, _]) dX6_why_55 (by decide) rfl rfl ?_
      refine aw_iload dX6_why_57 rfl ?_
      refine aw_if_eq (tgt := 89) dX6_why_59 (by decide) (fun zz => absurd zz (by decide)) (fun _ => ?_)
      refine aw_iload dX6_why_62 rfl ?_
      refine aw_iload_n dX6_why_64 rfl ?_
      refine aw_ishr dX6_why_65 ?_
      refine aw_iconst (v := 1) dX6_why_66 (by decide) ?_
      refine aw_iand dX6_why_67 ?_
      refine aw_if_ne (tgt := 89) dX6_why_68 (by decide) (fun c68 => ?_) (fun c68 => ?_)
      · refine aw_iinc (v := nI (j + 1)) (ls' := [_, _, _, _, _, _]) dX6_why_89 rfl (nI_1 j) (by decide) rfl rfl ?_
        refine aw_goto (tgt := 25) dX6_why_92 (by decide) ?_
        refine ih (j + 1) _ _ _ (by omega) (by first | exact Or.inr ⟨j, by omega, rfl⟩ | exact hf) ?_
        have hq := hQ
        simp only [wmF, c35, c68, not_true_eq_false, not_false_eq_true, and_true, true_and, and_false, false_and, or_true, true_or, or_false, false_or, ite_true, ite_false, if_true, if_false, reduceIte, and_self, or_self] at hq
        first | exact hq | (simp only [c35]; exact hq)
      · refine aw_aload_n dX6_why_71 rfl rfl ?_
        refine aw_iload dX6_why_72 rfl ?_
        refine aw_iconst (v := -1) dX6_why_74 (by decide) ?_
        refine aw_V2 dX6_why_75 cw_X6_377 ⟨_, _, rfl⟩ hM.1 (by omega) ⟨Nat.le_refl _, Nat.le_refl _⟩ (by decide) (c_X6_closure hM hR.st (hF j (by omega)) ?_)
        rw [iU_two]
        refine aw_iload_n dX6_why_78 rfl ?_
        refine aw_ishr dX6_why_79 ?_
        refine aw_iconst (v := 1) dX6_why_80 (by decide) ?_
        refine aw_iand dX6_why_81 ?_
        refine aw_iconst (v := 1) dX6_why_82 (by decide) ?_
        refine aw_icmp_ne (tgt := 89) dX6_why_83 (by decide) (fun c83 => ?_) (fun c83 => ?_)
        · refine aw_iinc (v := nI (j + 1)) (ls' := [_, _, _, _, _, _]) dX6_why_89 rfl (nI_1 j) (by decide) rfl rfl ?_
          refine aw_goto (tgt := 25) dX6_why_92 (by decide) ?_
          refine ih (j + 1) _ _ _ (by omega) (by first | exact Or.inr ⟨j, by omega, rfl⟩ | exact hf) ?_
          have hq := hQ
          simp only [wmF, c35, c68, c83, not_true_eq_false, not_false_eq_true, and_true, true_and, and_false, false_and, or_true, true_or, or_false, false_or, ite_true, ite_false, if_true, if_false, reduceIte, and_self, or_self] at hq
          first | exact hq | (simp only [c35]; exact hq)
        · refine aw_iload dX6_why_86 rfl ?_
          refine aw_istore_n (ls' := [_, _, _, _, _, _]) dX6_why_88 (by decide) rfl rfl ?_
          refine aw_iinc (v := nI (j + 1)) (ls' := [_, _, _, _, _, _]) dX6_why_89 rfl (nI_1 j) (by decide) rfl rfl ?_
          refine aw_goto (tgt := 25) dX6_why_92 (by decide) ?_
          refine ih (j + 1) _ _ _ (by omega) (by first | exact Or.inr ⟨j, by omega, rfl⟩ | exact hf) ?_
          have hq := hQ
          simp only [wmF, c35, c68, c83, not_true_eq_false, not_false_eq_true, and_true, true_and, and_false, false_and, or_true, true_or, or_false, false_or, ite_true, ite_false, if_true, if_false, reduceIte, and_self, or_self] at hq
          first | exact hq | (simp only [c35]; exact hq)
    · refine aw_iload dX6_why_38 rfl ?_
      refine aw_S1 dX6_why_40 cw_X6_341 (by omega) ⟨Nat.le_refl _, Nat.le_refl _⟩ (by decide) (c_X6_bitsOf (v := j) rfl (by omega) (fun r40 e40 => ?_))
      refine aw_iload_n dX6_why_43 rfl ?_
      obtain ⟨f0, hf0, ef0⟩ := hf.resolve_left c35
      refine aw_S1 dX6_why_44 cw_X6_341 (by omega) ⟨Nat.le_refl _, Nat.le_refl _⟩ (by simp [Value.category, psh]) (c_X6_bitsOf ef0 hf0 (fun r44 e44 => ?_))
      refine aw_icmp_ge (tgt := 54) dX6_why_47 (by decide) (fun c47 => ?_) (fun c47 => ?_)
      · refine aw_iconst (v := 0) dX6_why_54 (by decide) ?_
        refine aw_istore (ls' := [_, _, _, _, _, _]) dX6_why_55 (by decide) rfl rfl ?_
        refine aw_iload dX6_why_57 rfl ?_
        refine aw_if_eq (tgt := 89) dX6_why_59 (by decide) (fun _ => ?_) (fun zz => absurd zz (by decide))
        refine aw_iinc (v := nI (j + 1)) (ls' := [_, _, _, _, _, _]) dX6_why_89 rfl (nI_1 j) (by decide) rfl rfl ?_
        refine aw_goto (tgt := 25) dX6_why_92 (by decide) ?_
        rw [e40, e44] at c47
        refine ih (j + 1) _ _ _ (by omega) (by first | exact Or.inr ⟨j, by omega, rfl⟩ | exact hf) ?_
        have hq := hQ
        simp only [wmF, c35, c47, not_true_eq_false, not_false_eq_true, and_true, true_and, and_false, false_and, or_true, true_or, or_false, false_or, ite_true, ite_false, if_true, if_false, reduceIte, and_self, or_self] at hq
        first | exact hq | (simp only [c35]; exact hq)
      · refine aw_iconst (v := 1) dX6_why_50 (by decide) ?_
        refine aw_goto (tgt := 55) dX6_why_51 (by decide) ?_
        refine aw_istore (ls' := [_, _, _, _, _, _]) dX6_why_55 (by decide) rfl rfl ?_
        refine aw_iload dX6_why_57 rfl ?_
        refine aw_if_eq (tgt := 89) dX6_why_59 (by decide) (fun zz => absurd zz (by decide)) (fun _ => ?_)
        refine aw_iload dX6_why_62 rfl ?_
        refine aw_iload_n dX6_why_64 rfl ?_
        refine aw_ishr dX6_why_65 ?_
        refine aw_iconst (v := 1) dX6_why_66 (by decide) ?_
        refine aw_iand dX6_why_67 ?_
        refine aw_if_ne (tgt := 89) dX6_why_68 (by decide) (fun c68 => ?_) (fun c68 => ?_)
        · refine aw_iinc (v := nI (j + 1)) (ls' := [_, _, _, _, _, _]) dX6_why_89 rfl (nI_1 j) (by decide) rfl rfl ?_
          refine aw_goto (tgt := 25) dX6_why_92 (by decide) ?_
          rw [e40, e44] at c47
          refine ih (j + 1) _ _ _ (by omega) (by first | exact Or.inr ⟨j, by omega, rfl⟩ | exact hf) ?_
          have hq := hQ
          simp only [wmF, c35, c47, c68, not_true_eq_false, not_false_eq_true, and_true, true_and, and_false, false_and, or_true, true_or, or_false, false_or, ite_true, ite_false, if_true, if_false, reduceIte, and_self, or_self] at hq
          first | exact hq | (simp only [c35]; exact hq)
        · refine aw_aload_n dX6_why_71 rfl rfl ?_
          refine aw_iload dX6_why_72 rfl ?_
          refine aw_iconst (v := -1) dX6_why_74 (by decide) ?_
          refine aw_V2 dX6_why_75 cw_X6_377 ⟨_, _, rfl⟩ hM.1 (by omega) ⟨Nat.le_refl _, Nat.le_refl _⟩ (by decide) (c_X6_closure hM hR.st (hF j (by omega)) ?_)
          rw [iU_two]
          refine aw_iload_n dX6_why_78 rfl ?_
          refine aw_ishr dX6_why_79 ?_
          refine aw_iconst (v := 1) dX6_why_80 (by decide) ?_
          refine aw_iand dX6_why_81 ?_
          refine aw_iconst (v := 1) dX6_why_82 (by decide) ?_
          refine aw_icmp_ne (tgt := 89) dX6_why_83 (by decide) (fun c83 => ?_) (fun c83 => ?_)
          · refine aw_iinc (v := nI (j + 1)) (ls' := [_, _, _, _, _, _]) dX6_why_89 rfl (nI_1 j) (by decide) rfl rfl ?_
            refine aw_goto (tgt := 25) dX6_why_92 (by decide) ?_
            rw [e40, e44] at c47
            refine ih (j + 1) _ _ _ (by omega) (by first | exact Or.inr ⟨j, by omega, rfl⟩ | exact hf) ?_
            have hq := hQ
            simp only [wmF, c35, c47, c68, c83, not_true_eq_false, not_false_eq_true, and_true, true_and, and_false, false_and, or_true, true_or, or_false, false_or, ite_true, ite_false, if_true, if_false, reduceIte, and_self, or_self] at hq
            first | exact hq | (simp only [c35]; exact hq)
          · refine aw_iload dX6_why_86 rfl ?_
            refine aw_istore_n (ls' := [_, _, _, _, _, _]) dX6_why_88 (by decide) rfl rfl ?_
            refine aw_iinc (v := nI (j + 1)) (ls' := [_, _, _, _, _, _]) dX6_why_89 rfl (nI_1 j) (by decide) rfl rfl ?_
            refine aw_goto (tgt := 25) dX6_why_92 (by decide) ?_
            rw [e40, e44] at c47
            refine ih (j + 1) _ _ _ (by omega) (by first | exact Or.inr ⟨j, by omega, rfl⟩ | exact hf) ?_
            have hq := hQ
            simp only [wmF, c35, c47, c68, c83, not_true_eq_false, not_false_eq_true, and_true, true_and, and_false, false_and, or_true, true_or, or_false, false_or, ite_true, ite_false, if_true, if_false, reduceIte, and_self, or_self] at hq
            first | exact hq | (simp only [c35]; exact hq)
theorem c_X6_why0 {E : Ev} {d : Nat} {I : Mi} {L : Ml} {Z : Mz} {Q : Po} {x : Int32} {r : Nat} {s b : Nat → Int32} (hd : 2 ≤ d) (hM : MZ Z) (hR : RSM I r s b) (hF : FXA s b r (-1)) (hB : ¬ (¬ x < 0 ∧ ¬ 11 < x) → Q (some (.int (-2))) I L Z) (hS : (¬ x < 0 ∧ ¬ 11 < x) → ∀ rv : Int32, rv = (wmF (foX s b r (-1)) x 4096 0 (-1)) → ∀ sg, Q (some (.int rv)) (iU I 48 31 sg) L Z) : AC E yX6_why cX6_why 6 (some .int) d 0 0 [.ref 48, .int x, .int 0] I L Z Q := by
  refine ac_go (ls := [some (.ref 48), some (.int x), some (.int 0), none, none, none]) (by decide +kernel) (Nat.le_of_ble_eq_true rfl) rfl ?_
  refine aw_iload_n dX6_why_0 rfl ?_
  refine aw_S1 dX6_why_1 cw_X6_121 (by omega) ⟨Nat.le_refl _, Nat.le_refl _⟩ (by decide) (c_X6_isSaying (by omega) (fun c1 => ?_) (fun c1 => ?_))
  · refine aw_if_eq (tgt := 17) dX6_why_4 (by decide) (fun zz => absurd zz (by decide)) (fun _ => ?_)
    refine aw_iload_n dX6_why_7 rfl ?_
    refine aw_i2l dX6_why_8 ?_
    refine aw_lconst (v := 0) dX6_why_9 (by decide) ?_
    refine aw_lconst (v := 1) dX6_why_10 (by decide) ?_
    refine aw_S3 dX6_why_11 cw_X6_73 (by omega) ⟨Nat.le_refl _, Nat.le_refl _⟩ (by decide) (c_X6_in (x := 0) (a := 0) (b := 1) rfl (by decide) (by decide) (fun c11 => ?_) (fun zz => absurd (by decide) zz))
    refine aw_if_ne (tgt := 20) dX6_why_14 (by decide) (fun _ => ?_) (fun zz => absurd zz (by decide))
    refine aw_iconst (v := -1) dX6_why_20 (by decide) ?_
    refine aw_istore_n (ls' := [_, _, _, _, _, _]) dX6_why_21 (by decide) rfl rfl ?_
    refine aw_iconst (v := 0) dX6_why_22 (by decide) ?_
    refine aw_istore (ls' := [_, _, _, _, _, _]) dX6_why_23 (by decide) rfl rfl ?_
    have ez := @iU_slf I 48 31
    exact ez ▸ l_X6_why0 hM hR hF hd 4096 0 (-1) _ _ (by omega) (Or.inl rfl) (hS c1)
  · refine aw_if_eq (tgt := 17) dX6_why_4 (by decide) (fun _ => ?_) (fun zz => absurd zz (by decide))
    refine aw_bipush (v := -2) dX6_why_17 (by decide) ?_
    refine aw_ireturn (ty := .int) dX6_why_19 rfl rfl ?_
    exact hB c1
theorem l_X6_why1 {E : Ev} {d : Nat} {I : Mi} {L : Ml} {Z : Mz} {Q : Po} {r : Nat} {s b : Nat → Int32} {x : Int32} (hM : MZ Z) (hR : RSM I r s b) (hF : FXA s b r (-1)) (hd : 2 ≤ d) : ∀ (n : Nat) (j : Nat) (f sg : Int32) (o5 : Option Value), j + n = 4096 → (f = -1 ∨ S12 f) → (∀ rv : Int32, rv = szV (wmF (foX s b r (-1)) x n j f) → ∀ sg, Q (some (.int rv)) (iU I 48 31 sg) L Z) → AW E yX6_why cX6_why 6 (some .int) (rmOf d 0 0) Q 0 0 25 [some (.ref 48), some (.int x), some (.int 1), some (.int f), some (.int (nI j)), o5] [] (iU I 48 31 sg) L Z := by
  intro n
  induction n with
  | zero =>
    intro j f sg o5 hj hf hQ
    refine aw_iload dX6_why_25 rfl ?_
    refine aw_sipush (v := 4095) dX6_why_27 (by decide) ?_
    refine aw_icmp_gt (tgt := 95) dX6_why_30 (by decide) (fun c30 => ?_) (fun zz => absurd (by rw [show j = 4096 by omega]; decide) zz)
    refine aw_iload_n dX6_why_95 rfl ?_
    refine aw_if_ne (tgt := 103) dX6_why_96 (by decide) (fun _ => ?_) (fun zz => absurd zz (by decide))
    refine aw_iload_n dX6_why_103 rfl ?_
    refine aw_S1 dX6_why_104 cw_X6_386 (by omega) ⟨Nat.le_refl _, Nat.le_refl _⟩ (by decide) (c_X6_sizeOf (by omega) hf (fun r104 e104 => ?_))
    refine aw_ireturn (ty := .int) dX6_why_107 rfl rfl ?_
    exact hQ _ e104 _
  | succ n ih =>
    intro j f sg o5 hj hf hQ
    refine aw_iload dX6_why_25 rfl ?_
    refine aw_sipush (v := 4095) dX6_why_27 (by decide) ?_
    refine aw_icmp_gt (tgt := 95) dX6_why_30 (by decide) (fun zz => absurd zz (nI_nlt (a := 4095) (by omega) (by decide))) (fun c30 => ?_)
    refine aw_iload_n dX6_why_33 rfl ?_
    refine aw_iconst (v := -1) dX6_why_34 (by decide) ?_
    refine aw_icmp_eq (tgt := 50) dX6_why_35 (by decide) (fun c35 => ?_) (fun c35 => ?_)
    · refine aw_iconst (v := 1) dX6_why_50 (by decide) ?_
      refine aw_goto (tgt := 55) dX6_why_51 (by decide) ?_
      refine aw_istore (ls' := [_, _, _, _, _, _]) dX6_why_55 (by decide) rfl rfl ?_
      refine aw_iload dX6_why_57 rfl ?_
      refine aw_if_eq (tgt := 89) dX6_why_59 (by decide) (fun zz => absurd zz (by decide)) (fun _ => ?_)
      refine aw_iload dX6_why_62 rfl ?_
      refine aw_iload_n dX6_why_64 rfl ?_
      refine aw_ishr dX6_why_65 ?_
      refine aw_iconst (v := 1) dX6_why_66 (by decide) ?_
      refine aw_iand dX6_why_67 ?_
      refine aw_if_ne (tgt := 89) dX6_why_68 (by decide) (fun c68 => ?_) (fun c68 => ?_)
      · refine aw_iinc (v := nI (j + 1)) (ls' := [_, _, _, _, _, _]) dX6_why_89 rfl (nI_1 j) (by decide) rfl rfl ?_
        refine aw_goto (tgt := 25) dX6_why_92 (by decide) ?_
        refine ih (j + 1) _ _ _ (by omega) (by first | exact Or.inr ⟨j, by omega, rfl⟩ | exact hf) ?_
        have hq := hQ
        simp only [wmF, c35, c68, not_true_eq_false, not_false_eq_true, and_true, true_and, and_false, false_and, or_true, true_or, or_false, false_or, ite_true, ite_false, if_true, if_false, reduceIte, and_self, or_self] at hq
        first | exact hq | (simp only [c35]; exact hq)
      · refine aw_aload_n dX6_why_71 rfl rfl ?_
        refine aw_iload dX6_why_72 rfl ?_
        refine aw_iconst (v := -1) dX6_why_74 (by decide) ?_
        refine aw_V2 dX6_why_75 cw_X6_377 ⟨_, _, rfl⟩ hM.1 (by omega) ⟨Nat.le_refl _, Nat.le_refl _⟩ (by decide) (c_X6_closure hM hR.st (hF j (by omega)) ?_)
        rw [iU_two]
        refine aw_iload_n dX6_why_78 rfl ?_
        refine aw_ishr dX6_why_79 ?_
        refine aw_iconst (v := 1) dX6_why_80 (by decide) ?_
        refine aw_iand dX6_why_81 ?_
        refine aw_iconst (v := 1) dX6_why_82 (by decide) ?_
        refine aw_icmp_ne (tgt := 89) dX6_why_83 (by decide) (fun c83 => ?_) (fun c83 => ?_)
        · refine aw_iinc (v := nI (j + 1)) (ls' := [_, _, _, _, _, _]) dX6_why_89 rfl (nI_1 j) (by decide) rfl rfl ?_
          refine aw_goto (tgt := 25) dX6_why_92 (by decide) ?_
          refine ih (j + 1) _ _ _ (by omega) (by first | exact Or.inr ⟨j, by omega, rfl⟩ | exact hf) ?_
          have hq := hQ
          simp only [wmF, c35, c68, c83, not_true_eq_false, not_false_eq_true, and_true, true_and, and_false, false_and, or_true, true_or, or_false, false_or, ite_true, ite_false, if_true, if_false, reduceIte, and_self, or_self] at hq
          first | exact hq | (simp only [c35]; exact hq)
        · refine aw_iload dX6_why_86 rfl ?_
          refine aw_istore_n (ls' := [_, _, _, _, _, _]) dX6_why_88 (by decide) rfl rfl ?_
          refine aw_iinc (v := nI (j + 1)) (ls' := [_, _, _, _, _, _]) dX6_why_89 rfl (nI_1 j) (by decide) rfl rfl ?_
          refine aw_goto (tgt := 25) dX6_why_92 (by decide) ?_
          refine ih (j + 1) _ _ _ (by omega) (by first | exact Or.inr ⟨j, by omega, rfl⟩ | exact hf) ?_
          have hq := hQ
          simp only [wmF, c35, c68, c83, not_true_eq_false, not_false_eq_true, and_true, true_and, and_false, false_and, or_true, true_or, or_false, false_or, ite_true, ite_false, if_true, if_false, reduceIte, and_self, or_self] at hq
          first | exact hq | (simp only [c35]; exact hq)
    · refine aw_iload dX6_why_38 rfl ?_
      refine aw_S1 dX6_why_40 cw_X6_341 (by omega) ⟨Nat.le_refl _, Nat.le_refl _⟩ (by decide) (c_X6_bitsOf (v := j) rfl (by omega) (fun r40 e40 => ?_))
      refine aw_iload_n dX6_why_43 rfl ?_
      obtain ⟨f0, hf0, ef0⟩ := hf.resolve_left c35
      refine aw_S1 dX6_why_44 cw_X6_341 (by omega) ⟨Nat.le_refl _, Nat.le_refl _⟩ (by simp [Value.category, psh]) (c_X6_bitsOf ef0 hf0 (fun r44 e44 => ?_))
      refine aw_icmp_ge (tgt := 54) dX6_why_47 (by decide) (fun c47 => ?_) (fun c47 => ?_)
      · refine aw_iconst (v := 0) dX6_why_54 (by decide) ?_
        refine aw_istore (ls' := [_, _, _, _, _, _]) dX6_why_55 (by decide) rfl rfl ?_
        refine aw_iload dX6_why_57 rfl ?_
        refine aw_if_eq (tgt := 89) dX6_why_59 (by decide) (fun _ => ?_) (fun zz => absurd zz (by decide))
        refine aw_iinc (v := nI (j + 1)) (ls' := [_, _, _, _, _, _]) dX6_why_89 rfl (nI_1 j) (by decide) rfl rfl ?_
        refine aw_goto (tgt := 25) dX6_why_92 (by decide) ?_
        rw [e40, e44] at c47
        refine ih (j + 1) _ _ _ (by omega) (by first | exact Or.inr ⟨j, by omega, rfl⟩ | exact hf) ?_
        have hq := hQ
        simp only [wmF, c35, c47, not_true_eq_false, not_false_eq_true, and_true, true_and, and_false, false_and, or_true, true_or, or_false, false_or, ite_true, ite_false, if_true, if_false, reduceIte, and_self, or_self] at hq
        first | exact hq | (simp only [c35]; exact hq)
      · refine aw_iconst (v := 1) dX6_why_50 (by decide) ?_
        refine aw_goto (tgt := 55) dX6_why_51 (by decide) ?_
        refine aw_istore (ls' := [_, _, _, _, _, _]) dX6_why_55 (by decide) rfl rfl ?_
        refine aw_iload dX6_why_57 rfl ?_
        refine aw_if_eq (tgt := 89) dX6_why_59 (by decide) (fun zz => absurd zz (by decide)) (fun _ => ?_)
        refine aw_iload dX6_why_62 rfl ?_
        refine aw_iload_n dX6_why_64 rfl ?_
        refine aw_ishr dX6_why_65 ?_
        refine aw_iconst (v := 1) dX6_why_66 (by decide) ?_
        refine aw_iand dX6_why_67 ?_
        refine aw_if_ne (tgt := 89) dX6_why_68 (by decide) (fun c68 => ?_) (fun c68 => ?_)
        · refine aw_iinc (v := nI (j + 1)) (ls' := [_, _, _, _, _, _]) dX6_why_89 rfl (nI_1 j) (by decide) rfl rfl ?_
          refine aw_goto (tgt := 25) dX6_why_92 (by decide) ?_
          rw [e40, e44] at c47
          refine ih (j + 1) _ _ _ (by omega) (by first | exact Or.inr ⟨j, by omega, rfl⟩ | exact hf) ?_
          have hq := hQ
          simp only [wmF, c35, c47, c68, not_true_eq_false, not_false_eq_true, and_true, true_and, and_false, false_and, or_true, true_or, or_false, false_or, ite_true, ite_false, if_true, if_false, reduceIte, and_self, or_self] at hq
          first | exact hq | (simp only [c35]; exact hq)
        · refine aw_aload_n dX6_why_71 rfl rfl ?_
          refine aw_iload dX6_why_72 rfl ?_
          refine aw_iconst (v := -1) dX6_why_74 (by decide) ?_
          refine aw_V2 dX6_why_75 cw_X6_377 ⟨_, _, rfl⟩ hM.1 (by omega) ⟨Nat.le_refl _, Nat.le_refl _⟩ (by decide) (c_X6_closure hM hR.st (hF j (by omega)) ?_)
          rw [iU_two]
          refine aw_iload_n dX6_why_78 rfl ?_
          refine aw_ishr dX6_why_79 ?_
          refine aw_iconst (v := 1) dX6_why_80 (by decide) ?_
          refine aw_iand dX6_why_81 ?_
          refine aw_iconst (v := 1) dX6_why_82 (by decide) ?_
          refine aw_icmp_ne (tgt := 89) dX6_why_83 (by decide) (fun c83 => ?_) (fun c83 => ?_)
          · refine aw_iinc (v := nI (j + 1)) (ls' := [_, _, _, _, _, _]) dX6_why_89 rfl (nI_1 j) (by decide) rfl rfl ?_
            refine aw_goto (tgt := 25) dX6_why_92 (by decide) ?_
            rw [e40, e44] at c47
            refine ih (j + 1) _ _ _ (by omega) (by first | exact Or.inr ⟨j, by omega, rfl⟩ | exact hf) ?_
            have hq := hQ
            simp only [wmF, c35, c47, c68, c83, not_true_eq_false, not_false_eq_true, and_true, true_and, and_false, false_and, or_true, true_or, or_false, false_or, ite_true, ite_false, if_true, if_false, reduceIte, and_self, or_self] at hq
            first | exact hq | (simp only [c35]; exact hq)
          · refine aw_iload dX6_why_86 rfl ?_
            refine aw_istore_n (ls' := [_, _, _, _, _, _]) dX6_why_88 (by decide) rfl rfl ?_
            refine aw_iinc (v := nI (j + 1)) (ls' := [_, _, _, _, _, _]) dX6_why_89 rfl (nI_1 j) (by decide) rfl rfl ?_
            refine aw_goto (tgt := 25) dX6_why_92 (by decide) ?_
            rw [e40, e44] at c47
            refine ih (j + 1) _ _ _ (by omega) (by first | exact Or.inr ⟨j, by omega, rfl⟩ | exact hf) ?_
            have hq := hQ
            simp only [wmF, c35, c47, c68, c83, not_true_eq_false, not_false_eq_true, and_true, true_and, and_false, false_and, or_true, true_or, or_false, false_or, ite_true, ite_false, if_true, if_false, reduceIte, and_self, or_self] at hq
            first | exact hq | (simp only [c35]; exact hq)
theorem c_X6_why1 {E : Ev} {d : Nat} {I : Mi} {L : Ml} {Z : Mz} {Q : Po} {x : Int32} {r : Nat} {s b : Nat → Int32} (hd : 2 ≤ d) (hM : MZ Z) (hR : RSM I r s b) (hF : FXA s b r (-1)) (hB : ¬ (¬ x < 0 ∧ ¬ 11 < x) → Q (some (.int (-2))) I L Z) (hS : (¬ x < 0 ∧ ¬ 11 < x) → ∀ rv : Int32, rv = szV (wmF (foX s b r (-1)) x 4096 0 (-1)) → ∀ sg, Q (some (.int rv)) (iU I 48 31 sg) L Z) : AC E yX6_why cX6_why 6 (some .int) d 0 0 [.ref 48, .int x, .int 1] I L Z Q := by
  refine ac_go (ls := [some (.ref 48), some (.int x), some (.int 1), none, none, none]) (by decide +kernel) (Nat.le_of_ble_eq_true rfl) rfl ?_
  refine aw_iload_n dX6_why_0 rfl ?_
  refine aw_S1 dX6_why_1 cw_X6_121 (by omega) ⟨Nat.le_refl _, Nat.le_refl _⟩ (by decide) (c_X6_isSaying (by omega) (fun c1 => ?_) (fun c1 => ?_))
  · refine aw_if_eq (tgt := 17) dX6_why_4 (by decide) (fun zz => absurd zz (by decide)) (fun _ => ?_)
    refine aw_iload_n dX6_why_7 rfl ?_
    refine aw_i2l dX6_why_8 ?_
    refine aw_lconst (v := 0) dX6_why_9 (by decide) ?_
    refine aw_lconst (v := 1) dX6_why_10 (by decide) ?_
    refine aw_S3 dX6_why_11 cw_X6_73 (by omega) ⟨Nat.le_refl _, Nat.le_refl _⟩ (by decide) (c_X6_in (x := 1) (a := 0) (b := 1) rfl (by decide) (by decide) (fun c11 => ?_) (fun zz => absurd (by decide) zz))
    refine aw_if_ne (tgt := 20) dX6_why_14 (by decide) (fun _ => ?_) (fun zz => absurd zz (by decide))
    refine aw_iconst (v := -1) dX6_why_20 (by decide) ?_
    refine aw_istore_n (ls' := [_, _, _, _, _, _]) dX6_why_21 (by decide) rfl rfl ?_
    refine aw_iconst (v := 0) dX6_why_22 (by decide) ?_
    refine aw_istore (ls' := [_, _, _, _, _, _]) dX6_why_23 (by decide) rfl rfl ?_
    have ez := @iU_slf I 48 31
    exact ez ▸ l_X6_why1 hM hR hF hd 4096 0 (-1) _ _ (by omega) (Or.inl rfl) (hS c1)
  · refine aw_if_eq (tgt := 17) dX6_why_4 (by decide) (fun _ => ?_) (fun zz => absurd zz (by decide))
    refine aw_bipush (v := -2) dX6_why_17 (by decide) ?_
    refine aw_ireturn (ty := .int) dX6_why_19 rfl rfl ?_
    exact hB c1
theorem c_X6_whyX {E : Ev} {d : Nat} {I : Mi} {L : Ml} {Z : Mz} {Q : Po} {x : Int32} {w : Int32}  (hd : 2 ≤ d) (hM : MZ Z) (hw : ¬ (¬ w < 0 ∧ ¬ 1 < w)) (hB : Q (some (.int (-2))) I L Z) : AC E yX6_why cX6_why 6 (some .int) d 0 0 [.ref 48, .int x, .int w] I L Z Q := by
  refine ac_go (ls := [some (.ref 48), some (.int x), some (.int w), none, none, none]) (by decide +kernel) (Nat.le_of_ble_eq_true rfl) rfl ?_
  refine aw_iload_n dX6_why_0 rfl ?_
  refine aw_S1 dX6_why_1 cw_X6_121 (by omega) ⟨Nat.le_refl _, Nat.le_refl _⟩ (by decide) (c_X6_isSaying (by omega) (fun c1 => ?_) (fun c1 => ?_))
  · refine aw_if_eq (tgt := 17) dX6_why_4 (by decide) (fun zz => absurd zz (by decide)) (fun _ => ?_)
    refine aw_iload_n dX6_why_7 rfl ?_
    refine aw_i2l dX6_why_8 ?_
    refine aw_lconst (v := 0) dX6_why_9 (by decide) ?_
    refine aw_lconst (v := 1) dX6_why_10 (by decide) ?_
    refine aw_S3 dX6_why_11 cw_X6_73 (by omega) ⟨Nat.le_refl _, Nat.le_refl _⟩ (by decide) (c_X6_in (x := w) (a := 0) (b := 1) rfl (by decide) (by decide) (fun zz => absurd zz hw) (fun c11 => ?_))
    refine aw_if_ne (tgt := 20) dX6_why_14 (by decide) (fun zz => absurd zz (by decide)) (fun _ => ?_)
    refine aw_bipush (v := -2) dX6_why_17 (by decide) ?_
    refine aw_ireturn (ty := .int) dX6_why_19 rfl rfl ?_
    exact hB
  · refine aw_if_eq (tgt := 17) dX6_why_4 (by decide) (fun _ => ?_) (fun zz => absurd zz (by decide))
    refine aw_bipush (v := -2) dX6_why_17 (by decide) ?_
    refine aw_ireturn (ty := .int) dX6_why_19 rfl rfl ?_
    exact hB
