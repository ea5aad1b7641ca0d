/-! ===== sets of twelve ===== -/
abbrev Bo (x : Int32) : Prop := ∃ j : Nat, j < 12 ∧ x = nI j
def sm (x : Int32) : Prop := ∀ i, 12 ≤ i → tb x i = false
theorem tb_nI {v : Nat} (i : Nat) (h : i < 32) : tb (nI v) i = v.testBit i := by
  unfold tb
  show (BitVec.ofNat 32 v).getLsbD i = _
  rw [BitVec.getLsbD_ofNat]
  simp [h]
theorem tb_out (x : Int32) {i : Nat} (h : 32 ≤ i) : tb x i = false := by
  unfold tb
  exact BitVec.getLsbD_of_ge _ _ h
theorem sm_of {x : Int32} (h : S12 x) : sm x := by
  obtain ⟨v, hv, rfl⟩ := h
  intro i hi
  by_cases h2 : i < 32
  · rw [tb_nI i h2]
    have h12 : (4096 : Nat) = 2 ^ 12 := by decide
    rw [h12] at hv
    exact Nat.testBit_lt_two_pow (Nat.lt_of_lt_of_le hv (Nat.pow_le_pow_right (by decide) hi))
  · exact tb_out _ (by omega)
theorem of_sm {x : Int32} (h : sm x) : S12 x := by
  refine ⟨x.toBitVec.toNat, ?_, ?_⟩
  · have h12 : (4096 : Nat) = 2 ^ 12 := by decide
    rw [h12]
    exact Nat.lt_pow_two_of_testBit _ fun i hi => h i hi
  · apply Int32.toBitVec_inj.mp
    show x.toBitVec = BitVec.ofNat 32 x.toBitVec.toNat
    apply BitVec.eq_of_toNat_eq
    rw [BitVec.toNat_ofNat, Nat.mod_eq_of_lt x.toBitVec.isLt]
theorem sm_iff {x : Int32} : sm x ↔ S12 x := ⟨of_sm, sm_of⟩
theorem sm_ext {x y : Int32} (hx : sm x) (hy : sm y) (h : ∀ i, i < 12 → tb x i = tb y i) : x = y := by
  refine tb_ext fun i _ => ?_
  by_cases h2 : i < 12
  · exact h i h2
  · rw [hx i (by omega), hy i (by omega)]
theorem shl_one : ∀ j, j < 12 → (1 : Int32) <<< (nI j &&& 31) = nI (2 ^ j) := by decide +kernel
theorem tb_one {j : Nat} (hj : j < 12) (i : Nat) : tb ((1 : Int32) <<< (nI j &&& 31)) i = decide (j = i) := by
  rw [shl_one j hj]
  by_cases h : i < 32
  · rw [tb_nI i h, Nat.testBit_two_pow]
  · rw [tb_out _ (by omega)]
    exact (decide_eq_false (by omega)).symm
theorem sm_one {x : Int32} (h : Bo x) : sm ((1 : Int32) <<< (x &&& 31)) := by
  obtain ⟨j, hj, rfl⟩ := h
  intro i hi
  rw [tb_one hj]
  exact decide_eq_false (by omega)
theorem sm_or {x y : Int32} (hx : sm x) (hy : sm y) : sm (x ||| y) := fun i hi => by rw [tb_or, hx i hi, hy i hi]; rfl
theorem sm_and {x y : Int32} (hx : sm x) : sm (x &&& y) := fun i hi => by rw [tb_and, hx i hi]; rfl
theorem rd_up (s b : Nat → Int32) (ah lo : Int32) : ∀ (n i : Nat) (a : Int32) (k : Nat), tb a k = true → tb (rdF s b ah lo n i a) k = true := by
  intro n
  induction n with
  | zero => intro i a k h; exact h
  | succ n ih =>
    intro i a k h
    simp only [rdF]
    refine ih _ _ _ ?_
    by_cases hc : ¬ nI i = lo ∧ s i &&& (ah ^^^ -1) = 0
    · rw [if_pos hc, tb_or, h]; rfl
    · rw [if_neg hc]; exact h
theorem rd_sm {s b : Nat → Int32} {ah lo : Int32} {r : Nat} (hb : ∀ i, i < r → Bo (b i)) : ∀ (n i : Nat) (a : Int32), i + n ≤ r → sm a → sm (rdF s b ah lo n i a) := by
  intro n
  induction n with
  | zero => intro i a _ h; exact h
  | succ n ih =>
    intro i a hi h
    simp only [rdF]
    refine ih _ _ (by omega) ?_
    by_cases hc : ¬ nI i = lo ∧ s i &&& (ah ^^^ -1) = 0
    · rw [if_pos hc]; exact sm_or h (sm_one (hb i (by omega)))
    · rw [if_neg hc]; exact h
def cn : Nat → Int32 → Nat
  | 0, _ => 0
  | k + 1, x => cn k x + (if tb x k = true then 1 else 0)
theorem cn_le (x : Int32) : ∀ k, cn k x ≤ k := by
  intro k
  induction k with
  | zero => exact Nat.le_refl _
  | succ k ih => simp only [cn]; split <;> omega
theorem cn_mono {a b : Int32} : ∀ k, (∀ i, i < k → tb a i = true → tb b i = true) → cn k a ≤ cn k b := by
  intro k
  induction k with
  | zero => intro _; exact Nat.le_refl _
  | succ k ih =>
    intro h
    have := ih (fun i hi => h i (by omega))
    have hk := h k (by omega)
    simp only [cn]
    by_cases h1 : tb a k = true
    · rw [if_pos h1, if_pos (hk h1)]; omega
    · rw [if_neg h1]; split <;> omega
theorem cn_lt {a b : Int32} : ∀ k, (∀ i, i < k → tb a i = true → tb b i = true) → (∃ i, i < k ∧ tb b i = true ∧ ¬ tb a i = true) → cn k a < cn k b := by
  intro k
  induction k with
  | zero => rintro _ ⟨i, hi, _⟩; omega
  | succ k ih =>
    rintro h ⟨i, hi, h1, h2⟩
    have hm := cn_mono k (fun i hi => h i (by omega)) (a := a) (b := b)
    simp only [cn]
    by_cases hk : i = k
    · subst hk
      rw [if_pos h1, if_neg h2]; omega
    · have := ih (fun i hi => h i (by omega)) ⟨i, by omega, h1, h2⟩
      have hk := h k (by omega)
      by_cases h3 : tb a k = true
      · rw [if_pos h3, if_pos (hk h3)]; omega
      · rw [if_neg h3]; split <;> omega
theorem cn_full {a : Int32} : ∀ k, cn k a = k → ∀ i, i < k → tb a i = true := by
  intro k
  induction k with
  | zero => intro _ i hi; omega
  | succ k ih =>
    intro h i hi
    have hl := cn_le a k
    simp only [cn] at h
    by_cases h1 : tb a k = true
    · rw [if_pos h1] at h
      by_cases hk : i = k
      · subst hk; exact h1
      · exact ih (by omega) i (by omega)
    · rw [if_neg h1] at h; omega
/-- a map that only adds -/
def UpM (f : Int32 → Int32) : Prop := ∀ a, sm a → sm (f a) ∧ ∀ k, tb a k = true → tb (f a) k = true
theorem rdX_up {s b : Nat → Int32} {r : Nat} {lo : Int32} (hb : ∀ i, i < r → Bo (b i)) : UpM (rdX s b r lo) := fun a ha => ⟨rd_sm hb r 0 a (by omega) ha, fun k hk => rd_up s b a lo r 0 a k hk⟩
theorem fx_ok {f : Int32 → Int32} (hf : UpM f) : ∀ n a, sm a → 12 ≤ n + cn 12 a → fxP f n a := by
  intro n
  induction n with
  | zero =>
    intro a ha h
    have hl := cn_le a 12
    have hall := cn_full (a := a) 12 (by omega)
    refine sm_ext (hf a ha).1 ha fun i hi => ?_
    rw [hall i hi, (hf a ha).2 i (hall i hi)]
  | succ n ih =>
    intro a ha h
    by_cases he : f a = a
    · exact Or.inl he
    · refine Or.inr (ih (f a) (hf a ha).1 ?_)
      have : cn 12 a < cn 12 (f a) := by
        refine cn_lt 12 (fun i _ => (hf a ha).2 i) (Decidable.byContradiction fun hno => he ?_)
        refine sm_ext (hf a ha).1 ha fun i hi => ?_
        by_cases h1 : tb a i = true
        · rw [h1, (hf a ha).2 i h1]
        · by_cases h2 : tb (f a) i = true
          · exact absurd ⟨i, hi, h2, h1⟩ hno
          · rw [Bool.eq_false_iff.mpr h1, Bool.eq_false_iff.mpr h2]
      omega
theorem fo_sm {f : Int32 → Int32} (hf : UpM f) : ∀ n a, sm a → sm (foF f n a) := by
  intro n
  induction n with
  | zero => intro a h; exact h
  | succ n ih =>
    intro a h
    simp only [foF]
    by_cases he : f a = a
    · rw [if_pos he]; exact h
    · rw [if_neg he]; exact ih _ (hf a h).1
theorem fx_all {s b : Nat → Int32} {r : Nat} {lo x : Int32} (hb : ∀ i, i < r → Bo (b i)) (hx : S12 x) : fxP (rdX s b r lo) 12 x := fx_ok (rdX_up hb) 12 x (sm_of hx) (by omega)
theorem FXA_ok {s b : Nat → Int32} {r : Nat} {lo : Int32} (hb : ∀ i, i < r → Bo (b i)) : FXA s b r lo := fun v hv => fx_all hb ⟨v, hv, rfl⟩
theorem fo_S12 {s b : Nat → Int32} {r : Nat} {lo x : Int32} (hb : ∀ i, i < r → Bo (b i)) (hx : S12 x) : S12 (foX s b r lo x) := of_sm (fo_sm (rdX_up hb) 12 x (sm_of hx))
theorem rd_con {s b s' b' : Nat → Int32} {ah lo : Int32} {r : Nat} (h : ∀ i, i < r → s' i = s i ∧ b' i = b i) : ∀ (n i : Nat) (a : Int32), i + n ≤ r → rdF s' b' ah lo n i a = rdF s b ah lo n i a := by
  intro n
  induction n with
  | zero => intro i a _; rfl
  | succ n ih =>
    intro i a hi
    simp only [rdF]
    rw [(h i (by omega)).1, (h i (by omega)).2]
    exact ih _ _ (by omega)
theorem fo_con {s b s' b' : Nat → Int32} {lo x : Int32} {r : Nat} (h : ∀ i, i < r → s' i = s i ∧ b' i = b i) : foX s' b' r lo x = foX s b r lo x := by
  unfold foX
  have e : (fun a => rdF s' b' a lo r 0 a) = (fun a => rdF s b a lo r 0 a) := by
    funext a
    exact rd_con h r 0 a (by omega)
  rw [e]
