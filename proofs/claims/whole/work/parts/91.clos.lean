/-! ===== what follows, as a closure ===== -/
def Sb (x y : Int32) : Prop := ∀ k, tb x k = true → tb y k = true
theorem Sb.rf (x : Int32) : Sb x x := fun _ h => h
theorem Sb.tr {x y z : Int32} (h : Sb x y) (g : Sb y z) : Sb x z := fun k w => g k (h k w)
theorem Sb.eq {x y : Int32} (h : Sb x y) (g : Sb y x) : x = y := tb_ext fun i _ => by
  have h1 := h i
  have h2 := g i
  revert h1 h2
  cases tb x i <;> cases tb y i <;> simp
theorem sb_z {x y : Int32} : x &&& (y ^^^ -1) = 0 ↔ Sb x y := by
  constructor
  · intro h k hk
    by_cases g : k < 32
    · have e := congrArg (fun z => tb z k) h
      simp only [tb_and, tb_not y g, tb_zero, hk, Bool.true_and] at e
      revert e
      cases tb y k <;> simp
    · rw [tb_out x (by omega)] at hk; cases hk
  · intro h
    refine tb_ext fun i hi => ?_
    rw [tb_and, tb_not y hi, tb_zero]
    have := h i
    revert this
    cases tb x i <;> cases tb y i <;> simp
theorem sb_or1 {x y : Int32} : Sb x (x ||| y) := fun k h => by rw [tb_or, h]; rfl
theorem sb_or2 {x y : Int32} : Sb y (x ||| y) := fun k h => by rw [tb_or, h]; cases tb x k <;> rfl
theorem sb_and1 {x y : Int32} : Sb (x &&& y) x := fun k h => by
  rw [tb_and] at h
  revert h
  cases tb x k <;> simp
theorem sb_and2 {x y : Int32} : Sb (x &&& y) y := fun k h => by
  rw [tb_and] at h
  revert h
  cases tb x k <;> cases tb y k <;> simp
theorem or_of {x y : Int32} {k : Nat} (h : tb (x ||| y) k = true) : tb x k = true ∨ tb y k = true := by
  rw [tb_or] at h
  revert h
  cases tb x k <;> cases tb y k <;> simp
theorem rd_mem (s b : Nat → Int32) (ah lo : Int32) (k : Nat) : ∀ (n i : Nat) (a : Int32), tb (rdF s b ah lo n i a) k = true ↔ (tb a k = true ∨ ∃ j, i ≤ j ∧ j < i + n ∧ ¬ nI j = lo ∧ Sb (s j) ah ∧ tb ((1 : Int32) <<< (b j &&& 31)) k = true) := by
  intro n
  induction n with
  | zero =>
    intro i a
    refine ⟨fun h => Or.inl h, fun h => ?_⟩
    rcases h with h | ⟨j, h1, h2, _⟩
    · exact h
    · omega
  | succ n ih =>
    intro i a
    simp only [rdF]
    rw [ih]
    constructor
    · rintro (h | ⟨j, h1, h2, h3⟩)
      · by_cases hc : ¬ nI i = lo ∧ s i &&& (ah ^^^ -1) = 0
        · rw [if_pos hc] at h
          rcases or_of h with h | h
          · exact Or.inl h
          · exact Or.inr ⟨i, Nat.le_refl _, by omega, hc.1, sb_z.mp hc.2, h⟩
        · rw [if_neg hc] at h; exact Or.inl h
      · exact Or.inr ⟨j, by omega, by omega, h3⟩
    · rintro (h | ⟨j, h1, h2, h3, h4, h5⟩)
      · left
        split
        · exact sb_or1 k h
        · exact h
      · by_cases e : j = i
        · subst e
          left
          rw [if_pos ⟨h3, sb_z.mpr h4⟩]
          exact sb_or2 k h5
        · exact Or.inr ⟨j, by omega, by omega, h3, h4, h5⟩
theorem rdX_mem {s b : Nat → Int32} {r : Nat} {lo a : Int32} {k : Nat} : tb (rdX s b r lo a) k = true ↔ (tb a k = true ∨ ∃ j, j < r ∧ ¬ nI j = lo ∧ Sb (s j) a ∧ tb ((1 : Int32) <<< (b j &&& 31)) k = true) := by
  unfold rdX
  rw [rd_mem]
  constructor
  · rintro (h | ⟨j, _, h2, h3⟩)
    · exact Or.inl h
    · exact Or.inr ⟨j, by omega, h3⟩
  · rintro (h | ⟨j, h2, h3⟩)
    · exact Or.inl h
    · exact Or.inr ⟨j, by omega, by omega, h3⟩
theorem rdX_ex {s b : Nat → Int32} {r : Nat} {lo a : Int32} : Sb a (rdX s b r lo a) := fun _ h => rdX_mem.mpr (Or.inl h)
theorem rdX_mo {s b : Nat → Int32} {r : Nat} {lo a c : Int32} (h : Sb a c) : Sb (rdX s b r lo a) (rdX s b r lo c) := fun k w => by
  rcases rdX_mem.mp w with w | ⟨j, w1, w2, w3, w4⟩
  · exact rdX_mem.mpr (Or.inl (h k w))
  · exact rdX_mem.mpr (Or.inr ⟨j, w1, w2, w3.tr h, w4⟩)
theorem foF_ex {f : Int32 → Int32} (hf : ∀ a, Sb a (f a)) : ∀ n a, Sb a (foF f n a) := by
  intro n
  induction n with
  | zero => intro a; exact Sb.rf a
  | succ n ih =>
    intro a
    simp only [foF]
    split
    · exact Sb.rf a
    · exact (hf a).tr (ih _)
theorem foF_min {f : Int32 → Int32} {y : Int32} (hf : ∀ a, Sb a y → Sb (f a) y) : ∀ n a, Sb a y → Sb (foF f n a) y := by
  intro n
  induction n with
  | zero => intro a h; exact h
  | succ n ih =>
    intro a h
    simp only [foF]
    split
    · exact h
    · exact ih _ (hf a h)
theorem foF_fix {f : Int32 → Int32} : ∀ n a, fxP f n a → f (foF f n a) = foF f n a := by
  intro n
  induction n with
  | zero => intro a h; exact h
  | succ n ih =>
    intro a h
    simp only [foF]
    by_cases e : f a = a
    · rw [if_pos e]; exact e
    · rw [if_neg e]
      exact ih _ (h.resolve_left e)
section CLO
variable {s b : Nat → Int32} {r : Nat} {lo : Int32}
theorem fo_ex (x : Int32) : Sb x (foX s b r lo x) := foF_ex (fun _ => rdX_ex) 12 x
theorem fo_fix {x : Int32} (hb : ∀ i, i < r → Bo (b i)) (hx : sm x) : rdX s b r lo (foX s b r lo x) = foX s b r lo x := foF_fix 12 x (fx_all hb (of_sm hx))
theorem fo_min {x y : Int32} (h : Sb x y) (hy : ∀ j, j < r → ¬ nI j = lo → Sb (s j) y → Sb ((1 : Int32) <<< (b j &&& 31)) y) : Sb (foX s b r lo x) y := by
  refine foF_min (f := fun a => rdF s b a lo r 0 a) (fun a ha k hk => ?_) 12 x h
  rcases rdX_mem.mp hk with w | ⟨j, w1, w2, w3, w4⟩
  · exact ha k w
  · exact hy j w1 w2 (w3.tr ha) k w4
theorem fo_cl {x : Int32} (hb : ∀ i, i < r → Bo (b i)) (hx : sm x) : ∀ j, j < r → ¬ nI j = lo → Sb (s j) (foX s b r lo x) → Sb ((1 : Int32) <<< (b j &&& 31)) (foX s b r lo x) := fun j h1 h2 h3 k h4 => by
  rw [← fo_fix hb hx]
  exact rdX_mem.mpr (Or.inr ⟨j, h1, h2, h3, h4⟩)
theorem fo_mo {x y : Int32} (hb : ∀ i, i < r → Bo (b i)) (hy : sm y) (h : Sb x y) : Sb (foX s b r lo x) (foX s b r lo y) := fo_min (h.tr (fo_ex y)) (fo_cl hb hy)
theorem or_mem (b : Nat → Int32) (k : Nat) : ∀ (n i : Nat) (a : Int32), tb (orF b n i a) k = true ↔ (tb a k = true ∨ ∃ j, i ≤ j ∧ j < i + n ∧ tb ((1 : Int32) <<< (b j &&& 31)) k = true) := by
  intro n
  induction n with
  | zero =>
    intro i a
    refine ⟨fun h => Or.inl h, fun h => ?_⟩
    rcases h with h | ⟨j, h1, h2, _⟩
    · exact h
    · omega
  | succ n ih =>
    intro i a
    simp only [orF]
    rw [ih]
    constructor
    · rintro (h | ⟨j, h1, h2, h3⟩)
      · rcases or_of h with h | h
        · exact Or.inl h
        · exact Or.inr ⟨i, Nat.le_refl _, by omega, h⟩
      · exact Or.inr ⟨j, by omega, by omega, h3⟩
    · rintro (h | ⟨j, h1, h2, h3⟩)
      · exact Or.inl (sb_or1 k h)
      · by_cases e : j = i
        · subst e; exact Or.inl (sb_or2 k h3)
        · exact Or.inr ⟨j, by omega, by omega, h3⟩
theorem un_mem (b : Nat → Int32) (k : Nat) : ∀ (n i : Nat) (a : Int32), tb (unF b n i a) k = true ↔ (tb a k = true ∨ ∃ j, i ≤ j ∧ j < i + n ∧ tb (b j) k = true) := by
  intro n
  induction n with
  | zero =>
    intro i a
    refine ⟨fun h => Or.inl h, fun h => ?_⟩
    rcases h with h | ⟨j, h1, h2, _⟩
    · exact h
    · omega
  | succ n ih =>
    intro i a
    simp only [unF]
    rw [ih]
    constructor
    · rintro (h | ⟨j, h1, h2, h3⟩)
      · rcases or_of h with h | h
        · exact Or.inl h
        · exact Or.inr ⟨i, Nat.le_refl _, by omega, h⟩
      · exact Or.inr ⟨j, by omega, by omega, h3⟩
    · rintro (h | ⟨j, h1, h2, h3⟩)
      · exact Or.inl (sb_or1 k h)
      · by_cases e : j = i
        · subst e; exact Or.inl (sb_or2 k h3)
        · exact Or.inr ⟨j, by omega, by omega, h3⟩
/-- only what is borne comes in -/
theorem fo_borne (x : Int32) : Sb (foX s b r lo x) (x ||| orF b r 0 0) := by
  refine fo_min sb_or1 (fun j hj _ _ k hk => sb_or2 k ?_)
  exact (or_mem b k r 0 0).mpr (Or.inr ⟨j, by omega, by omega, hk⟩)
/-- only what is used counts -/
theorem fo_used {x : Int32} (hb : ∀ i, i < r → Bo (b i)) (hx : sm x) : Sb (foX s b r lo x) (x ||| foX s b r lo (x &&& unF s r 0 0)) := by
  refine fo_min sb_or1 (fun j hj hl hs => ?_)
  refine (fo_cl hb (sm_and hx) j hj hl (fun k hk => ?_)).tr sb_or2
  rcases or_of (hs k hk) with w | w
  · refine fo_ex _ k ?_
    rw [tb_and, w, (un_mem s k r 0 0).mpr (Or.inr ⟨j, by omega, by omega, hk⟩)]
    rfl
  · exact w
end CLO
/-! ===== sets as numbers ===== -/
def kA (v : Nat) : Nat := cn 12 (nI v)
def kB (v : Nat) : Nat := 12 - cn 12 (nI v)
theorem bc_cn : ∀ v, v < 4096 → bcV (nI v) = nI (cn 12 (nI v)) := bw64 (P := fun v => bcV (nI v) = nI (cn 12 (nI v))) (by decide +kernel)
theorem bc_pc : ∀ v, v < 4096 → ((1 : Int32) <<< (bcV (nI v) &&& 31) = nI (2 ^ pcN 32 v) ∧ 2 ^ pcN 32 v ≤ 4096) := bw64 (P := fun v => ((1 : Int32) <<< (bcV (nI v) &&& 31) = nI (2 ^ pcN 32 v) ∧ 2 ^ pcN 32 v ≤ 4096)) (by decide +kernel)
theorem n13 : ∀ a, a < 13 → ∀ c, c < 13 → ((nI a ≤ nI c ↔ a ≤ c) ∧ (nI a < nI c ↔ a < c)) := by decide +kernel
theorem bc_le {v w : Nat} (hv : v < 4096) (hw : w < 4096) : bcV (nI v) ≤ bcV (nI w) ↔ kA v ≤ kA w := by
  rw [bc_cn v hv, bc_cn w hw]
  exact (n13 _ (by have := cn_le (nI v) 12; omega) _ (by have := cn_le (nI w) 12; omega)).1
theorem bc_lt {v w : Nat} (hv : v < 4096) (hw : w < 4096) : bcV (nI v) < bcV (nI w) ↔ kA v < kA w := by
  rw [bc_cn v hv, bc_cn w hw]
  exact (n13 _ (by have := cn_le (nI v) 12; omega) _ (by have := cn_le (nI w) 12; omega)).2
theorem nI_inj {v w : Nat} (hv : v < 4096) (hw : w < 4096) (h : nI v = nI w) : v = w := (nI_eq (by omega) (by omega)).mp h
theorem sb_num {v w : Nat} (hv : v < 4096) (hw : w < 4096) : Sb (nI v) (nI w) ↔ sbN 32 w v := by
  rw [sb_iff 32 w v (by omega)]
  constructor
  · intro h i hi
    by_cases g : i < 32
    · have := h i (by rw [tb_nI i g]; exact hi)
      rwa [tb_nI i g] at this
    · rw [Nat.testBit_lt_two_pow (Nat.lt_of_lt_of_le (show v < 2 ^ 32 by omega) (Nat.pow_le_pow_right (by decide) (by omega)))] at hi
      cases hi
  · intro h i hi
    by_cases g : i < 32
    · rw [tb_nI i g] at hi ⊢; exact h i hi
    · rw [tb_out _ (by omega)] at hi; cases hi
theorem sb_kA {v w : Nat} (h : Sb (nI v) (nI w)) : kA v ≤ kA w := cn_mono 12 fun i _ => h i
theorem sb_kE {v w : Nat} (hv : v < 4096) (hw : w < 4096) (h : Sb (nI v) (nI w)) (e : kA v = kA w) : v = w := by
  refine nI_inj hv hw (sm_ext (sm_of ⟨v, hv, rfl⟩) (sm_of ⟨w, hw, rfl⟩) fun i hi => ?_)
  refine Decidable.byContradiction fun hn => ?_
  have := cn_lt (a := nI v) (b := nI w) 12 (fun i _ => h i) ⟨i, hi, ?_⟩
  · unfold kA at e; omega
  · have := h i
    revert hn this
    cases tb (nI v) i <;> cases tb (nI w) i <;> simp
theorem sb_le {v w : Nat} (hv : v < 4096) (hw : w < 4096) (h : Sb (nI v) (nI w)) : v ≤ w := (sb_cmpN 32 w v (by omega) ((sb_num hv hw).mp h)).1
theorem sb_or_add {v w : Nat} (hv : v < 4096) (hw : w < 4096) (h : ∀ k, tb (nI v) k = true → ¬ tb (nI w) k = true) : nI v ||| nI w = nI (v + w) := by
  apply Int32.toBitVec_inj.mp
  rw [Int32.toBitVec_or]
  rw [← BitVec.add_eq_or_of_and_eq_zero]
  · apply BitVec.eq_of_toNat_eq
    rw [BitVec.toNat_add, nI_bv, nI_bv, nI_bv]
    omega
  · refine BitVec.eq_of_getLsbD_eq fun i hi => ?_
    rw [BitVec.getLsbD_and]
    have := h i
    unfold tb at this
    revert this
    cases (nI v).toBitVec.getLsbD i <;> cases (nI w).toBitVec.getLsbD i <;> simp
theorem nx_sb : ∀ k M s, sbN k M s → sbN k M (nxN k M s) := by
  intro k
  induction k with
  | zero => intro M s _; rfl
  | succ k ih =>
    intro M s h
    have g := ih (M / 2) (s / 2) h.2
    by_cases hM : M % 2 = 1
    · by_cases hs : s % 2 = 0
      · simp only [nxN, if_pos hM, if_pos hs, sbN]
        rw [show (s + 1) / 2 = s / 2 by omega]
        exact ⟨fun _ => hM, h.2⟩
      · simp only [nxN, if_pos hM, if_neg hs, sbN]
        rw [show 2 * nxN k (M / 2) (s / 2) / 2 = nxN k (M / 2) (s / 2) by omega]
        exact ⟨by omega, g⟩
    · simp only [nxN, if_neg hM, sbN]
      rw [show 2 * nxN k (M / 2) (s / 2) / 2 = nxN k (M / 2) (s / 2) by omega]
      exact ⟨by omega, g⟩
