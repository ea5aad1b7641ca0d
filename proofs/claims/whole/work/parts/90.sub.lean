/-! ===== sets that are gone through ===== -/
def nxN : Nat → Nat → Nat → Nat
  | 0, _, _ => 0
  | k + 1, M, s => if M % 2 = 1 then (if s % 2 = 0 then s + 1 else 2 * nxN k (M / 2) (s / 2)) else 2 * nxN k (M / 2) (s / 2)
def rkN : Nat → Nat → Nat → Nat
  | 0, _, _ => 0
  | k + 1, M, s => if M % 2 = 1 then s % 2 + 2 * rkN k (M / 2) (s / 2) else rkN k (M / 2) (s / 2)
def pcN : Nat → Nat → Nat
  | 0, _ => 0
  | k + 1, M => M % 2 + pcN k (M / 2)
def sbN : Nat → Nat → Nat → Prop
  | 0, _, s => s = 0
  | k + 1, M, s => (s % 2 = 1 → M % 2 = 1) ∧ sbN k (M / 2) (s / 2)
theorem sb_0 : ∀ k M, sbN k M 0 ∧ rkN k M 0 = 0 := by
  intro k
  induction k with
  | zero => intro M; exact ⟨rfl, rfl⟩
  | succ k ih =>
    intro M
    obtain ⟨h1, h2⟩ := ih (M / 2)
    refine ⟨⟨by omega, h1⟩, ?_⟩
    simp only [rkN, Nat.zero_div, h2]
    split <;> rfl
theorem rk_lt : ∀ k M s, sbN k M s → rkN k M s < 2 ^ pcN k M := by
  intro k
  induction k with
  | zero => intro M s _; exact Nat.one_pos
  | succ k ih =>
    intro M s h
    have g := ih (M / 2) (s / 2) h.2
    simp only [rkN, pcN]
    by_cases hM : M % 2 = 1
    · rw [if_pos hM, hM, Nat.pow_add, Nat.pow_one]; omega
    · rw [if_neg hM, show M % 2 = 0 by omega, Nat.zero_add]; exact g
theorem nx_ok : ∀ k M s, sbN k M s → rkN k M s + 1 < 2 ^ pcN k M → sbN k M (nxN k M s) ∧ rkN k M (nxN k M s) = rkN k M s + 1 := by
  intro k
  induction k with
  | zero => intro M s _ h; simp only [rkN, pcN, Nat.pow_zero] at h; omega
  | succ k ih =>
    intro M s h hl
    by_cases hM : M % 2 = 1
    · by_cases hs : s % 2 = 0
      · simp only [nxN, rkN, if_pos hM, if_pos hs, sbN]
        rw [show (s + 1) / 2 = s / 2 by omega]
        refine ⟨⟨fun _ => hM, h.2⟩, by omega⟩
      · simp only [rkN, pcN, if_pos hM] at hl
        rw [hM, Nat.pow_add, Nat.pow_one] at hl
        obtain ⟨g1, g2⟩ := ih (M / 2) (s / 2) h.2 (by omega)
        simp only [nxN, rkN, if_pos hM, if_neg hs, sbN]
        rw [show 2 * nxN k (M / 2) (s / 2) / 2 = nxN k (M / 2) (s / 2) by omega, g2]
        exact ⟨⟨by omega, g1⟩, by omega⟩
    · simp only [rkN, pcN, if_neg hM] at hl
      rw [show M % 2 = 0 by omega, Nat.zero_add] at hl
      obtain ⟨g1, g2⟩ := ih (M / 2) (s / 2) h.2 hl
      simp only [nxN, rkN, if_neg hM, sbN]
      rw [show 2 * nxN k (M / 2) (s / 2) / 2 = nxN k (M / 2) (s / 2) by omega, g2]
      exact ⟨⟨by omega, g1⟩, rfl⟩
theorem rk_mono : ∀ k M s t, sbN k M s → sbN k M t → (s < t → rkN k M s < rkN k M t) ∧ (s = t → rkN k M s = rkN k M t) := by
  intro k
  induction k with
  | zero => intro M s t h1 h2; simp only [sbN] at h1 h2; exact ⟨by omega, fun _ => rfl⟩
  | succ k ih =>
    intro M s t h1 h2
    refine ⟨fun hst => ?_, fun e => by rw [e]⟩
    obtain ⟨g1, g2⟩ := ih (M / 2) (s / 2) (t / 2) h1.2 h2.2
    simp only [rkN]
    by_cases hM : M % 2 = 1
    · rw [if_pos hM, if_pos hM]
      by_cases e : s / 2 = t / 2
      · have := g2 e; omega
      · have := g1 (by omega); omega
    · rw [if_neg hM, if_neg hM]
      have a1 : ¬ s % 2 = 1 := fun w => hM (h1.1 w)
      have a2 : ¬ t % 2 = 1 := fun w => hM (h2.1 w)
      exact g1 (by omega)
theorem rk_iff {k M s t : Nat} (h1 : sbN k M s) (h2 : sbN k M t) : s < t ↔ rkN k M s < rkN k M t := by
  constructor
  · exact (rk_mono k M s t h1 h2).1
  · intro h
    rcases Nat.lt_trichotomy s t with g | g | g
    · exact g
    · have := (rk_mono k M s t h1 h2).2 g; omega
    · have := (rk_mono k M t s h2 h1).1 g; omega
theorem half_eq {u v : Nat} (h1 : u / 2 = v / 2) (h2 : u % 2 = v % 2) : u = v := by omega
theorem and_mod2 (a b : Nat) : (a &&& b) % 2 = if a % 2 = 1 ∧ b % 2 = 1 then 1 else 0 := by
  by_cases h : a % 2 = 1 ∧ b % 2 = 1
  · rw [if_pos h]; exact Nat.and_mod_two_eq_one.mpr h
  · rw [if_neg h]
    have : ¬ (a &&& b) % 2 = 1 := fun w => h (Nat.and_mod_two_eq_one.mp w)
    omega
theorem sb_cmpN : ∀ k M s, M < 2 ^ k → sbN k M s → s ≤ M ∧ (2 ^ k - 1 - (M - s)) &&& M = s := by
  intro k
  induction k with
  | zero => intro M s hM h; simp only [sbN] at h; have : M = 0 := by simpa using hM
            subst this; subst h; exact ⟨Nat.le_refl _, rfl⟩
  | succ k ih =>
    intro M s hM h
    have hP : 2 ^ (k + 1) = 2 * 2 ^ k := by rw [Nat.pow_succ]; omega
    rw [hP] at hM ⊢
    obtain ⟨g1, g2⟩ := ih (M / 2) (s / 2) (by omega) h.2
    have hle : s ≤ M := by
      have := h.1
      omega
    have e2 : (2 * 2 ^ k - 1 - (M - s)) / 2 = 2 ^ k - 1 - (M / 2 - s / 2) := by
      have := h.1
      have hpos : 0 < 2 ^ k := Nat.two_pow_pos k
      omega
    refine ⟨hle, half_eq ?_ ?_⟩
    · rw [Nat.and_div_two, e2]; exact g2
    · rw [and_mod2]
      have := h.1
      by_cases hc : (2 * 2 ^ k - 1 - (M - s)) % 2 = 1 ∧ M % 2 = 1
      · rw [if_pos hc]; omega
      · rw [if_neg hc]
        have hpos : 0 < 2 ^ k := Nat.two_pow_pos k
        omega
theorem nx_eq : ∀ k M s, M < 2 ^ k → sbN k M s → ((2 ^ k - M + s) % 2 ^ k) &&& M = nxN k M s := by
  intro k
  induction k with
  | zero => intro M s hM h; have : M = 0 := by simpa using hM
            subst this; simp [nxN]
  | succ k ih =>
    intro M s hM h
    have hP : 2 ^ (k + 1) = 2 * 2 ^ k := by rw [Nat.pow_succ]; omega
    have hpos : 0 < 2 ^ k := Nat.two_pow_pos k
    rw [hP] at hM ⊢
    have g := ih (M / 2) (s / 2) (by omega) h.2
    obtain ⟨c1, c2⟩ := sb_cmpN k (M / 2) (s / 2) (by omega) h.2
    have hle : s ≤ M := by have := h.1; omega
    have hb := h.1
    have eY : (2 * 2 ^ k - M + s) % (2 * 2 ^ k) = if s = M then 0 else 2 * 2 ^ k - (M - s) := by
      by_cases e : s = M
      · rw [if_pos e, show 2 * 2 ^ k - M + s = 2 * 2 ^ k by omega, Nat.mod_self]
      · rw [if_neg e, Nat.mod_eq_of_lt (by omega)]; omega
    have eZ : (2 ^ k - M / 2 + s / 2) % 2 ^ k = if s / 2 = M / 2 then 0 else 2 ^ k - (M / 2 - s / 2) := by
      by_cases e : s / 2 = M / 2
      · rw [if_pos e, show 2 ^ k - M / 2 + s / 2 = 2 ^ k by omega, Nat.mod_self]
      · rw [if_neg e, Nat.mod_eq_of_lt (by omega)]; omega
    rw [eZ] at g
    rw [eY]
    by_cases hM1 : M % 2 = 1
    · by_cases hs : s % 2 = 0
      · simp only [nxN, if_pos hM1, if_pos hs]
        rw [if_neg (by omega)]
        refine half_eq ?_ ?_
        · rw [Nat.and_div_two, show (2 * 2 ^ k - (M - s)) / 2 = 2 ^ k - 1 - (M / 2 - s / 2) by omega, c2]; omega
        · rw [and_mod2, if_pos (by omega)]; omega
      · simp only [nxN, if_pos hM1, if_neg hs]
        refine half_eq ?_ ?_
        · rw [Nat.and_div_two, show 2 * nxN k (M / 2) (s / 2) / 2 = nxN k (M / 2) (s / 2) by omega, ← g]
          congr 1
          by_cases e : s = M
          · rw [if_pos e, if_pos (by omega)]
          · rw [if_neg e, if_neg (by omega)]; omega
        · rw [and_mod2, if_neg (by split <;> omega)]; omega
    · simp only [nxN, if_neg hM1]
      refine half_eq ?_ ?_
      · rw [Nat.and_div_two, show 2 * nxN k (M / 2) (s / 2) / 2 = nxN k (M / 2) (s / 2) by omega, ← g]
        congr 1
        by_cases e : s = M
        · rw [if_pos e, if_pos (by omega)]
        · rw [if_neg e, if_neg (by omega)]; omega
      · rw [and_mod2, if_neg (by omega)]; omega
theorem nI_bv (v : Nat) : (nI v).toBitVec.toNat = v % 2 ^ 32 := by
  show (BitVec.ofNat 32 v).toNat = _
  rw [BitVec.toNat_ofNat]
theorem sub_and {s M : Nat} (hs : s < 2 ^ 32) (hM : M < 2 ^ 32) : (nI s - nI M) &&& nI M = nI (((2 ^ 32 - M + s) % 2 ^ 32) &&& M) := by
  apply Int32.toBitVec_inj.mp
  apply BitVec.eq_of_toNat_eq
  rw [Int32.toBitVec_and, BitVec.toNat_and, Int32.toBitVec_sub, BitVec.toNat_sub, nI_bv, nI_bv, nI_bv, Nat.mod_eq_of_lt hs, Nat.mod_eq_of_lt hM]
  rw [Nat.mod_eq_of_lt (Nat.lt_of_le_of_lt Nat.and_le_right hM)]
theorem set_after {s M : Nat} (hM : M < 2 ^ 32) (h : sbN 32 M s) : (nI s - nI M) &&& nI M = nI (nxN 32 M s) := by
  have hs := (sb_cmpN 32 M s hM h).1
  rw [sub_and (by omega) hM, nx_eq 32 M s hM h]
theorem sb_iff : ∀ k M s, s < 2 ^ k → (sbN k M s ↔ ∀ i, s.testBit i = true → M.testBit i = true) := by
  intro k
  induction k with
  | zero => intro M s hs; have : s = 0 := by simpa using hs
            subst this; simp [sbN]
  | succ k ih =>
    intro M s hs
    have hP : 2 ^ (k + 1) = 2 * 2 ^ k := by rw [Nat.pow_succ]; omega
    simp only [sbN]
    rw [ih (M / 2) (s / 2) (by omega)]
    constructor
    · rintro ⟨h1, h2⟩ i hi
      cases i with
      | zero => simp only [Nat.testBit_zero, decide_eq_true_eq] at hi ⊢; exact h1 hi
      | succ i => rw [Nat.testBit_succ] at hi ⊢; exact h2 i hi
    · intro h
      refine ⟨fun w => ?_, fun i hi => ?_⟩
      · have := h 0 (by simpa [Nat.testBit_zero] using w)
        simpa [Nat.testBit_zero] using this
      · rw [← Nat.testBit_succ] at hi ⊢; exact h (i + 1) hi
/-- going through them, taking better ones alone -/
def glN (M c : Nat) (ok : Nat → Bool) (kp : Nat → Nat) : Nat → Nat → Nat → Nat
  | 0, _, f => f
  | n + 1, s, f => glN M c ok kp n (nxN 32 M s) (if kp (s + c) < kp f ∧ ok (s + c) then s + c else f)
def leK (kp : Nat → Nat) (a b : Nat) : Prop := kp a < kp b ∨ (kp a = kp b ∧ a ≤ b)
theorem leK_anti {kp : Nat → Nat} {a b : Nat} (h1 : leK kp a b) (h2 : leK kp b a) : a = b := by
  rcases h1 with h1 | h1 <;> rcases h2 with h2 | h2 <;> omega
theorem gl_spec {M c : Nat} {ok : Nat → Bool} {kp : Nat → Nat} : ∀ (n s f : Nat), (0 < n → sbN 32 M s ∧ rkN 32 M s + n = 2 ^ pcN 32 M) → ok f → (∀ t, sbN 32 M t → ok (t + c) → (0 < n → rkN 32 M t < rkN 32 M s) → leK kp f (t + c)) → (∀ t, sbN 32 M t → ok (t + c) → 0 < n → rkN 32 M s ≤ rkN 32 M t → kp (t + c) = kp f → f ≤ t + c) → ok (glN M c ok kp n s f) ∧ (glN M c ok kp n s f = f ∨ ∃ t, sbN 32 M t ∧ glN M c ok kp n s f = t + c) ∧ ∀ t, sbN 32 M t → ok (t + c) → leK kp (glN M c ok kp n s f) (t + c) := by
  intro n
  induction n with
  | zero => intro s f _ hf hv _; exact ⟨hf, Or.inl rfl, fun t h1 h2 => hv t h1 h2 (fun w => absurd w (by omega))⟩
  | succ n ih =>
    intro s f hs hf hv hp
    obtain ⟨hs1, hs2⟩ := hs (by omega)
    have hnx : 0 < n → sbN 32 M (nxN 32 M s) ∧ rkN 32 M (nxN 32 M s) = rkN 32 M s + 1 := fun w => nx_ok 32 M s hs1 (by omega)
    simp only [glN]
    have h0 : (glN M c ok kp n (nxN 32 M s) (if kp (s + c) < kp f ∧ ok (s + c) then s + c else f)) = (glN M c ok kp n (nxN 32 M s) (if kp (s + c) < kp f ∧ ok (s + c) then s + c else f)) := rfl
    have last : ∀ t, sbN 32 M t → ¬ 0 < n → rkN 32 M t ≤ rkN 32 M s := fun t ht w => by have := rk_lt 32 M t ht; omega
    by_cases hc : kp (s + c) < kp f ∧ ok (s + c)
    · rw [if_pos hc]
      refine (fun (H : ok (glN M c ok kp n (nxN 32 M s) (s + c)) ∧ (glN M c ok kp n (nxN 32 M s) (s + c) = s + c ∨ ∃ t, sbN 32 M t ∧ glN M c ok kp n (nxN 32 M s) (s + c) = t + c) ∧ ∀ t, sbN 32 M t → ok (t + c) → leK kp (glN M c ok kp n (nxN 32 M s) (s + c)) (t + c)) => ⟨H.1, Or.inr (H.2.1.elim (fun r2 => ⟨s, hs1, r2⟩) (fun r2 => r2)), H.2.2⟩) (ih (nxN 32 M s) (s + c) (fun w => ⟨(hnx w).1, by rw [(hnx w).2]; omega⟩) hc.2 (fun t ht ot hr => ?_) (fun t ht ot w hr ek => ?_))
      · rcases Nat.lt_trichotomy (rkN 32 M t) (rkN 32 M s) with g | g | g
        · have := hv t ht ot (fun _ => g)
          rcases this with w | w
          · exact Or.inl (by omega)
          · exact Or.inl (by omega)
        · have : t = s := by
            rcases Nat.lt_trichotomy t s with q | q | q
            · have := (rk_iff ht hs1).mp q; omega
            · exact q
            · have := (rk_iff hs1 ht).mp q; omega
          subst this
          exact Or.inr ⟨rfl, Nat.le_refl _⟩
        · exfalso
          by_cases w : 0 < n
          · have := hr w; rw [(hnx w).2] at this; omega
          · have := last t ht w; omega
      · rw [(hnx w).2] at hr
        have := (rk_iff hs1 ht).mpr (by omega)
        omega
    · rw [if_neg hc]
      refine ih (nxN 32 M s) f (fun w => ⟨(hnx w).1, by rw [(hnx w).2]; omega⟩) hf (fun t ht ot hr => ?_) (fun t ht ot w hr ek => ?_)
      · rcases Nat.lt_trichotomy (rkN 32 M t) (rkN 32 M s) with g | g | g
        · exact hv t ht ot (fun _ => g)
        · have : t = s := by
            rcases Nat.lt_trichotomy t s with q | q | q
            · have := (rk_iff ht hs1).mp q; omega
            · exact q
            · have := (rk_iff hs1 ht).mp q; omega
          subst this
          have hk : ¬ kp (t + c) < kp f := fun w => hc ⟨w, ot⟩
          by_cases ek : kp (t + c) = kp f
          · exact Or.inr ⟨ek.symm, hp t ht ot (by omega) (Nat.le_refl _) ek⟩
          · exact Or.inl (by omega)
        · exfalso
          by_cases w : 0 < n
          · have := hr w; rw [(hnx w).2] at this; omega
          · have := last t ht w; omega
      · rw [(hnx w).2] at hr
        exact hp t ht ot (by omega) (by omega) ek
theorem gl_all {M c f0 : Nat} {ok : Nat → Bool} {kp : Nat → Nat} (h0 : ok f0) (ht : ∀ t, sbN 32 M t → ok (t + c) → kp (t + c) = kp f0 → f0 ≤ t + c) : ok (glN M c ok kp (2 ^ pcN 32 M) 0 f0) ∧ (glN M c ok kp (2 ^ pcN 32 M) 0 f0 = f0 ∨ ∃ t, sbN 32 M t ∧ glN M c ok kp (2 ^ pcN 32 M) 0 f0 = t + c) ∧ ∀ t, sbN 32 M t → ok (t + c) → leK kp (glN M c ok kp (2 ^ pcN 32 M) 0 f0) (t + c) := by
  obtain ⟨s1, s2⟩ := sb_0 32 M
  refine gl_spec _ 0 f0 (fun _ => ⟨s1, by rw [s2]; omega⟩) h0 (fun t h1 h2 hr => ?_) (fun t h1 h2 _ _ ek => ht t h1 h2 ek)
  have := hr (Nat.two_pow_pos _)
  rw [s2] at this
  omega
/-- going up through all -/
def gaN (ok : Nat → Bool) (kp : Nat → Nat) : Nat → Nat → Option Nat → Option Nat
  | 0, _, f => f
  | n + 1, j, none => gaN ok kp n (j + 1) (if ok j then some j else none)
  | n + 1, j, some x => gaN ok kp n (j + 1) (if ok j ∧ kp j < kp x then some j else some x)
def gaP (ok : Nat → Bool) (kp : Nat → Nat) (T : Nat) : Option Nat → Prop
  | none => ∀ x, x < T → ¬ ok x
  | some y => ok y ∧ y < T ∧ ∀ x, x < T → ok x → leK kp y x
theorem ga_spec {ok : Nat → Bool} {kp : Nat → Nat} {T : Nat} : ∀ (n j : Nat) (f : Option Nat), j + n = T → gaP ok kp j f → gaP ok kp T (gaN ok kp n j f) := by
  intro n
  induction n with
  | zero => intro j f hj h; have : j = T := by omega
            subst this; exact h
  | succ n ih =>
    intro j f hj h
    match f, h with
    | none, h =>
      simp only [gaN]
      refine ih (j + 1) _ (by omega) ?_
      by_cases ho : ok j
      · rw [if_pos ho]
        refine ⟨ho, by omega, fun x hx ox => ?_⟩
        by_cases e : x = j
        · subst e; exact Or.inr ⟨rfl, Nat.le_refl _⟩
        · exact absurd ox (h x (by omega))
      · rw [if_neg ho]
        intro x hx
        by_cases e : x = j
        · subst e; exact ho
        · exact h x (by omega)
    | some y, h =>
      simp only [gaN]
      refine ih (j + 1) _ (by omega) ?_
      obtain ⟨h1, h2, h3⟩ := h
      by_cases ho : ok j ∧ kp j < kp y
      · rw [if_pos ho]
        refine ⟨ho.1, by omega, fun x hx ox => ?_⟩
        by_cases e : x = j
        · subst e; exact Or.inr ⟨rfl, Nat.le_refl _⟩
        · rcases h3 x (by omega) ox with w | w
          · exact Or.inl (by omega)
          · exact Or.inl (by omega)
      · rw [if_neg ho]
        refine ⟨h1, by omega, fun x hx ox => ?_⟩
        by_cases e : x = j
        · subst e
          have : ¬ kp x < kp y := fun w => ho ⟨ox, w⟩
          by_cases ek : kp y = kp x
          · exact Or.inr ⟨ek, by omega⟩
          · exact Or.inl (by omega)
        · exact h3 x (by omega) ox
/-- going down through all -/
def gdN (ok : Nat → Bool) (kp : Nat → Nat) : Nat → Nat → Nat
  | 0, f => f
  | n + 1, f => gdN ok kp n (if ok n ∧ ¬ kp f < kp n then n else f)
theorem gd_spec {ok : Nat → Bool} {kp : Nat → Nat} {T : Nat} : ∀ (n f : Nat), n ≤ T → ok f → f < T → (∀ x, n ≤ x → x < T → ok x → leK kp f x) → ok (gdN ok kp n f) ∧ gdN ok kp n f < T ∧ ∀ x, x < T → ok x → leK kp (gdN ok kp n f) x := by
  intro n
  induction n with
  | zero => intro f _ hf h1 h; exact ⟨hf, h1, fun x hx => h x (Nat.zero_le _) hx⟩
  | succ n ih =>
    intro f hn hf h1 h
    simp only [gdN]
    by_cases hc : ok n ∧ ¬ kp f < kp n
    · rw [if_pos hc]
      refine ih n (by omega) hc.1 (by omega) (fun x g1 g2 ox => ?_)
      by_cases e : x = n
      · subst e; exact Or.inr ⟨rfl, Nat.le_refl _⟩
      · rcases h x (by omega) g2 ox with w | w
        · exact Or.inl (by omega)
        · by_cases ek : kp n = kp x
          · exact Or.inr ⟨ek, by omega⟩
          · exact Or.inl (by omega)
    · rw [if_neg hc]
      refine ih f (by omega) hf h1 (fun x g1 g2 ox => ?_)
      by_cases e : x = n
      · subst e
        have : kp f < kp x := Decidable.byContradiction fun w => hc ⟨ox, w⟩
        exact Or.inl this
      · exact h x (by omega) g2 ox
