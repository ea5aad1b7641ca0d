/-! ===== the best of sets, found twice ===== -/
theorem sbN_lt {M s : Nat} (hM : M < 4096) (h : sbN 32 M s) : s < 4096 ∧ Sb (nI s) (nI M) := by
  have h1 := (sb_cmpN 32 M s (by omega) h).1
  have h2 : s < 4096 := by omega
  exact ⟨h2, (sb_num h2 hM).mpr h⟩
def Dj (x y : Int32) : Prop := ∀ k, tb x k = true → ¬ tb y k = true
theorem sc_lt {s c : Nat} (hs : s < 4096) (hc : c < 4096) (h : Dj (nI s) (nI c)) : s + c < 4096 ∧ nI s ||| nI c = nI (s + c) := by
  have e := sb_or_add hs hc h
  refine ⟨?_, e⟩
  obtain ⟨v, hv, ev⟩ := of_sm (sm_or (sm_of ⟨s, hs, rfl⟩) (sm_of ⟨c, hc, rfl⟩))
  rw [e] at ev
  have := (nI_eq (by omega) (by omega)).mp ev
  omega
theorem ba_gl {F : Int32 → Int32} {S M c : Nat} (hM : M < 4096) (hc : c < 4096) (ec : nI S &&& (nI M ^^^ -1) = nI c) (hD : Dj (nI M) (nI c)) : ∀ (n s f : Nat), sbN 32 M s → f < 4096 → baF F (nI S) (nI M) n (nI s) (nI f) = nI (glN M c (fun v => decide (nI S &&& (F (nI v) ^^^ -1) = 0)) kA n s f) := by
  intro n
  induction n with
  | zero => intro s f _ _; rfl
  | succ n ih =>
    intro s f hs hf
    obtain ⟨s1, s2⟩ := sbN_lt hM hs
    obtain ⟨t1, t2⟩ := sc_lt s1 hc (fun k hk => hD k (s2 k hk))
    simp only [baF, glN]
    rw [ec, t2, set_after (by omega) hs]
    by_cases hc : kA (s + c) < kA f ∧ decide (nI S &&& (F (nI (s + c)) ^^^ -1) = 0) = true
    · rw [if_pos hc, if_pos ⟨fun w => by have := (bc_le hf t1).mp w; omega, of_decide_eq_true hc.2⟩]
      exact ih _ _ (nx_sb 32 M s hs) t1
    · rw [if_neg hc, if_neg (fun w => hc ⟨by have := w.1; rw [bc_le hf t1] at this; omega, decide_eq_true w.2⟩)]
      exact ih _ _ (nx_sb 32 M s hs) hf
theorem pc_gl {F : Int32 → Int32} {S : Nat} (hM : S < 4096) : ∀ (n s f : Nat), sbN 32 S s → f < 4096 → pcF F (nI S) n (nI s) (nI f) = nI (glN S 0 (fun v => decide (¬ clP (nI v) ∧ ¬ clP (F (nI v)))) kB n s f) := by
  intro n
  induction n with
  | zero => intro s f _ _; rfl
  | succ n ih =>
    intro s f hs hf
    obtain ⟨s1, s2⟩ := sbN_lt hM hs
    simp only [pcF, glN, Nat.add_zero]
    rw [set_after (by omega) hs]
    have l1 := cn_le (nI s) 12
    have l2 := cn_le (nI f) 12
    by_cases hc : kB s < kB f ∧ decide (¬ clP (nI s) ∧ ¬ clP (F (nI s))) = true
    · have h2 := of_decide_eq_true hc.2
      rw [if_pos hc, if_pos ⟨fun w => by have := (bc_le s1 hf).mp w; have := hc.1; unfold kA kB at *; omega, h2.1, h2.2⟩]
      exact ih _ _ (nx_sb 32 S s hs) s1
    · rw [if_neg hc, if_neg (fun w => hc ⟨by have := w.1; rw [bc_le s1 hf] at this; unfold kA kB at *; omega, decide_eq_true w.2⟩)]
      exact ih _ _ (nx_sb 32 S s hs) hf
theorem ca_gl {F : Int32 → Int32} {M : Nat} {bit : Int32} (hM : M < 4096) : ∀ (n s f : Nat), sbN 32 M s → f < 4096 → caF F (nI M) bit n (nI s) (nI f) = nI (glN M 0 (fun v => decide (¬ F (nI v) &&& bit = 0)) kA n s f) := by
  intro n
  induction n with
  | zero => intro s f _ _; rfl
  | succ n ih =>
    intro s f hs hf
    obtain ⟨s1, s2⟩ := sbN_lt hM hs
    simp only [caF, glN, Nat.add_zero]
    rw [set_after (by omega) hs]
    by_cases hc : kA s < kA f ∧ decide (¬ F (nI s) &&& bit = 0) = true
    · rw [if_pos hc, if_pos ⟨fun w => by have := (bc_le hf s1).mp w; omega, of_decide_eq_true hc.2⟩]
      exact ih _ _ (nx_sb 32 M s hs) s1
    · rw [if_neg hc, if_neg (fun w => hc ⟨by have := w.1; rw [bc_le hf s1] at this; omega, decide_eq_true w.2⟩)]
      exact ih _ _ (nx_sb 32 M s hs) hf
theorem bm_gd {F : Int32 → Int32} {sd : Int32} : ∀ (n f : Nat), n ≤ 4096 → f < 4096 → bmF F sd n (nI f) = nI (gdN (fun v => decide (nI v &&& (sd ^^^ -1) = 0 ∧ sd &&& (F (nI v) ^^^ -1) = 0)) kA n f) := by
  intro n
  induction n with
  | zero => intro f _ _; rfl
  | succ n ih =>
    intro f hn hf
    simp only [bmF, gdN]
    by_cases hc : decide (nI n &&& (sd ^^^ -1) = 0 ∧ sd &&& (F (nI n) ^^^ -1) = 0) = true ∧ ¬ kA f < kA n
    · have h2 := of_decide_eq_true hc.1
      rw [if_pos hc, if_pos ⟨h2.1, fun w => hc.2 ((bc_lt hf (by omega)).mp w), h2.2⟩]
      exact ih n (by omega) (by omega)
    · rw [if_neg hc, if_neg (fun w => hc ⟨decide_eq_true ⟨w.1, w.2.2⟩, fun g => w.2.1 ((bc_lt hf (by omega)).mpr g)⟩)]
      exact ih f (by omega) hf
def enO : Option Nat → Int32
  | none => -1
  | some x => nI x
def O12 : Option Nat → Prop
  | none => True
  | some x => x < 4096
theorem pm_ga {F : Int32 → Int32} {sd : Int32} : ∀ (n j : Nat) (f : Option Nat), j + n = 4096 → O12 f → pmF F sd n j (enO f) = enO (gaN (fun v => decide (nI v &&& (sd ^^^ -1) = 0 ∧ ¬ cmP (F (nI v)))) kB n j f) := by
  intro n
  induction n with
  | zero => intro j f _ _; rfl
  | succ n ih =>
    intro j f hj hf
    match f, hf with
    | none, _ =>
      show pmF F sd n (j + 1) (if nI j &&& (sd ^^^ -1) = 0 ∧ ((-1 : Int32) = -1 ∨ ¬ bcV (nI j) ≤ bcV (-1)) ∧ ¬ cmP (F (nI j)) then nI j else -1) = enO (gaN _ kB n (j + 1) (if _ then some j else none))
      by_cases hc : decide (nI j &&& (sd ^^^ -1) = 0 ∧ ¬ cmP (F (nI j))) = true
      · have h2 := of_decide_eq_true hc
        rw [if_pos hc, if_pos ⟨h2.1, Or.inl rfl, h2.2⟩]
        exact ih (j + 1) (some j) (by omega) (show j < 4096 by omega)
      · rw [if_neg hc, if_neg (fun w => hc (decide_eq_true ⟨w.1, w.2.2⟩))]
        exact ih (j + 1) none (by omega) trivial
    | some x, hf =>
      have hx : x < 4096 := hf
      have l1 := cn_le (nI j) 12
      have l2 := cn_le (nI x) 12
      show pmF F sd n (j + 1) (if nI j &&& (sd ^^^ -1) = 0 ∧ (nI x = -1 ∨ ¬ bcV (nI j) ≤ bcV (nI x)) ∧ ¬ cmP (F (nI j)) then nI j else nI x) = enO (gaN _ kB n (j + 1) (if _ ∧ kB j < kB x then some j else some x))
      by_cases hc : decide (nI j &&& (sd ^^^ -1) = 0 ∧ ¬ cmP (F (nI j))) = true ∧ kB j < kB x
      · have h2 := of_decide_eq_true hc.1
        rw [if_pos hc, if_pos ⟨h2.1, Or.inr (fun w => by have := (bc_le (by omega) hx).mp w; have := hc.2; unfold kA kB at *; omega), h2.2⟩]
        exact ih (j + 1) (some j) (by omega) (show j < 4096 by omega)
      · rw [if_neg hc, if_neg (fun w => hc ⟨decide_eq_true ⟨w.1, w.2.2⟩, by
          rcases w.2.1 with g | g
          · exact absurd g (nI_ne1 (by omega))
          · rw [bc_le (by omega) hx] at g; unfold kA kB at *; omega⟩)]
        exact ih (j + 1) (some x) (by omega) hx
theorem wm_ga {F : Int32 → Int32} {x : Int32} : ∀ (n j : Nat) (f : Option Nat), j + n = 4096 → O12 f → wmF F x n j (enO f) = enO (gaN (fun v => decide ((nI v >>> (x &&& 31)) &&& 1 = 0 ∧ (F (nI v) >>> (x &&& 31)) &&& 1 = 1)) kA n j f) := by
  intro n
  induction n with
  | zero => intro j f _ _; rfl
  | succ n ih =>
    intro j f hj hf
    match f, hf with
    | none, _ =>
      show wmF F x n (j + 1) (if ((-1 : Int32) = -1 ∨ ¬ bcV (-1) ≤ bcV (nI j)) ∧ (nI j >>> (x &&& 31)) &&& 1 = 0 ∧ (F (nI j) >>> (x &&& 31)) &&& 1 = 1 then nI j else -1) = enO (gaN _ kA n (j + 1) (if _ then some j else none))
      by_cases hc : decide ((nI j >>> (x &&& 31)) &&& 1 = 0 ∧ (F (nI j) >>> (x &&& 31)) &&& 1 = 1) = true
      · rw [if_pos hc, if_pos ⟨Or.inl rfl, of_decide_eq_true hc⟩]
        exact ih (j + 1) (some j) (by omega) (show j < 4096 by omega)
      · rw [if_neg hc, if_neg (fun w => hc (decide_eq_true w.2))]
        exact ih (j + 1) none (by omega) trivial
    | some y, hf =>
      have hx : y < 4096 := hf
      show wmF F x n (j + 1) (if (nI y = -1 ∨ ¬ bcV (nI y) ≤ bcV (nI j)) ∧ (nI j >>> (x &&& 31)) &&& 1 = 0 ∧ (F (nI j) >>> (x &&& 31)) &&& 1 = 1 then nI j else nI y) = enO (gaN _ kA n (j + 1) (if _ ∧ kA j < kA y then some j else some y))
      by_cases hc : decide ((nI j >>> (x &&& 31)) &&& 1 = 0 ∧ (F (nI j) >>> (x &&& 31)) &&& 1 = 1) = true ∧ kA j < kA y
      · have h2 := of_decide_eq_true hc.1
        rw [if_pos hc, if_pos ⟨Or.inr (fun w => by have := (bc_le hx (by omega)).mp w; have := hc.2; omega), h2.1, h2.2⟩]
        exact ih (j + 1) (some j) (by omega) (show j < 4096 by omega)
      · rw [if_neg hc, if_neg (fun w => hc ⟨decide_eq_true w.2, by
          rcases w.1 with g | g
          · exact absurd g (nI_ne1 (by omega))
          · rw [bc_le hx (by omega)] at g; omega⟩)]
        exact ih (j + 1) (some y) (by omega) hx
section BST
variable {s b : Nat → Int32} {r : Nat}
theorem base_eq (hb : ∀ i, i < r → Bo (b i)) (lo : Int32) {sd : Int32} (hsd : S12 sd) : ∃ A : Nat, (1 : Int32) <<< (bcV (sd &&& orF b r 0 0) &&& 31) = nI A ∧ A ≤ 4096 ∧ baF (foX s b r lo) sd (sd &&& orF b r 0 0) A 0 sd = bmF (foX s b r lo) sd 4096 sd := by
  obtain ⟨S, hS, rfl⟩ := hsd
  obtain ⟨M, hM, eM⟩ := of_sm (sm_and (y := orF b r 0 0) (sm_of ⟨S, hS, rfl⟩))
  obtain ⟨c, hc, ec⟩ := of_sm (sm_and (y := nI M ^^^ -1) (sm_of ⟨S, hS, rfl⟩))
  have mM : ∀ k, tb (nI M) k = true ↔ (tb (nI S) k = true ∧ tb (orF b r 0 0) k = true) := fun k => by rw [← eM, tb_and, Bool.and_eq_true]
  have mC : ∀ k, tb (nI c) k = true ↔ (tb (nI S) k = true ∧ ¬ tb (nI M) k = true) := fun k => by
    rw [← ec, tb_and]
    by_cases g : k < 32
    · rw [tb_not _ g]
      cases tb (nI S) k <;> cases tb (nI M) k <;> simp
    · rw [tb_out (nI S) (by omega)]; simp
  have hD : Dj (nI M) (nI c) := fun k h w => ((mC k).mp w).2 h
  rw [eM]
  refine ⟨2 ^ pcN 32 M, (bc_pc M hM).1, (bc_pc M hM).2, ?_⟩
  have e0 : (0 : Int32) = nI 0 := rfl
  have tc : ∀ t, sbN 32 M t → (t + c < 4096 ∧ Sb (nI (t + c)) (nI S)) := fun t ht => by
    obtain ⟨t1, t2⟩ := sbN_lt hM ht
    obtain ⟨t3, t4⟩ := sc_lt t1 hc (fun k hk => hD k (t2 k hk))
    refine ⟨t3, fun k hk => ?_⟩
    rw [← t4] at hk
    rcases or_of hk with w | w
    · exact ((mM k).mp (t2 k w)).1
    · exact ((mC k).mp w).1
  have hg := gl_all (M := M) (c := c) (f0 := S) (ok := fun v => decide (nI S &&& (foX s b r lo (nI v) ^^^ -1) = 0)) (kp := kA) (decide_eq_true (sb_z.mpr (fo_ex _))) (fun t ht _ ek => by
    obtain ⟨t1, t2⟩ := tc t ht
    exact Nat.le_of_eq (sb_kE t1 hS t2 ek).symm)
  have hh := gd_spec (ok := fun v => decide (nI v &&& (nI S ^^^ -1) = 0 ∧ nI S &&& (foX s b r lo (nI v) ^^^ -1) = 0)) (kp := kA) (T := 4096) 4096 S (Nat.le_refl _) (decide_eq_true ⟨sb_z.mpr (Sb.rf _), sb_z.mpr (fo_ex _)⟩) hS (fun x h1 h2 => absurd h2 (by omega))
  rw [e0, ba_gl hM hc ec hD _ 0 S (sb_0 32 M).1 hS, bm_gd 4096 S (Nat.le_refl _) hS]
  obtain ⟨g1, g2, g3⟩ := hg
  obtain ⟨h1, h2, h3⟩ := hh
  have gS : (glN M c (fun v => decide (nI S &&& (foX s b r lo (nI v) ^^^ -1) = 0)) kA (2 ^ pcN 32 M) 0 S) < 4096 ∧ Sb (nI (glN M c (fun v => decide (nI S &&& (foX s b r lo (nI v) ^^^ -1) = 0)) kA (2 ^ pcN 32 M) 0 S)) (nI S) := by
    rcases g2 with g2 | ⟨t, ht, g2⟩
    · rw [g2]; exact ⟨hS, Sb.rf _⟩
    · rw [g2]; exact tc t ht
  have o1 := of_decide_eq_true h1
  refine congrArg nI ?_
  refine leK_anti (kp := kA) ?_ (h3 _ gS.1 (decide_eq_true ⟨sb_z.mpr gS.2, of_decide_eq_true g1⟩))
  have hS2 := sb_z.mp o1.1
  have hF2 := sb_z.mp o1.2
  generalize gdN (fun v => decide (nI v &&& (nI S ^^^ -1) = 0 ∧ nI S &&& (foX s b r lo (nI v) ^^^ -1) = 0)) kA 4096 S = h at *
  obtain ⟨t, ht, et⟩ := of_sm (sm_and (y := nI M) (sm_of ⟨h, h2, rfl⟩))
  have st : Sb (nI t) (nI M) := by rw [← et]; exact sb_and2
  have nt := (sb_num ht hM).mp st
  obtain ⟨t3, t4⟩ := sc_lt ht hc (fun k hk => hD k (st k hk))
  have eh : h = t + c := by
    refine nI_inj h2 t3 ?_
    rw [← t4]
    refine Sb.eq (fun k hk => ?_) (fun k hk => ?_)
    · by_cases w : tb (nI M) k = true
      · refine sb_or1 k ?_
        rw [← et, tb_and, hk, w]; rfl
      · exact sb_or2 k ((mC k).mpr ⟨hS2 k hk, w⟩)
    · rcases or_of hk with w | w
      · rw [← et] at w; exact sb_and1 k w
      · have w2 := (mC k).mp w
        rcases or_of (fo_borne _ k (hF2 k w2.1)) with q | q
        · exact q
        · exact absurd ((mM k).mpr ⟨w2.1, q⟩) w2.2
  rw [eh]
  refine g3 t nt (decide_eq_true ?_)
  rw [← eh]; exact o1.2
theorem cl_mo {x y : Int32} (hx : sm x) (hy : sm y) (h : Sb x y) (c : clP x) : clP y := by
  obtain ⟨v, hv, rfl⟩ := of_sm hx
  obtain ⟨w, hw, rfl⟩ := of_sm hy
  obtain ⟨k, k1, k2, k3⟩ := (cl_mem v hv).mp c
  exact (cl_mem w hw).mpr ⟨k, k1, h _ k2, h _ k3⟩
theorem peace_eq (hb : ∀ i, i < r → Bo (b i)) {sd : Int32} (hsd : S12 sd) : ∃ B : Nat, (1 : Int32) <<< (bcV sd &&& 31) = nI B ∧ B ≤ 4096 ∧ ∀ lo, (if clP (foX s b r lo 0) then -1 else pcF (foX s b r lo) sd B 0 0) = pmF (foX s b r lo) sd 4096 0 (-1) := by
  obtain ⟨S, hS, rfl⟩ := hsd
  refine ⟨2 ^ pcN 32 S, (bc_pc S hS).1, (bc_pc S hS).2, fun lo => ?_⟩
  have e0 : (0 : Int32) = nI 0 := rfl
  have fs : ∀ v, v < 4096 → sm (foX s b r lo (nI v)) := fun v hv => sm_of (fo_S12 hb ⟨v, hv, rfl⟩)
  have hh := ga_spec (ok := fun v => decide (nI v &&& (nI S ^^^ -1) = 0 ∧ ¬ cmP (foX s b r lo (nI v)))) (kp := kB) (T := 4096) 4096 0 none (by omega) (fun x hx => absurd hx (by omega))
  have em : pmF (foX s b r lo) (nI S) 4096 0 (-1) = enO (gaN (fun v => decide (nI v &&& (nI S ^^^ -1) = 0 ∧ ¬ cmP (foX s b r lo (nI v)))) kB 4096 0 none) := pm_ga 4096 0 none (by omega) trivial
  rw [em]
  generalize gaN (fun v => decide (nI v &&& (nI S ^^^ -1) = 0 ∧ ¬ cmP (foX s b r lo (nI v)))) kB 4096 0 none = g at *
  by_cases hc : clP (foX s b r lo 0)
  · rw [if_pos hc]
    match g, hh with
    | none, _ => rfl
    | some h, hh =>
      exfalso
      obtain ⟨h1, h2, -⟩ := hh
      have o1 := of_decide_eq_true h1
      exact o1.2 ((cl_sm (fs h h2)).mp (cl_mo (fs 0 (by omega)) (fs h h2) (fo_mo hb (sm_of ⟨h, h2, rfl⟩) (fun k hk => by rw [e0.symm, tb_zero] at hk; cases hk)) hc))
  · rw [if_neg hc]
    have hn0 : ¬ clP (nI 0) := by decide
    have hg := gl_all (M := S) (c := 0) (f0 := 0) (ok := fun v => decide (¬ clP (nI v) ∧ ¬ clP (foX s b r lo (nI v)))) (kp := kB) (decide_eq_true ⟨hn0, hc⟩) (fun t ht _ ek => Nat.zero_le _)
    have ec : pcF (foX s b r lo) (nI S) (2 ^ pcN 32 S) 0 0 = nI (glN S 0 (fun v => decide (¬ clP (nI v) ∧ ¬ clP (foX s b r lo (nI v)))) kB (2 ^ pcN 32 S) 0 0) := pc_gl hS _ 0 0 (sb_0 32 S).1 (by omega)
    rw [ec]
    obtain ⟨g1, g2, g3⟩ := hg
    have gS : (glN S 0 (fun v => decide (¬ clP (nI v) ∧ ¬ clP (foX s b r lo (nI v)))) kB (2 ^ pcN 32 S) 0 0) < 4096 ∧ Sb (nI (glN S 0 (fun v => decide (¬ clP (nI v) ∧ ¬ clP (foX s b r lo (nI v)))) kB (2 ^ pcN 32 S) 0 0)) (nI S) := by
      rcases g2 with g2 | ⟨t, ht, g2⟩
      · rw [g2]; exact ⟨by omega, fun k hk => by rw [← e0, tb_zero] at hk; cases hk⟩
      · rw [g2]; exact sbN_lt hS ht
    have o2 := of_decide_eq_true g1
    have okm : decide (nI (glN S 0 (fun v => decide (¬ clP (nI v) ∧ ¬ clP (foX s b r lo (nI v)))) kB (2 ^ pcN 32 S) 0 0) &&& (nI S ^^^ -1) = 0 ∧ ¬ cmP (foX s b r lo (nI (glN S 0 (fun v => decide (¬ clP (nI v) ∧ ¬ clP (foX s b r lo (nI v)))) kB (2 ^ pcN 32 S) 0 0)))) = true := decide_eq_true ⟨sb_z.mpr gS.2, fun w => o2.2 ((cl_sm (fs _ gS.1)).mpr w)⟩
    match g, hh with
    | none, hh => exact absurd okm (hh _ gS.1)
    | some h, hh =>
      obtain ⟨h1, h2, h3⟩ := hh
      have o1 := of_decide_eq_true h1
      have nc : ¬ clP (foX s b r lo (nI h)) := fun w => o1.2 ((cl_sm (fs h h2)).mp w)
      show nI _ = nI h
      refine congrArg nI ?_
      refine leK_anti (kp := kB) (g3 h ((sb_num h2 hS).mp (sb_z.mp o1.1)) (decide_eq_true ⟨fun w => nc (cl_mo (sm_of ⟨h, h2, rfl⟩) (fs h h2) (fo_ex _) w), nc⟩)) (h3 _ gS.1 okm)
theorem un_sm (hs : ∀ i, i < r → S12 (s i)) : sm (unF s r 0 0) := fun k hk => by
  cases e : tb (unF s r 0 0) k with
  | false => rfl
  | true =>
    rcases (un_mem s k r 0 0).mp e with w | ⟨j, _, h2, h3⟩
    · rw [tb_zero] at w; cases w
    · rw [sm_of (hs j (by omega)) k hk] at h3; cases h3
theorem why_eq (hr : r ≤ 12) (hb : ∀ i, i < r → Bo (b i)) (hs : ∀ i, i < r → S12 (s i)) (hsb : ∀ i, i < r → s i &&& (1 <<< (b i &&& 31)) = 0) {x : Int32} (hx : Bo x) : ∃ A : Nat, (1 : Int32) <<< (bcV (unF s r 0 0 &&& ((1 <<< (x &&& 31)) ^^^ -1)) &&& 31) = nI A ∧ A ≤ 4096 ∧ (if orF b r 0 0 &&& (1 <<< (x &&& 31)) = 0 then -1 else caF (foX s b r (-1)) (unF s r 0 0 &&& ((1 <<< (x &&& 31)) ^^^ -1)) (1 <<< (x &&& 31)) A 0 (unF s r 0 0 &&& ((1 <<< (x &&& 31)) ^^^ -1))) = wmF (foX s b r (-1)) x 4096 0 (-1) := by
  obtain ⟨q, hq, rfl⟩ := hx
  obtain ⟨M, hM, eM⟩ := of_sm (sm_and (y := (1 <<< (nI q &&& 31)) ^^^ -1) (un_sm hs))
  rw [eM]
  refine ⟨2 ^ pcN 32 M, (bc_pc M hM).1, (bc_pc M hM).2, ?_⟩
  have mM : ∀ k, tb (nI M) k = true ↔ (tb (unF s r 0 0) k = true ∧ ¬ k = q) := fun k => by
    rw [← eM, tb_and]
    by_cases g : k < 32
    · rw [tb_not _ g, tb_one hq]
      by_cases e : q = k
      · subst e; simp
      · have : ¬ k = q := fun w => e w.symm
        simp [e, this]
    · rw [tb_out (unF s r 0 0) (by omega)]; simp
  have e0 : (0 : Int32) = nI 0 := rfl
  have fs : ∀ v, v < 4096 → ∃ w, w < 4096 ∧ foX s b r (-1) (nI v) = nI w := fun v hv => fo_S12 hb ⟨v, hv, rfl⟩
  have mk : ∀ v, v < 4096 → (((nI v >>> (nI q &&& 31)) &&& 1 = 0 ∧ (foX s b r (-1) (nI v) >>> (nI q &&& 31)) &&& 1 = 1) ↔ (¬ tb (nI v) q = true ∧ tb (foX s b r (-1) (nI v)) q = true)) := fun v hv => by
    obtain ⟨w, hw, ew⟩ := fs v hv
    rw [ew, sh_tb q hq v hv, sh_tb q hq w hw]
    cases tb (nI v) q <;> cases tb (nI w) q <;> decide
  have hh := ga_spec (ok := fun v => decide ((nI v >>> (nI q &&& 31)) &&& 1 = 0 ∧ (foX s b r (-1) (nI v) >>> (nI q &&& 31)) &&& 1 = 1)) (kp := kA) (T := 4096) 4096 0 none (by omega) (fun x hx => absurd hx (by omega))
  have em : wmF (foX s b r (-1)) (nI q) 4096 0 (-1) = enO (gaN (fun v => decide ((nI v >>> (nI q &&& 31)) &&& 1 = 0 ∧ (foX s b r (-1) (nI v) >>> (nI q &&& 31)) &&& 1 = 1)) kA 4096 0 none) := wm_ga 4096 0 none (by omega) trivial
  rw [em]
  generalize gaN (fun v => decide ((nI v >>> (nI q &&& 31)) &&& 1 = 0 ∧ (foX s b r (-1) (nI v) >>> (nI q &&& 31)) &&& 1 = 1)) kA 4096 0 none = g at *
  by_cases hc : orF b r 0 0 &&& (1 <<< (nI q &&& 31)) = 0
  · rw [if_pos hc]
    have hc2 := (bit_tb hq _).mp hc
    match g, hh with
    | none, _ => rfl
    | some h, hh =>
      exfalso
      obtain ⟨h1, h2, -⟩ := hh
      obtain ⟨o1, o2⟩ := (mk h h2).mp (of_decide_eq_true h1)
      rcases or_of (fo_borne _ q o2) with w | w
      · exact o1 w
      · exact hc2 w
  · rw [if_neg hc]
    have hc2 : tb (orF b r 0 0) q = true := Decidable.byContradiction fun w => hc ((bit_tb hq _).mpr w)
    have fM : tb (foX s b r (-1) (nI M)) q = true := by
      rcases (or_mem b q r 0 0).mp hc2 with w | ⟨j, _, w2, w3⟩
      · rw [tb_zero] at w; cases w
      · have hj : j < r := by omega
        obtain ⟨p, hp, ep⟩ := hb j hj
        have epq : p = q := by rw [ep, tb_one hp] at w3; exact of_decide_eq_true w3
        refine fo_cl hb (sm_of ⟨M, hM, rfl⟩) j hj (nI_ne1 (by omega)) (fun k hk => fo_ex _ k ?_) q w3
        refine (mM k).mpr ⟨(un_mem s k r 0 0).mpr (Or.inr ⟨j, by omega, by omega, hk⟩), fun ek => ?_⟩
        have hz := hsb j hj
        rw [ep] at hz
        have := (bit_tb hp _).mp hz
        rw [epq, ← ek] at this
        exact this hk
    have okc : ∀ v, decide (¬ foX s b r (-1) (nI v) &&& (1 <<< (nI q &&& 31)) = 0) = true ↔ tb (foX s b r (-1) (nI v)) q = true := fun v => by
      rw [decide_eq_true_eq, bit_tb hq]
      exact Decidable.not_not
    have hg := gl_all (M := M) (c := 0) (f0 := M) (ok := fun v => decide (¬ foX s b r (-1) (nI v) &&& (1 <<< (nI q &&& 31)) = 0)) (kp := kA) ((okc M).mpr fM) (fun t ht _ ek => by
      obtain ⟨t1, t2⟩ := sbN_lt hM ht
      exact Nat.le_of_eq (sb_kE t1 hM t2 ek).symm)
    have ec : caF (foX s b r (-1)) (nI M) (1 <<< (nI q &&& 31)) (2 ^ pcN 32 M) 0 (nI M) = nI (glN M 0 (fun v => decide (¬ foX s b r (-1) (nI v) &&& (1 <<< (nI q &&& 31)) = 0)) kA (2 ^ pcN 32 M) 0 M) := ca_gl hM _ 0 M (sb_0 32 M).1 hM
    rw [ec]
    obtain ⟨g1, g2, g3⟩ := hg
    generalize glN M 0 (fun v => decide (¬ foX s b r (-1) (nI v) &&& (1 <<< (nI q &&& 31)) = 0)) kA (2 ^ pcN 32 M) 0 M = y at *
    have gS : y < 4096 ∧ Sb (nI y) (nI M) := by
      rcases g2 with g2 | ⟨t, ht, g2⟩
      · rw [g2]; exact ⟨hM, Sb.rf _⟩
      · rw [g2]; exact sbN_lt hM ht
    have oky := (mk y gS.1).mpr ⟨fun w => ((mM q).mp (gS.2 q w)).2 rfl, (okc y).mp g1⟩
    match g, hh with
    | none, hh => exact absurd (decide_eq_true oky) (hh _ gS.1)
    | some h, hh =>
      obtain ⟨h1, h2, h3⟩ := hh
      obtain ⟨o1, o2⟩ := (mk h h2).mp (of_decide_eq_true h1)
      show nI y = nI h
      refine congrArg nI ?_
      obtain ⟨t, ht, et⟩ := of_sm (sm_and (y := nI M) (sm_of ⟨h, h2, rfl⟩))
      have e2 : nI h &&& unF s r 0 0 = nI t := by
        rw [← et]
        refine Sb.eq (fun k hk => ?_) (fun k hk => ?_)
        · have k1 := sb_and1 k hk
          have k2 := sb_and2 k hk
          rw [tb_and, k1, (mM k).mpr ⟨k2, fun w => o1 (w ▸ k1)⟩]; rfl
        · have k1 := sb_and1 k hk
          have k2 := sb_and2 k hk
          rw [tb_and, k1, ((mM k).mp k2).1]; rfl
      have st : Sb (nI t) (nI h) := by rw [← et]; exact sb_and1
      have stM : Sb (nI t) (nI M) := by rw [← et]; exact sb_and2
      have f2 : tb (foX s b r (-1) (nI t)) q = true := by
        rcases or_of (fo_used hb (sm_of ⟨h, h2, rfl⟩) q o2) with w | w
        · exact absurd w o1
        · rw [e2] at w; exact w
      have l1 := h3 t ht (decide_eq_true ((mk t ht).mpr ⟨fun w => o1 (st q w), f2⟩))
      have eth : t = h := by
        refine sb_kE ht h2 st ?_
        have := sb_kA st
        rcases l1 with w | w <;> omega
      rw [eth] at stM
      exact leK_anti (kp := kA) (g3 h ((sb_num h2 hM).mp stM) ((okc h).mpr o2)) (h3 y gS.1 (decide_eq_true oky))
theorem vain_eq (hb : ∀ i, i < r → Bo (b i)) (hs : ∀ i, i < r → S12 (s i)) : ∀ (n i : Nat) (a : Int32), i + n ≤ r → vaF (foX s b r) s b n i a = vmF (foX s b r) s b n i a := by
  intro n
  induction n with
  | zero => intro i a _; rfl
  | succ n ih =>
    intro i a hi
    simp only [vaF, vmF]
    obtain ⟨v, hv, ev⟩ := fo_S12 (s := s) (lo := nI i) hb (hs i (by omega))
    obtain ⟨q, hq, eq⟩ := hb i (by omega)
    rw [ev, eq, sh_tb q hq v hv]
    by_cases c : tb (nI v) q = true
    · rw [if_pos c, if_neg (fun w => (bit_tb hq _).mp w c)]
      exact ih _ _ (by omega)
    · rw [if_neg c, if_pos ((bit_tb hq _).mpr c), show (0 : Int32) <<< (nI i &&& 31) = 0 from Int32.zero_shiftLeft, Int32.or_zero]
      exact ih _ _ (by omega)
end BST
