/-! ===== pairs: copy, house ===== -/
theorem rU_o {I : Mi} {a b : Nat} {f : Nat → Int32} (h : b ≠ a) : rU I a f b = I b := by simp only [rU, h, if_false]
theorem rU_s {I : Mi} {a : Nat} {f : Nat → Int32} : rU I a f a = f := by simp only [rU, if_true]
theorem rg_nat {c y q : Int32} {z a b : Nat} (hc : c = nI z) (hz : z ≤ 40) (hy : y = nI a) (hq : q = nI b) (ha : a ≤ 40) (hb : b ≤ 40) (g1 : ¬ c < y) (g2 : ¬ c - y < q) : a + b ≤ z := by
  subst hc; subst hy; subst hq
  have h1 : a ≤ z := Nat.not_lt.mp (fun w => g1 (nI_lt w (by omega)))
  rw [nI_sub h1] at g2
  have h2 : b ≤ z - a := Nat.not_lt.mp (fun w => g2 (nI_lt w (by omega)))
  omega
theorem sh_x {x : Int32} {s : Nat} (hs : s < 4) (e : x = nI s) : ¬ x < 0 ∧ ¬ 3 < x := by rw [e]; exact ⟨nI_pos (by omega), nI_nlt (a := 3) (by omega) (by decide)⟩
theorem pr_copy {E : Ev} {I : Mi} {L : Ml} {Z : Mz} {Q : Po} {x y z w q : Int32} (hI : GI I Z) (H : ∀ (rv : Int32) (I1 : Mi) (L1 : Ml), MD E yX6_copy cX6_copy 9 (some .int) [.ref 48, .int x, .int y, .int z, .int w, .int q] (some (.int rv)) I1 L1 Z → Q (some (.int rv)) I1 L1 Z) : AC E yX5_copy cX5_copy 8 (some .int) 60 0 0 [.ref 0, .int x, .int y, .int z, .int w, .int q] I L Z Q := by
  obtain ⟨n, m, r, ru, N, k, tA, qA, mA, aA, bA, WA, h⟩ := hI
  have hG : GZ Z := h.1.1
  have hM : MZ Z := h.1.2.1
  have h6 := h.n6
  have hS := h.2.2.2.2.2
  refine c_X5_copy (by decide) hG (fun s hs => (hS s hs).1) (fun hb => H _ _ _ fun Q2 K => ?_) (fun s u hs hu e1 e2 g => H _ _ _ fun Q2 K => ?_) (fun s u hs hu e1 e2 g1 g2 g3 => H _ _ _ fun Q2 K => ?_) (fun s u hs hu e1 e2 g1 g2 g3 g4 => H _ _ _ fun Q2 K => ?_) (fun s u hs hu e1 e2 g1 g2 g3 g4 a b c ea eb ec hab hcb => H _ _ _ fun Q2 K => ?_)
  · exact c_X6_copy (by decide) hM hS.zM (fun _ => K _ _ _ h.gi) (fun s u hs hu e1 e2 _ => absurd ⟨sh_x hs e1, sh_x hu e2⟩ hb) (fun s u hs hu e1 e2 _ _ _ => absurd ⟨sh_x hs e1, sh_x hu e2⟩ hb) (fun s u hs hu e1 e2 _ _ _ _ => absurd ⟨sh_x hs e1, sh_x hu e2⟩ hb) (fun s u hs hu e1 e2 _ _ _ _ _ _ _ _ _ _ _ _ => absurd ⟨sh_x hs e1, sh_x hu e2⟩ hb)
  · have hno : ∀ s2 u2, s2 < 4 → u2 < 4 → x = nI s2 → z = nI u2 → ¬ I 60 s2 = 0 → ¬ I 60 u2 = 0 → False := fun s2 u2 hs2 hu2 f1 f2 w1 w2 => by
      have es := nI_two (by omega) (by omega) e1 f1
      have eu := nI_two (by omega) (by omega) e2 f2
      subst es; subst eu
      rcases g with g | g
      · exact w1 (hS.no hs g)
      · exact w2 (hS.no hu g)
    exact c_X6_copy (by decide) hM hS.zM (fun w => absurd ⟨sh_x hs e1, sh_x hu e2⟩ w) (fun _ _ _ _ _ _ _ => K _ _ _ h.gi) (fun s2 u2 hs2 hu2 f1 f2 w1 w2 _ => (hno s2 u2 hs2 hu2 f1 f2 w1 w2).elim) (fun s2 u2 hs2 hu2 f1 f2 w1 w2 _ _ => (hno s2 u2 hs2 hu2 f1 f2 w1 w2).elim) (fun s2 u2 hs2 hu2 f1 f2 w1 w2 _ _ _ _ _ _ _ _ _ _ => (hno s2 u2 hs2 hu2 f1 f2 w1 w2).elim)
  · obtain ⟨y1, y2, y3, y4⟩ := hS.yes hs g1
    obtain ⟨v1, v2, v3, v4⟩ := hS.yes hu g2
    have hst : ∀ s2 u2, x = nI s2 → z = nI u2 → s2 < 4 → u2 < 4 → s2 = s ∧ u2 = u := fun s2 u2 f1 f2 hs2 hu2 => ⟨nI_two (by omega) (by omega) e1 f1, nI_two (by omega) (by omega) e2 f2⟩
    refine c_X6_copy (by decide) hM hS.zM (fun w => absurd ⟨sh_x hs e1, sh_x hu e2⟩ w) (fun s2 u2 hs2 hu2 f1 f2 w => ?_) (fun _ _ _ _ _ _ _ _ _ => K _ _ _ h.gi) (fun s2 u2 hs2 hu2 f1 f2 w1 w2 w3 _ => ?_) (fun s2 u2 hs2 hu2 f1 f2 w1 w2 w3 _ _ _ _ _ _ _ _ _ => ?_)
    · obtain ⟨es, eu⟩ := hst s2 u2 f1 f2 hs2 hu2; subst es; subst eu
      rcases w with w | w
      · exact absurd w (one_ne0 y1)
      · exact absurd w (one_ne0 v1)
    · obtain ⟨es, eu⟩ := hst s2 u2 f1 f2 hs2 hu2; subst es; subst eu
      rw [y2, v2] at w3; exact absurd w3 g3
    · obtain ⟨es, eu⟩ := hst s2 u2 f1 f2 hs2 hu2; subst es; subst eu
      rw [y2, v2] at w3; exact absurd w3 g3
  · obtain ⟨y1, y2, y3, y4⟩ := hS.yes hs g1
    obtain ⟨v1, v2, v3, v4⟩ := hS.yes hu g2
    have hst : ∀ s2 u2, x = nI s2 → z = nI u2 → s2 < 4 → u2 < 4 → s2 = s ∧ u2 = u := fun s2 u2 f1 f2 hs2 hu2 => ⟨nI_two (by omega) (by omega) e1 f1, nI_two (by omega) (by omega) e2 f2⟩
    refine c_X6_copy (by decide) hM hS.zM (fun w => absurd ⟨sh_x hs e1, sh_x hu e2⟩ w) (fun s2 u2 hs2 hu2 f1 f2 w => ?_) (fun s2 u2 hs2 hu2 f1 f2 w1 w2 w3 => ?_) (fun _ _ _ _ _ _ _ _ _ _ => K _ _ _ h.gi) (fun s2 u2 hs2 hu2 f1 f2 w1 w2 w3 w4 _ _ _ _ _ _ _ _ => ?_)
    · obtain ⟨es, eu⟩ := hst s2 u2 f1 f2 hs2 hu2; subst es; subst eu
      rcases w with w | w
      · exact absurd w (one_ne0 y1)
      · exact absurd w (one_ne0 v1)
    · obtain ⟨es, eu⟩ := hst s2 u2 f1 f2 hs2 hu2; subst es; subst eu
      rw [y2, v2] at w3; exact absurd g3 w3
    · obtain ⟨es, eu⟩ := hst s2 u2 f1 f2 hs2 hu2; subst es; subst eu
      rw [y3, v3] at w4; exact absurd w4 g4
  · obtain ⟨y1, y2, y3, y4⟩ := hS.yes hs g1
    obtain ⟨v1, v2, v3, v4⟩ := hS.yes hu g2
    obtain ⟨zs, hzs, ezs⟩ := (hS s hs).1
    obtain ⟨zu, hzu, ezu⟩ := (hS u hu).1
    have hst : ∀ s2 u2, x = nI s2 → z = nI u2 → s2 < 4 → u2 < 4 → s2 = s ∧ u2 = u := fun s2 u2 f1 f2 hs2 hu2 => ⟨nI_two (by omega) (by omega) e1 f1, nI_two (by omega) (by omega) e2 f2⟩
    have has := rg_nat ezs hzs ea eb (by omega) (by omega) g4.1.2.2.1 g4.1.2.2.2
    have hcu := rg_nat ezu hzu ec eb (by omega) (by omega) g4.2.2.2.1 g4.2.2.2.2
    generalize hJ : rU I (38 + 2 * u + 1) (va_cpy (I (38 + 2 * s + 1)) (I (38 + 2 * u + 1)) a c b) = J
    have jo : ∀ t, t ≠ 38 + 2 * u + 1 → J t = I t := fun t ht => by rw [← hJ, rU_o ht]
    have ju : J (38 + 2 * u + 1) = va_cpy (I (38 + 2 * s + 1)) (I (38 + 2 * u + 1)) a c b := by rw [← hJ, rU_s]
    refine c_X6_copy (by decide) hM (fun t ht w => by rw [jo _ (by omega)] at w ⊢; exact hS.zM t ht w) (fun w => absurd ⟨sh_x hs e1, sh_x hu e2⟩ w) (fun s2 u2 hs2 hu2 f1 f2 w => ?_) (fun s2 u2 hs2 hu2 f1 f2 w1 w2 w3 => ?_) (fun s2 u2 hs2 hu2 f1 f2 w1 w2 w3 w4 => ?_) (fun s2 u2 hs2 hu2 f1 f2 w1 w2 w3 w4 a2 b2 c2 fa fb fc hab2 hcb2 => ?_)
    · obtain ⟨es, eu⟩ := hst s2 u2 f1 f2 hs2 hu2; subst es; subst eu
      rw [jo 60 (by omega)] at w
      rcases w with w | w
      · exact absurd w (one_ne0 y1)
      · exact absurd w (one_ne0 v1)
    · obtain ⟨es, eu⟩ := hst s2 u2 f1 f2 hs2 hu2; subst es; subst eu
      rw [jo 61 (by omega), y2, v2] at w3; exact absurd g3 w3
    · obtain ⟨es, eu⟩ := hst s2 u2 f1 f2 hs2 hu2; subst es; subst eu
      rw [jo 62 (by omega), y3, v3] at w4; exact absurd g4 w4
    · obtain ⟨es, eu⟩ := hst s2 u2 f1 f2 hs2 hu2; subst es; subst eu
      have ha2 : a2 = a := nI_two (by omega) (by omega) ea fa
      have hb2 : b2 = b := nI_two (by omega) (by omega) eb fb
      have hc2 : c2 = c := nI_two (by omega) (by omega) ec fc
      subst ha2; subst hb2; subst hc2
      have ko : ∀ t, t ≠ 63 → cyM J (40 * s2 + a2) (40 * u2 + c2) b2 t = J t := fun t ht => by unfold cyM; rw [rU_o ht]
      have k63 : ∀ i, cyM J (40 * s2 + a2) (40 * u2 + c2) b2 63 i = va_cpy (I 63) (I 63) (40 * s2 + a2) (40 * u2 + c2) b2 i := fun i => by unfold cyM; rw [rU_s, jo 63 (by omega)]
      refine K _ _ _ (h.she (fun t ht => ?_) (fun t i w q1 q2 => by rw [ko t (by omega), jo t (by omega)])).gi
      by_cases et : t = u2
      · subst et
        refine ⟨⟨zu, hzu, by rw [ko _ (by omega), jo _ (by omega)]; exact ezu⟩, Or.inr ⟨by rw [ko _ (by omega), jo _ (by omega)]; exact g2, by rw [ko _ (by omega), jo _ (by omega)]; exact v1, by rw [ko _ (by omega), jo _ (by omega), ko _ (by omega), jo _ (by omega)]; exact v2, by rw [ko _ (by omega), jo _ (by omega), ko _ (by omega), jo _ (by omega)]; exact v3, fun p ep hp i hi => ?_⟩⟩
        rw [ko _ (by omega), jo _ (by omega)] at ep
        have epz : p = zu := (nI_eq (by omega) (by omega)).mp (ep.symm.trans ezu)
        rw [k63, ko _ (by omega), ju]
        unfold va_cpy
        by_cases hin : c2 ≤ i ∧ i < c2 + b2
        · rw [if_pos hin, if_pos (by omega), show 40 * s2 + a2 + (40 * t + i - (40 * t + c2)) = 40 * s2 + (a2 + (i - c2)) by omega]
          exact y4 zs ezs hzs _ (by omega)
        · rw [if_neg hin, if_neg (by omega)]
          exact v4 p ep hp i hi
      · refine (hS t ht).eqv ht (fun a9 i w => ?_)
        by_cases e63 : a9 = 63
        · subst e63
          rw [k63]
          unfold va_cpy
          rw [if_neg (by omega)]
        · rw [ko _ e63, jo _ (by omega)]
def adC : List (Int32 × Int32) → Nat → Mi → Mi
  | [], _, M => M
  | (x, z) :: l, m, M => adC l (m + 1) (rdM M m x z)
def adM : List (Int32 × Int32) → Nat → Mi → Mi
  | [], _, M => M
  | (x, z) :: l, m, M => adM l (m + 1) (rmM M m x z)
theorem adC_o : ∀ (l : List (Int32 × Int32)) (m : Nat) (M : Mi) (a j : Nat), ¬ (a = 10 ∧ j = 13) → ¬ ((a = 15 ∨ a = 16 ∨ a = 17) ∧ m ≤ j) → adC l m M a j = M a j := by
  intro l
  induction l with
  | nil => intro m M a j _ _; rfl
  | cons q l ih =>
    intro m M a j h1 h2
    obtain ⟨x, z⟩ := q
    simp only [adC]
    rw [ih (m + 1) _ a j h1 (by omega)]
    unfold rdM
    rw [iU_at (by omega), iU_at (by omega), iU_at (by omega), iU_at (by omega)]
theorem adM_o : ∀ (l : List (Int32 × Int32)) (m : Nat) (M : Mi) (a j : Nat), ¬ (a = 48 ∧ j = 15) → ¬ (a = 54 ∧ m ≤ j) → ¬ (a = 55 ∧ 2 * m ≤ j) → adM l m M a j = M a j := by
  intro l
  induction l with
  | nil => intro m M a j _ _ _; rfl
  | cons q l ih =>
    intro m M a j h1 h2 h3
    obtain ⟨x, z⟩ := q
    simp only [adM]
    rw [ih (m + 1) _ a j h1 (by omega) (by omega)]
    unfold rmM
    rw [iU_at (by omega), iU_at (by omega), iU_at (by omega), iU_at (by omega)]
theorem adC_n : ∀ (l : List (Int32 × Int32)) (m : Nat) (M : Mi), M 10 13 = nI m → adC l m M 10 13 = nI (m + l.length) := by
  intro l
  induction l with
  | nil => intro m M h; exact h
  | cons q l ih =>
    intro m M h
    obtain ⟨x, z⟩ := q
    simp only [adC, List.length_cons]
    rw [ih (m + 1) _ (by unfold rdM; exact iU_same)]
    congr 1
    omega
theorem adM_n : ∀ (l : List (Int32 × Int32)) (m : Nat) (M : Mi), M 48 15 = nI m → adM l m M 48 15 = nI (m + l.length) := by
  intro l
  induction l with
  | nil => intro m M h; exact h
  | cons q l ih =>
    intro m M h
    obtain ⟨x, z⟩ := q
    simp only [adM, List.length_cons]
    rw [ih (m + 1) _ (by unfold rmM; exact iU_same)]
    congr 1
    omega
theorem adC_i : ∀ (l : List (Int32 × Int32)) (m : Nat) (M : Mi) (i : Nat), i < l.length → adC l m M 15 (m + i) = (l.getD i (0, 0)).1 ∧ adC l m M 16 (m + i) = (l.getD i (0, 0)).2 ∧ adC l m M 17 (m + i) = 0 := by
  intro l
  induction l with
  | nil => intro m M i h; simp at h
  | cons q l ih =>
    intro m M i h
    obtain ⟨x, z⟩ := q
    simp only [adC]
    cases i with
    | zero =>
      rw [adC_o l (m + 1) _ 15 _ (by omega) (by omega), adC_o l (m + 1) _ 16 _ (by omega) (by omega), adC_o l (m + 1) _ 17 _ (by omega) (by omega)]
      unfold rdM
      refine ⟨?_, ?_, ?_⟩
      · rw [iU_at (by omega), iU_at (by omega), iU_at (by omega)]; exact iU_same
      · rw [iU_at (by omega), iU_at (by omega)]; exact iU_same
      · rw [iU_at (by omega)]; exact iU_same
    | succ i =>
      have := ih (m + 1) (rdM M m x z) i (by simp only [List.length_cons] at h; omega)
      rw [show m + (i + 1) = m + 1 + i by omega]
      exact this
theorem adM_i : ∀ (l : List (Int32 × Int32)) (m : Nat) (M : Mi) (i : Nat), i < l.length → adM l m M 54 (m + i) = (l.getD i (0, 0)).1 ∧ adM l m M 55 (2 * (m + i)) = (l.getD i (0, 0)).2 ∧ adM l m M 55 (2 * (m + i) + 1) = 0 := by
  intro l
  induction l with
  | nil => intro m M i h; simp at h
  | cons q l ih =>
    intro m M i h
    obtain ⟨x, z⟩ := q
    simp only [adM]
    cases i with
    | zero =>
      rw [adM_o l (m + 1) _ 54 _ (by omega) (by omega) (by omega), adM_o l (m + 1) _ 55 _ (by omega) (by omega) (by omega), adM_o l (m + 1) _ 55 _ (by omega) (by omega) (by omega)]
      unfold rmM
      refine ⟨?_, ?_, ?_⟩
      · rw [iU_at (by omega), iU_at (by omega), iU_at (by omega)]; exact iU_same
      · rw [iU_at (by omega), iU_at (by omega)]; exact iU_same
      · rw [iU_at (by omega)]; exact iU_same
    | succ i =>
      have := ih (m + 1) (rmM M m x z) i (by simp only [List.length_cons] at h; omega)
      rw [show m + (i + 1) = m + 1 + i by omega]
      exact this
theorem ho_hm {s z : Nat} {fr : Int32} {D : Nat → Int32} (hs : s < 4) (hz : z ≤ 40) : ∀ (n k : Nat) (c : Int32) (m : Nat) (M P : Mi), k + n ≤ 5 → m ≤ 5 → (k = 0 ∨ ∃ a, a ≤ 40 ∧ fr = nI a) → M (38 + 2 * s) 2 = nI z → (∀ j, j < z → M (38 + 2 * s + 1) j = D j) → P 62 s = nI z → (∀ j, j < z → P 63 (40 * s + j) = D j) → ∃ l : List (Int32 × Int32), (∀ q, q ∈ l → rkP q.1 q.2) ∧ m + l.length ≤ 5 ∧ hoF (38 + 2 * s) fr n k c m M = ((hmF s fr n k c m P).1, adC l m M) ∧ (hmF s fr n k c m P).2 = adM l m P := by
  intro n
  induction n with
  | zero => intro k c m M P hk hm h0 e1 e2 e3 e4; exact ⟨[], fun q w => absurd w List.not_mem_nil, hm, rfl, rfl⟩
  | succ n ih =>
    intro k c m M P hk hm h0 e1 e2 e3 e4
    have key : rgP M (38 + 2 * s) (fr + 2 * nI k) 2 ↔ rgQ P s fr k := by
      unfold rgP rgQ
      rw [e1, e3]
      constructor
      · rintro ⟨g1, -, g3, g4⟩
        have hfr : ¬ fr < 0 := by
          rcases h0 with h0 | ⟨a, ha, e⟩
          · rw [h0] at g1
            have e0 : fr + 2 * nI 0 = fr := by show fr + 0 = fr; exact Int32.add_zero fr
            rw [e0] at g1; exact g1
          · rw [e]; exact nI_pos (by omega)
        obtain ⟨a, ha, rfl⟩ := nI_of hfr
        have ea : a ≤ 40 := by
          rcases h0 with h0 | ⟨b, hb, e⟩
          · rw [h0] at g3
            have e0 : nI a + 2 * nI 0 = nI a := by show nI a + 0 = nI a; exact Int32.add_zero _
            rw [e0] at g3
            have := Nat.not_lt.mp (fun w => g3 (nI_lt (a := z) (b := a) w ha))
            omega
          · have := (nI_eq ha (by omega)).mp e; omega
        have ek : nI a + 2 * nI k = nI (a + 2 * k) := by rw [show (2 : Int32) * nI k = nI (2 * k) from pk_mul 2 k, nI_add]
        rw [ek] at g3 g4
        have h1 : a + 2 * k ≤ z := Nat.not_lt.mp (fun w => g3 (nI_lt w (by omega)))
        rw [nI_sub h1] at g4
        have h2 : 2 ≤ z - (a + 2 * k) := Nat.not_lt.mp (fun w => g4 (nI_lt (b := 2) w (by decide)))
        refine ⟨hfr, ?_⟩
        have e5 : nI z - 2 * nI k - 2 = nI (z - 2 * k - 2) := by
          rw [show (2 : Int32) * nI k = nI (2 * k) from pk_mul 2 k, nI_sub (by omega)]
          exact nI_sub (b := 2) (by omega)
        rw [e5]
        exact nI_le (by omega) (by omega)
      · rintro ⟨g1, g2⟩
        obtain ⟨a, rfl, ha⟩ := rgQ_ok (c := nI z) rfl hz (by omega) g1 g2
        have ek : nI a + 2 * nI k = nI (a + 2 * k) := by rw [show (2 : Int32) * nI k = nI (2 * k) from pk_mul 2 k, nI_add]
        rw [ek]
        refine ⟨nI_pos (by omega), by decide, nI_nlt (by omega) (by omega), ?_⟩
        rw [nI_sub (by omega)]
        exact nI_nlt (b := 2) (by omega) (by omega)
    simp only [hoF, hmF]
    by_cases hq : rgQ P s fr k
    · obtain ⟨a, rfl, ha⟩ := rgQ_ok e3 hz (by omega) hq.1 hq.2
      have ek : nI a + 2 * nI k = nI (a + 2 * k) := by rw [show (2 : Int32) * nI k = nI (2 * k) from pk_mul 2 k, nI_add]
      rw [if_pos (key.mpr hq), if_pos hq, ek, nI_clamp (by omega), nI_clamp (by omega), e2 (a + 2 * k) (by omega), e2 (a + 2 * k + 1) (by omega), e4 (a + 2 * k) (by omega), show 40 * s + (a + 2 * k) + 1 = 40 * s + (a + 2 * k + 1) by omega, e4 (a + 2 * k + 1) (by omega)]
      by_cases hr : rkP (D (a + 2 * k)) (D (a + 2 * k + 1)) ∧ m < 5
      · rw [if_pos hr, if_pos hr]
        obtain ⟨l, l1, l2, l3, l4⟩ := ih (k + 1) (c + 1) (m + 1) (rdM M m (D (a + 2 * k)) (D (a + 2 * k + 1))) (rmM P m (D (a + 2 * k)) (D (a + 2 * k + 1))) (by omega) (by omega) (Or.inr ⟨a, by omega, rfl⟩) (by rw [rdM_row (by omega)]; exact e1) (fun j hj => by rw [rdM_row (by omega)]; exact e2 j hj) (by rw [rmM_row (by omega)]; exact e3) (fun j hj => by rw [rmM_row (by omega)]; exact e4 j hj)
        refine ⟨(D (a + 2 * k), D (a + 2 * k + 1)) :: l, fun q w => ?_, by simp only [List.length_cons]; omega, l3, l4⟩
        rcases List.mem_cons.mp w with w | w
        · rw [w]; exact hr.1
        · exact l1 q w
      · rw [if_neg hr, if_neg hr]
        exact ih (k + 1) c m M P (by omega) hm (Or.inr ⟨a, by omega, rfl⟩) e1 e2 e3 e4
    · rw [if_neg (fun w => hq (key.mp w)), if_neg hq]
      exact ⟨[], fun q w => absurd w List.not_mem_nil, hm, rfl, rfl⟩
theorem pr_house {E : Ev} {I : Mi} {L : Ml} {Z : Mz} {Q : Po} {x y z w : Int32} (hI : GI I Z) (H : ∀ (rv : Int32) (I1 : Mi) (L1 : Ml), MD E yX6_house cX6_house 8 (some .int) [.ref 48, .int x, .int y, .int z, .int w] (some (.int rv)) I1 L1 Z → Q (some (.int rv)) I1 L1 Z) : AC E yX5_house cX5_house 9 (some .int) 60 0 0 [.ref 0, .int x, .int y, .int z, .int w] I L Z Q := by
  obtain ⟨n, m, r, ru, N, k, tA, qA, mA, aA, bA, WA, h⟩ := hI
  have hG : GZ Z := h.1.1
  have hM : MZ Z := h.1.2.1
  have h6 := h.n6
  have hS := h.2.2.2.2.2
  refine c_X5_house (m := m) (by decide) hG h.cC.2.1 h6.2.1 (fun s hs => (hS s hs).1) (fun hb => H _ _ _ fun Q2 K => ?_) (fun s hs e g gm => H _ _ _ fun Q2 K => ?_) (fun s hs e g gm gt => H _ _ _ fun Q2 K => ?_) (fun s P hs hP e ew g gm gt rv I9 er => H _ _ _ fun Q2 K => ?_)
  · exact c_X6_house (m := m) (by decide) hM h.cM.2.1 h6.2.1 hS.zM (fun _ => K _ _ _ h.gi) (fun s hs e g _ => absurd ⟨sh_x hs e, g⟩ hb) (fun s hs e g _ _ => absurd ⟨sh_x hs e, g⟩ hb) (fun s P hs hP e ew g _ _ _ _ _ => absurd ⟨sh_x hs e, g, by rw [ew]; exact ⟨nI_pos (by omega), nI_nlt (a := 5) (by omega) (by decide)⟩⟩ hb)
  · have hn : ∀ t, t < 4 → x = nI t → I 60 t = 0 := fun t ht f => by
      have et := nI_two (by omega) (by omega) e f; subst et; exact hS.no hs gm
    exact c_X6_house (m := m) (by decide) hM h.cM.2.1 h6.2.1 hS.zM (fun w => absurd ⟨sh_x hs e, g⟩ w) (fun _ _ _ _ _ => K _ _ _ h.gi) (fun t ht f _ w _ => absurd (hn t ht f) w) (fun t P ht hP f _ _ w _ _ _ _ => absurd (hn t ht f) w)
  · obtain ⟨y1, y2, y3, y4⟩ := hS.yes hs gm
    have hst : ∀ t, t < 4 → x = nI t → t = s := fun t ht f => nI_two (by omega) (by omega) e f
    refine c_X6_house (m := m) (by decide) hM h.cM.2.1 h6.2.1 hS.zM (fun w => absurd ⟨sh_x hs e, g⟩ w) (fun t ht f _ w => ?_) (fun _ _ _ _ _ _ => K _ _ _ h.gi) (fun t P ht hP f _ _ _ w _ _ _ => ?_)
    · have := hst t ht f; subst this; exact absurd w (one_ne0 y1)
    · have := hst t ht f; subst this; rw [y2] at w; exact absurd w gt
  · obtain ⟨y1, y2, y3, y4⟩ := hS.yes hs gm
    obtain ⟨q, hq, eq⟩ := (hS s hs).1
    have hst : ∀ t, t < 4 → x = nI t → t = s := fun t ht f => nI_two (by omega) (by omega) e f
    have hw5 : ¬ w < 0 ∧ ¬ 5 < w := by rw [ew]; exact ⟨nI_pos (by omega), nI_nlt (a := 5) (by omega) (by decide)⟩
    obtain ⟨l, l1, l2, l3, -⟩ := ho_hm (fr := z) (D := I (38 + 2 * s + 1)) hs hq P 0 0 m I I (by omega) h6.2.1 (Or.inl rfl) eq (fun j hj => rfl) (y3.trans eq) (fun j hj => y4 q eq hq j hj)
    rw [l3] at er
    have er1 : rv = (hmF s z P 0 0 m I).1 := congrArg Prod.fst er
    have er2 : I9 = adC l m I := congrArg Prod.snd er
    subst er2
    have o9 : ∀ a j, a ≠ 10 → a ≠ 15 → a ≠ 16 → a ≠ 17 → adC l m I a j = I a j := fun a j g1 g2 g3 g4 => adC_o l m I a j (by omega) (by omega)
    refine c_X6_house (m := m) (by decide) hM (by rw [o9 _ _ (by omega) (by omega) (by omega) (by omega)]; exact h.cM.2.1) h6.2.1 (fun t ht w2 => by rw [o9 _ _ (by omega) (by omega) (by omega) (by omega)] at w2 ⊢; exact hS.zM t ht w2) (fun w2 => absurd ⟨sh_x hs e, g, hw5⟩ w2) (fun t ht f _ w2 => ?_) (fun t ht f _ _ w2 => ?_) (fun t P2 ht hP2 f fw _ _ _ rv2 J2 f2 => ?_)
    · have := hst t ht f; subst this; rw [o9 _ _ (by omega) (by omega) (by omega) (by omega)] at w2; exact absurd w2 (one_ne0 y1)
    · have := hst t ht f; subst this; rw [o9 _ _ (by omega) (by omega) (by omega) (by omega), y2] at w2; exact absurd gt w2
    · have := hst t ht f; subst this
      have eP : P2 = P := nI_two (by omega) (by omega) ew fw
      subst eP
      obtain ⟨l9, a1, a2, a3, a4⟩ := ho_hm (fr := z) (D := I (38 + 2 * t + 1)) hs hq P2 0 0 m I (adC l m I) (by omega) h6.2.1 (Or.inl rfl) eq (fun j hj => rfl) (by rw [o9 _ _ (by omega) (by omega) (by omega) (by omega)]; exact y3.trans eq) (fun j hj => by rw [o9 _ _ (by omega) (by omega) (by omega) (by omega)]; exact y4 q eq hq j hj)
      have f1 : rv2 = (hmF t z P2 0 0 m (adC l m I)).1 := congrArg Prod.fst f2
      have f3 : J2 = adM l9 m (adC l m I) := (congrArg Prod.snd f2).trans a4
      have e12 : ((hmF t z P2 0 0 m I).1, adC l m I) = ((hmF t z P2 0 0 m (adC l m I)).1, adC l9 m I) := l3.symm.trans a3
      have ev : rv2 = rv := by rw [f1, er1]; exact (congrArg Prod.fst e12).symm
      subst ev
      have eC : adC l m I = adC l9 m I := congrArg Prod.snd e12
      rw [f3, eC]
      have o2 : ∀ a j, ¬ (a = 10 ∧ j = 13) → ¬ ((a = 15 ∨ a = 16 ∨ a = 17) ∧ m ≤ j) → ¬ (a = 48 ∧ j = 15) → ¬ (a = 54 ∧ m ≤ j) → ¬ (a = 55 ∧ 2 * m ≤ j) → adM l9 m (adC l9 m I) a j = I a j := fun a j g1 g2 g3 g4 g5 => by rw [adM_o l9 m _ a j g3 g4 g5, adC_o l9 m I a j g1 g2]
      have o3 : ∀ a j, a < 48 → adM l9 m (adC l9 m I) a j = adC l9 m I a j := fun a j g => adM_o l9 m _ a j (by omega) (by omega) (by omega)
      have nC : adC l9 m I 10 13 = nI (m + l9.length) := adC_n l9 m I h.cC.2.1
      have nM : adM l9 m (adC l9 m I) 48 15 = nI (m + l9.length) := adM_n l9 m _ (by rw [adC_o l9 m I 48 15 (by omega) (by omega)]; exact h.cM.2.1)
      refine K _ _ _ (h.put (n2 := n) (m2 := m + l9.length) (r2 := r) (ru2 := ru) (NowR.of ⟨h6.1, a2, h6.2.2, h.now.1.2.2.2⟩ ?_ ?_ ?_ (fun c hc => ?_) (fun p hp => ?_) (fun i hi => ?_)) h.2.1.2 (by omega) (fun a j w => by unfold Ow at w; exact o2 a j (by omega) (by omega) (by omega) (by omega) (by omega))).gi
      · rw [o3 10 13 (by omega), nC, o2 10 6 (by omega) (by omega) (by omega) (by omega) (by omega), o2 10 9 (by omega) (by omega) (by omega) (by omega) (by omega), o2 10 3 (by omega) (by omega) (by omega) (by omega) (by omega)]
        exact ⟨h.cC.1, rfl, h.cC.2.2⟩
      · rw [o3 10 13 (by omega), nC, nM, o2 10 6 (by omega) (by omega) (by omega) (by omega) (by omega), o2 10 9 (by omega) (by omega) (by omega) (by omega) (by omega), o2 10 3 (by omega) (by omega) (by omega) (by omega) (by omega), o2 10 1 (by omega) (by omega) (by omega) (by omega) (by omega), o2 10 2 (by omega) (by omega) (by omega) (by omega) (by omega), o2 48 7 (by omega) (by omega) (by omega) (by omega) (by omega), o2 48 8 (by omega) (by omega) (by omega) (by omega) (by omega), o2 48 4 (by omega) (by omega) (by omega) (by omega) (by omega), o2 48 10 (by omega) (by omega) (by omega) (by omega) (by omega), o2 48 12 (by omega) (by omega) (by omega) (by omega) (by omega)]
        obtain ⟨b1, b2, b3, b4, b5, b6⟩ := h.eM
        exact ⟨b1, b2, b3, b4, b5, rfl⟩
      · rw [o2 10 1 (by omega) (by omega) (by omega) (by omega) (by omega), o2 10 2 (by omega) (by omega) (by omega) (by omega) (by omega)]
        exact ⟨h.sd, h.ho⟩
      · rw [o2 52 _ (by omega) (by omega) (by omega) (by omega) (by omega), o2 52 _ (by omega) (by omega) (by omega) (by omega) (by omega), o2 11 _ (by omega) (by omega) (by omega) (by omega) (by omega), o2 12 _ (by omega) (by omega) (by omega) (by omega) (by omega)]
        exact h.cu hc
      · by_cases hpm : p < m
        · rw [o2 54 _ (by omega) (by omega) (by omega) (by omega) (by omega), o2 55 _ (by omega) (by omega) (by omega) (by omega) (by omega), o2 55 _ (by omega) (by omega) (by omega) (by omega) (by omega), o2 15 _ (by omega) (by omega) (by omega) (by omega) (by omega), o2 16 _ (by omega) (by omega) (by omega) (by omega) (by omega), o2 17 _ (by omega) (by omega) (by omega) (by omega) (by omega)]
          exact h.re hpm
        · obtain ⟨i, rfl⟩ : ∃ i, p = m + i := ⟨p - m, by omega⟩
          obtain ⟨b1, b2, b3⟩ := adC_i l9 m I i (by omega)
          obtain ⟨d1, d2, d3⟩ := adM_i l9 m (adC l9 m I) i (by omega)
          rw [o3 15 _ (by omega), o3 16 _ (by omega), o3 17 _ (by omega), b1, b2, b3, d1, d2, d3]
          have hil : i < l9.length := by omega
          have hk := a1 (l9.getD i (0, 0)) (by
            rw [List.getD_eq_getElem?_getD, List.getElem?_eq_getElem hil]
            exact List.getElem_mem hil)
          exact ⟨⟨rfl, rfl, rfl⟩, in_rng (M := 5) (n := 5) rfl (by decide) hk.1, in_rng (M := 9) (n := 9) rfl (by decide) hk.2, ⟨0, by decide, rfl⟩⟩
      · rw [o2 53 _ (by omega) (by omega) (by omega) (by omega) (by omega), o2 53 _ (by omega) (by omega) (by omega) (by omega) (by omega), o2 13 _ (by omega) (by omega) (by omega) (by omega) (by omega), o2 14 _ (by omega) (by omega) (by omega) (by omega) (by omega)]
        exact h.rs hi
