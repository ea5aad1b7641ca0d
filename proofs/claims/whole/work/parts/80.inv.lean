/-! ===== the class and the reference, side by side ===== -/
abbrev Vw : Type := (Nat → Int32) × (Nat → Nat → Int32)
def vC (I : Mi) (h : Nat) : Vw := (fun k => match k with
  | 0 => I h 1
  | 1 => I h 2
  | 2 => I h 3
  | 3 => I h 6
  | 4 => I h 9
  | _ => I h 13, fun k => I (h + k))
def vM (I : Mi) : Vw := (fun k => match k with
  | 0 => I 48 7
  | 1 => I 48 8
  | 2 => I 48 4
  | 3 => I 48 10
  | 4 => I 48 12
  | _ => I 48 15, fun k => match k with
  | 1 => fun j => I 52 (2 * j)
  | 2 => fun j => I 52 (2 * j + 1)
  | 3 => fun j => I 53 (2 * j)
  | 4 => fun j => I 53 (2 * j + 1)
  | 5 => fun j => I 54 j
  | 6 => fun j => I 55 (2 * j)
  | _ => fun j => I 55 (2 * j + 1))
def vK (I : Mi) : Vw := (fun k => match k with
  | 0 => I 48 39
  | 1 => I 48 40
  | 2 => I 48 41
  | 3 => I 48 37
  | 4 => I 48 38
  | _ => I 48 36, fun k => match k with
  | 1 => fun j => I 57 (2 * j)
  | 2 => fun j => I 57 (2 * j + 1)
  | 3 => fun j => I 58 (2 * j)
  | 4 => fun j => I 58 (2 * j + 1)
  | 5 => fun j => I 54 j
  | 6 => fun j => I 59 (2 * j)
  | _ => fun j => I 59 (2 * j + 1))
abbrev Rg (x : Int32) (n : Nat) : Prop := ∃ q : Nat, q ≤ n ∧ x = nI q
def HRel (v w : Vw) (n m r ru : Nat) : Prop :=
  (n ≤ 6 ∧ m ≤ 5 ∧ r ≤ 12 ∧ ru < 6) ∧ (v.1 3 = nI n ∧ v.1 5 = nI m ∧ v.1 4 = nI r ∧ v.1 2 = nI ru) ∧ (w.1 0 = v.1 0 ∧ w.1 1 = v.1 1 ∧ w.1 2 = v.1 2 ∧ w.1 3 = v.1 3 ∧ w.1 4 = v.1 4 ∧ w.1 5 = v.1 5) ∧ (S12 (v.1 0) ∧ Rg (v.1 1) 999) ∧
  (∀ c, c < n → (w.2 1 c = v.2 1 c ∧ w.2 2 c = v.2 2 c) ∧ S12 (v.2 1 c) ∧ Bo (v.2 2 c)) ∧
  (∀ p, p < m → (w.2 5 p = v.2 5 p ∧ w.2 6 p = v.2 6 p ∧ w.2 7 p = v.2 7 p) ∧ Rg (v.2 5 p) 5 ∧ Rg (v.2 6 p) 9 ∧ Rg (v.2 7 p) 99) ∧
  (∀ i, i < r → (w.2 3 i = v.2 3 i ∧ w.2 4 i = v.2 4 i) ∧ S12 (v.2 3 i) ∧ Bo (v.2 4 i) ∧ v.2 3 i &&& (1 <<< (v.2 4 i &&& 31)) = 0)
def ctH (k n m r : Nat) : Nat := if k ≤ 2 then n else if k ≤ 4 then r else m
theorem HRel.eqv {v w v' w' : Vw} {n m r ru : Nat} (h : HRel v w n m r ru) (hs : ∀ k, k < 6 → v'.1 k = v.1 k ∧ w'.1 k = w.1 k) (hr : ∀ k j, 1 ≤ k → k ≤ 7 → j < ctH k n m r → v'.2 k j = v.2 k j ∧ w'.2 k j = w.2 k j) : HRel v' w' n m r ru := by
  obtain ⟨h1, h2, h3, h4, h5, h6, h7⟩ := h
  refine ⟨h1, ?_, ?_, ?_, fun c hc => ?_, fun p hp => ?_, fun i hi => ?_⟩
  · rw [(hs 3 (by decide)).1, (hs 5 (by decide)).1, (hs 4 (by decide)).1, (hs 2 (by decide)).1]; exact h2
  · rw [(hs 0 (by decide)).1, (hs 0 (by decide)).2, (hs 1 (by decide)).1, (hs 1 (by decide)).2, (hs 2 (by decide)).1, (hs 2 (by decide)).2, (hs 3 (by decide)).1, (hs 3 (by decide)).2, (hs 4 (by decide)).1, (hs 4 (by decide)).2, (hs 5 (by decide)).1, (hs 5 (by decide)).2]; exact h3
  · rw [(hs 0 (by decide)).1, (hs 1 (by decide)).1]; exact h4
  · have a := hr 1 c (by decide) (by decide) hc
    have b := hr 2 c (by decide) (by decide) hc
    rw [a.1, a.2, b.1, b.2]; exact h5 c hc
  · have a := hr 5 p (by decide) (by decide) hp
    have b := hr 6 p (by decide) (by decide) hp
    have c := hr 7 p (by decide) (by decide) hp
    rw [a.1, a.2, b.1, b.2, c.1, c.2]; exact h6 p hp
  · have a := hr 3 i (by decide) (by decide) hi
    have b := hr 4 i (by decide) (by decide) hi
    rw [a.1, a.2, b.1, b.2]; exact h7 i hi
theorem vC_eq {I J : Mi} {h n m r : Nat} (e : ∀ j, J h j = I h j) (e2 : ∀ k j, 1 ≤ k → k ≤ 7 → j < ctH k n m r → J (h + k) j = I (h + k) j) : (∀ k, k < 6 → (vC J h).1 k = (vC I h).1 k) ∧ ∀ k j, 1 ≤ k → k ≤ 7 → j < ctH k n m r → (vC J h).2 k j = (vC I h).2 k j := by
  refine ⟨fun k hk => ?_, fun k j h1 h2 hj => e2 k j h1 h2 hj⟩
  match k, hk with
  | 0, _ => exact e 1
  | 1, _ => exact e 2
  | 2, _ => exact e 3
  | 3, _ => exact e 6
  | 4, _ => exact e 9
  | 5, _ => exact e 13
  | k + 6, h => omega
theorem vM_eq {I J : Mi} {n m r : Nat} (e : ∀ j, j < 16 → J 48 j = I 48 j) (e2 : ∀ j, J 52 j = I 52 j) (e3 : ∀ j, j < 2 * r → J 53 j = I 53 j) (e4 : ∀ j, J 54 j = I 54 j) (e5 : ∀ j, J 55 j = I 55 j) : (∀ k, k < 6 → (vM J).1 k = (vM I).1 k) ∧ ∀ k j, 1 ≤ k → k ≤ 7 → j < ctH k n m r → (vM J).2 k j = (vM I).2 k j := by
  refine ⟨fun k hk => ?_, fun k j h1 h2 hj => ?_⟩
  · match k, hk with
    | 0, _ => exact e 7 (by decide)
    | 1, _ => exact e 8 (by decide)
    | 2, _ => exact e 4 (by decide)
    | 3, _ => exact e 10 (by decide)
    | 4, _ => exact e 12 (by decide)
    | 5, _ => exact e 15 (by decide)
    | k + 6, h => omega
  · match k, h1, h2, hj with
    | 1, _, _, _ => exact e2 _
    | 2, _, _, _ => exact e2 _
    | 3, _, _, hj => exact e3 _ (by have : j < r := hj; omega)
    | 4, _, _, hj => exact e3 _ (by have : j < r := hj; omega)
    | 5, _, _, _ => exact e4 _
    | 6, _, _, _ => exact e5 _
    | 7, _, _, _ => exact e5 _
    | k + 8, _, h, _ => omega
theorem vK_eq {I J : Mi} {n m r : Nat} (e : ∀ j, 36 ≤ j → J 48 j = I 48 j) (e2 : ∀ j, J 57 j = I 57 j) (e3 : ∀ j, J 58 j = I 58 j) (e4 : ∀ j, j < m → J 54 j = I 54 j) (e5 : ∀ j, J 59 j = I 59 j) : (∀ k, k < 6 → (vK J).1 k = (vK I).1 k) ∧ ∀ k j, 1 ≤ k → k ≤ 7 → j < ctH k n m r → (vK J).2 k j = (vK I).2 k j := by
  refine ⟨fun k hk => ?_, fun k j h1 h2 hj => ?_⟩
  · match k, hk with
    | 0, _ => exact e 39 (by decide)
    | 1, _ => exact e 40 (by decide)
    | 2, _ => exact e 41 (by decide)
    | 3, _ => exact e 37 (by decide)
    | 4, _ => exact e 38 (by decide)
    | 5, _ => exact e 36 (by decide)
    | k + 6, h => omega
  · match k, h1, h2, hj with
    | 1, _, _, _ => exact e2 _
    | 2, _, _, _ => exact e2 _
    | 3, _, _, _ => exact e3 _
    | 4, _, _, _ => exact e3 _
    | 5, _, _, hj => exact e4 _ hj
    | 6, _, _, _ => exact e5 _
    | 7, _, _, _ => exact e5 _
    | k + 8, _, h, _ => omega
def NowR (I : Mi) (n m r ru : Nat) : Prop := HRel (vC I 10) (vM I) n m r ru
theorem NowR.eqv {I J : Mi} {n m r ru : Nat} (h : NowR I n m r ru) (e : ∀ a j, a = 10 ∨ (11 ≤ a ∧ a ≤ 17 ∧ ¬ ((a = 13 ∨ a = 14) ∧ r ≤ j)) ∨ (a = 48 ∧ j < 16) ∨ a = 52 ∨ (a = 53 ∧ j < 2 * r) ∨ a = 54 ∨ a = 55 → J a j = I a j) : NowR J n m r ru := by
  obtain ⟨c1, c2⟩ := vC_eq (I := I) (J := J) (h := 10) (n := n) (m := m) (r := r) (fun j => e 10 j (by omega)) (fun k j h1 h2 hj => e (10 + k) j (by
    unfold ctH at hj
    split at hj
    · omega
    · split at hj <;> omega))
  obtain ⟨m1, m2⟩ := vM_eq (I := I) (J := J) (n := n) (m := m) (r := r) (fun j hj => e 48 j (by omega)) (fun j => e 52 j (by omega)) (fun j hj => e 53 j (by omega)) (fun j => e 54 j (by omega)) (fun j => e 55 j (by omega))
  exact HRel.eqv h (fun k hk => ⟨c1 k hk, m1 k hk⟩) (fun k j h1 h2 hj => ⟨c2 k j h1 h2 hj, m2 k j h1 h2 hj⟩)
def KepR (I : Mi) (m N : Nat) : Prop := (I 0 6 = 0 ∧ I 48 36 = -1) ∨ (I 0 6 = 1 ∧ ∃ n' m' r' ru', HRel (vC I 19) (vK I) n' m' r' ru' ∧ ru' < N ∧ m' ≤ m)
theorem KepR.eqv {I J : Mi} {m N m2 N2 : Nat} (h : KepR I m N) (hm : m ≤ m2) (hN : N ≤ N2) (e : ∀ a j, (a = 0 ∧ j = 6) ∨ (19 ≤ a ∧ a ≤ 26) ∨ (a = 48 ∧ 36 ≤ j) ∨ (a = 54 ∧ j < m) ∨ a = 57 ∨ a = 58 ∨ a = 59 → J a j = I a j) : KepR J m2 N2 := by
  rcases h with ⟨h1, h2⟩ | ⟨h1, n', m', r', ru', h2, h3, h4⟩
  · exact Or.inl ⟨by rw [e 0 6 (by omega)]; exact h1, by rw [e 48 36 (by omega)]; exact h2⟩
  · refine Or.inr ⟨by rw [e 0 6 (by omega)]; exact h1, n', m', r', ru', ?_, by omega, by omega⟩
    obtain ⟨c1, c2⟩ := vC_eq (I := I) (J := J) (h := 19) (n := n') (m := m') (r := r') (fun j => e 19 j (by omega)) (fun k j h1 h2 hj => e (19 + k) j (by omega))
    obtain ⟨m1, m2⟩ := vK_eq (I := I) (J := J) (n := n') (m := m') (r := r') (fun j hj => e 48 j (by omega)) (fun j => e 57 j (by omega)) (fun j => e 58 j (by omega)) (fun j hj => e 54 j (by omega)) (fun j => e 59 j (by omega))
    exact HRel.eqv h2 (fun k hk => ⟨c1 k hk, m1 k hk⟩) (fun k j h1 h2 hj => ⟨c2 k j h1 h2 hj, m2 k j h1 h2 hj⟩)
abbrev Wt : Type := Nat → (Nat → Int32) → Int32
def TexR (I : Mi) (Z : Mz) (N : Nat) (tA qA mA aA bA : Nat → Nat) (WA : Nat → Wt) : Prop := (1 ≤ N ∧ N ≤ 6) ∧ I 1 2 = nI N ∧ I 48 3 = nI N ∧ TXS I Z N tA qA mA aA bA ∧ ∀ v, v < N → TXM I v (WA v) ∧ (tA v < 48 ∨ 63 < tA v) ∧ (qA v < 48 ∨ 63 < qA v) ∧ ∀ p nm, p < 3 → tvV (I (qA v)) (aA v) (bA v) (mA v) p nm = WA v p nm
theorem TexR.eqv {I J : Mi} {Z : Mz} {N : Nat} {tA qA mA aA bA : Nat → Nat} {WA : Nat → Wt} (h : TexR I Z N tA qA mA aA bA WA) (e : ∀ a j, (a = 1 ∧ j = 2) ∨ (a = 48 ∧ j = 3) ∨ a = 49 ∨ a = 50 ∨ (45 < a ∧ (a < 48 ∨ 63 < a)) → J a j = I a j) : TexR J Z N tA qA mA aA bA WA := by
  obtain ⟨h1, h2, h3, h4, h5⟩ := h
  refine ⟨h1, by rw [e 1 2 (by omega)]; exact h2, by rw [e 48 3 (by omega)]; exact h3, fun v hv => ?_, fun v hv => ?_⟩
  · obtain ⟨a1, a2, a3, a4, a5, a6, a7, a8, a9⟩ := h4 v hv
    obtain ⟨-, b2, b3, -⟩ := h5 v hv
    exact ⟨a1, a2, a3, by rw [e _ _ (by omega)]; exact a4, by rw [e _ _ (by omega)]; exact a5, a6, a7, a8, a9⟩
  · obtain ⟨a1, a2, a3, a4, a5, a6, a7, a8, a9⟩ := h4 v hv
    obtain ⟨b1, b2, b3, b4⟩ := h5 v hv
    refine ⟨b1.eqv (funext fun j => e 49 j (by omega)) (funext fun j => e 50 j (by omega)), b2, b3, fun p nm hp => ?_⟩
    rw [show J (qA v) = I (qA v) from funext fun j => e _ j (by omega)]
    exact b4 p nm hp
def TapR (I : Mi) (k : Nat) : Prop := k ≤ 160 ∧ I 4 1 = nI k ∧ I 48 6 = nI k ∧ ∀ j, j < k → I 51 j = I 5 j ∧ ¬ I 5 j < 0
theorem TapR.eqv {I J : Mi} {k : Nat} (h : TapR I k) (e : ∀ a j, (a = 4 ∧ j = 1) ∨ a = 5 ∨ (a = 48 ∧ j = 6) ∨ a = 51 → J a j = I a j) : TapR J k := by
  obtain ⟨h1, h2, h3, h4⟩ := h
  refine ⟨h1, by rw [e _ _ (by omega)]; exact h2, by rw [e _ _ (by omega)]; exact h3, fun j hj => ?_⟩
  rw [e 51 j (by omega), e 5 j (by omega)]
  exact h4 j hj
def SheO (I : Mi) (s : Nat) : Prop := (∃ z, z ≤ 40 ∧ I (38 + 2 * s) 2 = nI z) ∧ ((I (38 + 2 * s) 1 = -1 ∧ I 60 s = 0) ∨ (¬ I (38 + 2 * s) 1 = -1 ∧ I 60 s = 1 ∧ I 61 s = I (38 + 2 * s) 1 ∧ I 62 s = I (38 + 2 * s) 2 ∧ ∀ z, I (38 + 2 * s) 2 = nI z → z ≤ 40 → ∀ j, j < z → I 63 (40 * s + j) = I (38 + 2 * s + 1) j))
def SheR (I : Mi) : Prop := ∀ s, s < 4 → SheO I s
theorem SheO.eqv {I J : Mi} {s : Nat} (h : SheO I s) (hs : s < 4) (e : ∀ a j, a = 38 + 2 * s ∨ a = 38 + 2 * s + 1 ∨ ((a = 60 ∨ a = 61 ∨ a = 62) ∧ j = s) ∨ (a = 63 ∧ 40 * s ≤ j ∧ j < 40 * s + 40) → J a j = I a j) : SheO J s := by
  obtain ⟨⟨z, hz, ez⟩, h2⟩ := h
  refine ⟨⟨z, hz, by rw [e _ _ (by omega)]; exact ez⟩, ?_⟩
  rcases h2 with ⟨g1, g2⟩ | ⟨g1, g2, g3, g4, g5⟩
  · exact Or.inl ⟨by rw [e _ _ (by omega)]; exact g1, by rw [e _ _ (by omega)]; exact g2⟩
  · refine Or.inr ⟨by rw [e _ _ (by omega)]; exact g1, by rw [e _ _ (by omega)]; exact g2, by rw [e 61 _ (by omega), e (38 + 2 * s) _ (by omega)]; exact g3, by rw [e 62 _ (by omega), e (38 + 2 * s) _ (by omega)]; exact g4, fun z e2 hz j hj => ?_⟩
    rw [e (38 + 2 * s) _ (by omega)] at e2
    rw [e 63 _ (by omega), e (38 + 2 * s + 1) _ (by omega)]
    exact g5 z e2 hz j hj
theorem SheR.eqv {I J : Mi} (h : SheR I) (e : ∀ a j, (38 ≤ a ∧ a ≤ 45) ∨ (60 ≤ a ∧ a ≤ 63) → J a j = I a j) : SheR J := fun s hs => (h s hs).eqv hs (fun a j w => e a j (by omega))
def INV (I : Mi) (Z : Mz) (n m r ru N k : Nat) (tA qA mA aA bA : Nat → Nat) (WA : Nat → Wt) : Prop := (GZ Z ∧ MZ Z ∧ zK Z 2 = 10) ∧ (NowR I n m r ru ∧ ru < N) ∧ KepR I m N ∧ TexR I Z N tA qA mA aA bA WA ∧ TapR I k ∧ SheR I
def GI (I : Mi) (Z : Mz) : Prop := ∃ (n m r ru N k : Nat) (tA qA mA aA bA : Nat → Nat) (WA : Nat → Wt), INV I Z n m r ru N k tA qA mA aA bA WA
def Rv (r a j : Nat) : Prop := a ≠ 3 ∧ a ≠ 18 ∧ ¬ (28 ≤ a ∧ a ≤ 36) ∧ a ≠ 56 ∧ ¬ (6 ≤ a ∧ a ≤ 9) ∧ ¬ (a = 4 ∧ 5 ≤ j) ∧ ¬ (a = 48 ∧ 16 ≤ j ∧ j ≤ 31) ∧ ¬ (a = 53 ∧ 2 * r ≤ j) ∧ ¬ ((a = 13 ∨ a = 14) ∧ r ≤ j)
section PINV
variable {I J : Mi} {Z : Mz} {n m r ru N k : Nat} {tA qA mA aA bA : Nat → Nat} {WA : Nat → Wt}
theorem INV.same (h : INV I Z n m r ru N k tA qA mA aA bA WA) (e : ∀ a j, Rv r a j → J a j = I a j) : INV J Z n m r ru N k tA qA mA aA bA WA := by
  obtain ⟨h1, ⟨h2, h3⟩, h4, h5, h6, h7⟩ := h
  exact ⟨h1, ⟨h2.eqv fun a j w => e a j (by unfold Rv; omega), h3⟩, h4.eqv (Nat.le_refl _) (Nat.le_refl _) fun a j w => e a j (by unfold Rv; omega), h5.eqv fun a j w => e a j (by unfold Rv; omega), h6.eqv fun a j w => e a j (by unfold Rv; omega), h7.eqv fun a j w => e a j (by unfold Rv; omega)⟩
theorem INV.gi (h : INV I Z n m r ru N k tA qA mA aA bA WA) : GI I Z := ⟨n, m, r, ru, N, k, tA, qA, mA, aA, bA, WA, h⟩
theorem INV.now (h : INV I Z n m r ru N k tA qA mA aA bA WA) : NowR I n m r ru := h.2.1.1
theorem INV.n6 (h : INV I Z n m r ru N k tA qA mA aA bA WA) : n ≤ 6 ∧ m ≤ 5 ∧ r ≤ 12 := ⟨h.now.1.1, h.now.1.2.1, h.now.1.2.2.1⟩
theorem INV.cC (h : INV I Z n m r ru N k tA qA mA aA bA WA) : I 10 6 = nI n ∧ I 10 13 = nI m ∧ I 10 9 = nI r ∧ I 10 3 = nI ru := h.now.2.1
theorem INV.eM (h : INV I Z n m r ru N k tA qA mA aA bA WA) : I 48 7 = I 10 1 ∧ I 48 8 = I 10 2 ∧ I 48 4 = I 10 3 ∧ I 48 10 = I 10 6 ∧ I 48 12 = I 10 9 ∧ I 48 15 = I 10 13 := h.now.2.2.1
theorem INV.cM (h : INV I Z n m r ru N k tA qA mA aA bA WA) : I 48 10 = nI n ∧ I 48 15 = nI m ∧ I 48 12 = nI r ∧ I 48 4 = nI ru := by
  obtain ⟨a1, a2, a3, a4⟩ := h.cC
  obtain ⟨b1, b2, b3, b4, b5, b6⟩ := h.eM
  exact ⟨b4.trans a1, b6.trans a2, b5.trans a3, b3.trans a4⟩
theorem INV.sd (h : INV I Z n m r ru N k tA qA mA aA bA WA) : S12 (I 10 1) := h.now.2.2.2.1.1
theorem INV.ho (h : INV I Z n m r ru N k tA qA mA aA bA WA) : Rg (I 10 2) 999 := h.now.2.2.2.1.2
theorem INV.cu (h : INV I Z n m r ru N k tA qA mA aA bA WA) {c : Nat} (hc : c < n) : (I 52 (2 * c) = I 11 c ∧ I 52 (2 * c + 1) = I 12 c) ∧ S12 (I 11 c) ∧ Bo (I 12 c) := h.now.2.2.2.2.1 c hc
theorem INV.re (h : INV I Z n m r ru N k tA qA mA aA bA WA) {p : Nat} (hp : p < m) : (I 54 p = I 15 p ∧ I 55 (2 * p) = I 16 p ∧ I 55 (2 * p + 1) = I 17 p) ∧ Rg (I 15 p) 5 ∧ Rg (I 16 p) 9 ∧ Rg (I 17 p) 99 := h.now.2.2.2.2.2.1 p hp
theorem INV.rs (h : INV I Z n m r ru N k tA qA mA aA bA WA) {i : Nat} (hi : i < r) : (I 53 (2 * i) = I 13 i ∧ I 53 (2 * i + 1) = I 14 i) ∧ S12 (I 13 i) ∧ Bo (I 14 i) ∧ I 13 i &&& (1 <<< (I 14 i &&& 31)) = 0 := h.now.2.2.2.2.2.2 i hi
theorem INV.rd (h : INV I Z n m r ru N k tA qA mA aA bA WA) : RD I Z 10 ru (tA ru) (qA ru) (mA ru) (aA ru) (bA ru) n := by
  obtain ⟨⟨g1, g2, g3⟩, ⟨-, h3⟩, -, h5, -, -⟩ := id h
  obtain ⟨a1, a2, a3, a4, a5, a6, a7, a8, a9⟩ := h5.2.2.2.1 ru h3
  obtain ⟨c1, c2, c3, c4⟩ := h.cC
  exact ⟨g1.2.2.2.2.2.2.2.2.2.1, g1.2.2.2.2.2.2.2.2.2.2.2.2.1, ⟨c4, by have := h5.1.2; omega, a1, a2, a3, a4, a5, a6, a7, by omega, by omega, by omega, by omega⟩, c1, h.n6.1, by decide⟩
theorem INV.tq (h : INV I Z n m r ru N k tA qA mA aA bA WA) : 45 < tA ru ∧ 45 < qA ru := by
  obtain ⟨-, ⟨-, h3⟩, -, h5, -, -⟩ := id h
  obtain ⟨a1, a2, a3, a4, a5, a6, a7, a8, a9⟩ := h5.2.2.2.1 ru h3
  exact ⟨a8, a9⟩
theorem INV.rdm (h : INV I Z n m r ru N k tA qA mA aA bA WA) : RDM I (WA ru) ru n m := by
  obtain ⟨-, ⟨-, h3⟩, -, h5, -, -⟩ := id h
  obtain ⟨c1, c2, c3, c4⟩ := h.cM
  obtain ⟨H, hH, eH⟩ := h.ho
  refine ⟨⟨c4, by have := h5.1.2; omega, (h5.2.2.2.2 ru h3).1⟩, ⟨c1, h.n6.1⟩, ⟨c2, h.n6.2.1⟩, fun c hc => ?_, fun p hp => ?_, H, by omega, ?_⟩
  · rw [(h.cu hc).1.1]; exact (h.cu hc).2.1
  · obtain ⟨q, hq, e⟩ := (h.re hp).2.1
    exact ⟨q, hq, by rw [(h.re hp).1.1]; exact e⟩
  · rw [h.eM.2.1]; exact eH
end PINV
abbrev MD (E : Ev) (y : MethodName) (cc : ByteArray) (nL : Nat) (rt : Option FieldType) (As : List Value) (v : Option Value) (I : Mi) (L : Ml) (Z : Mz) : Prop := ∀ Q2 : Po, (∀ I2 L2 Z2, GI I2 Z2 → Q2 v I2 L2 Z2) → AC E y cc nL rt 60 0 0 As I L Z Q2
theorem in_rng {x M : Int32} {n : Nat} (hM : M = nI n) (hn : n < 2 ^ 31) (h : ¬ x < 0 ∧ ¬ M < x) : ∃ q, q ≤ n ∧ x = nI q := nI_of2 (M := M) (n := n) (by rw [hM]; rw [nI, Int32.toInt_ofNat_of_lt hn]) h.1 (Int32.not_lt.mp h.2)
