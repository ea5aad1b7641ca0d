/-! ===== pairs: what is read ===== -/
theorem rl_gen {M P : Mi} {h q ma mb mm w p c : Nat} {W : Wt} (hW : ∀ nm, tvV (M q) ma mb mm w nm = W w nm) (e1 : P 52 (2 * c) = M (h + 1) c) (e2 : P 52 (2 * c + 1) = M (h + 2) c) (e6 : P 55 (2 * p) = M (h + 6) p) (e7 : P 55 (2 * p + 1) = M (h + 7) p) (eh : P 48 8 = M h 2) : rlC M h q ma mb mm w p c = rlM P W w p c := by
  unfold rlC rlM
  rw [hW, e1, e2, e6, e7, eh]
theorem rb_gen {M P : Mi} {h q ma mb mm p c : Nat} {W : Wt} (hW : ∀ w nm, w < 3 → tvV (M q) ma mb mm w nm = W w nm) (e1 : P 52 (2 * c) = M (h + 1) c) (e2 : P 52 (2 * c + 1) = M (h + 2) c) (e5 : P 54 p = M (h + 5) p) (e6 : P 55 (2 * p) = M (h + 6) p) (e7 : P 55 (2 * p + 1) = M (h + 7) p) (eh : P 48 8 = M h 2) : rbV M h q ma mb mm p c = rbM P W p c := by
  unfold rbV rbM
  rw [rl_gen (hW 0 · (by decide)) e1 e2 e6 e7 eh, rl_gen (hW 1 · (by decide)) e1 e2 e6 e7 eh, e1, e2, e5, e6, eh]
theorem sd_gen {M P : Mi} {h q ma mb mm p : Nat} {W : Wt} (hW : ∀ w nm, w < 3 → tvV (M q) ma mb mm w nm = W w nm) (e5 : P 54 p = M (h + 5) p) (e6 : P 55 (2 * p) = M (h + 6) p) (e7 : P 55 (2 * p + 1) = M (h + 7) p) (eh : P 48 8 = M h 2) : sdP M h q ma mb mm p ↔ sdM P W p := by
  have er : rlN M h q ma mb mm 2 p = rlO P W p := by
    unfold rlN rlO
    rw [hW 2 _ (by decide), e6, e7, eh]
    rfl
  unfold sdP sdM
  rw [er, e5, e7]
section PRB
variable {I J : Mi} {Z : Mz} {n m r ru N k : Nat} {tA qA mA aA bA : Nat → Nat} {WA : Nat → Wt}
theorem INV.tv (h : INV I Z n m r ru N k tA qA mA aA bA WA) : ∀ w nm, w < 3 → tvV (I (qA ru)) (aA ru) (bA ru) (mA ru) w nm = WA ru w nm := fun w nm hw => (h.2.2.2.1.2.2.2.2 ru h.2.1.2).2.2.2 w nm hw
theorem INV.rb (h : INV I Z n m r ru N k tA qA mA aA bA WA) {p c : Nat} (hp : p < m) (hc : c < n) : rbV I 10 (qA ru) (aA ru) (bA ru) (mA ru) p c = rbM I (WA ru) p c := rb_gen h.tv (h.cu hc).1.1 (h.cu hc).1.2 (h.re hp).1.1 (h.re hp).1.2.1 (h.re hp).1.2.2 h.eM.2.1
theorem INV.st (h : INV I Z n m r ru N k tA qA mA aA bA WA) {p : Nat} (hp : p < m) : sdP I 10 (qA ru) (aA ru) (bA ru) (mA ru) p ↔ sdM I (WA ru) p := sd_gen h.tv (h.re hp).1.1 (h.re hp).1.2.1 (h.re hp).1.2.2 h.eM.2.1
theorem INV.samH (h : INV I Z n m r ru N k tA qA mA aA bA WA) (s : SamH 10 I J) : INV J Z n m r ru N k tA qA mA aA bA WA := h.same fun a j w => by rw [s a w.1 w.2.1]
theorem INV.saM (h : INV I Z n m r ru N k tA qA mA aA bA WA) (s : SaM I J) : INV J Z n m r ru N k tA qA mA aA bA WA := h.same fun a j w => s a j w.2.2.2.2.2.2.1
theorem INV.saB (h : INV I Z n m r ru N k tA qA mA aA bA WA) (s : SaB r I J) : INV J Z n m r ru N k tA qA mA aA bA WA := h.same fun a j w => s a j w.2.2.2.2.2.2.1 (by have := w.2.2.2.2.2.2.2.1; omega)
theorem INV.saD (h : INV I Z n m r ru N k tA qA mA aA bA WA) (s : SaD r I J) : INV J Z n m r ru N k tA qA mA aA bA WA := h.same fun a j w => s a j w.2.2.2.2.2.2.1 w.2.2.2.2.2.2.2.1 w.2.2.2.1
theorem INV.u31 (h : INV I Z n m r ru N k tA qA mA aA bA WA) (x : Int32) : INV (iU I 48 31 x) Z n m r ru N k tA qA mA aA bA WA := h.same fun a j w => by rw [iU_at (by have := w.2.2.2.2.2.2.1; omega)]
theorem INV.thx (h : INV I Z n m r ru N k tA qA mA aA bA WA) (s : ThX I J) : INV J Z n m r ru N k tA qA mA aA bA WA := h.same fun a j w => by rw [s a w.1 w.2.1 (by have := w.2.2.1; omega)]
theorem INV.ths (h : INV I Z n m r ru N k tA qA mA aA bA WA) (s : ThS I J) : INV J Z n m r ru N k tA qA mA aA bA WA := h.same fun a j w => by rw [s a w.1 (by have := w.2.2.1; omega)]
theorem INV.samF (h : INV I Z n m r ru N k tA qA mA aA bA WA) (s : SamF 10 r I J) : INV J Z n m r ru N k tA qA mA aA bA WA := h.same fun a j w => by
  obtain ⟨w1, w2, w3, w4, w5, w6, w7, w8, w9⟩ := w
  by_cases e3 : a = 13
  · subst e3; exact (s.2 j (by omega)).1
  by_cases e4 : a = 14
  · subst e4; exact (s.2 j (by omega)).2
  rw [s.1 a w1 w2 e3 e4]
theorem INV.tap (h : INV I Z n m r ru N k tA qA mA aA bA WA) {k2 : Nat} (hT : TapR J k2) (e : ∀ a j, a ≠ 4 → a ≠ 5 → ¬ (a = 48 ∧ j = 6) → a ≠ 51 → ¬ (6 ≤ a ∧ a ≤ 9) → J a j = I a j) : INV J Z n m r ru N k2 tA qA mA aA bA WA := by
  obtain ⟨h1, ⟨h2, h3⟩, h4, h5, h6, h7⟩ := h
  by_cases hj : ∀ j, j < 16 → j ≠ 6 → J 48 j = I 48 j
  · exact ⟨h1, ⟨⟨h2.1, by
      obtain ⟨a1, a2, a3, a4⟩ := h2.2.1
      exact ⟨(e 10 6 (by omega) (by omega) (by omega) (by omega) (by omega)).trans a1, (e 10 13 (by omega) (by omega) (by omega) (by omega) (by omega)).trans a2, (e 10 9 (by omega) (by omega) (by omega) (by omega) (by omega)).trans a3, (e 10 3 (by omega) (by omega) (by omega) (by omega) (by omega)).trans a4⟩, by
      obtain ⟨a1, a2, a3, a4, a5, a6⟩ := h2.2.2.1
      have q : ∀ x y, x < 16 → x ≠ 6 → I 48 x = I 10 y → J 48 x = J 10 y := fun x y g1 g2 g3 => by rw [hj x g1 g2, e 10 y (by omega) (by omega) (by omega) (by omega) (by omega)]; exact g3
      exact ⟨q 7 1 (by decide) (by decide) a1, q 8 2 (by decide) (by decide) a2, q 4 3 (by decide) (by decide) a3, q 10 6 (by decide) (by decide) a4, q 12 9 (by decide) (by decide) a5, q 15 13 (by decide) (by decide) a6⟩, by
      have q : ∀ y, J 10 y = I 10 y := fun y => e 10 y (by omega) (by omega) (by omega) (by omega) (by omega)
      show S12 (J 10 1) ∧ Rg (J 10 2) 999
      rw [q, q]; exact h2.2.2.2.1, fun c hc => by
      have q : ∀ a y, 11 ≤ a → a ≤ 55 → a ≠ 48 → a ≠ 51 → J a y = I a y := fun a y g1 g2 g3 g4 => e a y (by omega) (by omega) (by omega) (by omega) (by omega)
      show (J 52 (2 * c) = J 11 c ∧ J 52 (2 * c + 1) = J 12 c) ∧ S12 (J 11 c) ∧ Bo (J 12 c)
      rw [q 52 _ (by omega) (by omega) (by omega) (by omega), q 52 _ (by omega) (by omega) (by omega) (by omega), q 11 _ (by omega) (by omega) (by omega) (by omega), q 12 _ (by omega) (by omega) (by omega) (by omega)]
      exact h2.2.2.2.2.1 c hc, fun p hp => by
      have q : ∀ a y, 11 ≤ a → a ≤ 55 → a ≠ 48 → a ≠ 51 → J a y = I a y := fun a y g1 g2 g3 g4 => e a y (by omega) (by omega) (by omega) (by omega) (by omega)
      show (J 54 p = J 15 p ∧ J 55 (2 * p) = J 16 p ∧ J 55 (2 * p + 1) = J 17 p) ∧ Rg (J 15 p) 5 ∧ Rg (J 16 p) 9 ∧ Rg (J 17 p) 99
      rw [q 54 _ (by omega) (by omega) (by omega) (by omega), q 55 _ (by omega) (by omega) (by omega) (by omega), q 55 _ (by omega) (by omega) (by omega) (by omega), q 15 _ (by omega) (by omega) (by omega) (by omega), q 16 _ (by omega) (by omega) (by omega) (by omega), q 17 _ (by omega) (by omega) (by omega) (by omega)]
      exact h2.2.2.2.2.2.1 p hp, fun i hi => by
      have q : ∀ a y, 11 ≤ a → a ≤ 55 → a ≠ 48 → a ≠ 51 → J a y = I a y := fun a y g1 g2 g3 g4 => e a y (by omega) (by omega) (by omega) (by omega) (by omega)
      show (J 53 (2 * i) = J 13 i ∧ J 53 (2 * i + 1) = J 14 i) ∧ S12 (J 13 i) ∧ Bo (J 14 i) ∧ J 13 i &&& (1 <<< (J 14 i &&& 31)) = 0
      rw [q 53 _ (by omega) (by omega) (by omega) (by omega), q 53 _ (by omega) (by omega) (by omega) (by omega), q 13 _ (by omega) (by omega) (by omega) (by omega), q 14 _ (by omega) (by omega) (by omega) (by omega)]
      exact h2.2.2.2.2.2.2 i hi⟩, h3⟩, h4.eqv (Nat.le_refl _) (Nat.le_refl _) fun a j w => e a j (by omega) (by omega) (by omega) (by omega) (by omega), h5.eqv fun a j w => e a j (by omega) (by omega) (by omega) (by omega) (by omega), hT, h7.eqv fun a j w => e a j (by omega) (by omega) (by omega) (by omega) (by omega)⟩
  · exact absurd (fun j g1 g2 => e 48 j (by omega) (by omega) (by omega) (by omega) (by omega)) hj
theorem INV.she (h : INV I Z n m r ru N k tA qA mA aA bA WA) (hS : SheR J) (e : ∀ a j, Rv r a j → ¬ (38 ≤ a ∧ a ≤ 45) → ¬ (60 ≤ a ∧ a ≤ 63) → J a j = I a j) : INV J Z n m r ru N k tA qA mA aA bA WA := by
  obtain ⟨h1, ⟨h2, h3⟩, h4, h5, h6, h7⟩ := h
  exact ⟨h1, ⟨h2.eqv fun a j w => e a j (by unfold Rv; omega) (by omega) (by omega), h3⟩, h4.eqv (Nat.le_refl _) (Nat.le_refl _) fun a j w => e a j (by unfold Rv; omega) (by omega) (by omega), h5.eqv fun a j w => e a j (by unfold Rv; omega) (by omega) (by omega), h6.eqv fun a j w => e a j (by unfold Rv; omega) (by omega) (by omega), hS⟩
end PRB
theorem pr_told {E : Ev} {I : Mi} {L : Ml} {Z : Mz} {Q : Po} {x z : Int32} (hI : GI I Z) (H : ∀ (rv : Int32) (I1 : Mi) (L1 : Ml), MD E yX6_told cX6_told 3 (some .int) [.ref 48, .int x, .int z] (some (.int rv)) I1 L1 Z → Q (some (.int rv)) I1 L1 Z) : AC E yX5_told cX5_told 3 (some .int) 60 0 0 [.ref 0, .int x, .int z] I L Z Q := by
  obtain ⟨n, m, r, ru, N, k, tA, qA, mA, aA, bA, WA, h⟩ := hI
  have hG : GZ Z := h.1.1
  have hM : MZ Z := h.1.2.1
  have h6 := h.n6
  by_cases hx : ¬ z < 0 ∧ ¬ 9 < z
  · obtain ⟨w, hw, rfl⟩ := in_rng (M := 9) (n := 9) rfl (by decide) hx
    match w, hw with
    | 0, _ => exact c_X5_told0 (by decide) hG (H _ _ _ fun Q2 K => c_X6_told0 (by decide) hM (by rw [h.eM.1]; exact K _ _ _ h.gi))
    | 1, _ => exact c_X5_told1 (by decide) hG (H _ _ _ fun Q2 K => c_X6_told1 (by decide) hM (by rw [h.eM.2.1]; exact K _ _ _ h.gi))
    | 2, _ =>
      refine c_X5_told2 (n := n) (by decide) hG h.cC.1 h6.1 (fun hb => H _ _ _ fun Q2 K => c_X6_told2 (n := n) (by decide) hM h.cM.1 h6.1 (fun _ => K _ _ _ h.gi) (fun j hj e => absurd ⟨j, hj, e⟩ hb)) (fun j hj e => H _ _ _ fun Q2 K => c_X6_told2 (n := n) (by decide) hM h.cM.1 h6.1 (fun hb => absurd ⟨j, hj, e⟩ hb) (fun j2 hj2 e2 => ?_))
      have ej : j = j2 := (nI_eq (by omega) (by omega)).mp (e.symm.trans e2)
      subst ej
      rw [(h.cu hj).1.1]
      exact K _ _ _ h.gi
    | 3, _ =>
      refine c_X5_told3 (n := n) (by decide) hG h.cC.1 h6.1 (fun hb => H _ _ _ fun Q2 K => c_X6_told3 (n := n) (by decide) hM h.cM.1 h6.1 (fun _ => K _ _ _ h.gi) (fun j hj e => absurd ⟨j, hj, e⟩ hb)) (fun j hj e => H _ _ _ fun Q2 K => c_X6_told3 (n := n) (by decide) hM h.cM.1 h6.1 (fun hb => absurd ⟨j, hj, e⟩ hb) (fun j2 hj2 e2 => ?_))
      have ej : j = j2 := (nI_eq (by omega) (by omega)).mp (e.symm.trans e2)
      subst ej
      rw [(h.cu hj).1.2]
      exact K _ _ _ h.gi
    | 4, _ =>
      refine c_X5_told4 (n := m) (by decide) hG h.cC.2.1 h6.2.1 (fun hb => H _ _ _ fun Q2 K => c_X6_told4 (n := m) (by decide) hM h.cM.2.1 h6.2.1 (fun _ => K _ _ _ h.gi) (fun j hj e => absurd ⟨j, hj, e⟩ hb)) (fun j hj e => H _ _ _ fun Q2 K => c_X6_told4 (n := m) (by decide) hM h.cM.2.1 h6.2.1 (fun hb => absurd ⟨j, hj, e⟩ hb) (fun j2 hj2 e2 => ?_))
      have ej : j = j2 := (nI_eq (by omega) (by omega)).mp (e.symm.trans e2)
      subst ej
      rw [(h.re hj).1.2.1]
      exact K _ _ _ h.gi
    | 5, _ =>
      refine c_X5_told5 (n := m) (by decide) hG h.cC.2.1 h6.2.1 (fun hb => H _ _ _ fun Q2 K => c_X6_told5 (n := m) (by decide) hM h.cM.2.1 h6.2.1 (fun _ => K _ _ _ h.gi) (fun j hj e => absurd ⟨j, hj, e⟩ hb)) (fun j hj e => H _ _ _ fun Q2 K => c_X6_told5 (n := m) (by decide) hM h.cM.2.1 h6.2.1 (fun hb => absurd ⟨j, hj, e⟩ hb) (fun j2 hj2 e2 => ?_))
      have ej : j = j2 := (nI_eq (by omega) (by omega)).mp (e.symm.trans e2)
      subst ej
      rw [(h.re hj).1.2.2]
      exact K _ _ _ h.gi
    | 6, _ =>
      refine c_X5_told6 (n := m) (by decide) hG h.cC.2.1 h6.2.1 (fun hb => H _ _ _ fun Q2 K => c_X6_told6 (n := m) (by decide) hM h.cM.2.1 h6.2.1 (fun _ => K _ _ _ h.gi) (fun j hj e => absurd ⟨j, hj, e⟩ hb)) (fun j hj e => H _ _ _ fun Q2 K => c_X6_told6 (n := m) (by decide) hM h.cM.2.1 h6.2.1 (fun hb => absurd ⟨j, hj, e⟩ hb) (fun j2 hj2 e2 => ?_))
      have ej : j = j2 := (nI_eq (by omega) (by omega)).mp (e.symm.trans e2)
      subst ej
      rw [(h.re hj).1.1]
      exact K _ _ _ h.gi
    | 8, _ =>
      refine c_X5_told8 (n := r) (by decide) hG h.cC.2.2.1 h6.2.2 (fun hb => H _ _ _ fun Q2 K => c_X6_told8 (n := r) (by decide) hM h.cM.2.2.1 h6.2.2 (fun _ => K _ _ _ h.gi) (fun j hj e => absurd ⟨j, hj, e⟩ hb)) (fun j hj e => H _ _ _ fun Q2 K => c_X6_told8 (n := r) (by decide) hM h.cM.2.2.1 h6.2.2 (fun hb => absurd ⟨j, hj, e⟩ hb) (fun j2 hj2 e2 => ?_))
      have ej : j = j2 := (nI_eq (by omega) (by omega)).mp (e.symm.trans e2)
      subst ej
      rw [(h.rs hj).1.1]
      exact K _ _ _ h.gi
    | 9, _ =>
      refine c_X5_told9 (n := r) (by decide) hG h.cC.2.2.1 h6.2.2 (fun hb => H _ _ _ fun Q2 K => c_X6_told9 (n := r) (by decide) hM h.cM.2.2.1 h6.2.2 (fun _ => K _ _ _ h.gi) (fun j hj e => absurd ⟨j, hj, e⟩ hb)) (fun j hj e => H _ _ _ fun Q2 K => c_X6_told9 (n := r) (by decide) hM h.cM.2.2.1 h6.2.2 (fun hb => absurd ⟨j, hj, e⟩ hb) (fun j2 hj2 e2 => ?_))
      have ej : j = j2 := (nI_eq (by omega) (by omega)).mp (e.symm.trans e2)
      subst ej
      rw [(h.rs hj).1.2]
      exact K _ _ _ h.gi
    | 7, _ =>
      refine c_X5_told7 (m := m) (by decide) hG h.rd h.cC.2.1 h6.2.1 (fun hb => H _ _ _ fun Q2 K => c_X6_told7 (by decide) hM h.rdm (fun _ => K _ _ _ h.gi) (fun j hj e => absurd ⟨j, hj, e⟩ hb)) (fun j hj e I9 s9 st => H _ _ _ fun Q2 K => ?_) (fun j hj e I9 s9 st => H _ _ _ fun Q2 K => ?_)
      · have h9 := h.samH s9
        refine c_X6_told7 (by decide) hM h9.rdm (fun hb => absurd ⟨j, hj, e⟩ hb) (fun j2 hj2 e2 rv hT hF I2 L2 s2 => ?_)
        have ej : j = j2 := (nI_eq (by omega) (by omega)).mp (e.symm.trans e2)
        subst ej
        have es : sdM I9 (WA ru) j := by
          refine (sd_gen (M := I) (h := 10) h.tv ?_ ?_ ?_ ?_).mp st
          · rw [s9 54 (by decide) (by decide)]; exact (h.re hj).1.1
          · rw [s9 55 (by decide) (by decide)]; exact (h.re hj).1.2.1
          · rw [s9 55 (by decide) (by decide)]; exact (h.re hj).1.2.2
          · rw [s9 48 (by decide) (by decide)]; exact h.eM.2.1
        rw [hT es]
        exact K _ _ _ (h9.saM s2).gi
      · have h9 := h.samH s9
        refine c_X6_told7 (by decide) hM h9.rdm (fun hb => absurd ⟨j, hj, e⟩ hb) (fun j2 hj2 e2 rv hT hF I2 L2 s2 => ?_)
        have ej : j = j2 := (nI_eq (by omega) (by omega)).mp (e.symm.trans e2)
        subst ej
        have es : ¬ sdM I9 (WA ru) j := by
          refine fun w => st ((sd_gen (M := I) (h := 10) h.tv ?_ ?_ ?_ ?_).mpr w)
          · rw [s9 54 (by decide) (by decide)]; exact (h.re hj).1.1
          · rw [s9 55 (by decide) (by decide)]; exact (h.re hj).1.2.1
          · rw [s9 55 (by decide) (by decide)]; exact (h.re hj).1.2.2
          · rw [s9 48 (by decide) (by decide)]; exact h.eM.2.1
        rw [hF es]
        exact K _ _ _ (h9.saM s2).gi
    | w + 10, hw => omega
  · exact c_X5_toldX (by decide) hG hx (H _ _ _ fun Q2 K => c_X6_toldX (by decide) hM hx (K _ _ _ h.gi))
theorem out_int {x M : Int32} {n : Int} (hM : M.toInt = n) (h : ¬ (¬ x < 0 ∧ ¬ M < x)) : x.toInt < 0 ∨ n < x.toInt := by
  by_cases h0 : x < 0
  · exact Or.inl (by simpa using Int32.lt_iff_toInt_lt.mp h0)
  · by_cases h1 : M < x
    · exact Or.inr (by rw [← hM]; exact Int32.lt_iff_toInt_lt.mp h1)
    · exact absurd ⟨h0, h1⟩ h
theorem pr_count {E : Ev} {I : Mi} {L : Ml} {Z : Mz} {Q : Po} {x : Int32} (hI : GI I Z) (H : ∀ (rv : Int32) (I1 : Mi) (L1 : Ml), MD E yX6_count cX6_count 2 (some .int) [.ref 48, .int x] (some (.int rv)) I1 L1 Z → Q (some (.int rv)) I1 L1 Z) : AC E yX5_count cX5_count 2 (some .int) 60 0 0 [.ref 0, .int x] I L Z Q := by
  obtain ⟨n, m, r, ru, N, k, tA, qA, mA, aA, bA, WA, h⟩ := hI
  have hG : GZ Z := h.1.1
  have hM : MZ Z := h.1.2.1
  have h6 := h.n6
  have hT := h.2.2.2.1
  have hP := h.2.2.2.2.1
  by_cases hx : ¬ x < 0 ∧ ¬ 5 < x
  · obtain ⟨w, hw, rfl⟩ := in_rng (M := 5) (n := 5) rfl (by decide) hx
    match w, hw with
    | 0, _ => exact c_X5_count0 hG (H _ _ _ fun Q2 K => c_X6_count0 (by decide) hM (by rw [h.eM.2.2.2.2.2]; exact K _ _ _ h.gi))
    | 1, _ => exact c_X5_count1 hG (H _ _ _ fun Q2 K => c_X6_count1 (by decide) hM (by rw [h.eM.2.2.2.1]; exact K _ _ _ h.gi))
    | 2, _ => exact c_X5_count2 hG (H _ _ _ fun Q2 K => c_X6_count2 (by decide) hM (by rw [h.eM.2.2.2.2.1]; exact K _ _ _ h.gi))
    | 3, _ => exact c_X5_count3 hG (H _ _ _ fun Q2 K => c_X6_count3 (by decide) hM (by rw [hT.2.2.1, ← hT.2.1]; exact K _ _ _ h.gi))
    | 4, _ => exact c_X5_count4 hG (H _ _ _ fun Q2 K => c_X6_count4 (by decide) hM (by rw [hP.2.2.1, ← hP.2.1]; exact K _ _ _ h.gi))
    | 5, _ => exact c_X5_count5 hG (H _ _ _ fun Q2 K => c_X6_count5 (by decide) hM (by rw [h.eM.2.2.1]; exact K _ _ _ h.gi))
    | w + 6, hw => omega
  · exact c_X5_countX hG (out_int (M := 5) (n := 5) (by decide) hx) (H _ _ _ fun Q2 K => c_X6_countX (by decide) hM hx (K _ _ _ h.gi))
theorem pr_feed {E : Ev} {I : Mi} {L : Ml} {Z : Mz} {Q : Po} {x : Int32} (hI : GI I Z) (H : ∀ (rv : Int32) (I1 : Mi) (L1 : Ml), MD E yX6_feed cX6_feed 2 (some .int) [.ref 48, .int x] (some (.int rv)) I1 L1 Z → Q (some (.int rv)) I1 L1 Z) : AC E yX5_feed cX5_feed 2 (some .int) 60 0 0 [.ref 0, .int x] I L Z Q := by
  obtain ⟨n, m, r, ru, N, k, tA, qA, mA, aA, bA, WA, h⟩ := hI
  have hG : GZ Z := h.1.1
  have hM : MZ Z := h.1.2.1
  have h6 := h.n6
  have hP := h.2.2.2.2.1
  refine c_X5_feed (n := k) (by decide) hG hP.2.1 hP.1 (fun hb => H _ _ _ fun Q2 K => c_X6_feed (n := k) (by decide) hM hP.2.2.1 hP.1 (fun _ => K _ _ _ h.gi) (fun ha _ => absurd ha hb) (fun ha _ => absurd ha hb)) (fun ha hf => H _ _ _ fun Q2 K => c_X6_feed (n := k) (by decide) hM hP.2.2.1 hP.1 (fun hb => absurd ha hb) (fun _ _ => K _ _ _ h.gi) (fun _ w => absurd hf (by omega))) (fun ha hf => H _ _ _ fun Q2 K => c_X6_feed (n := k) (by decide) hM (by (repeat rw [iU_at (by omega)]); exact hP.2.2.1) hP.1 (fun hb => absurd ha hb) (fun _ w => absurd hf (by omega)) (fun _ _ => ?_))
  refine K _ _ _ (h.tap (k2 := k + 1) ⟨by omega, ?_, ?_, fun j hj => ?_⟩ (fun a j g1 g2 g3 g4 g5 => by (repeat rw [iU_at (by omega)]))).gi
  · simp only [iU, Nat.reduceEqDiff, false_and, and_false, if_false, and_self, if_true, true_and, and_true]
  · simp only [iU, Nat.reduceEqDiff, false_and, and_false, if_false, and_self, if_true, true_and, and_true]
  · by_cases e : j = k
    · subst e
      simp only [iU, Nat.reduceEqDiff, false_and, and_false, if_false, and_self, if_true, true_and, and_true]
      exact ha.1
    · obtain ⟨q1, q2⟩ := hP.2.2.2 j (by omega)
      simp only [iU, Nat.reduceEqDiff, false_and, and_false, if_false, and_self, if_true, true_and, and_true, e]
      exact ⟨q1, q2⟩
theorem c_X6_takenQ {E : Ev} {d : Nat} {I : Mi} {L : Ml} {Z : Mz} {Q : Po} {x k : Int32} {n q : Nat} (hq : q ≤ 5) (hd : 2 ≤ d) (hM : MZ Z) (hn : I 48 15 = nI n) (hl : n ≤ 5) (hB : ¬ (¬ k < 0 ∧ ¬ 5 < k) → Q (some (.int (-2))) I L Z) (hN : (¬ k < 0 ∧ ¬ 5 < k) → (¬ ∃ j, j < n ∧ x = nI j) → Q (some (.int (-11))) I L Z) (hK : ∀ p, p < n → x = nI p → I 54 p = nI q) (hS : (¬ k < 0 ∧ ¬ 5 < k) → ∀ p, p < n → x = nI p → udP q k → Q (some (.int (I 55 (2 * p)))) I L Z) (hO : (¬ k < 0 ∧ ¬ 5 < k) → ∀ p, p < n → x = nI p → ¬ udP q k → Q (some (.int (-13))) I L Z) : AC E yX6_taken cX6_taken 4 (some .int) d 0 0 [.ref 48, .int x, .int k] I L Z Q := by
  match q, hq, hK, hS, hO with
  | 0, _, hK, hS, hO => exact c_X6_taken0 hd hM hn hl hB hN hK hS hO
  | 1, _, hK, hS, hO => exact c_X6_taken1 hd hM hn hl hB hN hK hS hO
  | 2, _, hK, hS, hO => exact c_X6_taken2 hd hM hn hl hB hN hK hS hO
  | 3, _, hK, hS, hO => exact c_X6_taken3 hd hM hn hl hB hN hK hS hO
  | 4, _, hK, hS, hO => exact c_X6_taken4 hd hM hn hl hB hN hK hS hO
  | 5, _, hK, hS, hO => exact c_X6_taken5 hd hM hn hl hB hN hK hS hO
  | q + 6, h, _, _, _ => omega
theorem pr_taken {E : Ev} {I : Mi} {L : Ml} {Z : Mz} {Q : Po} {x z : Int32} {NN : Nat} {xs : Nat → Int32} (hE : EXT E NN xs) (hI : GI I Z) (H : ∀ (rv : Int32) (I1 : Mi) (L1 : Ml), MD E yX6_taken cX6_taken 4 (some .int) [.ref 48, .int x, .int z] (some (.int rv)) I1 L1 Z → Q (some (.int rv)) I1 L1 Z) : AC E yX5_taken cX5_taken 3 (some .int) 60 0 0 [.ref 0, .int x, .int z] I L Z Q := by
  obtain ⟨n, m, r, ru, N, k, tA, qA, mA, aA, bA, WA, h⟩ := hI
  have hG : GZ Z := h.1.1
  have hM : MZ Z := h.1.2.1
  have h6 := h.n6
  have hKK : ∀ p, p < m → I 15 p = nI (I 15 p).toNatClampNeg ∧ (I 15 p).toNatClampNeg < 6 := fun p hp => by
    obtain ⟨q, hq, e⟩ := (h.re hp).2.1
    rw [e, nI_clamp (by omega)]
    exact ⟨rfl, by omega⟩
  refine c_X5_taken (m := m) (K := fun p => (I 15 p).toNatClampNeg) (by decide) hG hE h.cC.2.1 h6.2.1 hKK (fun hb => H _ _ _ fun Q2 K => ?_) (fun hz hn => H _ _ _ fun Q2 K => ?_) (fun hz p hp e hu => H _ _ _ fun Q2 K => ?_) (fun hz p hp e hu => H _ _ _ fun Q2 K => ?_)
  · by_cases hx : ∃ j, j < m ∧ x = nI j
    · obtain ⟨p, hp, e⟩ := hx
      refine c_X6_takenQ (n := m) (q := (I 15 p).toNatClampNeg) (by have := (hKK p hp).2; omega) (by decide) hM h.cM.2.1 h6.2.1 (fun _ => K _ _ _ h.gi) (fun w => absurd w hb) (fun j hj e2 => ?_) (fun w => absurd w hb) (fun w => absurd w hb)
      have ej : p = j := (nI_eq (by omega) (by omega)).mp (e.symm.trans e2)
      subst ej
      rw [(h.re hp).1.1]; exact (hKK p hp).1
    · exact c_X6_takenQ (n := m) (q := 0) (by decide) (by decide) hM h.cM.2.1 h6.2.1 (fun _ => K _ _ _ h.gi) (fun w => absurd w hb) (fun j hj e2 => absurd ⟨j, hj, e2⟩ hx) (fun w => absurd w hb) (fun w => absurd w hb)
  · exact c_X6_takenQ (n := m) (q := 0) (by decide) (by decide) hM h.cM.2.1 h6.2.1 (fun w => absurd hz w) (fun _ _ => K _ _ _ h.gi) (fun j hj e2 => absurd ⟨j, hj, e2⟩ hn) (fun _ j hj e2 => absurd ⟨j, hj, e2⟩ hn) (fun _ j hj e2 => absurd ⟨j, hj, e2⟩ hn)
  · have ej : ∀ j, j < m → x = nI j → p = j := fun j hj e2 => (nI_eq (by omega) (by omega)).mp (e.symm.trans e2)
    refine c_X6_takenQ (n := m) (q := (I 15 p).toNatClampNeg) (by have := (hKK p hp).2; omega) (by decide) hM h.cM.2.1 h6.2.1 (fun w => absurd hz w) (fun _ w => absurd ⟨p, hp, e⟩ w) (fun j hj e2 => ?_) (fun _ j hj e2 _ => ?_) (fun _ j hj e2 w => absurd hu w)
    · have := ej j hj e2; subst this; rw [(h.re hp).1.1]; exact (hKK p hp).1
    · have := ej j hj e2; subst this; rw [(h.re hp).1.2.1]; exact K _ _ _ h.gi
  · have ej : ∀ j, j < m → x = nI j → p = j := fun j hj e2 => (nI_eq (by omega) (by omega)).mp (e.symm.trans e2)
    refine c_X6_takenQ (n := m) (q := (I 15 p).toNatClampNeg) (by have := (hKK p hp).2; omega) (by decide) hM h.cM.2.1 h6.2.1 (fun w => absurd hz w) (fun _ w => absurd ⟨p, hp, e⟩ w) (fun j hj e2 => ?_) (fun _ j hj e2 w => absurd w hu) (fun _ j hj e2 _ => K _ _ _ h.gi)
    have := ej j hj e2; subst this; rw [(h.re hp).1.1]; exact (hKK p hp).1
