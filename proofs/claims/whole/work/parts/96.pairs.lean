/-! ===== pairs: drawn, chance ===== -/
theorem roh_o {I : Mi} {r p c : Nat} {v : Int32} {a j : Nat} (h1 : ¬ (a = 31 ∧ j = r)) (h2 : ¬ (a = 32 ∧ j = r)) (h3 : ¬ (a = 28 ∧ (j = 9 ∨ j = 2))) (h4 : ¬ (a = 35 ∧ j = p)) : roM I 28 r p c v a j = I a j := by
  unfold roM
  rw [iU_at (by omega)]
  by_cases hv : v = 0
  · rw [if_pos hv, iU_at (by omega), iU_at (by omega), iU_at (by omega), iU_at (by omega)]
  · rw [if_neg hv, iU_at (by omega), iU_at (by omega), iU_at (by omega)]
theorem roh_v {I : Mi} {r p c : Nat} {v : Int32} : roM I 28 r p c v 31 r = v ∧ roM I 28 r p c v 32 r = I 30 c ∧ roM I 28 r p c v 28 9 = nI (r + 1) ∧ roM I 28 r p c v 28 2 = I 28 2 + 1 ∧ roM I 28 r p c v 35 p = (if v = 0 then (if I 35 p + 1 < 99 then I 35 p + 1 else 99) else I 35 p) := by
  unfold roM
  by_cases hv : v = 0
  · rw [if_pos hv, if_pos hv]
    refine ⟨?_, ?_, ?_, iU_same, ?_⟩
    · rw [iU_at (by omega), iU_at (by omega), iU_at (by omega), iU_at (by omega)]; exact iU_same
    · rw [iU_at (by omega), iU_at (by omega), iU_at (by omega)]; exact iU_same
    · rw [iU_at (by omega), iU_at (by omega)]; exact iU_same
    · rw [iU_at (by omega)]; exact iU_same
  · rw [if_neg hv, if_neg hv]
    refine ⟨?_, ?_, ?_, iU_same, ?_⟩
    · rw [iU_at (by omega), iU_at (by omega), iU_at (by omega)]; exact iU_same
    · rw [iU_at (by omega), iU_at (by omega)]; exact iU_same
    · rw [iU_at (by omega)]; exact iU_same
    · rw [iU_at (by omega), iU_at (by omega), iU_at (by omega), iU_at (by omega)]
theorem tnc12 : ∀ r, r ≤ 12 → (nI r).toNatClampNeg = r := by decide +kernel
def DrR (A M : Mi) (q ma mb mm n m r : Nat) (W : Wt) : Prop :=
  (r ≤ 12 ∧ A 28 9 = nI r ∧ M 48 12 = nI r ∧ M 48 7 = A 28 1 ∧ M 48 8 = A 28 2) ∧
  (∀ c, c < n → M 52 (2 * c) = A 29 c ∧ M 52 (2 * c + 1) = A 30 c) ∧
  (∀ p, p < m → (M 54 p = A 33 p ∧ M 55 (2 * p) = A 34 p ∧ M 55 (2 * p + 1) = A 35 p) ∧ Rg (A 35 p) 99) ∧
  (∀ i, i < r → M 53 (2 * i) = A 31 i ∧ M 53 (2 * i + 1) = A 32 i) ∧
  ∀ w nm, w < 3 → tvV (A q) ma mb mm w nm = W w nm
theorem DrR.step {A M : Mi} {q ma mb mm n m r p c : Nat} {W : Wt} {v : Int32} (h : DrR A M q ma mb mm n m r W) (hq : 45 < q) (hr : r < 12) (hp : p < m) (hc : c < n) : DrR (roM A 28 r p c v) (rsM M r p c v) q ma mb mm n m (r + 1) W := by
  obtain ⟨⟨h1, h2, h3, h4, h5⟩, hC, hP, hR, hW⟩ := h
  obtain ⟨c1, c2, c3, c4, c5⟩ := roh_v (I := A) (r := r) (p := p) (c := c) (v := v)
  obtain ⟨d1, d2, d3, d4, d5⟩ := rs_v (I := M) (r := r) (p := p) (c := c) (v := v)
  refine ⟨⟨by omega, c3, d3, ?_, ?_⟩, fun k hk => ?_, fun k hk => ?_, fun i hi => ?_, fun w nm hw => ?_⟩
  · rw [rs_o (by omega) (by omega) (by omega), roh_o (by omega) (by omega) (by omega) (by omega)]; exact h4
  · rw [d4, c4, h5]
  · rw [rs_o (by omega) (by omega) (by omega), rs_o (by omega) (by omega) (by omega), roh_o (by omega) (by omega) (by omega) (by omega), roh_o (by omega) (by omega) (by omega) (by omega)]; exact hC k hk
  · rw [rs_o (a := 54) (by omega) (by omega) (by omega), rs_o (a := 55) (j := 2 * k) (by omega) (by omega) (by omega), roh_o (a := 33) (by omega) (by omega) (by omega) (by omega), roh_o (a := 34) (by omega) (by omega) (by omega) (by omega)]
    by_cases e : k = p
    · subst e
      obtain ⟨⟨p1, p2, p3⟩, sl, hsl, esl⟩ := hP k hk
      rw [c5, d5, p3, esl]
      by_cases hv : v = 0
      · rw [if_pos hv, if_pos hv]; exact ⟨⟨p1, p2, (sl_ok sl hsl).1⟩, sl_rg sl hsl⟩
      · rw [if_neg hv, if_neg hv]; exact ⟨⟨p1, p2, (sl_ok sl hsl).2⟩, sl, hsl, rfl⟩
    · rw [rs_o (a := 55) (j := 2 * k + 1) (by omega) (by omega) (by omega), roh_o (a := 35) (by omega) (by omega) (by omega) (by omega)]
      exact hP k hk
  · by_cases e : i = r
    · subst e
      rw [c1, c2, d1, d2]; exact ⟨rfl, (hC c hc).2⟩
    · rw [rs_o (by omega) (by omega) (by omega), rs_o (by omega) (by omega) (by omega), roh_o (by omega) (by omega) (by omega) (by omega), roh_o (by omega) (by omega) (by omega) (by omega)]; exact hR i (by omega)
  · rw [show roM A 28 r p c v q = A q from funext fun j => roh_o (by omega) (by omega) (by omega) (by omega)]
    exact hW w nm hw
theorem dm_stop {W : Wt} {n m : Nat} : ∀ (k : Nat) (z : Int32) (M : Mi), M 48 12 = nI 12 → dmF W n m k z M = M := by
  intro k
  induction k with
  | zero => intro z M _; rfl
  | succ k ih =>
    intro z M h
    simp only [dmF]
    rw [if_neg (fun w => by have := w.1; rw [h, tnc12 12 (by decide)] at this; omega)]
    exact ih _ M h
theorem dr_sim {q ma mb mm n m : Nat} {W : Wt} (hq : 45 < q) : ∀ (k : Nat) (z : Int32) (A M : Mi) (r : Nat), DrR A M q ma mb mm n m r W → ∃ r', DrR (drF 28 q ma mb mm n m k z A) (dmF W n m k z M) q ma mb mm n m r' W := by
  intro k
  induction k with
  | zero => intro z A M r h; exact ⟨r, h⟩
  | succ k ih =>
    intro z A M r h
    obtain ⟨⟨h1, h2, h3, h4, h5⟩, hC, hP, hR, hW⟩ := id h
    simp only [drF, dmF]
    have t1 : (A 28 9).toNatClampNeg = r := by rw [h2]; exact tnc12 r h1
    have t2 : (M 48 12).toNatClampNeg = r := by rw [h3]; exact tnc12 r h1
    rw [t1, t2]
    by_cases h12 : 12 ≤ r
    · rw [if_pos h12, if_neg (fun w => by have := w.1; omega), dm_stop _ _ _ (by rw [h3, show r = 12 by omega])]
      exact ⟨r, h⟩
    · rw [if_neg h12]
      by_cases hc : (dwP (z * 1103515245 + 12345) < m ∧ dwP ((z * 1103515245 + 12345) * 1103515245 + 12345) < n) ∧ sdP A 28 q ma mb mm (dwP (z * 1103515245 + 12345))
      · obtain ⟨⟨g1, g2⟩, g3⟩ := id hc
        have eP := hP _ g1
        have eC := hC _ g2
        have s := sd_gen (h := 28) hW eP.1.1 eP.1.2.1 eP.1.2.2 h5
        have e := rb_gen (h := 28) hW eC.1 eC.2 eP.1.1 eP.1.2.1 eP.1.2.2 h5
        rw [if_pos hc, if_pos ⟨by omega, hc.1, s.mp g3⟩, e]
        exact ih _ _ _ (r + 1) (h.step hq (by omega) g1 g2)
      · rw [if_neg hc, if_neg (fun w => hc ⟨w.2.1, (sd_gen (h := 28) hW (hP _ w.2.1.1).1.1 (hP _ w.2.1.1).1.2.1 (hP _ w.2.1.1).1.2.2 h5).mpr w.2.2⟩)]
        exact ih _ _ _ r h
theorem DrR.fin {A M : Mi} {q ma mb mm n m r : Nat} {W : Wt} (h : DrR A M q ma mb mm n m r W) : bcV (foH A 28 (A 28 9).toNatClampNeg (-1) (A 28 1)) = fmM M := by
  obtain ⟨⟨h1, h2, h3, h4, h5⟩, hC, hP, hR, hW⟩ := h
  unfold fmM
  rw [h2, h3, tnc12 r h1, h4]
  refine congrArg bcV ?_
  exact fo_con (s := fun i => M 53 (2 * i)) (b := fun i => M 53 (2 * i + 1)) (s' := A 31) (b' := A 32) (lo := -1) (r := r) (fun i hi => ⟨(hR i hi).1.symm, (hR i hi).2.symm⟩)
section PRD
variable {I J : Mi} {Z : Mz} {n m r ru N k : Nat} {tA qA mA aA bA : Nat → Nat} {WA : Nat → Wt}
theorem INV.fd (h : INV I Z n m r ru N k tA qA mA aA bA WA) (s : ThS I J) (K : Nat) (x : Int32) : fdM J (WA ru) n m K x = fdV I (qA ru) (aA ru) (bA ru) (mA ru) n m K x := by
  have h6 := h.n6
  have hq := h.tq.2
  have h9 := h.ths s
  have row : ∀ b, b ≠ 56 → 36 < b → cpI J 56 55 10 b = I b := fun b q1 q2 => by rw [cpI_row q1, s b (by omega) (by omega)]
  have h0 : DrR (blM I 28 10) (cpI J 56 55 10) (qA ru) (aA ru) (bA ru) (mA ru) n m r (WA ru) := by
    refine ⟨⟨h6.2.2, ?_, ?_, ?_, ?_⟩, fun c hc => ?_, fun p hp => ?_, fun i hi => ?_, fun w nm hw => ?_⟩
    · rw [blM_f (by decide)]; exact h.cC.2.2.1
    · rw [row 48 (by decide) (by decide)]; exact h.cM.2.2.1
    · rw [row 48 (by decide) (by decide), blM_f (by decide)]; exact h.eM.1
    · rw [row 48 (by decide) (by decide), blM_f (by decide)]; exact h.eM.2.1
    · rw [row 52 (by decide) (by decide), show blM I 28 10 29 c = I 11 c from blM_a (k := 1) (by decide) (by decide) (show c < 6 by omega), show blM I 28 10 30 c = I 12 c from blM_a (k := 2) (by decide) (by decide) (show c < 6 by omega)]
      exact (h.cu hc).1
    · rw [row 54 (by decide) (by decide), row 55 (by decide) (by decide), show blM I 28 10 33 p = I 15 p from blM_a (k := 5) (by decide) (by decide) (show p < 5 by omega), show blM I 28 10 34 p = I 16 p from blM_a (k := 6) (by decide) (by decide) (show p < 5 by omega), show blM I 28 10 35 p = I 17 p from blM_a (k := 7) (by decide) (by decide) (show p < 5 by omega)]
      exact ⟨(h.re hp).1, (h.re hp).2.2.2⟩
    · rw [row 53 (by decide) (by decide), show blM I 28 10 31 i = I 13 i from blM_a (k := 3) (by decide) (by decide) (show i < 12 by omega), show blM I 28 10 32 i = I 14 i from blM_a (k := 4) (by decide) (by decide) (show i < 12 by omega)]
      exact (h.rs hi).1
    · rw [blM_row (by omega)]; exact h.tv w nm hw
  obtain ⟨r', h'⟩ := dr_sim hq K x _ _ r h0
  exact h'.fin.symm
theorem INV.b53 (h : INV I Z n m r ru N k tA qA mA aA bA WA) : ∀ i, i < r → Bo (I 53 (2 * i + 1)) := fun i hi => by rw [(h.rs hi).1.2]; exact h.bo i hi
theorem INV.h15 (h : INV I Z n m r ru N k tA qA mA aA bA WA) : ∃ H, H ≤ 1500 ∧ I 48 8 = nI H := by
  obtain ⟨H, h1, h2⟩ := h.ho
  exact ⟨H, by omega, h.eM.2.1.trans h2⟩
end PRD
theorem z12 {N : Nat} (h : N ≤ 12) : ¬ nI N < 0 ∧ ¬ 12 < nI N := by
  have : ∀ N, N ≤ 12 → (¬ nI N < 0 ∧ ¬ 12 < nI N) := by decide +kernel
  exact this N h
theorem pr_drawn {E : Ev} {I : Mi} {L : Ml} {Z : Mz} {Q : Po} {x z : Int32} (hI : GI I Z) (H : ∀ (rv : Int32) (I1 : Mi) (L1 : Ml), MD E yX6_drawn cX6_drawn 3 (some .int) [.ref 48, .int x, .int z] (some (.int rv)) I1 L1 Z → Q (some (.int rv)) I1 L1 Z) : AC E yX5_drawn cX5_drawn 3 (some .int) 60 0 0 [.ref 0, .int x, .int z] I L Z Q := by
  obtain ⟨n, m, r, ru, N, k, tA, qA, mA, aA, bA, WA, h⟩ := hI
  have hG : GZ Z := h.1.1
  have hM : MZ Z := h.1.2.1
  have h6 := h.n6
  refine c_X5_drawn (m := m) (r := r) (by decide) hG h.rd h.cC.2.1 h6.2.1 h.cC.2.2.1 h6.2.2 h.tq (fun hb => H _ _ _ fun Q2 K => c_X6_drawn (by decide) hM h.rdm h.cM.2.2.1 h6.2.2 h.b53 h.toB h.h15 h.eM.1 h.sd (fun _ => K _ _ _ h.gi) (fun N hN e => absurd (e ▸ z12 hN) hb)) (fun K0 hK e rv I9 s9 er5 => H _ _ _ fun Q2 K => ?_)
  have h9 := h.ths s9
  refine c_X6_drawn (by decide) hM h9.rdm h9.cM.2.2.1 h6.2.2 h9.b53 h9.toB h9.h15 h9.eM.1 h9.sd (fun hb => absurd (e ▸ z12 hK) hb) (fun K1 hK1 f rv2 J2 L2 s2 er => ?_)
  have ek := nI_two (by omega) (by omega) e f
  subst ek
  have ev : rv2 = rv := by rw [er, er5]; exact h.fd s9 _ _
  rw [ev]
  exact K _ _ _ (h9.saD s2).gi
theorem y10 {N : Nat} (h : 1 ≤ N) (h2 : N ≤ 10) : ¬ nI N < 1 ∧ ¬ 10 < nI N := by
  have : ∀ N, N ≤ 10 → 1 ≤ N → (¬ nI N < 1 ∧ ¬ 10 < nI N) := by decide +kernel
  exact this N h2 h
theorem pr_chance {E : Ev} {I : Mi} {L : Ml} {Z : Mz} {Q : Po} {x y z w : Int32} (hI : GI I Z) (H : ∀ (rv : Int64) (I1 : Mi) (L1 : Ml), MD E yX6_chance cX6_chance 8 (some .long) [.ref 48, .int x, .int y, .int z, .int w] (some (.long rv)) I1 L1 Z → Q (some (.long rv)) I1 L1 Z) : AC E yX5_chance cX5_chance 7 (some .long) 60 0 0 [.ref 0, .int x, .int y, .int z, .int w] I L Z Q := by
  obtain ⟨n, m, r, ru, N, k, tA, qA, mA, aA, bA, WA, h⟩ := hI
  have hG : GZ Z := h.1.1
  have hM : MZ Z := h.1.2.1
  have h6 := h.n6
  by_cases hx : ¬ w < 0 ∧ ¬ 1 < w
  · obtain ⟨v, hv, rfl⟩ := in_rng (M := 1) (n := 1) rfl (by decide) hx
    match v, hv with
    | 0, _ =>
      refine c_X5_chance0 (m := m) (r := r) (by decide) hG h.rd h.cC.2.1 h6.2.1 h.cC.2.2.1 h6.2.2 h.tq (fun hb => H _ _ _ fun Q2 K => c_X6_chance0 (by decide) hM h.rdm h.cM.2.2.1 h6.2.2 h.b53 h.toB h.h15 h.eM.1 h.sd (fun _ => K _ _ _ h.gi) (fun M0 g1 g2 e g3 => absurd ⟨e ▸ y10 g1 g2, g3⟩ hb)) (fun M0 g1 g2 e g3 rv I9 s9 er5 => H _ _ _ fun Q2 K => ?_)
      have h9 := h.ths s9
      refine c_X6_chance0 (by decide) hM h9.rdm h9.cM.2.2.1 h6.2.2 h9.b53 h9.toB h9.h15 h9.eM.1 h9.sd (fun hb => absurd ⟨e ▸ y10 g1 g2, g3⟩ hb) (fun M1 k1 k2 f k3 rv2 J2 L2 s2 er => ?_)
      have ek := nI_two (by omega) (by omega) e f
      subst ek
      have ef : fdM I9 (WA ru) n m 6 = fdV I (qA ru) (aA ru) (bA ru) (mA ru) n m 6 := funext fun s => h.fd s9 6 s
      have hl := chF_le (fdV I (qA ru) (aA ru) (bA ru) (mA ru) n m 6) z x M1 0 0
      have hg := gc_ok (chF (fdV I (qA ru) (aA ru) (bA ru) (mA ru) n m 6) z x M1 0 0) (by omega) M1 (by omega) g1 (by omega)
      have ev : rv2 = rv := by rw [er, er5, ef, hg]
      rw [ev]
      exact K _ _ _ (h9.saD s2).gi
    | 1, _ =>
      refine c_X5_chance1 (m := m) (r := r) (by decide) hG h.rd h.cC.2.1 h6.2.1 h.cC.2.2.1 h6.2.2 h.tq (fun hb => H _ _ _ fun Q2 K => c_X6_chance1 (by decide) hM h.rdm h.cM.2.2.1 h6.2.2 h.b53 h.toB h.h15 h.eM.1 h.sd (fun _ => K _ _ _ h.gi) (fun M0 g1 g2 e g3 => absurd ⟨e ▸ y10 g1 g2, g3⟩ hb)) (fun M0 g1 g2 e g3 rv I9 s9 er5 => H _ _ _ fun Q2 K => ?_)
      have h9 := h.ths s9
      refine c_X6_chance1 (by decide) hM h9.rdm h9.cM.2.2.1 h6.2.2 h9.b53 h9.toB h9.h15 h9.eM.1 h9.sd (fun hb => absurd ⟨e ▸ y10 g1 g2, g3⟩ hb) (fun M1 k1 k2 f k3 rv2 J2 L2 s2 er => ?_)
      have ek := nI_two (by omega) (by omega) e f
      subst ek
      have ef : fdM I9 (WA ru) n m 6 = fdV I (qA ru) (aA ru) (bA ru) (mA ru) n m 6 := funext fun s => h.fd s9 6 s
      have hl := chF_le (fdV I (qA ru) (aA ru) (bA ru) (mA ru) n m 6) z x M1 0 0
      have hg := gc_ok (chF (fdV I (qA ru) (aA ru) (bA ru) (mA ru) n m 6) z x M1 0 0) (by omega) M1 (by omega) g1 (by omega)
      have ev : rv2 = rv := by rw [er, er5, ef, hg]
      rw [ev]
      exact K _ _ _ (h9.saD s2).gi
  · refine c_X5_chanceX (by decide) hG hx (H _ _ _ fun Q2 K => ?_)
    exact c_X6_chanceX (by decide) hM hx (K _ _ _ h.gi)
