/-! ===== pairs: read, film, follows, share ===== -/
theorem ro_o {I : Mi} {r p c : Nat} {v : Int32} {a j : Nat} (h1 : ¬ (a = 13 ∧ j = r)) (h2 : ¬ (a = 14 ∧ j = r)) (h3 : ¬ (a = 10 ∧ (j = 9 ∨ j = 2))) (h4 : ¬ (a = 17 ∧ j = p)) : roM I 10 r p c v a j = I a j := by
  unfold roM
  rw [iU_at (by omega)]
  by_cases hv : v = 0
  · rw [if_pos hv, iU_at (by omega), iU_at (by omega), iU_at (by omega), iU_at (by omega)]
  · rw [if_neg hv, iU_at (by omega), iU_at (by omega), iU_at (by omega)]
theorem ro_v {I : Mi} {r p c : Nat} {v : Int32} : roM I 10 r p c v 13 r = v ∧ roM I 10 r p c v 14 r = I 12 c ∧ roM I 10 r p c v 10 9 = nI (r + 1) ∧ roM I 10 r p c v 10 2 = I 10 2 + 1 ∧ roM I 10 r p c v 17 p = (if v = 0 then (if I 17 p + 1 < 99 then I 17 p + 1 else 99) else I 17 p) := by
  unfold roM
  by_cases hv : v = 0
  · rw [if_pos hv, if_pos hv]
    refine ⟨?_, ?_, ?_, iU_same, ?_⟩
    · rw [iU_at (by omega), iU_at (by omega), iU_at (by omega), iU_at (by omega)]; exact iU_same
    · rw [iU_at (by omega), iU_at (by omega), iU_at (by omega)]; exact iU_same
    · rw [iU_at (by omega), iU_at (by omega)]; exact iU_same
    · rw [iU_at (by omega)]; exact iU_same
  · rw [if_neg hv, if_neg hv]
    refine ⟨?_, ?_, ?_, iU_same, ?_⟩
    · rw [iU_at (by omega), iU_at (by omega), iU_at (by omega)]; exact iU_same
    · rw [iU_at (by omega), iU_at (by omega)]; exact iU_same
    · rw [iU_at (by omega)]; exact iU_same
    · rw [iU_at (by omega), iU_at (by omega), iU_at (by omega), iU_at (by omega)]
theorem rs_o {I : Mi} {r p c : Nat} {v : Int32} {a j : Nat} (h1 : ¬ (a = 53 ∧ (j = 2 * r ∨ j = 2 * r + 1))) (h3 : ¬ (a = 48 ∧ (j = 12 ∨ j = 8))) (h4 : ¬ (a = 55 ∧ j = 2 * p + 1)) : rsM I r p c v a j = I a j := by
  unfold rsM
  rw [iU_at (by omega), iU_at (by omega), iU_at (by omega), iU_at (by omega), iU_at (by omega)]
theorem rs_v {I : Mi} {r p c : Nat} {v : Int32} : rsM I r p c v 53 (2 * r) = v ∧ rsM I r p c v 53 (2 * r + 1) = I 52 (2 * c + 1) ∧ rsM I r p c v 48 12 = nI (r + 1) ∧ rsM I r p c v 48 8 = I 48 8 + 1 ∧ rsM I r p c v 55 (2 * p + 1) = wiV 0 (I 55 (2 * p + 1) + (if v = 0 then 1 else 0)) 99 := by
  unfold rsM
  refine ⟨?_, ?_, ?_, iU_same, ?_⟩
  · rw [iU_at (by omega), iU_at (by omega), iU_at (by omega), iU_at (by omega)]; exact iU_same
  · rw [iU_at (by omega), iU_at (by omega), iU_at (by omega)]; exact iU_same
  · rw [iU_at (by omega), iU_at (by omega)]; exact iU_same
  · rw [iU_at (by omega)]; exact iU_same
theorem sl_ok : ∀ q, q ≤ 99 → (wiV 0 (nI q + 1) 99 = (if nI q + 1 < 99 then nI q + 1 else 99) ∧ wiV 0 (nI q + 0) 99 = nI q) := by decide +kernel
theorem sl_rg : ∀ q, q ≤ 99 → Rg (if nI q + 1 < 99 then nI q + 1 else 99) 99 := by
  intro q hq
  by_cases h : nI q + 1 < 99
  · rw [if_pos h, nI_1]
    rw [nI_1] at h
    exact ⟨q + 1, by have := Nat.not_le.mp (fun w => nI_nlt (a := q + 1) (b := 99) w (by omega) h); omega, rfl⟩
  · rw [if_neg h]; exact ⟨99, by decide, rfl⟩
theorem RbE.ro {I J : Mi} {r p c : Nat} {v : Int32} (s : SamH 10 (roM I 10 r p c v) J) : RbE I J := by
  obtain ⟨a, b, c2, d⟩ := s.rbe
  refine ⟨a.trans (funext fun j => ro_o (by omega) (by omega) (by omega) (by omega)), b.trans (funext fun j => ro_o (by omega) (by omega) (by omega) (by omega)), c2.trans (funext fun j => ro_o (by omega) (by omega) (by omega) (by omega)), d.trans (ro_o (by omega) (by omega) (by omega) (by omega))⟩
theorem pr_read {E : Ev} {I : Mi} {L : Ml} {Z : Mz} {Q : Po} {x z : Int32} (hI : GI I Z) (H : ∀ (rv : Int32) (I1 : Mi) (L1 : Ml), MD E yX6_read cX6_read 3 (some .int) [.ref 48, .int x, .int z] (some (.int rv)) I1 L1 Z → Q (some (.int rv)) I1 L1 Z) : AC E yX5_read cX5_read 3 (some .int) 60 0 0 [.ref 0, .int x, .int z] I L Z Q := by
  obtain ⟨n, m, r, ru, N, k, tA, qA, mA, aA, bA, WA, h⟩ := hI
  have hG : GZ Z := h.1.1
  have hM : MZ Z := h.1.2.1
  have h6 := h.n6
  refine c_X5_read (m := m) (r := r) (by decide) hG h.rd h.cC.2.1 h6.2.1 h.cC.2.2.1 h6.2.2 (fun hb => H _ _ _ fun Q2 K => c_X6_read (r := r) (by decide) hM h.rdm h.cM.2.2.1 h6.2.2 (fun _ => K _ _ _ h.gi) (fun p c hp hc e1 e2 => absurd ⟨⟨p, hp, e1⟩, c, hc, e2⟩ hb) (fun p c hp hc e1 e2 => absurd ⟨⟨p, hp, e1⟩, c, hc, e2⟩ hb) (fun p c hp hc e1 e2 => absurd ⟨⟨p, hp, e1⟩, c, hc, e2⟩ hb)) (fun p c hp hc e1 e2 I9 s9 g => H _ _ _ fun Q2 K => ?_) (fun p c hp hc e1 e2 I9 s9 g1 g2 g3 => H _ _ _ fun Q2 K => ?_) (fun p c hp hc e1 e2 g1 g2 g3 rv I9 er s9 => H _ _ _ fun Q2 K => ?_)
  · have h9 := h.samH s9
    have hst : ∀ q d, q < m → d < n → x = nI q → z = nI d → (¬ sdM I9 (WA ru) q ∨ I9 48 8 = 999) := fun q d hq hd f1 f2 => by
      have ep := nI_two (by omega) (by omega) e1 f1
      subst ep
      rw [h.hoJ s9.rbe]
      rcases g with g | g
      · exact Or.inl (fun w => g ((h.stJ s9.rbe hp).mpr w))
      · exact Or.inr g
    refine c_X6_read (r := r) (by decide) hM h9.rdm h9.cM.2.2.1 h6.2.2 (fun hb => absurd ⟨⟨p, hp, e1⟩, c, hc, e2⟩ hb) (fun q d hq hd f1 f2 J2 L2 s2 _ => K _ _ _ (h9.saM s2).gi) (fun q d hq hd f1 f2 J2 L2 s2 w1 w2 _ => ?_) (fun q d hq hd f1 f2 w1 w2 _ _ _ _ _ _ => ?_)
    · rcases hst q d hq hd f1 f2 with w | w
      · exact absurd w1 w
      · exact absurd w w2
    · rcases hst q d hq hd f1 f2 with w | w
      · exact absurd w1 w
      · exact absurd w w2
  · have h9 := h.samH s9
    have hst : ∀ q d, q < m → d < n → x = nI q → z = nI d → (sdM I9 (WA ru) q ∧ ¬ I9 48 8 = 999) := fun q d hq hd f1 f2 => by
      have ep := nI_two (by omega) (by omega) e1 f1
      subst ep
      rw [h.hoJ s9.rbe]
      exact ⟨(h.stJ s9.rbe hp).mp g1, g2⟩
    refine c_X6_read (r := r) (by decide) hM h9.rdm h9.cM.2.2.1 h6.2.2 (fun hb => absurd ⟨⟨p, hp, e1⟩, c, hc, e2⟩ hb) (fun q d hq hd f1 f2 J2 L2 s2 w => ?_) (fun q d hq hd f1 f2 J2 L2 s2 _ _ _ => K _ _ _ (h9.saM s2).gi) (fun q d hq hd f1 f2 _ _ w => absurd g3 (by omega))
    rcases w with w | w
    · exact absurd (hst q d hq hd f1 f2).1 w
    · exact absurd w (hst q d hq hd f1 f2).2
  · have eb : RbE I I9 := RbE.ro s9
    have fr : ∀ a j, a ≠ 3 → a ≠ 18 → ¬ (a = 13 ∧ j = r) → ¬ (a = 14 ∧ j = r) → ¬ (a = 10 ∧ (j = 9 ∨ j = 2)) → ¬ (a = 17 ∧ j = p) → I9 a j = I a j := fun a j q1 q2 q3 q4 q5 q6 => by rw [s9 a q1 q2]; exact ro_o q3 q4 q5 q6
    have hR9 : RDM I9 (WA ru) ru n m := h.rdm.eqv (fr _ _ (by omega) (by omega) (by omega) (by omega) (by omega) (by omega)) (funext fun j => fr _ _ (by omega) (by omega) (by omega) (by omega) (by omega) (by omega)) (funext fun j => fr _ _ (by omega) (by omega) (by omega) (by omega) (by omega) (by omega)) (fr _ _ (by omega) (by omega) (by omega) (by omega) (by omega) (by omega)) (fr _ _ (by omega) (by omega) (by omega) (by omega) (by omega) (by omega)) (funext fun j => fr _ _ (by omega) (by omega) (by omega) (by omega) (by omega) (by omega)) (funext fun j => fr _ _ (by omega) (by omega) (by omega) (by omega) (by omega) (by omega)) (by rw [fr 48 8 (by omega) (by omega) (by omega) (by omega) (by omega) (by omega)]; exact h.rdm.2.2.2.2.2)
    refine c_X6_read (r := r) (by decide) hM hR9 (by rw [fr 48 12 (by omega) (by omega) (by omega) (by omega) (by omega) (by omega)]; exact h.cM.2.2.1) h6.2.2 (fun hb => absurd ⟨⟨p, hp, e1⟩, c, hc, e2⟩ hb) (fun q d hq hd f1 f2 J2 L2 s2 w => ?_) (fun q d hq hd f1 f2 J2 L2 s2 _ _ w => absurd g3 (by omega)) (fun q d hq hd f1 f2 _ _ _ rv2 J2 L2 er2 s2 => ?_)
    · have ep := nI_two (by omega) (by omega) e1 f1
      subst ep
      rw [h.hoJ eb] at w
      rcases w with w | w
      · exact absurd ((h.stJ eb hp).mp g1) w
      · exact absurd w g2
    · have ep := nI_two (by omega) (by omega) e1 f1
      have ec := nI_two (by omega) (by omega) e2 f2
      subst ep; subst ec
      have ev : rv2 = rv := by rw [er2, er, h.rbJ eb hp hc]
      subst ev
      obtain ⟨c1, c2, c3, c4, c5⟩ := ro_v (I := I) (r := r) (p := q) (c := d) (v := rv2)
      obtain ⟨d1, d2, d3, d4, d5⟩ := rs_v (I := I9) (r := r) (p := q) (c := d) (v := rv2)
      have fc : ∀ a j, a ≠ 3 → a ≠ 18 → a < 48 → J2 a j = roM I 10 r q d rv2 a j := fun a j q1 q2 q3 => by rw [s2 a j (by omega), rs_o (by omega) (by omega) (by omega), s9 a q1 q2]
      have fm : ∀ a j, 48 ≤ a → ¬ (a = 48 ∧ 16 ≤ j ∧ j ≤ 31) → ¬ (a = 53 ∧ (j = 2 * r ∨ j = 2 * r + 1)) → ¬ (a = 48 ∧ (j = 12 ∨ j = 8)) → ¬ (a = 55 ∧ j = 2 * q + 1) → J2 a j = I a j := fun a j q1 q2 q3 q4 q5 => by rw [s2 a j q2, rs_o q3 q4 q5, fr a j (by omega) (by omega) (by omega) (by omega) (by omega) (by omega)]
      have fo : ∀ a j, a ≠ 3 → a ≠ 18 → a < 48 → ¬ (a = 13 ∧ j = r) → ¬ (a = 14 ∧ j = r) → ¬ (a = 10 ∧ (j = 9 ∨ j = 2)) → ¬ (a = 17 ∧ j = q) → J2 a j = I a j := fun a j q1 q2 q3 q4 q5 q6 q7 => by rw [fc a j q1 q2 q3]; exact ro_o q4 q5 q6 q7
      obtain ⟨sl, hsl, esl⟩ := (h.re hp).2.2.2
      obtain ⟨S1, S2⟩ := h.rbS hp hc
      obtain ⟨b1, b2, b3, b4, b5, b6⟩ := h.eM
      have eC : J2 17 q = (if rv2 = 0 then (if I 17 q + 1 < 99 then I 17 q + 1 else 99) else I 17 q) := (fc 17 q (by omega) (by omega) (by omega)).trans c5
      have eD : J2 55 (2 * q + 1) = J2 17 q := by
        rw [s2 55 _ (by omega), d5, (h.reJ eb hp).2.2, eC, esl]
        by_cases hv : rv2 = 0
        · rw [if_pos hv, if_pos hv]; exact (sl_ok sl hsl).1
        · rw [if_neg hv, if_neg hv]; exact (sl_ok sl hsl).2
      obtain ⟨ho, hho, eho⟩ := h.ho
      refine K _ _ _ (h.put (n2 := n) (m2 := m) (r2 := r + 1) (ru2 := ru) (NowR.of ⟨h6.1, h6.2.1, by omega, h.now.1.2.2.2⟩ ?_ ?_ ?_ (fun c hc => ?_) (fun p hp2 => ?_) (fun i hi => ?_)) h.2.1.2 (Nat.le_refl _) (fun a j w => ?_)).gi
      · refine ⟨(fo 10 6 (by omega) (by omega) (by omega) (by omega) (by omega) (by omega) (by omega)).trans h.cC.1, (fo 10 13 (by omega) (by omega) (by omega) (by omega) (by omega) (by omega) (by omega)).trans h.cC.2.1, (fc 10 9 (by omega) (by omega) (by omega)).trans c3, (fo 10 3 (by omega) (by omega) (by omega) (by omega) (by omega) (by omega) (by omega)).trans h.cC.2.2.2⟩
      · refine ⟨?_, ?_, ?_, ?_, ?_, ?_⟩
        · rw [fm 48 7 (by omega) (by omega) (by omega) (by omega) (by omega), fo 10 1 (by omega) (by omega) (by omega) (by omega) (by omega) (by omega) (by omega)]; exact b1
        · rw [s2 48 8 (by omega), d4, fc 10 2 (by omega) (by omega) (by omega), c4, h.hoJ eb]
        · rw [fm 48 4 (by omega) (by omega) (by omega) (by omega) (by omega), fo 10 3 (by omega) (by omega) (by omega) (by omega) (by omega) (by omega) (by omega)]; exact b3
        · rw [fm 48 10 (by omega) (by omega) (by omega) (by omega) (by omega), fo 10 6 (by omega) (by omega) (by omega) (by omega) (by omega) (by omega) (by omega)]; exact b4
        · rw [s2 48 12 (by omega), d3, fc 10 9 (by omega) (by omega) (by omega), c3]
        · rw [fm 48 15 (by omega) (by omega) (by omega) (by omega) (by omega), fo 10 13 (by omega) (by omega) (by omega) (by omega) (by omega) (by omega) (by omega)]; exact b6
      · rw [fo 10 1 (by omega) (by omega) (by omega) (by omega) (by omega) (by omega) (by omega), fc 10 2 (by omega) (by omega) (by omega), c4, eho, nI_1]
        refine ⟨h.sd, ho + 1, ?_, rfl⟩
        have : ho ≠ 999 := fun w => g2 (by rw [eho, w]; rfl)
        omega
      · rw [fm 52 _ (by omega) (by omega) (by omega) (by omega) (by omega), fm 52 _ (by omega) (by omega) (by omega) (by omega) (by omega), fo 11 c (by omega) (by omega) (by omega) (by omega) (by omega) (by omega) (by omega), fo 12 c (by omega) (by omega) (by omega) (by omega) (by omega) (by omega) (by omega)]
        exact h.cu hc
      · rw [fm 54 _ (by omega) (by omega) (by omega) (by omega) (by omega), fm 55 (2 * p) (by omega) (by omega) (by omega) (by omega) (by omega), fo 15 p (by omega) (by omega) (by omega) (by omega) (by omega) (by omega) (by omega), fo 16 p (by omega) (by omega) (by omega) (by omega) (by omega) (by omega) (by omega)]
        by_cases ep : p = q
        · subst ep
          refine ⟨⟨(h.re hp2).1.1, (h.re hp2).1.2.1, eD⟩, (h.re hp2).2.1, (h.re hp2).2.2.1, ?_⟩
          rw [eC, esl]
          by_cases hv : rv2 = 0
          · rw [if_pos hv]; exact sl_rg sl hsl
          · rw [if_neg hv]; exact ⟨sl, hsl, rfl⟩
        · rw [fm 55 (2 * p + 1) (by omega) (by omega) (by omega) (by omega) (by omega), fo 17 p (by omega) (by omega) (by omega) (by omega) (by omega) (by omega) (by omega)]
          exact h.re hp2
      · by_cases ei : i = r
        · subst ei
          rw [s2 53 _ (by omega), d1, s2 53 _ (by omega), d2, fc 13 i (by omega) (by omega) (by omega), c1, fc 14 i (by omega) (by omega) (by omega), c2, (h.cuJ eb hc).2]
          rw [er]
          exact ⟨⟨rfl, rfl⟩, S1, (h.cu hc).2.2, S2⟩
        · rw [fm 53 (2 * i) (by omega) (by omega) (by omega) (by omega) (by omega), fm 53 (2 * i + 1) (by omega) (by omega) (by omega) (by omega) (by omega), fo 13 i (by omega) (by omega) (by omega) (by omega) (by omega) (by omega) (by omega), fo 14 i (by omega) (by omega) (by omega) (by omega) (by omega) (by omega) (by omega)]
          exact h.rs (by omega)
      · obtain ⟨w1, w2, w3, w4, w5, w6, w7, w8, w9, w10, w11, w12, w13⟩ := w
        rcases Nat.lt_or_ge a 48 with g | g
        · exact fo a j w8 w9 g (by omega) (by omega) (by omega) (by omega)
        · exact fm a j g (by omega) (by omega) (by omega) (by omega)
